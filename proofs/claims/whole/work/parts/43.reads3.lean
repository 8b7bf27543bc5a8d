theorem or_0 (x : Int32) : x ||| 0 = x := by
  apply zbt_ext
  intro i hi
  rw [zbt_or]
  constructor
  · rintro (q | q)
    · exact q
    · exact absurd q (zbt_0 i)
  · exact Or.inl
theorem zset_6 {P : Nat → Prop} : zset (fun i => i < 6 ∧ P i) = zset P := zset_cg (fun _ hi => ⟨fun q => q.2, fun q => ⟨hi, q⟩⟩)
/-- STILL OPEN -/
def sOp (E : zM) (A g : Nat) : Prop := eAk E (dig A) g ∧ dig A g = 0
theorem l_so (J : zJ) {E I : zM} {m q A : Nat} (hw : eW E m q) (hc : cG E I) (hd : dN I 44 (dig A)) : ∀ j g fuel, g + j = 6 → j < fuel → f_X5_stillOpen_15 J fuel (zset (fun i => i < g ∧ sOp E A i)) (nI g) I = some (.inr (zset (sOp E A), nI 6, I)) := by
  intro j
  induction j with
  | zero =>
    intro g fuel hk hf
    obtain ⟨n, rfl⟩ : ∃ n, fuel = n + 1 := ⟨fuel - 1, by omega⟩
    have e : g = 6 := by omega
    subst e
    unfold f_X5_stillOpen_15
    rw [if_pos (show (6 : Int32) ≤ nI 6 by decide), zset_6]
  | succ j ih =>
    intro g fuel hk hf
    obtain ⟨n, rfl⟩ : ∃ n, fuel = n + 1 := ⟨fuel - 1, by omega⟩
    have h0 : ¬ (6 : Int32) ≤ nI g := nI_ge (b := 6) (by omega) (by decide)
    have hg : g < 6 := by omega
    have z0 : zin (nI (g)) 6 = true := zin_nI (by omega) (by decide)
    have c0 : Int32.toNatClampNeg (nI (g)) = g := nI_clamp (by omega)
    have ka := l_asked J hg hc (hw.2.1 g hg) hd
    have st := ih (g + 1) n (by omega) (by omega)
    have lt := dig_lt A g
    unfold f_X5_stillOpen_15
    rw [if_neg h0, if_pos z0, c0, hd g hg, q_a1]
    by_cases a : dig A g = 0
    · rw [if_pos (by rw [a]; rfl), ka, Option.bind_some]
      by_cases k : eAk E (dig A) g
      · rw [if_neg (fun z => zb_eq0.mp z k), zs_go (P := sOp E A) ⟨k, a⟩ hg]
        exact st
      · rw [if_pos (zb_eq0.mpr k), zs_no (P := sOp E A) (fun q => k q.1)]
        exact st
    · rw [if_neg (nI_ne0 (by omega) (by omega)), zs_no (P := sOp E A) (fun q => a q.2)]
      exact st
theorem l_stillOpen (J : zJ) {E I : zM} {m q A : Nat} (hw : eW E m q) (hc : cG E I) (hA : A < 46656) (h14 : I 39 14 = nI A) : ∃ I', f_X5_stillOpen J I = some (zset (sOp E A), I') ∧ ∀ p, p ≠ 44 → I' p = I p := by
  obtain ⟨I', e, f1, f2⟩ := l_spread J I hA
  refine ⟨I', ?_, f1⟩
  have k := l_so J hw (cG_cg (fun p h1 h2 => f1 p (by omega)) hc) f2 6 0 zF rfl (by unfold zF; omega)
  rw [← zs_0] at k
  have k' : f_X5_stillOpen_15 J zF 0 0 I' = _ := k
  unfold f_X5_stillOpen
  rw [h14, e, Option.bind_some, k', Option.bind_some]
  rfl
theorem t_op0 (J : zJ) {E I : zM} {m q b o nn tm le sh A : Nat} (hw : eW E m q) (ht : tE E m q b o nn tm le sh I) (hd : dN I 170 (dig A)) (h175 : ∀ g, g < 6 → I 175 g = nI (dig A g)) : ∀ j g fuel, g + j = 6 → j < fuel → f_X12_opens_12 J 0 fuel (zset (fun i => i < g ∧ sOp E A i)) (nI g) I = some (.inr (zset (sOp E A), nI 6, I)) := by
  intro j
  induction j with
  | zero =>
    intro g fuel hk hf
    obtain ⟨n, rfl⟩ : ∃ n, fuel = n + 1 := ⟨fuel - 1, by omega⟩
    have e : g = 6 := by omega
    subst e
    unfold f_X12_opens_12
    rw [if_pos (show (6 : Int32) ≤ nI 6 by decide), zset_6]
  | succ j ih =>
    intro g fuel hk hf
    obtain ⟨n, rfl⟩ : ∃ n, fuel = n + 1 := ⟨fuel - 1, by omega⟩
    have h0 : ¬ (6 : Int32) ≤ nI g := nI_ge (b := 6) (by omega) (by decide)
    have hg : g < 6 := by omega
    have z0 : zin (nI (g)) 6 = true := zin_nI (by omega) (by decide)
    have c0 : Int32.toNatClampNeg (nI (g)) = g := nI_clamp (by omega)
    have ka := t_asked J hg (ht.1 g hg).1 (ht.1 g hg).2.1 (ht.1 g hg).2.2 (hw.2.1 g hg) hd
    have st := ih (g + 1) n (by omega) (by omega)
    have lt := dig_lt A g
    unfold f_X12_opens_12
    rw [if_neg h0, if_pos rfl, ka, Option.bind_some, q_a1]
    by_cases k : eAk E (dig A) g
    · rw [if_neg (fun z => zb_eq0.mp z k), if_pos z0]
      show (if I 175 (Int32.toNatClampNeg (nI g)) = 0 then _ else _) = _
      rw [c0, h175 g hg]
      by_cases a : dig A g = 0
      · rw [if_pos (by rw [a]; rfl), zs_go (P := sOp E A) ⟨k, a⟩ hg]
        exact st
      · rw [if_neg (nI_ne0 (by omega) (by omega)), or_0, zs_no (P := sOp E A) (fun q => a q.2)]
        exact st
    · rw [if_pos (zb_eq0.mpr k), or_0, zs_no (P := sOp E A) (fun q => k q.1)]
      exact st
theorem t_op1 (J : zJ) {I : zM} {u : Int32} {P : Nat → Prop} (hu : ¬ u = 0) (h177 : ∀ g, g < 6 → I 177 g = zb (P g)) : ∀ j g fuel, g + j = 6 → j < fuel → f_X12_opens_12 J u fuel (zset (fun i => i < g ∧ P i)) (nI g) I = some (.inr (zset P, nI 6, I)) := by
  intro j
  induction j with
  | zero =>
    intro g fuel hk hf
    obtain ⟨n, rfl⟩ : ∃ n, fuel = n + 1 := ⟨fuel - 1, by omega⟩
    have e : g = 6 := by omega
    subst e
    unfold f_X12_opens_12
    rw [if_pos (show (6 : Int32) ≤ nI 6 by decide), zset_6]
  | succ j ih =>
    intro g fuel hk hf
    obtain ⟨n, rfl⟩ : ∃ n, fuel = n + 1 := ⟨fuel - 1, by omega⟩
    have h0 : ¬ (6 : Int32) ≤ nI g := nI_ge (b := 6) (by omega) (by decide)
    have hg : g < 6 := by omega
    have z0 : zin (nI (g)) 6 = true := zin_nI (by omega) (by decide)
    have c0 : Int32.toNatClampNeg (nI (g)) = g := nI_clamp (by omega)
    have st := ih (g + 1) n (by omega) (by omega)
    unfold f_X12_opens_12
    rw [if_neg h0, if_neg hu, if_pos z0, c0, h177 g hg, q_a1]
    by_cases k : P g
    · rw [if_neg (fun z => zb_eq0.mp z k), zs_go (P := P) k hg]
      exact st
    · rw [if_pos (zb_eq0.mpr k), or_0, zs_no (P := P) k]
      exact st
theorem t_opens (J : zJ) {E I : zM} {m q b o nn tm le sh A : Nat} {P : Nat → Prop} (u : Int32) (hw : eW E m q) (ht : tE E m q b o nn tm le sh I) (hA : A < 46656) (h175 : ∀ g, g < 6 → I 175 g = nI (dig A g)) (h177 : ∀ g, g < 6 → I 177 g = zb (P g)) : ∃ I', f_X12_opens J u I = some (@ite _ (u = 0) (Classical.propDecidable _) (zset (sOp E A)) (zset P), I') ∧ ∀ p, p ≠ 170 → I' p = I p := by
  obtain ⟨I', e, f1, f2⟩ := t_layd J I hA
  refine ⟨I', ?_, f1⟩
  have hz : zTw I I' := zTw.rf.n3 (fun p h _ _ => f1 p h)
  unfold f_X12_opens
  rw [t_answerNumber J hA h175, Option.bind_some, e, Option.bind_some]
  by_cases hu : u = 0
  · subst hu
    have k := t_op0 J hw (tE_cg hz ht) f2 (fun g hg => by rw [f1 175 (by decide)]; exact h175 g hg) 6 0 zF rfl (by unfold zF; omega)
    rw [← zs_0] at k
    have k' : f_X12_opens_12 J 0 zF 0 0 I' = _ := k
    rw [k', Option.bind_some, if_pos rfl]
    rfl
  · have k := t_op1 J hu (I := I') (fun g hg => by rw [f1 177 (by decide)]; exact h177 g hg) 6 0 zF rfl (by unfold zF; omega)
    rw [← zs_0] at k
    have k' : f_X12_opens_12 J u zF 0 0 I' = _ := k
    rw [k', Option.bind_some, if_neg hu]
    rfl
theorem zCl.p44 {I I1 I' : zM} (h : zCl I I1) (f : ∀ p, p ≠ 44 → I' p = I1 p) : zCl I I' := fun p h1 h2 h3 h4 => (f p (by omega)).trans (h p h1 h2 h3 h4)
theorem q_open : zS_open zInv := by
  intro n I J v1 v2 v3 hv3 hn hv
  obtain ⟨mb, hm, g2, g25, -⟩ := hv.bar
  by_cases h : zlt v1 mb ∧ zrg v2 0 3
  case neg =>
    refine ⟨-1, I, zu I 147 0 0, ?_, ?_, zInv_thrown hv⟩
    · unfold f_X11_open
      rw [rd_no1 g2 hm h, Option.bind_some, if_pos rfl]
    · unfold f_X12_open
      rw [rd_no2 (I := zu I 147 0 0) g25 hm h, Option.bind_some, if_neg i10]
  obtain ⟨b, hb, rfl⟩ := zlt_nI h.1 (by omega)
  obtain ⟨o, -, ho, rfl⟩ := zrg_nI h.2 (by decide)
  obtain ⟨E, m, q, nn, tm, le, sh, mu, lam, hw, hR, hml, hE, -, ⟨I1, k1, k2, k3, k4, k5, k6⟩, ht⟩ := r_env hv (show b < 8 by omega) (show o < 4 by omega)
  by_cases c : v3 = 0
  · obtain ⟨I1', s1, s2⟩ := l_stillOpen J hw k6.1 rAn_lt k4.2.2.1
    obtain ⟨S, I2, -, d1, d2, d3, d4, d5⟩ := r_twin hv hn (k2.p44 s2) (by rw [s2 39 (by decide)]; exact k3) hw ht (show b < 8 by omega) (show o < 4 by omega) hR hml
    have e25 : (zu I1' 147 0 0) 147 25 = nI mb := by rw [zu_offk (by decide), zCl_at (k2.p44 s2) (by decide)]; exact g25
    obtain ⟨I3, p1, p2⟩ := t_opens J v3 hw d5 rAn_lt d3.2.2.2.2.1 d3.2.2.2.2.2.1
    rw [if_pos c] at p1
    refine ⟨zset (sOp E (rAn (eNx E m q) mu (lam - 1))), I1', I3, ?_, ?_, zInv_row d4 (fun p h1 _ _ _ => p2 p h1)⟩
    · unfold f_X11_open
      rw [rd_yes1 g2 hm h, Option.bind_some, if_neg i10, k1, Option.bind_some, if_pos c, s1, Option.bind_some]
    · unfold f_X12_open
      rw [rd_yes2 e25 hm h, Option.bind_some, if_pos rfl, d1, Option.bind_some, p1, Option.bind_some]
  · obtain ⟨S, I2, -, d1, d2, d3, d4, d5⟩ := r_twin hv hn k2 k3 hw ht (show b < 8 by omega) (show o < 4 by omega) hR hml
    have e25 : (zu I1 147 0 0) 147 25 = nI mb := by rw [zu_offk (by decide), zCl_at k2 (by decide)]; exact g25
    obtain ⟨I3, p1, p2⟩ := t_opens J v3 hw d5 rAn_lt d3.2.2.2.2.1 d3.2.2.2.2.2.1
    rw [if_neg c] at p1
    refine ⟨zset (rTn (eNx E m q) mu (lam - 1)), I1, I3, ?_, ?_, zInv_row d4 (fun p h1 _ _ _ => p2 p h1)⟩
    · unfold f_X11_open
      rw [rd_yes1 g2 hm h, Option.bind_some, if_neg i10, k1, Option.bind_some, if_neg c, k4.2.2.2.1]
    · unfold f_X12_open
      rw [rd_yes2 e25 hm h, Option.bind_some, if_pos rfl, d1, Option.bind_some, p1, Option.bind_some]
/-! holds -/
theorem t_ho (J : zJ) {I : zM} (u1 u2 : Int32) {P N : Nat → Prop} (h149 : ∀ g, g < 6 → I 149 g = zb (N g)) : ∀ j g fuel X, g + j = 6 → j < fuel → f_X12_holds_40 J u1 u2 (zset P) fuel (zb X) (nI g) I = some (.inr (zb (X ∧ ∀ i, g ≤ i → i < 6 → ¬ (N i ∧ P i)), nI 6, I)) := by
  intro j
  induction j with
  | zero =>
    intro g fuel X hk hf
    obtain ⟨n, rfl⟩ : ∃ n, fuel = n + 1 := ⟨fuel - 1, by omega⟩
    have e : g = 6 := by omega
    subst e
    unfold f_X12_holds_40
    rw [if_pos (show (6 : Int32) ≤ nI 6 by decide), zb_cg (show (X ∧ ∀ i, 6 ≤ i → i < 6 → ¬ (N i ∧ P i)) ↔ X from ⟨fun q => q.1, fun q => ⟨q, fun i h1 h2 => absurd h1 (by omega)⟩⟩)]
  | succ j ih =>
    intro g fuel X hk hf
    obtain ⟨n, rfl⟩ : ∃ n, fuel = n + 1 := ⟨fuel - 1, by omega⟩
    have h0 : ¬ (6 : Int32) ≤ nI g := nI_ge (b := 6) (by omega) (by decide)
    have hg : g < 6 := by omega
    have z0 : zin (nI (g)) 6 = true := zin_nI (by omega) (by decide)
    have c0 : Int32.toNatClampNeg (nI (g)) = g := nI_clamp (by omega)
    have i0 := ih (g + 1) n False (by omega) (by omega)
    have i1 := ih (g + 1) n True (by omega) (by omega)
    rw [← zb_f (P := False) (fun q => q)] at i0
    rw [← zb_t (P := True) trivial] at i1
    have s0 : (X ∧ ∀ i, g ≤ i → i < 6 → ¬ (N i ∧ P i)) → X ∧ ¬ (N g ∧ P g) := fun q => ⟨q.1, q.2 g (Nat.le_refl _) hg⟩
    have bad : ¬ (X ∧ ¬ (N g ∧ P g)) → zb (False ∧ ∀ i, g + 1 ≤ i → i < 6 → ¬ (N i ∧ P i)) = zb (X ∧ ∀ i, g ≤ i → i < 6 → ¬ (N i ∧ P i)) := fun h => zb_cg ⟨fun q => q.1.elim, fun q => absurd (s0 q) h⟩
    have good : (X ∧ ¬ (N g ∧ P g)) → zb (True ∧ ∀ i, g + 1 ≤ i → i < 6 → ¬ (N i ∧ P i)) = zb (X ∧ ∀ i, g ≤ i → i < 6 → ¬ (N i ∧ P i)) := fun h => zb_cg ⟨fun q => ⟨h.1, fun i h1 h2 => by
      by_cases e : i = g
      · subst e
        exact h.2
      · exact q.2 i (by omega) h2⟩, fun q => ⟨trivial, fun i h1 h2 => q.2 i (by omega) h2⟩⟩
    have bt := zbit_eq (zset P) (show g < 32 by omega)
    have hbP : zbt (zset P) g ↔ P g := (zset_bit (by omega)).trans ⟨fun q => q.2, fun q => ⟨hg, q⟩⟩
    rw [zb_cg hbP] at bt
    unfold f_X12_holds_40
    rw [if_neg h0, q_a1, if_pos z0, c0, h149 g hg, bt]
    by_cases x : X
    · rw [if_neg (fun z => zb_eq0.mp z x)]
      by_cases nn : N g
      · rw [if_neg (fun z => zb_eq0.mp z nn)]
        by_cases p : P g
        · rw [if_pos (zb_eq1.mpr p), ← bad (fun q => q.2 ⟨nn, p⟩)]
          exact i0
        · rw [if_neg (fun z => p (zb_eq1.mp z)), ← good ⟨x, fun q => p q.2⟩]
          exact i1
      · rw [if_pos (zb_eq0.mpr nn), ← good ⟨x, fun q => nn q.1⟩]
        exact i1
    · rw [if_pos (zb_eq0.mpr x), ← bad (fun q => x q.1)]
      exact i0
theorem q_holds : zS_holds zInv := by
  intro n I J v1 v2 hn hv
  obtain ⟨mb, hm, g2, g25, -⟩ := hv.bar
  by_cases h : zlt v1 mb ∧ zrg v2 0 3
  case neg =>
    refine ⟨-1, I, zu I 147 0 0, ?_, ?_, zInv_thrown hv⟩
    · unfold f_X11_holds
      rw [rd_no1 g2 hm h, Option.bind_some, if_pos rfl]
    · unfold f_X12_holds
      rw [rd_no2 (I := zu I 147 0 0) g25 hm h, Option.bind_some, if_neg i10]
  obtain ⟨b, hb, rfl⟩ := zlt_nI h.1 (by omega)
  obtain ⟨o, -, ho, rfl⟩ := zrg_nI h.2 (by decide)
  obtain ⟨E, m, q, nn, tm, le, sh, mu, lam, hw, hR, hml, hE, -, ⟨I1, k1, k2, k3, k4, k5, k6⟩, ht⟩ := r_env hv (show b < 8 by omega) (show o < 4 by omega)
  obtain ⟨I1', s1, s2⟩ := l_stillOpen J hw k6.1 rAn_lt k4.2.2.1
  obtain ⟨S, I2, -, d1, d2, d3, d4, d5⟩ := r_twin hv hn (k2.p44 s2) (by rw [s2 39 (by decide)]; exact k3) hw ht (show b < 8 by omega) (show o < 4 by omega) hR hml
  have e25 : (zu I1' 147 0 0) 147 25 = nI mb := by rw [zu_offk (by decide), zCl_at (k2.p44 s2) (by decide)]; exact g25
  obtain ⟨I3, p1, p2⟩ := t_opens J 0 hw d5 rAn_lt d3.2.2.2.2.1 d3.2.2.2.2.2.1
  rw [if_pos rfl] at p1
  have z3 : zTw I2 I3 := zTw.rf.n3 (fun p h _ _ => p2 p h)
  obtain ⟨I4, p3, p4⟩ := t_opens J 1 hw (tE_cg z3 d5) rAn_lt (fun g hg => by rw [p2 175 (by decide)]; exact d3.2.2.2.2.1 g hg) (fun g hg => by rw [p2 177 (by decide)]; exact d3.2.2.2.2.2.1 g hg)
  rw [if_neg i10] at p3
  have h149 : ∀ g, g < 6 → I4 149 g = zb (zbt (I 1 1) g) := fun g hg => by
    rw [p4 149 (by decide), p2 149 (by decide), d2.1 149 (by decide) (by decide), zu_row (by decide), zCl_at (k2.p44 s2) (by decide)]
    exact hv.gap.2.1 g hg
  have p5 := t_ho J (nI b) (nI o) (P := fun i => sOp E (rAn (eNx E m q) mu (lam - 1)) i ∨ rTn (eNx E m q) mu (lam - 1) i) (N := zbt (I 1 1)) h149 6 0 zF True rfl (by unfold zF; omega)
  rw [← zb_t (P := True) trivial] at p5
  have p5' : f_X12_holds_40 J (nI b) (nI o) (zset (fun i => sOp E (rAn (eNx E m q) mu (lam - 1)) i ∨ rTn (eNx E m q) mu (lam - 1) i)) zF 1 0 I4 = _ := p5
  have e11 : I1' 1 1 = I 1 1 := by rw [(k2.p44 s2) 1 (by decide) (by decide) (by decide) (by decide)]
  have eq0 : (zset (fun i => sOp E (rAn (eNx E m q) mu (lam - 1)) i ∨ rTn (eNx E m q) mu (lam - 1) i) &&& I 1 1 = 0) ↔ (True ∧ ∀ i, 0 ≤ i → i < 6 → ¬ (zbt (I 1 1) i ∧ (sOp E (rAn (eNx E m q) mu (lam - 1)) i ∨ rTn (eNx E m q) mu (lam - 1) i))) := by
    constructor
    · intro e
      refine ⟨trivial, fun i _ hi qq => ?_⟩
      have := (zbt_and (zset (fun i => sOp E (rAn (eNx E m q) mu (lam - 1)) i ∨ rTn (eNx E m q) mu (lam - 1) i)) (I 1 1) i).mpr ⟨(zset_bit (by omega)).mpr ⟨hi, qq.2⟩, qq.1⟩
      rw [e] at this
      exact zbt_0 i this
    · intro q
      apply zbt_ext
      intro i hi
      refine ⟨fun z => ?_, fun z => absurd z (zbt_0 i)⟩
      obtain ⟨z1, z2⟩ := (zbt_and _ _ i).mp z
      obtain ⟨z3, z4⟩ := (zset_bit hi).mp z1
      exact absurd ⟨z2, z4⟩ (q.2 i (Nat.zero_le _) z3)
  refine ⟨zb (True ∧ ∀ i, 0 ≤ i → i < 6 → ¬ (zbt (I 1 1) i ∧ (sOp E (rAn (eNx E m q) mu (lam - 1)) i ∨ rTn (eNx E m q) mu (lam - 1) i))), I1', I4, ?_, ?_, zInv_row d4 (fun p h1 _ _ _ => (p4 p h1).trans (p2 p h1))⟩
  · have e15 : I1' 39 15 = zset (rTn (eNx E m q) mu (lam - 1)) := by rw [s2 39 (by decide)]; exact k4.2.2.2.1
    unfold f_X11_holds
    rw [rd_yes1 g2 hm h, Option.bind_some, if_neg i10, k1, Option.bind_some, s1, Option.bind_some]
    show (if (zset (sOp E (rAn (eNx E m q) mu (lam - 1))) ||| I1' 39 15) &&& I1' 1 1 = 0 then some (1, I1') else some (0, I1')) = _
    rw [e15, e11, zset_orr]
    by_cases c : True ∧ ∀ i, 0 ≤ i → i < 6 → ¬ (zbt (I 1 1) i ∧ (sOp E (rAn (eNx E m q) mu (lam - 1)) i ∨ rTn (eNx E m q) mu (lam - 1) i))
    · rw [if_pos (eq0.mpr c), ← zb_t c]
    · rw [if_neg (fun z => c (eq0.mp z)), ← zb_f c]
  · unfold f_X12_holds
    rw [rd_yes2 e25 hm h, Option.bind_some, if_pos rfl, d1, Option.bind_some, p1, Option.bind_some]
    show ((f_X12_opens J 1 I3).bind _) = _
    rw [p3, Option.bind_some]
    show ((f_X12_holds_40 J (nI b) (nI o) (zset (sOp E (rAn (eNx E m q) mu (lam - 1))) ||| zset (rTn (eNx E m q) mu (lam - 1))) zF 1 0 I4).bind _) = _
    rw [zset_orr, p5', Option.bind_some]
    show (if zb _ = 0 then _ else _) = _
    by_cases c : True ∧ ∀ i, 0 ≤ i → i < 6 → ¬ (zbt (I 1 1) i ∧ (sOp E (rAn (eNx E m q) mu (lam - 1)) i ∨ rTn (eNx E m q) mu (lam - 1) i))
    · rw [if_neg (fun z => zb_eq0.mp z c), ← zb_t c]
    · rw [if_pos (zb_eq0.mpr c), ← zb_f c]
