/-! ===== two members of the library, on small sets ===== -/
def pop (k : Nat) : Nat := k % 2 + k / 2 % 2 + k / 4 % 2 + k / 8 % 2 + k / 16 % 2 + k / 32 % 2
set_option maxRecDepth 100000 in
theorem bc_key : ∀ k, k < 64 → ((((((((nI k) - (((Int32.toUInt32 (nI k) >>> (Int32.toUInt32 (1 : Int32) &&& Int32.toUInt32 31)).toInt32) &&& (1431655765 : Int32))) &&& (858993459 : Int32)) + (((Int32.toUInt32 ((nI k) - (((Int32.toUInt32 (nI k) >>> (Int32.toUInt32 (1 : Int32) &&& Int32.toUInt32 31)).toInt32) &&& (1431655765 : Int32))) >>> (Int32.toUInt32 (2 : Int32) &&& Int32.toUInt32 31)).toInt32) &&& (858993459 : Int32))) + ((Int32.toUInt32 ((((nI k) - (((Int32.toUInt32 (nI k) >>> (Int32.toUInt32 (1 : Int32) &&& Int32.toUInt32 31)).toInt32) &&& (1431655765 : Int32))) &&& (858993459 : Int32)) + (((Int32.toUInt32 ((nI k) - (((Int32.toUInt32 (nI k) >>> (Int32.toUInt32 (1 : Int32) &&& Int32.toUInt32 31)).toInt32) &&& (1431655765 : Int32))) >>> (Int32.toUInt32 (2 : Int32) &&& Int32.toUInt32 31)).toInt32) &&& (858993459 : Int32))) >>> (Int32.toUInt32 (4 : Int32) &&& Int32.toUInt32 31)).toInt32)) &&& (252645135 : Int32)) + ((Int32.toUInt32 ((((((nI k) - (((Int32.toUInt32 (nI k) >>> (Int32.toUInt32 (1 : Int32) &&& Int32.toUInt32 31)).toInt32) &&& (1431655765 : Int32))) &&& (858993459 : Int32)) + (((Int32.toUInt32 ((nI k) - (((Int32.toUInt32 (nI k) >>> (Int32.toUInt32 (1 : Int32) &&& Int32.toUInt32 31)).toInt32) &&& (1431655765 : Int32))) >>> (Int32.toUInt32 (2 : Int32) &&& Int32.toUInt32 31)).toInt32) &&& (858993459 : Int32))) + ((Int32.toUInt32 ((((nI k) - (((Int32.toUInt32 (nI k) >>> (Int32.toUInt32 (1 : Int32) &&& Int32.toUInt32 31)).toInt32) &&& (1431655765 : Int32))) &&& (858993459 : Int32)) + (((Int32.toUInt32 ((nI k) - (((Int32.toUInt32 (nI k) >>> (Int32.toUInt32 (1 : Int32) &&& Int32.toUInt32 31)).toInt32) &&& (1431655765 : Int32))) >>> (Int32.toUInt32 (2 : Int32) &&& Int32.toUInt32 31)).toInt32) &&& (858993459 : Int32))) >>> (Int32.toUInt32 (4 : Int32) &&& Int32.toUInt32 31)).toInt32)) &&& (252645135 : Int32)) >>> (Int32.toUInt32 (8 : Int32) &&& Int32.toUInt32 31)).toInt32)) + ((Int32.toUInt32 (((((((nI k) - (((Int32.toUInt32 (nI k) >>> (Int32.toUInt32 (1 : Int32) &&& Int32.toUInt32 31)).toInt32) &&& (1431655765 : Int32))) &&& (858993459 : Int32)) + (((Int32.toUInt32 ((nI k) - (((Int32.toUInt32 (nI k) >>> (Int32.toUInt32 (1 : Int32) &&& Int32.toUInt32 31)).toInt32) &&& (1431655765 : Int32))) >>> (Int32.toUInt32 (2 : Int32) &&& Int32.toUInt32 31)).toInt32) &&& (858993459 : Int32))) + ((Int32.toUInt32 ((((nI k) - (((Int32.toUInt32 (nI k) >>> (Int32.toUInt32 (1 : Int32) &&& Int32.toUInt32 31)).toInt32) &&& (1431655765 : Int32))) &&& (858993459 : Int32)) + (((Int32.toUInt32 ((nI k) - (((Int32.toUInt32 (nI k) >>> (Int32.toUInt32 (1 : Int32) &&& Int32.toUInt32 31)).toInt32) &&& (1431655765 : Int32))) >>> (Int32.toUInt32 (2 : Int32) &&& Int32.toUInt32 31)).toInt32) &&& (858993459 : Int32))) >>> (Int32.toUInt32 (4 : Int32) &&& Int32.toUInt32 31)).toInt32)) &&& (252645135 : Int32)) + ((Int32.toUInt32 ((((((nI k) - (((Int32.toUInt32 (nI k) >>> (Int32.toUInt32 (1 : Int32) &&& Int32.toUInt32 31)).toInt32) &&& (1431655765 : Int32))) &&& (858993459 : Int32)) + (((Int32.toUInt32 ((nI k) - (((Int32.toUInt32 (nI k) >>> (Int32.toUInt32 (1 : Int32) &&& Int32.toUInt32 31)).toInt32) &&& (1431655765 : Int32))) >>> (Int32.toUInt32 (2 : Int32) &&& Int32.toUInt32 31)).toInt32) &&& (858993459 : Int32))) + ((Int32.toUInt32 ((((nI k) - (((Int32.toUInt32 (nI k) >>> (Int32.toUInt32 (1 : Int32) &&& Int32.toUInt32 31)).toInt32) &&& (1431655765 : Int32))) &&& (858993459 : Int32)) + (((Int32.toUInt32 ((nI k) - (((Int32.toUInt32 (nI k) >>> (Int32.toUInt32 (1 : Int32) &&& Int32.toUInt32 31)).toInt32) &&& (1431655765 : Int32))) >>> (Int32.toUInt32 (2 : Int32) &&& Int32.toUInt32 31)).toInt32) &&& (858993459 : Int32))) >>> (Int32.toUInt32 (4 : Int32) &&& Int32.toUInt32 31)).toInt32)) &&& (252645135 : Int32)) >>> (Int32.toUInt32 (8 : Int32) &&& Int32.toUInt32 31)).toInt32)) >>> (Int32.toUInt32 (16 : Int32) &&& Int32.toUInt32 31)).toInt32)) &&& (63 : Int32) = nI (pop k) := by decide +kernel
theorem l_bc (J : zJ) (I : zM) {k : Nat} (hk : k < 64) : f_J6_bitCount_0f7a4 J (nI k) I = some (nI (pop k), I) := by
  unfold f_J6_bitCount_0f7a4
  exact congrArg (fun z => some (z, I)) (bc_key k hk)
def ntI (a b c d e f : Bool) : Int32 := if a then 0 else if b then 1 else if c then 3 else if d then 7 else if e then 15 else if f then 31 else -1
theorem nt_key : ∀ a b c d e f : Bool, (nI (bN a b c d e f) ^^^ ((-1) : Int32)) &&& (nI (bN a b c d e f) - (1 : Int32)) = ntI a b c d e f := by decide +kernel
theorem nt_0 (J : zJ) (I : zM) (x : Int32) (h : (x ^^^ ((-1) : Int32)) &&& (x - (1 : Int32)) = 0) : f_J6_numberOfTrailingZeros_0f7a4 J x I = some (0, I) := by
  unfold f_J6_numberOfTrailingZeros_0f7a4
  rw [h, if_neg (by decide)]
  exact congrArg (fun z => some (z, I)) (by decide +kernel)
theorem nt_1 (J : zJ) (I : zM) (x : Int32) (h : (x ^^^ ((-1) : Int32)) &&& (x - (1 : Int32)) = 1) : f_J6_numberOfTrailingZeros_0f7a4 J x I = some (1, I) := by
  unfold f_J6_numberOfTrailingZeros_0f7a4
  rw [h, if_pos (by decide), if_pos (by decide), if_pos (by decide), if_pos (by decide), if_pos (by decide)]
  exact congrArg (fun z => some (z, I)) (by decide +kernel)
theorem nt_3 (J : zJ) (I : zM) (x : Int32) (h : (x ^^^ ((-1) : Int32)) &&& (x - (1 : Int32)) = 3) : f_J6_numberOfTrailingZeros_0f7a4 J x I = some (2, I) := by
  unfold f_J6_numberOfTrailingZeros_0f7a4
  rw [h, if_pos (by decide), if_pos (by decide), if_pos (by decide), if_pos (by decide), if_pos (by decide)]
  exact congrArg (fun z => some (z, I)) (by decide +kernel)
theorem nt_7 (J : zJ) (I : zM) (x : Int32) (h : (x ^^^ ((-1) : Int32)) &&& (x - (1 : Int32)) = 7) : f_J6_numberOfTrailingZeros_0f7a4 J x I = some (3, I) := by
  unfold f_J6_numberOfTrailingZeros_0f7a4
  rw [h, if_pos (by decide), if_pos (by decide), if_pos (by decide), if_pos (by decide), if_neg (by decide)]
  exact congrArg (fun z => some (z, I)) (by decide +kernel)
theorem nt_15 (J : zJ) (I : zM) (x : Int32) (h : (x ^^^ ((-1) : Int32)) &&& (x - (1 : Int32)) = 15) : f_J6_numberOfTrailingZeros_0f7a4 J x I = some (4, I) := by
  unfold f_J6_numberOfTrailingZeros_0f7a4
  rw [h, if_pos (by decide), if_pos (by decide), if_pos (by decide), if_pos (by decide), if_neg (by decide)]
  exact congrArg (fun z => some (z, I)) (by decide +kernel)
theorem nt_31 (J : zJ) (I : zM) (x : Int32) (h : (x ^^^ ((-1) : Int32)) &&& (x - (1 : Int32)) = 31) : f_J6_numberOfTrailingZeros_0f7a4 J x I = some (5, I) := by
  unfold f_J6_numberOfTrailingZeros_0f7a4
  rw [h, if_pos (by decide), if_pos (by decide), if_pos (by decide), if_neg (by decide), if_pos (by decide)]
  exact congrArg (fun z => some (z, I)) (by decide +kernel)
theorem pb_t {P : Prop} (h : P) : pb P = true := pb_iff.mpr h
theorem pb_f {P : Prop} (h : ¬ P) : pb P = false := by
  cases c : pb P with
  | false => rfl
  | true => exact absurd (pb_iff.mp c) h
theorem l_ntz (J : zJ) (I : zM) {P : Nat → Prop} (h : ¬ zset P = 0) : f_J6_numberOfTrailingZeros_0f7a4 J (zset P) I = some (sLk P 6 0, I) := by
  have k := nt_key (pb (P 0)) (pb (P 1)) (pb (P 2)) (pb (P 3)) (pb (P 4)) (pb (P 5))
  by_cases p0 : P 0
  · rw [pb_t p0] at k
    rw [sLk_p p0]
    exact nt_0 J I _ (by unfold zset zsN; rw [pb_t p0]; exact k)
  rw [sLk_n p0]
  rw [pb_f p0] at k
  by_cases p1 : P 1
  · rw [pb_t p1] at k
    rw [sLk_p p1]
    exact nt_1 J I _ (by unfold zset zsN; rw [pb_f p0, pb_t p1]; exact k)
  rw [sLk_n p1]
  rw [pb_f p1] at k
  by_cases p2 : P 2
  · rw [pb_t p2] at k
    rw [sLk_p p2]
    exact nt_3 J I _ (by unfold zset zsN; rw [pb_f p0, pb_f p1, pb_t p2]; exact k)
  rw [sLk_n p2]
  rw [pb_f p2] at k
  by_cases p3 : P 3
  · rw [pb_t p3] at k
    rw [sLk_p p3]
    exact nt_7 J I _ (by unfold zset zsN; rw [pb_f p0, pb_f p1, pb_f p2, pb_t p3]; exact k)
  rw [sLk_n p3]
  rw [pb_f p3] at k
  by_cases p4 : P 4
  · rw [pb_t p4] at k
    rw [sLk_p p4]
    exact nt_15 J I _ (by unfold zset zsN; rw [pb_f p0, pb_f p1, pb_f p2, pb_f p3, pb_t p4]; exact k)
  rw [sLk_n p4]
  rw [pb_f p4] at k
  by_cases p5 : P 5
  · rw [pb_t p5] at k
    rw [sLk_p p5]
    exact nt_31 J I _ (by unfold zset zsN; rw [pb_f p0, pb_f p1, pb_f p2, pb_f p3, pb_f p4, pb_t p5]; exact k)
  · exfalso
    refine h (zset_0 (fun i hi => ?_))
    match i, hi with
    | 0, _ => exact p0
    | 1, _ => exact p1
    | 2, _ => exact p2
    | 3, _ => exact p3
    | 4, _ => exact p4
    | 5, _ => exact p5
    | n + 6, hi => exact absurd hi (by omega)
theorem sLk_cg {Q R : Nat → Prop} {N : Nat} (h : ∀ v, v < N → (Q v ↔ R v)) : ∀ j v, v + j ≤ N → sLk Q j v = sLk R j v := by
  intro j
  induction j with
  | zero => intro v _; rfl
  | succ j ih =>
    intro v hj
    by_cases q : Q v
    · rw [sLk_p q, sLk_p ((h v (by omega)).mp q)]
    · rw [sLk_n q, sLk_n (fun r => q ((h v (by omega)).mpr r))]
      exact ih (v + 1) (by omega)
theorem sLk_no {Q : Nat → Prop} : ∀ j v, (∀ u, v ≤ u → u < v + j → ¬ Q u) → sLk Q j v = -9 := by
  intro j
  induction j with
  | zero => intro v _; rfl
  | succ j ih =>
    intro v h
    rw [sLk_n (h v (Nat.le_refl _) (by omega))]
    exact ih (v + 1) (fun u h1 h2 => h u (by omega) (by omega))
theorem t_ju (J : zJ) (u1 u2 u3 : Int32) {I : zM} {x A : Nat} (hd : dN I 170 (dig x)) (h175 : ∀ g, g < 6 → I 175 g = nI (dig A g)) : ∀ j g fuel, g + j = 6 → j < fuel → ((f_X12_judge_45 J u1 u2 u3 fuel (nI g) I).bind fun q => Sum.elim (fun a => some a) (fun a13 => some (((-9), a13.2))) q) = some (sLk (uNl x A) j g, I) := by
  intro j
  induction j with
  | zero =>
    intro g fuel hk hf
    obtain ⟨n, rfl⟩ : ∃ n, fuel = n + 1 := ⟨fuel - 1, by omega⟩
    have e : g = 6 := by omega
    subst e
    unfold f_X12_judge_45
    rw [if_pos (show (6 : Int32) ≤ nI 6 by decide)]
    rfl
  | succ j ih =>
    intro g fuel hk hf
    obtain ⟨n, rfl⟩ : ∃ n, fuel = n + 1 := ⟨fuel - 1, by omega⟩
    have h0 : ¬ (6 : Int32) ≤ nI g := nI_ge (b := 6) (by omega) (by decide)
    have z0 : zin (nI (g)) 6 = true := zin_nI (by omega) (by decide)
    have c0 : Int32.toNatClampNeg (nI (g)) = g := nI_clamp (by omega)
    have l1 := dig_lt x g
    have l2 := dig_lt A g
    unfold f_X12_judge_45
    rw [if_neg h0, if_pos z0, if_pos z0, c0, hd g (by omega), h175 g (by omega), q_a1]
    by_cases c : dig x g = dig A g
    · rw [if_pos (congrArg nI c), sLk_n (fun q : uNl x A g => q c)]
      exact ih (g + 1) n (by omega) (by omega)
    · rw [if_neg (fun z => c ((nI_eq (by omega) (by omega)).mp z)), sLk_p (show uNl x A g from c)]
      rfl
theorem q_judge : zS_judge zInv := by
  intro n I J v1 v2 v3 hn hv
  obtain ⟨mb, hm, g2, g25, -⟩ := hv.bar
  by_cases h : zlt v1 mb ∧ zrg v2 0 3
  case neg =>
    refine ⟨-1, I, zu I 147 0 0, ?_, ?_, zInv_thrown hv⟩
    · unfold f_X11_judge
      rw [rd_no1 g2 hm h, Option.bind_some, if_pos rfl]
    · unfold f_X12_judge
      rw [rd_no2 (I := zu I 147 0 0) g25 hm h, Option.bind_some, if_neg i10]
  by_cases h3 : zrg v3 0 46655
  case neg =>
    refine ⟨-2, I, zu I 147 0 0, ?_, ?_, zInv_thrown hv⟩
    · unfold f_X11_judge
      rw [rd_yes1 g2 hm h, Option.bind_some, if_neg i10, l_isFilling, ← zb_f h3, Option.bind_some, if_pos rfl]
    · unfold f_X12_judge
      rw [rd_yes2 (I := zu I 147 0 0) g25 hm h, Option.bind_some, if_pos rfl, l_in_0_46655, ← zb_f h3, Option.bind_some, if_pos rfl]
  obtain ⟨b, hb, rfl⟩ := zlt_nI h.1 (by omega)
  obtain ⟨o, -, ho, rfl⟩ := zrg_nI h.2 (by decide)
  obtain ⟨x, -, hx, rfl⟩ := zrg_nI h3 (by decide)
  obtain ⟨E, m, q, nn, tm, le, sh, mu, lam, hw, hR, hml, hE, -, ⟨I1, k1, k2, k3, k4, k5, k6⟩, ht⟩ := r_env hv (show b < 8 by omega) (show o < 4 by omega)
  obtain ⟨S, I2, -, d1, d2, d3, d4, d5⟩ := r_twin hv hn k2 k3 hw ht (show b < 8 by omega) (show o < 4 by omega) hR hml
  have e25 : (zu I1 147 0 0) 147 25 = nI mb := by rw [zu_offk (by decide), zCl_at k2 (by decide)]; exact g25
  obtain ⟨I3, p1, p2, p3⟩ := t_layd J I2 (show x < 46656 by omega)
  have p4 := t_ju J (nI b) (nI o) (nI x) (I := I3) p3 (fun g hg => by rw [p2 175 (by decide)]; exact d3.2.2.2.2.1 g hg) 6 0 zF rfl (by unfold zF; omega)
  have p4' : ((f_X12_judge_45 J (nI b) (nI o) (nI x) zF 0 I3).bind fun q => Sum.elim (fun a => some a) (fun a13 => some (((-9), a13.2))) q) = _ := p4
  have un := l_unlike J I1 (a := x) (b := rAn (eNx E m q) mu (lam - 1)) (by omega) rAn_lt
  refine ⟨sLk (uNl x (rAn (eNx E m q) mu (lam - 1))) 6 0, I1, I3, ?_, ?_, zInv_row d4 (fun p h1 _ _ _ => p2 p h1)⟩
  · unfold f_X11_judge
    rw [rd_yes1 g2 hm h, Option.bind_some, if_neg i10, l_isFilling, ← zb_t h3, Option.bind_some, if_neg i10, k1, Option.bind_some, k4.2.2.1, un, Option.bind_some]
    by_cases c : zset (uNl x (rAn (eNx E m q) mu (lam - 1))) = 0
    · rw [if_pos c, sLk_no 6 0 (fun u _ hu => zset_eq0.mp c u (by omega))]
    · rw [if_neg c, l_ntz J I1 c, Option.bind_some]
  · unfold f_X12_judge
    rw [rd_yes2 e25 hm h, Option.bind_some, if_pos rfl, l_in_0_46655, ← zb_t h3, Option.bind_some, if_neg i10, d1, Option.bind_some, p1, Option.bind_some]
    exact p4'
/-! reason -/
theorem q_reason : zS_reason zInv := by
  intro n I J v1 v2 v3 hn hv
  obtain ⟨mb, hm, g2, g25, -⟩ := hv.bar
  by_cases h : zlt v1 mb ∧ zrg v2 0 3
  case neg =>
    refine ⟨-1, I, zu I 147 0 0, ?_, ?_, zInv_thrown hv⟩
    · unfold f_X11_reason
      rw [rd_no1 g2 hm h, Option.bind_some, if_pos rfl]
    · unfold f_X12_reason
      rw [rd_no2 (I := zu I 147 0 0) g25 hm h, Option.bind_some, if_neg i10]
  by_cases h3 : zrg v3 0 5
  case neg =>
    refine ⟨-1, I, zu I 147 0 0, ?_, ?_, zInv_thrown hv⟩
    · unfold f_X11_reason
      rw [rd_yes1 g2 hm h, Option.bind_some, if_neg i10, (gap_no h3).1, Option.bind_some, if_pos rfl]
    · unfold f_X12_reason
      rw [rd_yes2 (I := zu I 147 0 0) g25 hm h, Option.bind_some, if_pos rfl, (gap_no h3).2, Option.bind_some, if_neg i10]
  obtain ⟨b, hb, rfl⟩ := zlt_nI h.1 (by omega)
  obtain ⟨o, -, ho, rfl⟩ := zrg_nI h.2 (by decide)
  obtain ⟨g, -, hg5, rfl⟩ := zrg_nI h3 (by decide)
  have hg : g < 6 := by omega
  obtain ⟨E, m, q, nn, tm, le, sh, mu, lam, hw, hR, hml, hE, -, ⟨I1, k1, k2, k3, k4, k5, k6⟩, ht⟩ := r_env hv (show b < 8 by omega) (show o < 4 by omega)
  have lt := it_lt (f := eNx E m q) (eNx_lt hw.1)
  have z0 : zin (nI (g)) 6 = true := zin_nI (by omega) (by decide)
  have c0 : Int32.toNatClampNeg (nI (g)) = g := nI_clamp (by omega)
  have kb := l_bit J (zset (rTn (eNx E m q) mu (lam - 1))) I1 (j := g) (by omega)
  have hbP : zbt (zset (rTn (eNx E m q) mu (lam - 1))) g ↔ rTn (eNx E m q) mu (lam - 1) g := (zset_bit (by omega)).trans ⟨fun q => q.2, fun q => ⟨hg, q⟩⟩
  rw [zb_cg hbP] at kb
  -- what the twin does, from a state of the class
  have tw : ∀ I', zCl I I' → I' 39 3 = -9 → ∃ I3, f_X12_reason J (nI b) (nI o) (nI g) I' = some (@ite _ (rTn (eNx E m q) mu (lam - 1) g) (Classical.propDecidable _) 4 (eRs (eGo E m q (dig (it (eNx E m q) (mu + (lam - 1)))) g)), I3) ∧ zInv (n + 1) I3 J := fun I' z1 z2 => by
    obtain ⟨S, I2, -, d1, d2, d3, d4, d5⟩ := r_twin hv hn z1 z2 hw ht (show b < 8 by omega) (show o < 4 by omega) hR hml
    have e25 : (zu I' 147 0 0) 147 25 = nI mb := by rw [zu_offk (by decide), zCl_at z1 (by decide)]; exact g25
    obtain ⟨I3, p1, p2, p3⟩ := t_nextOf J hw d5 (show b < 8 by omega) (show o < 5 by omega) zTw.rf (lt (mu + (lam - 1)))
    refine ⟨I3, ?_, zInv_row d4 (fun p h1 h2 h3 _ => p2 p h1 h2 h3)⟩
    unfold f_X12_reason
    rw [rd_yes2 e25 hm h, Option.bind_some, if_pos rfl, (gap_yes h3).2, Option.bind_some, if_pos rfl, d1, Option.bind_some, d3.2.2.1, p1, Option.bind_some, if_pos z0]
    show (if I3 177 (Int32.toNatClampNeg (nI g)) = 0 then _ else _) = _
    rw [c0, p2 177 (by decide) (by decide) (by decide), d3.2.2.2.2.2.1 g hg]
    by_cases c : rTn (eNx E m q) mu (lam - 1) g
    · rw [if_neg (fun z => zb_eq0.mp z c), if_pos c]
    · rw [if_pos (zb_eq0.mpr c), if_pos z0, if_neg c]
      show some (I3 172 g, I3) = _
      rw [p3 hE g hg]
  by_cases c : rTn (eNx E m q) mu (lam - 1) g
  · obtain ⟨I3, t1, t2⟩ := tw I1 k2 k3
    rw [if_pos c] at t1
    refine ⟨4, I1, I3, ?_, t1, t2⟩
    unfold f_X11_reason
    rw [rd_yes1 g2 hm h, Option.bind_some, if_neg i10, (gap_yes h3).1, Option.bind_some, if_neg i10, k1, Option.bind_some]
    unfold f_X5_reasonOf
    rw [k4.2.2.2.1, kb, Option.bind_some, if_pos (zb_eq1.mpr c), Option.bind_some]
  · obtain ⟨I1', s1, s2, s3⟩ := l_spread J I1 (lt (mu + (lam - 1)))
    obtain ⟨I3, t1, t2⟩ := tw I1' (k2.p44 s2) (by rw [s2 39 (by decide)]; exact k3)
    rw [if_neg c] at t1
    refine ⟨_, I1', I3, ?_, t1, t2⟩
    have ka := l_asked J hg (cG_cg (fun p h1 h2 => s2 p (by omega)) k6.1) (hw.2.1 g hg) s3
    obtain ⟨v, f1, -, f3⟩ := l_find J (zRf_of hg) (cF_cg (fun p h1 h2 => s2 p (by omega)) k5 g hg) (eFl_len hw) s3
    unfold f_X11_reason
    rw [rd_yes1 g2 hm h, Option.bind_some, if_neg i10, (gap_yes h3).1, Option.bind_some, if_neg i10, k1, Option.bind_some]
    unfold f_X5_reasonOf
    rw [k4.2.2.2.1, kb, Option.bind_some, if_neg (fun z => c (zb_eq1.mp z))]
    simp only [k4.2.2.2.2, s1, Option.bind_some, ka, z0, c0, zr_43 g hg, f1, f3, ↓reduceIte]
    by_cases a : eAk E (dig (it (eNx E m q) (mu + (lam - 1)))) g
    · rw [if_neg (fun z => zb_eq0.mp z a), eGo_p a]
      rfl
    · rw [if_pos (zb_eq0.mpr a), eGo_n a]
      have k9 : f_X2_reasonOf J (45 + 5 * g) (-9) I1' = some (0, I1') := if_pos (show (-9 : Int32) < 0 by decide)
      rw [k9, Option.bind_some]
      rfl
/-! far -/
def sFa (V : Nat → Int32) (A g : Nat) : Prop := ¬ V g = 0 ∧ ¬ V g = nI (dig A g)
theorem l_fa (J : zJ) (I : zM) {b s A : Nat} (hb : b < 8) (hs : s < 2) (hA : A < 46656) : ∀ j g fuel, g + j = 6 → j < fuel → f_X0_farFrom_5 J (99 + 6 * b) (nI s) (nI A) fuel (zset (fun i => i < g ∧ sFa (I (103 + 6 * b + s)) A i)) (nI g) I = some (.inr (zset (sFa (I (103 + 6 * b + s)) A), nI 6, I)) := by
  have r1 := zr_ba4 b hb
  have r2 := zr_th b hb s hs
  intro j
  induction j with
  | zero =>
    intro g fuel hk hf
    obtain ⟨n, rfl⟩ : ∃ n, fuel = n + 1 := ⟨fuel - 1, by omega⟩
    have e : g = 6 := by omega
    subst e
    unfold f_X0_farFrom_5
    rw [if_pos (show (6 : Int32) ≤ nI 6 by decide), zset_6]
  | succ j ih =>
    intro g fuel hk hf
    obtain ⟨n, rfl⟩ : ∃ n, fuel = n + 1 := ⟨fuel - 1, by omega⟩
    have h0 : ¬ (6 : Int32) ≤ nI g := nI_ge (b := 6) (by omega) (by decide)
    have hg : g < 6 := by omega
    have z0 : zin (nI (g)) 6 = true := zin_nI (by omega) (by decide)
    have c0 : Int32.toNatClampNeg (nI (g)) = g := nI_clamp (by omega)
    have z1 : zin (nI (s)) 2 = true := zin_nI (by omega) (by decide)
    have c1 : Int32.toNatClampNeg (nI (s)) = s := nI_clamp (by omega)
    have st := ih (g + 1) n (by omega) (by omega)
    unfold f_X0_farFrom_5
    rw [if_neg h0, if_pos z1, if_pos z0, c0, c1, r1, r2, q_a1, l_valueAt J I hA hg, Option.bind_some]
    by_cases a : I (103 + 6 * b + s) g = 0
    · rw [if_pos a, zs_no (P := sFa (I (103 + 6 * b + s)) A) (fun q => q.1 a)]
      exact st
    · rw [if_neg a]
      by_cases c : I (103 + 6 * b + s) g = nI (dig A g)
      · rw [if_pos c, zs_no (P := sFa (I (103 + 6 * b + s)) A) (fun q => q.2 c)]
        exact st
      · rw [if_neg c, zs_go (P := sFa (I (103 + 6 * b + s)) A) ⟨a, c⟩ hg]
        exact st
theorem l_farFrom (J : zJ) (I : zM) {b s A : Nat} (hb : b < 8) (hs : s < 2) (hA : A < 46656) : f_X0_farFrom J (99 + 6 * b) (nI s) (nI A) I = some (zset (sFa (I (103 + 6 * b + s)) A), I) := by
  have k := l_fa J I hb hs hA 6 0 zF rfl (by unfold zF; omega)
  rw [← zs_0] at k
  have k' : f_X0_farFrom_5 J (99 + 6 * b) (nI s) (nI A) zF 0 0 I = _ := k
  unfold f_X0_farFrom
  rw [k', Option.bind_some]
  rfl
theorem t_fa (J : zJ) {I : zM} {b s A : Nat} {V : Nat → Int32} (hb : b < 8) (hs : s < 2) (hV : ∀ g, g < 6 → V g = I 164 (12 * b + 6 * s + g) ∧ zrg (I 164 (12 * b + 6 * s + g)) 0 5) (h175 : ∀ g, g < 6 → I 175 g = nI (dig A g)) : ∀ j g fuel, g + j = 6 → j < fuel → f_X12_fars_5 J (nI b) (nI s) fuel (zset (fun i => i < g ∧ sFa V A i)) (nI g) I = some (.inr (zset (sFa V A), nI 6, I)) := by
  intro j
  induction j with
  | zero =>
    intro g fuel hk hf
    obtain ⟨n, rfl⟩ : ∃ n, fuel = n + 1 := ⟨fuel - 1, by omega⟩
    have e : g = 6 := by omega
    subst e
    unfold f_X12_fars_5
    rw [if_pos (show (6 : Int32) ≤ nI 6 by decide), zset_6]
  | succ j ih =>
    intro g fuel hk hf
    obtain ⟨n, rfl⟩ : ∃ n, fuel = n + 1 := ⟨fuel - 1, by omega⟩
    have h0 : ¬ (6 : Int32) ≤ nI g := nI_ge (b := 6) (by omega) (by decide)
    have hg : g < 6 := by omega
    have z0 : zin (nI (g)) 6 = true := zin_nI (by omega) (by decide)
    have c0 : Int32.toNatClampNeg (nI (g)) = g := nI_clamp (by omega)
    have z1 : zin (nI (12 * b + 6 * s + g)) 96 = true := zin_nI (by omega) (by decide)
    have c1 : Int32.toNatClampNeg (nI (12 * b + 6 * s + g)) = 12 * b + 6 * s + g := nI_clamp (by omega)
    have st := ih (g + 1) n (by omega) (by omega)
    obtain ⟨v1, v2⟩ := hV g hg
    unfold f_X12_fars_5
    rw [if_neg h0, q_12, q_6, nI_add, nI_add, if_pos z1, c1, c0, h175 g hg, q_a1, ← v1, or_0]
    by_cases a : V g = 0
    · rw [if_pos (show V g ≤ 0 by rw [a]; decide), zs_no (P := sFa V A) (fun q => q.1 a)]
      exact st
    · rw [if_neg (fun z => a ((rg_le0 (by rw [v1]; exact v2)).mp z)), if_pos z0]
      by_cases c : V g = nI (dig A g)
      · rw [if_pos c, zs_no (P := sFa V A) (fun q => q.2 c)]
        exact st
      · rw [if_neg c, zs_go (P := sFa V A) ⟨a, c⟩ hg]
        exact st
theorem t_fars (J : zJ) {I : zM} {b s A : Nat} {V : Nat → Int32} (hb : b < 8) (hs : s < 2) (hV : ∀ g, g < 6 → V g = I 164 (12 * b + 6 * s + g) ∧ zrg (I 164 (12 * b + 6 * s + g)) 0 5) (h175 : ∀ g, g < 6 → I 175 g = nI (dig A g)) : f_X12_fars J (nI b) (nI s) I = some (zset (sFa V A), I) := by
  have k := t_fa J hb hs hV h175 6 0 zF rfl (by unfold zF; omega)
  rw [← zs_0] at k
  have k' : f_X12_fars_5 J (nI b) (nI s) zF 0 0 I = _ := k
  unfold f_X12_fars
  rw [k', Option.bind_some]
  rfl
theorem th_of {I : zM} {b s : Nat} (h : qBa I b) (hs : s < 2) : ∀ g, g < 6 → I (103 + 6 * b + s) g = I 164 (12 * b + 6 * s + g) ∧ zrg (I 164 (12 * b + 6 * s + g)) 0 5 := by
  intro g hg
  obtain ⟨-, -, -, -, -, h1, h2⟩ := h
  match s, hs with
  | 0, _ => exact h1 g hg
  | 1, _ =>
    have := h2 g hg
    rw [show 103 + 6 * b + 1 = 104 + 6 * b by omega]
    exact this
  | n + 2, h => exact absurd h (by omega)
theorem q_far : zS_far zInv := by
  intro n I J v1 v2 v3 hn hv
  obtain ⟨mb, hm, g2, g25, gb⟩ := hv.bar
  by_cases h : zlt v1 mb ∧ zrg v2 0 3
  case neg =>
    refine ⟨-1, I, zu I 147 0 0, ?_, ?_, zInv_thrown hv⟩
    · unfold f_X11_far
      rw [rd_no1 g2 hm h, Option.bind_some, if_pos rfl]
    · unfold f_X12_far
      rw [rd_no2 (I := zu I 147 0 0) g25 hm h, Option.bind_some, if_neg i10]
  by_cases h3 : zrg v3 0 1
  case neg =>
    refine ⟨-2, I, zu I 147 0 0, ?_, ?_, zInv_thrown hv⟩
    · unfold f_X11_far
      rw [rd_yes1 g2 hm h, Option.bind_some, if_neg i10, l_isSide, ← zb_f h3, Option.bind_some, if_pos rfl]
    · unfold f_X12_far
      rw [rd_yes2 (I := zu I 147 0 0) g25 hm h, Option.bind_some, if_pos rfl, l_in_0_1, ← zb_f h3, Option.bind_some, if_pos rfl]
  obtain ⟨b, hb, rfl⟩ := zlt_nI h.1 (by omega)
  obtain ⟨o, -, ho, rfl⟩ := zrg_nI h.2 (by decide)
  obtain ⟨s, -, hs, rfl⟩ := zrg_nI h3 (by decide)
  obtain ⟨E, m, q, nn, tm, le, sh, mu, lam, hw, hR, hml, hE, -, ⟨I1, k1, k2, k3, k4, k5, k6⟩, ht⟩ := r_env hv (show b < 8 by omega) (show o < 4 by omega)
  obtain ⟨S, I2, -, d1, d2, d3, d4, d5⟩ := r_twin hv hn k2 k3 hw ht (show b < 8 by omega) (show o < 4 by omega) hR hml
  have e25 : (zu I1 147 0 0) 147 25 = nI mb := by rw [zu_offk (by decide), zCl_at k2 (by decide)]; exact g25
  have z0 : zin (nI (b)) 8 = true := zin_nI (by omega) (by decide)
  have c0 : Int32.toNatClampNeg (nI (b)) = b := nI_clamp (by omega)
  have c1 := l_farFrom J I1 (b := b) (s := s) (A := rAn (eNx E m q) mu (lam - 1)) (by omega) (by omega) rAn_lt
  have er : I1 (103 + 6 * b + s) = I (103 + 6 * b + s) := k2 _ (by omega) (by omega) (by omega) (by omega)
  rw [er] at c1
  have e164 : I2 164 = I 164 := by rw [d2.1 164 (by decide) (by decide), zu_row (by decide), zCl_at k2 (by decide)]
  have c2 := t_fars J (I := I2) (b := b) (s := s) (A := rAn (eNx E m q) mu (lam - 1)) (V := I (103 + 6 * b + s)) (by omega) (by omega) (by rw [e164]; exact th_of (gb b (by omega)) (by omega)) d3.2.2.2.2.1
  refine ⟨zset (sFa (I (103 + 6 * b + s)) (rAn (eNx E m q) mu (lam - 1))), I1, I2, ?_, ?_, d4⟩
  · unfold f_X11_far
    rw [rd_yes1 g2 hm h, Option.bind_some, if_neg i10, l_isSide, ← zb_t h3, Option.bind_some, if_neg i10, k1, Option.bind_some, if_pos z0, c0, zr_34 b (by omega), k4.2.2.1, c1, Option.bind_some]
  · unfold f_X12_far
    rw [rd_yes2 e25 hm h, Option.bind_some, if_pos rfl, l_in_0_1, ← zb_t h3, Option.bind_some, if_neg i10, d1, Option.bind_some, c2, Option.bind_some]
