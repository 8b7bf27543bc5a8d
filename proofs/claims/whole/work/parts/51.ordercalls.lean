/-! ===== order, bargain, reword, unrule ===== -/
theorem g_order {n : Nat} {I : zM} {J : zJ} (hv : zInv n I J) : ∃ r I1 L t, L ≤ 24 ∧ (∀ i, i < L → t i < 256) ∧ f_X10_readFrom_X4 J 35 I = some (r, I1) ∧ (∀ q, q ≠ 35 → q ≠ 36 → I1 q = I q) ∧ ∀ IC : zM, IC 147 = I 147 → IC 154 = I 154 → ∃ I2, f_X12_readOrder J (zu IC 147 0 0) = some (r, I2) ∧ zRr (zu IC 147 0 0) I2 ∧ xT I2 L t ∧ (r = -9 → 1 ≤ L ∧ ∃ had, oS I1 I2 had t L) := by
  obtain ⟨L, t, hL, x, y, ht⟩ := txt_of hv.txt
  obtain ⟨r, I1, I2, a1, a2, a3, a4, a5⟩ := rd_order (J := J) hL ht x y
  refine ⟨r, I1, L, t, hL, ht, a1, a3, fun IC h1 h2 => ?_⟩
  have y1 : xT (zu IC 147 0 0) L t := by
    unfold xT at y ⊢
    rw [zu_offk (by decide), zu_row (by decide), h1, h2]
    exact y
  obtain ⟨r', J1, J2, b1, b2, b3, b4, b5⟩ := rd_order (J := J) hL ht x y1
  have e := a1.symm.trans b1
  simp only [Option.some.injEq, Prod.mk.injEq] at e
  obtain ⟨rfl, rfl⟩ := e
  exact ⟨J2, b2, b4, b4.x y1, b5⟩
theorem g_words {n : Nat} {I : zM} {J : zJ} (hv : zInv n I J) : ∃ r I1, f_X10_readFrom_X8 J 37 I = some (r, I1) ∧ (∀ q, q ≠ 37 → q ≠ 38 → I1 q = I q) ∧ ∀ IC : zM, IC 147 = I 147 → IC 154 = I 154 → ∃ I2, f_X12_readWords J (zu IC 147 0 0) = some (r, I2) ∧ zRr (zu IC 147 0 0) I2 ∧ (r = -9 → wOK I1 I2) := by
  obtain ⟨L, t, hL, x, y, ht⟩ := txt_of hv.txt
  obtain ⟨r, I1, I2, a1, a2, a3, a4, a5⟩ := rd_words (J := J) hL ht x y
  refine ⟨r, I1, a1, a3, fun IC h1 h2 => ?_⟩
  have y1 : xT (zu IC 147 0 0) L t := by
    unfold xT at y ⊢
    rw [zu_offk (by decide), zu_row (by decide), h1, h2]
    exact y
  obtain ⟨r', J1, J2, b1, b2, b3, b4, b5⟩ := rd_words (J := J) hL ht x y1
  have e := a1.symm.trans b1
  simp only [Option.some.injEq, Prod.mk.injEq] at e
  obtain ⟨rfl, rfl⟩ := e
  exact ⟨J2, b2, b4, b5⟩
theorem t_or (J : zJ) {I0 : zM} {L w : Nat} {t : Nat → Nat} (hL : L ≤ 5) (hw : w < 4) (y : xT I0 L t) (ht : ∀ i, i < L → t i < 256) : ∀ j k fuel I, k + j = L → j < fuel → (∀ q, q ≠ 157 → I q = I0 q) → (∀ x, (x < 5 * w ∨ 5 * w + 5 ≤ x) → I 157 x = I0 157 x) → (∀ f, f < k → I 157 (5 * w + f) = lt0 (t f)) → ∃ z I', f_X12_order_28 J (nI w) fuel (nI k) I = some (.inr (z, I')) ∧ (∀ q, q ≠ 157 → I' q = I0 q) ∧ (∀ x, (x < 5 * w ∨ 5 * w + 5 ≤ x) → I' 157 x = I0 157 x) ∧ ∀ f, f < L → I' 157 (5 * w + f) = lt0 (t f) := by
  intro j
  induction j with
  | zero =>
    intro k fuel I hk hf h1 h2 h3
    obtain ⟨n, rfl⟩ : ∃ n, fuel = n + 1 := ⟨fuel - 1, by omega⟩
    have e : k = L := by omega
    subst e
    refine ⟨nI k, I, ?_, h1, h2, h3⟩
    unfold f_X12_order_28
    rw [h1 147 (by decide), y.1, if_pos (nI_le (Nat.le_refl _) (by omega))]
  | succ j ih =>
    intro k fuel I hk hf h1 h2 h3
    obtain ⟨n, rfl⟩ : ∃ n, fuel = n + 1 := ⟨fuel - 1, by omega⟩
    have z0 : zin (nI (k)) 24 = true := zin_nI (by omega) (by decide)
    have c0 : Int32.toNatClampNeg (nI (k)) = k := nI_clamp (by omega)
    have z1 : zin (nI (5 * w + k)) 25 = true := zin_nI (by omega) (by decide)
    have c1 : Int32.toNatClampNeg (nI (5 * w + k)) = 5 * w + k := nI_clamp (by omega)
    obtain ⟨z, I', e1, e2⟩ := ih (k + 1) n (zu I 157 (5 * w + k) (lt0 (t k))) (by omega) (by omega) (fun q hq => (zu_row hq).trans (h1 q hq)) (fun x hx => (zu_offk (by omega) I 157 _).trans (h2 x hx)) (fun f hf => by
      rw [zu_at]
      by_cases e : f = k
      · rw [if_pos (by omega), e]
      · rw [if_neg (by omega)]
        exact h3 f (by omega))
    refine ⟨z, I', ?_, e2⟩
    unfold f_X12_order_28
    rw [h1 147 (by decide), y.1, if_neg (nI_ge (by omega) (by omega)), if_pos z0, c0, h1 154 (by decide), y.2 k (by omega), t_letterOf J I (ht k (by omega)), Option.bind_some, q_5, nI_add, if_pos z1, c1, q_a1]
    exact e1
theorem q_order : zS_order zInv := by
  intro n I J v1 hn hv
  obtain ⟨m, hr⟩ := rP_of hv.rul
  by_cases h1 : zrg v1 0 3
  case neg =>
    refine ⟨-1, I, zu I 147 0 0, ?_, ?_, zInv_thrown hv⟩
    · unfold f_X11_order
      rw [l_isOrder, ← zb_f h1, Option.bind_some, if_pos rfl]
    · unfold f_X12_order
      rw [l_noOrder, ← zb_t (P := ¬ zrg v1 0 3) h1, Option.bind_some, if_neg i10]
  obtain ⟨w, -, hw3, rfl⟩ := zrg_nI h1 (by decide)
  have hw : w < 4 := by omega
  obtain ⟨r, I1, L, t, hL, ht, a1, a3, tw⟩ := g_order hv
  by_cases c : r = -9
  case neg =>
    obtain ⟨I2, b1, b2, -, -⟩ := tw I1 (a3 147 (by decide) (by decide)) (a3 154 (by decide) (by decide))
    refine ⟨-3, I1, I2, ?_, ?_, zInv_rd hv hr (fun q _ q1 q2 _ _ => a3 q q1 q2) b2⟩
    · unfold f_X11_order
      rw [l_isOrder, ← zb_t h1, Option.bind_some, if_neg i10, a1, Option.bind_some, if_neg c]
    · unfold f_X12_order
      rw [l_noOrder, ← zb_f (P := ¬ zrg (nI w) 0 3) (fun q => q h1), Option.bind_some, if_pos rfl, b1, Option.bind_some, if_neg c]
  have z0 : zin (nI (w)) 4 = true := zin_nI (by omega) (by decide)
  have c0 : Int32.toNatClampNeg (nI (w)) = w := nI_clamp (by omega)
  have z5 : zin (nI (w)) 5 = true := zin_nI (by omega) (by decide)
  have r33 := zr_33 w hw
  have ror := zr_or w hw
  have r35 : zR 35 0 = 36 := by decide +kernel
  have cp : f_X4_copy J (91 + 2 * w) 35 I1 = some (zu (zcp I1 36 (92 + 2 * w) 5) (91 + 2 * w) 1 (I1 35 1)) := by
    unfold f_X4_copy
    rw [r35, ror, zcp_row (show 35 ≠ 92 + 2 * w by omega)]
  have fC : ∀ q, q ≠ 91 + 2 * w → q ≠ 92 + 2 * w → (zu (zcp I1 36 (92 + 2 * w) 5) (91 + 2 * w) 1 (I1 35 1)) q = I1 q := fun q q1 q2 => (zu_row q1).trans (zcp_row q2)
  generalize hIC : zu (zcp I1 36 (92 + 2 * w) 5) (91 + 2 * w) 1 (I1 35 1) = IC at cp fC
  obtain ⟨I2, b1, b2, b3, b4⟩ := tw IC ((fC 147 (by omega) (by omega)).trans (a3 147 (by decide) (by decide))) ((fC 154 (by omega) (by omega)).trans (a3 154 (by decide) (by decide)))
  obtain ⟨hL1, had, s1, s2, s3, a, s4, s5, s6⟩ := b4 c
  obtain ⟨z, I3, d1, d2, d3, d4⟩ := t_or J (I0 := I2) (w := w) s1 hw b3 ht L 0 zF I2 (by omega) (by unfold zF; omega) (fun _ _ => rfl) (fun _ _ => rfl) (fun f hf => absurd hf (by omega))
  have d1' : f_X12_order_28 J (nI w) zF 0 I2 = _ := d1
  have e12 : I3 147 12 = nI L := by rw [d2 147 (by decide)]; exact b3.1
  have c35 : IC 35 1 = nI L := by rw [fC 35 (by omega) (by omega)]; exact s2
  have frow : ∀ q, q ≠ 35 ∧ q ≠ 36 ∧ q ≠ 91 + 2 * w ∧ q ≠ 92 + 2 * w ∧ q ≠ 147 ∧ q ≠ 156 ∧ q ≠ 157 ∧ q ≠ 158 ∧ q ≠ 165 → (zu I3 158 w (nI L)) q = I q := fun q hq => by
    rw [zu_row (by omega), d2 q (by omega), b2.1 q (by omega) (by omega) (by omega), zu_row (by omega), fC q (by omega) (by omega), a3 q (by omega) (by omega)]
  have h7 : ∀ k, k ≠ 0 ∧ k ≠ 13 ∧ k ≠ 27 → (zu I3 158 w (nI L)) 147 k = I 147 k := fun k hk => by
    rw [zu_row (by decide), d2 147 (by decide), b2.2 k hk.2.1 hk.2.2, zu_offk hk.1, fC 147 (by omega) (by omega), a3 147 (by decide) (by decide)]
  refine ⟨nI L, IC, zu I3 158 w (nI L), ?_, ?_, ?_⟩
  · unfold f_X11_order
    rw [l_isOrder, ← zb_t h1, Option.bind_some, if_neg i10, a1, Option.bind_some, if_pos c, if_pos z0, c0, r33, cp, Option.bind_some, c35]
  · unfold f_X12_order
    rw [l_noOrder, ← zb_f (P := ¬ zrg (nI w) 0 3) (fun q => q h1), Option.bind_some, if_pos rfl, b1, Option.bind_some, if_pos c, d1', Option.bind_some]
    show (if zin (nI w) 5 = true then some ((zu I3 158 (Int32.toNatClampNeg (nI w)) (I3 147 12)) 147 12, zu I3 158 (Int32.toNatClampNeg (nI w)) (I3 147 12)) else none) = _
    rw [if_pos z5, c0, e12, zu_row (by decide), e12]
  · have hh : ∀ q, (q < 35 ∨ (36 < q ∧ q < 91) ∨ 98 < q) ∧ q ≠ 147 ∧ q ≠ 156 ∧ q ≠ 157 ∧ q ≠ 158 ∧ q ≠ 165 → (zu I3 158 w (nI L)) q = I q := fun q hq => frow q (by omega)
    have hwr : ∀ u, u < 4 → u ≠ w → (zu I3 158 w (nI L)) (91 + 2 * u) = I (91 + 2 * u) ∧ (zu I3 158 w (nI L)) (92 + 2 * u) = I (92 + 2 * u) := fun u hu ne => ⟨frow _ (by omega), frow _ (by omega)⟩
    have f157 : ∀ x, (x < 5 * w ∨ 5 * w + 5 ≤ x) → (zu I3 158 w (nI L)) 157 x = I 157 x := fun x hx => by
      rw [zu_row (by decide), d3 x hx, b2.1 157 (by decide) (by decide) (by decide), zu_row (by decide), fC 157 (by omega) (by omega), a3 157 (by decide) (by decide)]
    have f158 : I3 158 = I 158 := by
      rw [d2 158 (by decide), b2.1 158 (by decide) (by decide) (by decide), zu_row (by decide), fC 158 (by omega) (by omega), a3 158 (by decide) (by decide)]
    have hI3 : ∀ q, q ≠ 147 → q ≠ 156 → q ≠ 157 → q ≠ 158 → q ≠ 165 → (zu I3 158 w (nI L)) q = IC q := fun q q1 q2 q3 q4 q5 => by
      rw [zu_row q4, d2 q q3, b2.1 q q1 q2 q5, zu_row q1]
    refine zInv_mk hv.jok hv.jin (qGap_cg (fun p _ _ => hh p (by omega)) (fun p _ _ => hh p (by omega)) hv.gap) (qTm_cg (fun p _ _ => hh p (by omega)) (h7 8 (by omega)) (h7 9 (by omega)) (h7 10 (by omega)) hv.tm) (qDoi_cg (fun p _ _ => hh p (by omega)) (fun p _ _ => hh p (by omega)) (h7 6 (by omega)) hv.doi) (qKep_cg (fun p _ _ => hh p (by omega)) (fun p _ _ => hh p (by omega)) (fun j _ => by rw [hh 166 (by omega)]) (fun j _ => by rw [hh 167 (by omega)]) (fun j _ => by rw [hh 168 (by omega)]) (fun p _ _ => hh p (by omega)) hv.kep) (qTxt_cg (fun p _ _ => hh p (by omega)) (fun p _ _ => hh p (by omega)) (h7 12 (by omega)) hv.txt) (qRul_cg hv.jok (fun p _ _ => hh p (by omega)) (fun p _ _ => hh p (by omega)) (h7 15 (by omega)) hv.rul) (fun u hu => ?_) (qBar_cg (fun p _ _ => hh p (by omega)) (fun p _ _ => hh p (by omega)) (fun p _ _ => hh p (by omega)) (h7 25 (by omega)) hv.bar) (qLaw_cg (by rw [hh 39 (by omega)]) (h7 32 (by omega)) hv.law) (qStp_cg (h7 39 (by omega)) (fun p _ _ => hh p (by omega)) hv.stp)
    by_cases eu : u = w
    · subst eu
      refine ⟨L, hL1, s1, ?_, by rw [zu_at, if_pos rfl], fun k hk => ?_, fun i j hi hj => ?_⟩
      · rw [hI3 _ (by omega) (by omega) (by omega) (by omega) (by omega), ← hIC, zu_at, if_pos rfl]
        exact s2
      · rw [hI3 _ (by omega) (by omega) (by omega) (by omega) (by omega), ← hIC, zu_row (by omega), zcp_at (by omega), zu_row (by decide), d4 k hk]
        obtain ⟨k1, k2, k3⟩ := s4 k hk
        rw [k2, k3]
        exact ⟨rfl, zrg_of (Nat.zero_le _) (by omega) (by decide)⟩
      · rw [zu_row (by decide), d4 i hi, d4 j hj, (s4 i hi).2.2, (s4 j hj).2.2]
        intro e
        have h := (nI_eq (by have := (s4 i hi).1; omega) (by have := (s4 j hj).1; omega)).mp e
        rcases Nat.lt_trichotomy i j with q | q | q
        · exact absurd h (s5 i j q hj)
        · exact q
        · exact absurd h.symm (s5 j i q hi)
    · obtain ⟨m', g1, g2, g3, g4, g5, g6⟩ := hv.ord u hu
      obtain ⟨w1, w2⟩ := hwr u hu eu
      refine ⟨m', g1, g2, by rw [w1]; exact g3, by rw [zu_offk eu, f158]; exact g4, fun k hk => ?_, fun i j hi hj => ?_⟩
      · rw [w2, f157 _ (by omega)]
        exact g5 k hk
      · rw [f157 _ (by omega), f157 _ (by omega)]
        exact g6 i j hi hj
/-! the words of a bargain -/
theorem t_pw (J : zJ) {I0 : zM} {b : Nat} (hb : b < 8) : ∀ j k fuel x I, k + j = 6 → j < fuel → (∀ q, q ≠ 162 → I q = I0 q) → (∀ y, (y < 6 * b ∨ 6 * b + 6 ≤ y) → I 162 y = I0 162 y) → (∀ f, f < k → I 162 (6 * b + f) = I0 165 f) → ∃ z I', f_X12_putWords_4 J (nI b) fuel x (nI k) I = some (.inr (sPr (I0 165) j k x, z, I')) ∧ (∀ q, q ≠ 162 → I' q = I0 q) ∧ (∀ y, (y < 6 * b ∨ 6 * b + 6 ≤ y) → I' 162 y = I0 162 y) ∧ ∀ f, f < 6 → I' 162 (6 * b + f) = I0 165 f := by
  intro j
  induction j with
  | zero =>
    intro k fuel x I hk hf h1 h2 h3
    obtain ⟨n, rfl⟩ : ∃ n, fuel = n + 1 := ⟨fuel - 1, by omega⟩
    have e : k = 6 := by omega
    subst e
    refine ⟨nI 6, I, ?_, h1, h2, h3⟩
    unfold f_X12_putWords_4
    rw [if_pos (show (6 : Int32) ≤ nI 6 by decide)]
    rfl
  | succ j ih =>
    intro k fuel x I hk hf h1 h2 h3
    obtain ⟨n, rfl⟩ : ∃ n, fuel = n + 1 := ⟨fuel - 1, by omega⟩
    have h0 : ¬ (6 : Int32) ≤ nI k := nI_ge (b := 6) (by omega) (by decide)
    have z0 : zin (nI (k)) 6 = true := zin_nI (by omega) (by decide)
    have c0 : Int32.toNatClampNeg (nI (k)) = k := nI_clamp (by omega)
    have z1 : zin (nI (6 * b + k)) 48 = true := zin_nI (by omega) (by decide)
    have c1 : Int32.toNatClampNeg (nI (6 * b + k)) = 6 * b + k := nI_clamp (by omega)
    have e165 : I 165 = I0 165 := h1 165 (by decide)
    have st := fun X => ih (k + 1) n X (zu I 162 (6 * b + k) (I0 165 k)) (by omega) (by omega) (fun q hq => (zu_row hq).trans (h1 q hq)) (fun y hy => (zu_offk (by omega) I 162 _).trans (h2 y hy)) (fun f hf => by
      rw [zu_at]
      by_cases e : f = k
      · rw [if_pos (by omega), e]
      · rw [if_neg (by omega)]
        exact h3 f (by omega))
    have z165 : (zu I 162 (6 * b + k) (I0 165 k)) 165 = I0 165 := (zu_row (by decide)).trans e165
    by_cases a : I0 165 k ≤ 0
    · obtain ⟨z, I', e1, e2⟩ := st (x + 0)
      refine ⟨z, I', ?_, e2⟩
      have es : sPr (I0 165) (j + 1) k x = sPr (I0 165) j (k + 1) (x + 0) := congrArg (sPr (I0 165) j (k + 1)) (if_pos a)
      rw [es]
      unfold f_X12_putWords_4
      rw [if_neg h0, if_pos z0, q_6, nI_add, if_pos z1, if_pos z0, c1, c0, e165, z165, if_pos a, q_a1]
      exact e1
    · obtain ⟨z, I', e1, e2⟩ := st (x + 1)
      refine ⟨z, I', ?_, e2⟩
      have es : sPr (I0 165) (j + 1) k x = sPr (I0 165) j (k + 1) (x + 1) := congrArg (sPr (I0 165) j (k + 1)) (if_neg a)
      rw [es]
      unfold f_X12_putWords_4
      rw [if_neg h0, if_pos z0, q_6, nI_add, if_pos z1, if_pos z0, c1, c0, e165, z165, if_neg a, q_a1]
      exact e1
theorem t_putWords (J : zJ) {I0 : zM} {b : Nat} (hb : b < 8) : ∃ I', f_X12_putWords J (nI b) I0 = some (sPr (I0 165) 6 0 0, I') ∧ (∀ q, q ≠ 162 → q ≠ 163 → I' q = I0 q) ∧ (∀ y, (y < 6 * b ∨ 6 * b + 6 ≤ y) → I' 162 y = I0 162 y) ∧ (∀ f, f < 6 → I' 162 (6 * b + f) = I0 165 f) ∧ I' 163 b = I0 147 27 ∧ ∀ x, x ≠ b → I' 163 x = I0 163 x := by
  have z0 : zin (nI (b)) 8 = true := zin_nI (by omega) (by decide)
  have c0 : Int32.toNatClampNeg (nI (b)) = b := nI_clamp (by omega)
  obtain ⟨z, I1, e, f1, f2, f3⟩ := t_pw J hb 6 0 zF 0 I0 rfl (by unfold zF; omega) (fun _ _ => rfl) (fun _ _ => rfl) (fun f hf => absurd hf (by omega))
  have e' : f_X12_putWords_4 J (nI b) zF 0 0 I0 = _ := e
  refine ⟨zu I1 163 b (I0 147 27), ?_, fun q q1 q2 => (zu_row q2).trans (f1 q q1), fun y hy => by rw [zu_row (by decide)]; exact f2 y hy, fun f hf => by rw [zu_row (by decide)]; exact f3 f hf, by rw [zu_at, if_pos rfl], fun x hx => by rw [zu_offk hx, f1 163 (by decide)]⟩
  unfold f_X12_putWords
  rw [e', Option.bind_some]
  show (if zin (nI b) 8 = true then some (sPr (I0 165) 6 0 0, zu I1 163 (Int32.toNatClampNeg (nI b)) (I1 147 27)) else none) = _
  rw [if_pos z0, c0, f1 147 (by decide)]
theorem l_gc (J : zJ) (I : zM) : ∀ j k fuel x, k + j = 6 → j < fuel → f_X8_gapCount_13 J 37 38 6 fuel x (nI k) I = some (.inr (sPr (I 38) j k x, nI 6, I)) := by
  intro j
  induction j with
  | zero =>
    intro k fuel x hk hf
    obtain ⟨n, rfl⟩ : ∃ n, fuel = n + 1 := ⟨fuel - 1, by omega⟩
    have e : k = 6 := by omega
    subst e
    unfold f_X8_gapCount_13
    rw [if_pos (show (6 : Int32) ≤ nI 6 by decide)]
    rfl
  | succ j ih =>
    intro k fuel x hk hf
    obtain ⟨n, rfl⟩ : ∃ n, fuel = n + 1 := ⟨fuel - 1, by omega⟩
    have h0 : ¬ (6 : Int32) ≤ nI k := nI_ge (b := 6) (by omega) (by decide)
    have z0 : zin (nI (k)) 6 = true := zin_nI (by omega) (by decide)
    have c0 : Int32.toNatClampNeg (nI (k)) = k := nI_clamp (by omega)
    unfold f_X8_gapCount_13 sPr
    rw [if_neg h0, if_pos z0, c0, q_a1]
    by_cases a : I 38 k ≤ 0
    · rw [if_pos a, if_pos a]
      exact ih (k + 1) n _ (by omega) (by omega)
    · rw [if_neg a, if_neg a]
      exact ih (k + 1) n _ (by omega) (by omega)
theorem l_gapCount (J : zJ) (I : zM) : f_X8_gapCount J 37 I = some (sPr (I 38) 6 0 0, I) := by
  have r0 : zR 37 0 = 38 := by decide +kernel
  have k : f_X8_gapCount_13 J 37 38 6 zF 0 0 I = _ := l_gc J I 6 0 zF 0 rfl (by unfold zF; omega)
  unfold f_X8_gapCount
  rw [r0, k, Option.bind_some]
  rfl
/-- a bargain's place, its words newly laid -/
theorem qBa_new {I I' : zM} {b a c t : Nat} (ha : a < 5) (hc : c < 5) (ht : t < 3) (h : I' (99 + 6 * b) 0 = nI a ∧ I' 159 b = nI a ∧ I' (99 + 6 * b) 1 = nI c ∧ I' 160 b = nI c ∧ I' (99 + 6 * b) 2 = nI t ∧ I' 161 b = nI t) (hw : ∀ g, g < 6 → I' (101 + 6 * b) g = I' 162 (6 * b + g) ∧ zrg (I' 162 (6 * b + g)) 0 5) (ho : I' (100 + 6 * b) 1 = I' 163 b ∧ ∃ c, c < 8 ∧ I' 163 b = nI (2 * c)) (h1 : I' (103 + 6 * b) = I (103 + 6 * b)) (h2 : I' (104 + 6 * b) = I (104 + 6 * b)) (h3 : I' 164 = I 164) (q : qBa I b) : qBa I' b := by
  obtain ⟨e1, e2, e3, e4, e5, e6⟩ := h
  obtain ⟨-, -, -, -, -, q6, q7⟩ := q
  unfold qBa
  rw [h1, h2, h3, e1, e2, e3, e4, e5, e6]
  exact ⟨⟨rfl, zrg_of (Nat.zero_le _) (by omega) (by decide)⟩, ⟨rfl, zrg_of (Nat.zero_le _) (by omega) (by decide)⟩, ⟨rfl, zrg_of (Nat.zero_le _) (by omega) (by decide)⟩, hw, ho, q6, q7⟩
theorem l_cp8 (J : zJ) {I : zM} {b : Nat} (hb : b < 8) : f_X8_copy J (100 + 6 * b) 37 I = some (zu (zcp I 38 (101 + 6 * b) 6) (100 + 6 * b) 1 (I 37 1)) := by
  have r0 : zR 37 0 = 38 := by decide +kernel
  unfold f_X8_copy
  rw [r0, zr_sa0 b hb, zcp_row (show 37 ≠ 101 + 6 * b by omega)]
theorem q_reword : zS_reword zInv := by
  intro n I J v1 hn hv
  obtain ⟨m, hr⟩ := rP_of hv.rul
  obtain ⟨mb, hm, g2, g25, gb⟩ := hv.bar
  by_cases h1 : zlt v1 mb
  case neg =>
    refine ⟨-1, I, zu I 147 0 0, ?_, ?_, zInv_thrown hv⟩
    · unfold f_X11_reword
      rw [l_isBargain J v1 I g2 (by omega), ← zb_f h1, Option.bind_some, if_pos rfl]
    · unfold f_X12_reword
      rw [l_noBargain J v1 (zu I 147 0 0) g25 (by omega), ← zb_t (P := ¬ zlt v1 mb) h1, Option.bind_some, if_neg i10]
  obtain ⟨b, hbm, rfl⟩ := zlt_nI h1 (by omega)
  have hb : b < 8 := by omega
  obtain ⟨r, I1, a1, a3, tw⟩ := g_words hv
  by_cases c : r = -9
  case neg =>
    obtain ⟨I2, b1, b2, -⟩ := tw I1 (a3 147 (by decide) (by decide)) (a3 154 (by decide) (by decide))
    refine ⟨-3, I1, I2, ?_, ?_, zInv_rd hv hr (fun q _ _ _ q1 q2 => a3 q q1 q2) b2⟩
    · unfold f_X11_reword
      rw [l_isBargain J (nI b) I g2 (by omega), ← zb_t h1, Option.bind_some, if_neg i10, a1, Option.bind_some, if_neg c]
    · unfold f_X12_reword
      rw [l_noBargain J (nI b) (zu I1 147 0 0) (n := mb) (by rw [zu_offk (by decide), a3 147 (by decide) (by decide)]; exact g25) (by omega), ← zb_f (P := ¬ zlt (nI b) mb) (fun q => q h1), Option.bind_some, if_pos rfl, b1, Option.bind_some, if_neg c]
  have z0 : zin (nI (b)) 8 = true := zin_nI (by omega) (by decide)
  have c0 : Int32.toNatClampNeg (nI (b)) = b := nI_clamp (by omega)
  have cp := l_cp8 J (I := I1) hb
  have fC : ∀ q, q ≠ 100 + 6 * b → q ≠ 101 + 6 * b → (zu (zcp I1 38 (101 + 6 * b) 6) (100 + 6 * b) 1 (I1 37 1)) q = I1 q := fun q q1 q2 => (zu_row q1).trans (zcp_row q2)
  generalize hIC : zu (zcp I1 38 (101 + 6 * b) 6) (100 + 6 * b) 1 (I1 37 1) = IC at cp fC
  obtain ⟨I2, b1, b2, b3⟩ := tw IC ((fC 147 (by omega) (by omega)).trans (a3 147 (by decide) (by decide))) ((fC 154 (by omega) (by omega)).trans (a3 154 (by decide) (by decide)))
  obtain ⟨w1, w2, cc, w3, w4⟩ := b3 c
  obtain ⟨I3, d1, d2, d3, d4, d5, d6⟩ := t_putWords J (I0 := I2) hb
  have gc := l_gapCount J IC
  have es : sPr (IC 38) 6 0 0 = sPr (I2 165) 6 0 0 := sPr_cg (fun k hk => by rw [fC 38 (by omega) (by omega)]; exact (w1 k hk).1) 6 0 0 rfl
  have frow : ∀ q, q ≠ 37 ∧ q ≠ 38 ∧ q ≠ 100 + 6 * b ∧ q ≠ 101 + 6 * b ∧ q ≠ 147 ∧ q ≠ 156 ∧ q ≠ 162 ∧ q ≠ 163 ∧ q ≠ 165 → I3 q = I q := fun q hq => by
    rw [d2 q (by omega) (by omega), b2.1 q (by omega) (by omega) (by omega), zu_row (by omega), fC q (by omega) (by omega), a3 q (by omega) (by omega)]
  have hI3 : ∀ q, q ≠ 147 → q ≠ 156 → q ≠ 162 → q ≠ 163 → q ≠ 165 → I3 q = IC q := fun q q1 q2 q3 q4 q5 => by
    rw [d2 q q3 q4, b2.1 q q1 q2 q5, zu_row q1]
  have h7 : ∀ k, k ≠ 0 ∧ k ≠ 13 ∧ k ≠ 27 → I3 147 k = I 147 k := fun k hk => by
    rw [d2 147 (by decide) (by decide), b2.2 k hk.2.1 hk.2.2, zu_offk hk.1, fC 147 (by omega) (by omega), a3 147 (by decide) (by decide)]
  refine ⟨sPr (I2 165) 6 0 0, IC, I3, ?_, ?_, ?_⟩
  · unfold f_X11_reword
    rw [l_isBargain J (nI b) I g2 (by omega), ← zb_t h1, Option.bind_some, if_neg i10, a1, Option.bind_some, if_pos c, if_pos z0, c0, zr_34 b hb, zr_ba3 b hb, cp, Option.bind_some, gc, es, Option.bind_some]
  · unfold f_X12_reword
    rw [l_noBargain J (nI b) (zu IC 147 0 0) (n := mb) (by rw [zu_offk (by decide), fC 147 (by omega) (by omega), a3 147 (by decide) (by decide)]; exact g25) (by omega), ← zb_f (P := ¬ zlt (nI b) mb) (fun q => q h1), Option.bind_some, if_pos rfl, b1, Option.bind_some, if_pos c, d1, Option.bind_some]
  · have hh : ∀ q, (q < 37 ∨ (38 < q ∧ q < 99)) ∨ (146 < q ∧ q ≠ 147 ∧ q ≠ 156 ∧ q ≠ 162 ∧ q ≠ 163 ∧ q ≠ 165) → I3 q = I q := fun q hq => frow q (by omega)
    refine zInv_mk hv.jok hv.jin (qGap_cg (fun p _ _ => hh p (by omega)) (fun p _ _ => hh p (by omega)) hv.gap) (qTm_cg (fun p _ _ => hh p (by omega)) (h7 8 (by omega)) (h7 9 (by omega)) (h7 10 (by omega)) hv.tm) (qDoi_cg (fun p _ _ => hh p (by omega)) (fun p _ _ => hh p (by omega)) (h7 6 (by omega)) hv.doi) (qKep_cg (fun p _ _ => hh p (by omega)) (fun p _ _ => hh p (by omega)) (fun j _ => by rw [hh 166 (by omega)]) (fun j _ => by rw [hh 167 (by omega)]) (fun j _ => by rw [hh 168 (by omega)]) (fun p _ _ => hh p (by omega)) hv.kep) (qTxt_cg (fun p _ _ => hh p (by omega)) (fun p _ _ => hh p (by omega)) (h7 12 (by omega)) hv.txt) (qRul_cg hv.jok (fun p _ _ => hh p (by omega)) (fun p _ _ => hh p (by omega)) (h7 15 (by omega)) hv.rul) (qOrd_cg (fun p _ _ => hh p (by omega)) (fun j _ => by rw [hh 157 (by omega)]) (fun j _ => by rw [hh 158 (by omega)]) hv.ord) ⟨mb, hm, by rw [hh 0 (by omega)]; exact g2, by rw [h7 25 (by omega)]; exact g25, fun i hi => ?_⟩ (qLaw_cg (by rw [hh 39 (by omega)]) (h7 32 (by omega)) hv.law) (qStp_cg (h7 39 (by omega)) (fun p _ _ => hh p (by omega)) hv.stp)
    by_cases e : i = b
    · subst e
      obtain ⟨⟨q1, q2⟩, ⟨q3, q4⟩, ⟨q5, q6⟩, -⟩ := gb i hi
      obtain ⟨a', -, ha, ea⟩ := zrg_nI q2 (by decide)
      obtain ⟨c', -, hc, ec⟩ := zrg_nI q4 (by decide)
      obtain ⟨t', -, ht', et⟩ := zrg_nI q6 (by decide)
      have e99 := frow (99 + 6 * i) (by omega)
      refine qBa_new (I := I) (show a' < 5 by omega) (show c' < 5 by omega) (show t' < 3 by omega) ?_ (fun g hg => ?_) ⟨?_, cc, w3, ?_⟩ (frow _ (by omega)) (frow _ (by omega)) (frow _ (by omega)) (gb i hi)
      · rw [e99, frow 159 (by omega), frow 160 (by omega), frow 161 (by omega)]
        exact ⟨q1.trans ea, ea, q3.trans ec, ec, q5.trans et, et⟩
      · rw [hI3 _ (by omega) (by omega) (by omega) (by omega) (by omega), ← hIC, zu_row (by omega), zcp_at (by omega), d4 g hg]
        exact w1 g hg
      · rw [hI3 _ (by omega) (by omega) (by omega) (by omega) (by omega), ← hIC, zu_at, if_pos rfl, d5]
        exact w2
      · rw [d5]
        exact w4
    · exact qBa_cg (fun p _ _ => frow p (by omega)) (by rw [frow 159 (by omega)]) (by rw [frow 160 (by omega)]) (by rw [frow 161 (by omega)]) (fun g hg => by rw [d3 _ (by omega), b2.1 162 (by decide) (by decide) (by decide), zu_row (by decide), fC 162 (by omega) (by omega), a3 162 (by decide) (by decide)]) (by rw [d6 i e, b2.1 163 (by decide) (by decide) (by decide), zu_row (by decide), fC 163 (by omega) (by omega), a3 163 (by decide) (by decide)]) (fun g _ => by rw [frow 164 (by omega)]) (gb i hi)
theorem q_bargain : zS_bargain zInv := by
  intro n I J v1 v2 v3 hn hv
  obtain ⟨m, hr⟩ := rP_of hv.rul
  obtain ⟨mb, hm, g2, g25, gb⟩ := hv.bar
  by_cases h1 : zrg v1 0 4
  case neg =>
    have e1 : f_X11_bargain J v1 v2 v3 I = some (-1, I) := by
      simp only [f_X11_bargain, l_isPerson, Option.bind_some, zb_eq0, zb_eq1, not_true_eq_false, not_false_eq_true, Classical.not_not, ↓reduceIte, h1]
    have e2 : f_X12_bargain J v1 v2 v3 I = some (-1, zu I 147 0 0) := by
      simp only [f_X12_bargain, l_noPerson, Option.bind_some, zb_eq0, zb_eq1, not_true_eq_false, not_false_eq_true, Classical.not_not, ↓reduceIte, h1]
    exact ⟨_, _, _, e1, e2, zInv_thrown hv⟩
  by_cases h2 : zrg v2 0 4
  case neg =>
    have e1 : f_X11_bargain J v1 v2 v3 I = some (-1, I) := by
      simp only [f_X11_bargain, l_isPerson, Option.bind_some, zb_eq0, zb_eq1, not_true_eq_false, not_false_eq_true, Classical.not_not, ↓reduceIte, h1, h2]
    have e2 : f_X12_bargain J v1 v2 v3 I = some (-1, zu I 147 0 0) := by
      simp only [f_X12_bargain, l_noPerson, Option.bind_some, zb_eq0, zb_eq1, not_true_eq_false, not_false_eq_true, Classical.not_not, ↓reduceIte, h1, h2]
    exact ⟨_, _, _, e1, e2, zInv_thrown hv⟩
  by_cases h3 : zrg v3 0 2
  case neg =>
    have e1 : f_X11_bargain J v1 v2 v3 I = some (-1, I) := by
      simp only [f_X11_bargain, l_isPerson, l_isTrade, Option.bind_some, zb_eq0, zb_eq1, not_true_eq_false, not_false_eq_true, Classical.not_not, ↓reduceIte, h1, h2, h3]
    have e2 : f_X12_bargain J v1 v2 v3 I = some (-1, zu I 147 0 0) := by
      simp only [f_X12_bargain, l_noPerson, l_noTrade, Option.bind_some, zb_eq0, zb_eq1, not_true_eq_false, not_false_eq_true, Classical.not_not, ↓reduceIte, h1, h2, h3]
    exact ⟨_, _, _, e1, e2, zInv_thrown hv⟩
  by_cases he : v1 = v2
  case pos =>
    have e1 : f_X11_bargain J v1 v2 v3 I = some (-2, I) := by
      simp only [f_X11_bargain, l_isPerson, l_isTrade, Option.bind_some, zb_eq0, zb_eq1, not_true_eq_false, not_false_eq_true, Classical.not_not, ↓reduceIte, h1, h2, h3, eq_true he]
    have e2 : f_X12_bargain J v1 v2 v3 I = some (-2, zu I 147 0 0) := by
      simp only [f_X12_bargain, l_noPerson, l_noTrade, Option.bind_some, zb_eq0, zb_eq1, not_true_eq_false, not_false_eq_true, Classical.not_not, ↓reduceIte, h1, h2, h3, eq_true he]
    exact ⟨_, _, _, e1, e2, zInv_thrown hv⟩
  obtain ⟨r, I1, a1, a3, tw⟩ := g_words hv
  have st1 : ∀ R, (if r = -9 then (if I1 0 9 < 8 then (if zin (I1 0 9) 8 = true then ((f_X0_strike J (zR 34 (Int32.toNatClampNeg (I1 0 9))) v1 v2 v3 37 I1).bind fun q16 => some ((((zu q16 0 9 ((q16 0 9) + (1 : Int32))) 0 9) - (1 : Int32), zu q16 0 9 ((q16 0 9) + (1 : Int32))))) else none) else some (((-4), I1))) else some (((-3), I1))) = R → f_X11_bargain J v1 v2 v3 I = R := fun R hR => by
    rw [← hR]
    simp only [f_X11_bargain, l_isPerson, l_isTrade, Option.bind_some, zb_eq0, zb_eq1, not_true_eq_false, not_false_eq_true, Classical.not_not, ↓reduceIte, h1, h2, h3, he, a1]
  have st2 : ∀ IC R, ((f_X12_readWords J (zu IC 147 0 0)).bind fun q11 => (if q11.1 = (-9) then (if q11.2 147 25 = 8 then some (((-4), q11.2)) else (if zin (q11.2 147 25) 8 = true then (if zin ((zu q11.2 159 (Int32.toNatClampNeg (q11.2 147 25)) v1) 147 25) 8 = true then (if zin ((zu (zu q11.2 159 (Int32.toNatClampNeg (q11.2 147 25)) v1) 160 (Int32.toNatClampNeg ((zu q11.2 159 (Int32.toNatClampNeg (q11.2 147 25)) v1) 147 25)) v2) 147 25) 8 = true then ((f_X12_putWords J ((zu (zu (zu q11.2 159 (Int32.toNatClampNeg (q11.2 147 25)) v1) 160 (Int32.toNatClampNeg ((zu q11.2 159 (Int32.toNatClampNeg (q11.2 147 25)) v1) 147 25)) v2) 161 (Int32.toNatClampNeg ((zu (zu q11.2 159 (Int32.toNatClampNeg (q11.2 147 25)) v1) 160 (Int32.toNatClampNeg ((zu q11.2 159 (Int32.toNatClampNeg (q11.2 147 25)) v1) 147 25)) v2) 147 25)) v3) 147 25) (zu (zu (zu q11.2 159 (Int32.toNatClampNeg (q11.2 147 25)) v1) 160 (Int32.toNatClampNeg ((zu q11.2 159 (Int32.toNatClampNeg (q11.2 147 25)) v1) 147 25)) v2) 161 (Int32.toNatClampNeg ((zu (zu q11.2 159 (Int32.toNatClampNeg (q11.2 147 25)) v1) 160 (Int32.toNatClampNeg ((zu q11.2 159 (Int32.toNatClampNeg (q11.2 147 25)) v1) 147 25)) v2) 147 25)) v3)).bind fun q18 => some ((((zu q18.2 147 25 ((q18.2 147 25) + (1 : Int32))) 147 25) - (1 : Int32), zu q18.2 147 25 ((q18.2 147 25) + (1 : Int32))))) else none) else none) else none)) else some (((-3), q11.2)))) = R → f_X12_bargain J v1 v2 v3 IC = R := fun IC R hR => by
    rw [← hR]
    simp only [f_X12_bargain, l_noPerson, l_noTrade, Option.bind_some, zb_eq0, zb_eq1, not_true_eq_false, not_false_eq_true, Classical.not_not, ↓reduceIte, h1, h2, h3, he]
  have e09 : I1 0 9 = nI mb := by rw [a3 0 (by decide) (by decide)]; exact g2
  by_cases c : r = -9
  case neg =>
    obtain ⟨I2, b1, b2, -⟩ := tw I1 (a3 147 (by decide) (by decide)) (a3 154 (by decide) (by decide))
    exact ⟨-3, I1, I2, st1 _ (if_neg c), st2 _ _ (by rw [b1, Option.bind_some, if_neg c]), zInv_rd hv hr (fun q _ _ _ q1 q2 => a3 q q1 q2) b2⟩
  by_cases h8 : mb = 8
  · obtain ⟨I2, b1, b2, -⟩ := tw I1 (a3 147 (by decide) (by decide)) (a3 154 (by decide) (by decide))
    have e25 : I2 147 25 = nI mb := (fr_147 (a3 147 (by decide) (by decide)) b2 (by decide) (by decide) (by decide)).trans g25
    exact ⟨-4, I1, I2, st1 _ (by rw [if_pos c, e09, if_neg (show ¬ nI mb < 8 from nI_nlt (b := 8) (by omega) (by omega))]), st2 _ _ (by
      have eq8 : nI mb = 8 := by rw [h8]; rfl
      rw [b1, Option.bind_some, if_pos c]
      simp only [e25, eq8, ↓reduceIte]), zInv_rd hv hr (fun q _ _ _ q1 q2 => a3 q q1 q2) b2⟩
  have hb : mb < 8 := by omega
  have z0 : zin (nI (mb)) 8 = true := zin_nI (by omega) (by decide)
  have c0 : Int32.toNatClampNeg (nI (mb)) = mb := nI_clamp (by omega)
  obtain ⟨a, -, ha, rfl⟩ := zrg_nI h1 (by decide)
  obtain ⟨c', -, hc', rfl⟩ := zrg_nI h2 (by decide)
  obtain ⟨t, -, ht, rfl⟩ := zrg_nI h3 (by decide)
  -- the class strikes it
  have cp := l_cp8 J (I := zu (zu (zu I1 (99 + 6 * mb) 0 (nI a)) (99 + 6 * mb) 1 (nI c')) (99 + 6 * mb) 2 (nI t)) hb
  have f37 : (zu (zu (zu I1 (99 + 6 * mb) 0 (nI a)) (99 + 6 * mb) 1 (nI c')) (99 + 6 * mb) 2 (nI t)) 37 = I1 37 := (zu_row (by omega)).trans ((zu_row (by omega)).trans (zu_row (by omega)))
  rw [f37] at cp
  have sk : f_X0_strike J (99 + 6 * mb) (nI a) (nI c') (nI t) 37 I1 = some (zu (zcp (zu (zu (zu I1 (99 + 6 * mb) 0 (nI a)) (99 + 6 * mb) 1 (nI c')) (99 + 6 * mb) 2 (nI t)) 38 (101 + 6 * mb) 6) (100 + 6 * mb) 1 (I1 37 1)) := by
    unfold f_X0_strike
    rw [zr_ba3 mb hb, cp, Option.bind_some]
  have fD : ∀ q, q ≠ 99 + 6 * mb → q ≠ 100 + 6 * mb → q ≠ 101 + 6 * mb → (zu (zcp (zu (zu (zu I1 (99 + 6 * mb) 0 (nI a)) (99 + 6 * mb) 1 (nI c')) (99 + 6 * mb) 2 (nI t)) 38 (101 + 6 * mb) 6) (100 + 6 * mb) 1 (I1 37 1)) q = I1 q := fun q q0 q1 q2 => (zu_row q1).trans ((zcp_row q2).trans ((zu_row q0).trans ((zu_row q0).trans (zu_row q0))))
  have d99 : ∀ k, k < 3 → (zu (zcp (zu (zu (zu I1 (99 + 6 * mb) 0 (nI a)) (99 + 6 * mb) 1 (nI c')) (99 + 6 * mb) 2 (nI t)) 38 (101 + 6 * mb) 6) (100 + 6 * mb) 1 (I1 37 1)) (99 + 6 * mb) k = if k = 2 then nI t else if k = 1 then nI c' else nI a := fun k hk => by
    rw [zu_row (by omega), zcp_row (by omega), zu_at, zu_at, zu_at]
    match k, hk with
    | 0, _ => rfl
    | 1, _ => rfl
    | 2, _ => rfl
    | k + 3, hk => exact absurd hk (by omega)
  have d100 : (zu (zcp (zu (zu (zu I1 (99 + 6 * mb) 0 (nI a)) (99 + 6 * mb) 1 (nI c')) (99 + 6 * mb) 2 (nI t)) 38 (101 + 6 * mb) 6) (100 + 6 * mb) 1 (I1 37 1)) (100 + 6 * mb) 1 = I1 37 1 := by rw [zu_at, if_pos rfl]
  have d101 : ∀ g, g < 6 → (zu (zcp (zu (zu (zu I1 (99 + 6 * mb) 0 (nI a)) (99 + 6 * mb) 1 (nI c')) (99 + 6 * mb) 2 (nI t)) 38 (101 + 6 * mb) 6) (100 + 6 * mb) 1 (I1 37 1)) (101 + 6 * mb) g = I1 38 g := fun g hg => by
    rw [zu_row (by omega), zcp_at hg, zu_row (by omega), zu_row (by omega), zu_row (by omega)]
  generalize (zu (zcp (zu (zu (zu I1 (99 + 6 * mb) 0 (nI a)) (99 + 6 * mb) 1 (nI c')) (99 + 6 * mb) 2 (nI t)) 38 (101 + 6 * mb) 6) (100 + 6 * mb) 1 (I1 37 1)) = ID at sk fD d99 d100 d101
  have k09 : ID 0 9 = nI mb := by rw [fD 0 (by omega) (by omega) (by omega)]; exact e09
  have fC : ∀ q, q ≠ 0 → q ≠ 99 + 6 * mb → q ≠ 100 + 6 * mb → q ≠ 101 + 6 * mb → (zu ID 0 9 (nI (mb + 1))) q = I1 q := fun q q3 q0 q1 q2 => (zu_row q3).trans (fD q q0 q1 q2)
  obtain ⟨I2, b1, b2, b3⟩ := tw (zu ID 0 9 (nI (mb + 1))) ((fC 147 (by decide) (by omega) (by omega) (by omega)).trans (a3 147 (by decide) (by decide))) ((fC 154 (by decide) (by omega) (by omega) (by omega)).trans (a3 154 (by decide) (by decide)))
  obtain ⟨w1, w2, cc, w3, w4⟩ := b3 c
  have e25 : I2 147 25 = nI mb := by
    rw [b2.2 25 (by decide) (by decide), zu_offk (by decide), fC 147 (by decide) (by omega) (by omega) (by omega), a3 147 (by decide) (by decide)]
    exact g25
  have n8 : ¬ nI mb = 8 := fun e => h8 ((nI_eq (b := 8) (by omega) (by decide)).mp e)
  have x1 : (zu I2 159 mb (nI a)) 147 25 = nI mb := by rw [zu_row (by decide)]; exact e25
  have x2 : (zu (zu I2 159 mb (nI a)) 160 mb (nI c')) 147 25 = nI mb := by rw [zu_row (by decide)]; exact x1
  have x3 : (zu (zu (zu I2 159 mb (nI a)) 160 mb (nI c')) 161 mb (nI t)) 147 25 = nI mb := by rw [zu_row (by decide)]; exact x2
  obtain ⟨I3, d1, d2, d3, d4, d5, d6⟩ := t_putWords J (I0 := zu (zu (zu I2 159 mb (nI a)) 160 mb (nI c')) 161 mb (nI t)) hb
  have y25 : I3 147 25 = nI mb := by rw [d2 147 (by decide) (by decide)]; exact x3
  have frow : ∀ q, q ≠ 0 ∧ q ≠ 37 ∧ q ≠ 38 ∧ q ≠ 99 + 6 * mb ∧ q ≠ 100 + 6 * mb ∧ q ≠ 101 + 6 * mb ∧ q ≠ 147 ∧ q ≠ 156 ∧ q ≠ 159 ∧ q ≠ 160 ∧ q ≠ 161 ∧ q ≠ 162 ∧ q ≠ 163 ∧ q ≠ 165 → (zu I3 147 25 (nI (mb + 1))) q = I q := fun q hq => by
    rw [zu_row (by omega), d2 q (by omega) (by omega), zu_row (by omega), zu_row (by omega), zu_row (by omega), b2.1 q (by omega) (by omega) (by omega), zu_row (by omega), fC q (by omega) (by omega) (by omega) (by omega), a3 q (by omega) (by omega)]
  have hID : ∀ q, q ≠ 0 → q ≠ 147 → q ≠ 156 → q ≠ 159 → q ≠ 160 → q ≠ 161 → q ≠ 162 → q ≠ 163 → q ≠ 165 → (zu I3 147 25 (nI (mb + 1))) q = ID q := fun q q0 q1 q2 q3 q4 q5 q6 q7 q8 => by
    rw [zu_row q1, d2 q q6 q7, zu_row q5, zu_row q4, zu_row q3, b2.1 q q1 q2 q8, zu_row q1, zu_row q0]
  have h7 : ∀ k, k ≠ 0 ∧ k ≠ 13 ∧ k ≠ 25 ∧ k ≠ 27 → (zu I3 147 25 (nI (mb + 1))) 147 k = I 147 k := fun k hk => by
    rw [zu_offk hk.2.2.1, d2 147 (by decide) (by decide), zu_row (by decide), zu_row (by decide), zu_row (by decide), b2.2 k hk.2.1 hk.2.2.2, zu_offk hk.1, fC 147 (by decide) (by omega) (by omega) (by omega), a3 147 (by decide) (by decide)]
  have base : ∀ q, q ≠ 0 → q ≠ 37 → q ≠ 38 → 146 < q → q ≠ 147 → q ≠ 156 → q ≠ 165 → I2 q = I q := fun q q1 q2 q3 q4 q5 q6 q7 => by
    rw [b2.1 q q5 q6 q7, zu_row q5, fC q q1 (by omega) (by omega) (by omega), a3 q q2 q3]
  refine ⟨nI mb, zu ID 0 9 (nI (mb + 1)), zu I3 147 25 (nI (mb + 1)), st1 _ ?_, st2 _ _ ?_, ?_⟩
  · rw [if_pos c, e09, if_pos (show nI mb < 8 from nI_lt (b := 8) hb (by decide)), if_pos z0, c0, zr_34 mb hb, sk, Option.bind_some, k09, q_a1, zu_at, if_pos rfl, nI_pred]
  · rw [b1, Option.bind_some, if_pos c]
    show (if I2 147 25 = 8 then _ else _) = _
    simp only [e25, n8, z0, c0, x1, x2, x3, d1, Option.bind_some, y25, q_a1, ↓reduceIte]
    rw [zu_at, if_pos rfl, nI_pred]
  · have hh : ∀ q, ((0 < q ∧ q < 37) ∨ (38 < q ∧ q < 99)) ∨ (146 < q ∧ q ≠ 147 ∧ q ≠ 156 ∧ q ≠ 159 ∧ q ≠ 160 ∧ q ≠ 161 ∧ q ≠ 162 ∧ q ≠ 163 ∧ q ≠ 165) → (zu I3 147 25 (nI (mb + 1))) q = I q := fun q hq => frow q (by omega)
    refine zInv_mk hv.jok hv.jin (qGap_cg (fun p _ _ => hh p (by omega)) (fun p _ _ => hh p (by omega)) hv.gap) (qTm_cg (fun p _ _ => hh p (by omega)) (h7 8 (by omega)) (h7 9 (by omega)) (h7 10 (by omega)) hv.tm) (qDoi_cg (fun p _ _ => hh p (by omega)) (fun p _ _ => hh p (by omega)) (h7 6 (by omega)) hv.doi) (qKep_cg (fun p _ _ => hh p (by omega)) (fun p _ _ => hh p (by omega)) (fun j _ => by rw [hh 166 (by omega)]) (fun j _ => by rw [hh 167 (by omega)]) (fun j _ => by rw [hh 168 (by omega)]) (fun p _ _ => hh p (by omega)) hv.kep) (qTxt_cg (fun p _ _ => hh p (by omega)) (fun p _ _ => hh p (by omega)) (h7 12 (by omega)) hv.txt) (qRul_cg hv.jok (fun p _ _ => hh p (by omega)) (fun p _ _ => hh p (by omega)) (h7 15 (by omega)) hv.rul) (qOrd_cg (fun p _ _ => hh p (by omega)) (fun j _ => by rw [hh 157 (by omega)]) (fun j _ => by rw [hh 158 (by omega)]) hv.ord) ⟨mb + 1, by omega, ?_, by rw [zu_at, if_pos rfl], fun i hi => ?_⟩ (qLaw_cg (by rw [hh 39 (by omega)]) (h7 32 (by omega)) hv.law) (qStp_cg (h7 39 (by omega)) (fun p _ _ => hh p (by omega)) hv.stp)
    · rw [zu_row (by decide), d2 0 (by decide) (by decide), zu_row (by decide), zu_row (by decide), zu_row (by decide), b2.1 0 (by decide) (by decide) (by decide), zu_row (by decide), zu_at, if_pos rfl]
    · have r162 : ∀ y, I3 162 y = I3 162 y := fun _ => rfl
      by_cases e : i = mb
      · subst e
        refine qBa_new (I := I) (show a < 5 by omega) (show c' < 5 by omega) (show t < 3 by omega) ?_ (fun g hg => ?_) ⟨?_, cc, w3, ?_⟩ (frow _ (by omega)) (frow _ (by omega)) (frow _ (by omega)) (gb i hi)
        · rw [hID _ (by omega) (by omega) (by omega) (by omega) (by omega) (by omega) (by omega) (by omega) (by omega), d99 0 (by decide), d99 1 (by decide), d99 2 (by decide), zu_row (show 159 ≠ 147 by decide), zu_row (show 160 ≠ 147 by decide), zu_row (show 161 ≠ 147 by decide), d2 159 (by decide) (by decide), d2 160 (by decide) (by decide), d2 161 (by decide) (by decide), zu_row (show 159 ≠ 161 by decide), zu_row (show 159 ≠ 160 by decide), zu_at, if_pos rfl, zu_row (show 160 ≠ 161 by decide), zu_at, if_pos rfl, zu_at, if_pos rfl]
          exact ⟨rfl, rfl, rfl, rfl, rfl, if_pos rfl⟩
        · rw [hID _ (by omega) (by omega) (by omega) (by omega) (by omega) (by omega) (by omega) (by omega) (by omega), d101 g hg, zu_row (show 162 ≠ 147 by decide), d4 g hg, zu_row (show 165 ≠ 161 by decide), zu_row (show 165 ≠ 160 by decide), zu_row (show 165 ≠ 159 by decide)]
          exact w1 g hg
        · rw [hID _ (by omega) (by omega) (by omega) (by omega) (by omega) (by omega) (by omega) (by omega) (by omega), d100, zu_row (show 163 ≠ 147 by decide), d5, zu_row (show 147 ≠ 161 by decide), zu_row (show 147 ≠ 160 by decide), zu_row (show 147 ≠ 159 by decide)]
          exact w2
        · rw [zu_row (show 163 ≠ 147 by decide), d5, zu_row (show 147 ≠ 161 by decide), zu_row (show 147 ≠ 160 by decide), zu_row (show 147 ≠ 159 by decide)]
          exact w4
      · refine qBa_cg (fun p _ _ => frow p (by omega)) ?_ ?_ ?_ (fun g hg => ?_) ?_ (fun g _ => by rw [frow 164 (by omega)]) (gb i hi)
        · rw [zu_row (by decide), d2 159 (by decide) (by decide), zu_row (by decide), zu_row (by decide), zu_offk e, base 159 (by decide) (by decide) (by decide) (by decide) (by decide) (by decide) (by decide)]
        · rw [zu_row (by decide), d2 160 (by decide) (by decide), zu_row (by decide), zu_offk e, zu_row (by decide), base 160 (by decide) (by decide) (by decide) (by decide) (by decide) (by decide) (by decide)]
        · rw [zu_row (by decide), d2 161 (by decide) (by decide), zu_offk e, zu_row (by decide), zu_row (by decide), base 161 (by decide) (by decide) (by decide) (by decide) (by decide) (by decide) (by decide)]
        · rw [zu_row (by decide), d3 _ (by omega), zu_row (by decide), zu_row (by decide), zu_row (by decide), base 162 (by decide) (by decide) (by decide) (by decide) (by decide) (by decide) (by decide)]
        · rw [zu_row (by decide), d6 i e, zu_row (by decide), zu_row (by decide), zu_row (by decide), base 163 (by decide) (by decide) (by decide) (by decide) (by decide) (by decide) (by decide)]
