theorem t_an (J : zJ) {I : zM} {d : Nat → Nat} (h : ∀ g, g < 6 → I 175 g = nI (d g)) : ∀ j g fuel, g + j = 6 → j < fuel → f_X12_answerNumber_4 J fuel (nI (pf d g)) (nI g) I = some (.inr (nI (undig d), nI 6, I)) := by
  intro j
  induction j with
  | zero =>
    intro g fuel hk hf
    obtain ⟨n, rfl⟩ : ∃ n, fuel = n + 1 := ⟨fuel - 1, by omega⟩
    have e : g = 6 := by omega
    subst e
    unfold f_X12_answerNumber_4
    rw [if_pos (show (6 : Int32) ≤ nI 6 by decide), pf_6]
  | succ j ih =>
    intro g fuel hk hf
    obtain ⟨n, rfl⟩ : ∃ n, fuel = n + 1 := ⟨fuel - 1, by omega⟩
    have h0 : ¬ (6 : Int32) ≤ nI g := nI_ge (b := 6) (by omega) (by decide)
    have z0 : zin (nI (g)) 6 = true := zin_nI (by omega) (by decide)
    have c0 : Int32.toNatClampNeg (nI (g)) = g := nI_clamp (by omega)
    have st := ih (g + 1) n (by omega) (by omega)
    have pe : nI (6 * pf d g + d g) = nI (pf d (g + 1)) := by
      show _ = nI (pf d g * 6 + d g)
      rw [Nat.mul_comm]
    unfold f_X12_answerNumber_4
    rw [if_neg h0, if_pos z0, c0, h g (by omega), q_6, nI_add, q_a1, pe]
    exact st
theorem t_answerNumber (J : zJ) {I : zM} {A : Nat} (hA : A < 46656) (h : ∀ g, g < 6 → I 175 g = nI (dig A g)) : f_X12_answerNumber J I = some (nI A, I) := by
  have k : f_X12_answerNumber_4 J zF 0 0 I = _ := t_an J h 6 0 zF rfl (by unfold zF; omega)
  rw [undig_dig hA] at k
  unfold f_X12_answerNumber
  rw [k, Option.bind_some]
  rfl
theorem l_va (J : zJ) (u : Int32) (I : zM) {a g : Nat} (ha : a < 46656) (hg : g < 6) : ∀ j i fuel, i = g + j → i < 6 → j < fuel → ∃ y, f_X11_valueAt_4 J u (nI g) fuel (nI (a / 6 ^ (5 - i))) (nI i) I = some (.inr (nI (a / 6 ^ (5 - g)), y, I)) := by
  intro j
  induction j with
  | zero =>
    intro i fuel hi h6 hf
    obtain ⟨n, rfl⟩ : ∃ n, fuel = n + 1 := ⟨fuel - 1, by omega⟩
    have e : i = g := by omega
    subst e
    refine ⟨nI i, ?_⟩
    unfold f_X11_valueAt_4
    rw [if_pos (nI_le (Nat.le_refl _) (by omega))]
  | succ j ih =>
    intro i fuel hi h6 hf
    obtain ⟨n, rfl⟩ : ∃ n, fuel = n + 1 := ⟨fuel - 1, by omega⟩
    have da : a / 6 ^ (5 - i) < 2147483648 := Nat.lt_of_le_of_lt (Nat.div_le_self _ _) (by omega)
    obtain ⟨k, rfl⟩ : ∃ k, i = k + 1 := ⟨i - 1, by omega⟩
    obtain ⟨y, e⟩ := ih k n (by omega) (by omega) (by omega)
    refine ⟨y, ?_⟩
    have dd : a / 6 ^ (5 - (k + 1)) / 6 = a / 6 ^ (5 - k) := by rw [Nat.div_div_eq_div_mul, ← Nat.pow_succ, show (5 - (k + 1)).succ = 5 - k by omega]
    unfold f_X11_valueAt_4
    rw [if_neg (nI_ge (by omega) (by omega)), q_div6 da, dd, nI_dn, nI_pred]
    exact e
theorem l_valueAt (J : zJ) (I : zM) {a g : Nat} (ha : a < 46656) (hg : g < 6) : f_X11_valueAt J (nI a) (nI g) I = some (nI (dig a g), I) := by
  obtain ⟨y, e⟩ := l_va J (nI a) I ha hg (5 - g) 5 zF (by omega) (by omega) (by unfold zF; omega)
  rw [Nat.sub_self, Nat.pow_zero, Nat.div_one] at e
  have e' : f_X11_valueAt_4 J (nI a) (nI g) zF (nI a) 5 I = _ := e
  have da : a / 6 ^ (5 - g) < 2147483648 := Nat.lt_of_le_of_lt (Nat.div_le_self _ _) (by omega)
  unfold f_X11_valueAt
  rw [e', Option.bind_some]
  show some (nI (a / 6 ^ (5 - g)) - nI (a / 6 ^ (5 - g)) / (6 : Int32) * (6 : Int32), I) = _
  rw [q_div6 da, q_rem6 da]
  rfl
theorem q_answer : zS_answer zInv := by
  intro n I J v1 v2 hn hv
  obtain ⟨mb, hm, g2, g25, -⟩ := hv.bar
  by_cases h : zlt v1 mb ∧ zrg v2 0 3
  case neg =>
    refine ⟨-1, I, zu I 147 0 0, ?_, ?_, zInv_thrown hv⟩
    · unfold f_X11_answer
      rw [rd_no1 g2 hm h, Option.bind_some, if_pos rfl]
    · unfold f_X12_answer
      rw [rd_no2 (I := zu I 147 0 0) g25 hm h, Option.bind_some, if_neg i10]
  obtain ⟨b, hb, rfl⟩ := zlt_nI h.1 (by omega)
  obtain ⟨o, -, ho, rfl⟩ := zrg_nI h.2 (by decide)
  obtain ⟨E, m, q, nn, tm, le, sh, mu, lam, hw, hR, hml, hE, -, ⟨I1, k1, k2, k3, k4, k5, k6⟩, ht⟩ := r_env hv (show b < 8 by omega) (show o < 4 by omega)
  obtain ⟨S, I2, -, d1, d2, d3, d4, -⟩ := r_twin hv hn k2 k3 hw ht (by omega) (by omega) hR hml
  have e25 : (zu I1 147 0 0) 147 25 = nI mb := by rw [zu_offk (by decide), zCl_at k2 (by decide)]; exact g25
  refine ⟨nI (rAn (eNx E m q) mu (lam - 1)), I1, I2, ?_, ?_, d4⟩
  · unfold f_X11_answer
    rw [rd_yes1 g2 hm h, Option.bind_some, if_neg i10, k1, Option.bind_some, k4.2.2.1]
  · unfold f_X12_answer
    rw [rd_yes2 e25 hm h, Option.bind_some, if_pos rfl, d1, Option.bind_some, t_answerNumber J rAn_lt d3.2.2.2.2.1, Option.bind_some]
theorem gap_no {J : zJ} {v : Int32} {I : zM} (h : ¬ zrg v 0 5) : f_X11_isGap J v I = some (0, I) ∧ f_X12_noGap J v I = some (1, I) := by
  rw [l_isGap, l_noGap, ← zb_f h, ← zb_t (P := ¬ zrg v 0 5) h]
  exact ⟨rfl, rfl⟩
theorem gap_yes {J : zJ} {v : Int32} {I : zM} (h : zrg v 0 5) : f_X11_isGap J v I = some (1, I) ∧ f_X12_noGap J v I = some (0, I) := by
  rw [l_isGap, l_noGap, ← zb_t h, ← zb_f (P := ¬ zrg v 0 5) (fun q => q h)]
  exact ⟨rfl, rfl⟩
theorem q_fills : zS_fills zInv := by
  intro n I J v1 v2 v3 hn hv
  obtain ⟨mb, hm, g2, g25, -⟩ := hv.bar
  by_cases h : zlt v1 mb ∧ zrg v2 0 3
  case neg =>
    refine ⟨-1, I, zu I 147 0 0, ?_, ?_, zInv_thrown hv⟩
    · unfold f_X11_fills
      rw [rd_no1 g2 hm h, Option.bind_some, if_pos rfl]
    · unfold f_X12_fills
      rw [rd_no2 (I := zu I 147 0 0) g25 hm h, Option.bind_some, if_neg i10]
  by_cases h3 : zrg v3 0 5
  case neg =>
    refine ⟨-1, I, zu I 147 0 0, ?_, ?_, zInv_thrown hv⟩
    · unfold f_X11_fills
      rw [rd_yes1 g2 hm h, Option.bind_some, if_neg i10, (gap_no h3).1, Option.bind_some, if_pos rfl]
    · unfold f_X12_fills
      rw [rd_yes2 (I := zu I 147 0 0) g25 hm h, Option.bind_some, if_pos rfl, (gap_no h3).2, Option.bind_some, if_neg i10]
  obtain ⟨b, hb, rfl⟩ := zlt_nI h.1 (by omega)
  obtain ⟨o, -, ho, rfl⟩ := zrg_nI h.2 (by decide)
  obtain ⟨g, -, hg, rfl⟩ := zrg_nI h3 (by decide)
  obtain ⟨E, m, q, nn, tm, le, sh, mu, lam, hw, hR, hml, hE, -, ⟨I1, k1, k2, k3, k4, k5, k6⟩, ht⟩ := r_env hv (show b < 8 by omega) (show o < 4 by omega)
  obtain ⟨S, I2, -, d1, d2, d3, d4, -⟩ := r_twin hv hn k2 k3 hw ht (by omega) (by omega) hR hml
  have e25 : (zu I1 147 0 0) 147 25 = nI mb := by rw [zu_offk (by decide), zCl_at k2 (by decide)]; exact g25
  have z0 : zin (nI (g)) 6 = true := zin_nI (by omega) (by decide)
  have c0 : Int32.toNatClampNeg (nI (g)) = g := nI_clamp (by omega)
  refine ⟨nI (dig (rAn (eNx E m q) mu (lam - 1)) g), I1, I2, ?_, ?_, d4⟩
  · unfold f_X11_fills
    rw [rd_yes1 g2 hm h, Option.bind_some, if_neg i10, (gap_yes h3).1, Option.bind_some, if_neg i10, k1, Option.bind_some, k4.2.2.1, l_valueAt J I1 rAn_lt (by omega), Option.bind_some]
  · unfold f_X12_fills
    rw [rd_yes2 e25 hm h, Option.bind_some, if_pos rfl, (gap_yes h3).2, Option.bind_some, if_pos rfl, d1, Option.bind_some, if_pos z0, c0, d3.2.2.2.2.1 g (by omega)]
theorem q_next : zS_next zInv := by
  intro n I J v1 v2 v3 hn hv
  obtain ⟨mb, hm, g2, g25, -⟩ := hv.bar
  by_cases h : zlt v1 mb ∧ zrg v2 0 3
  case neg =>
    refine ⟨-1, I, zu I 147 0 0, ?_, ?_, zInv_thrown hv⟩
    · unfold f_X11_next
      rw [rd_no1 g2 hm h, Option.bind_some, if_pos rfl]
    · unfold f_X12_next
      rw [rd_no2 (I := zu I 147 0 0) g25 hm h, Option.bind_some, if_neg i10]
  by_cases h3 : zrg v3 0 46655
  case neg =>
    refine ⟨-2, I, zu I 147 0 0, ?_, ?_, zInv_thrown hv⟩
    · unfold f_X11_next
      rw [rd_yes1 g2 hm h, Option.bind_some, if_neg i10, l_isFilling, ← zb_f h3, Option.bind_some, if_pos rfl]
    · unfold f_X12_next
      rw [rd_yes2 (I := zu I 147 0 0) g25 hm h, Option.bind_some, if_pos rfl, l_in_0_46655, ← zb_f h3, Option.bind_some, if_pos rfl]
  obtain ⟨b, hb, rfl⟩ := zlt_nI h.1 (by omega)
  obtain ⟨o, -, ho, rfl⟩ := zrg_nI h.2 (by decide)
  obtain ⟨x, -, hx, rfl⟩ := zrg_nI h3 (by decide)
  obtain ⟨E, m, q, nn, tm, le, sh, mu, lam, hw, hR, hml, hE, ⟨I0, j1, j2, j3, j4, j5, j6, j7⟩, -, ht⟩ := r_env hv (show b < 8 by omega) (show o < 4 by omega)
  obtain ⟨I1, e1, f1, f2⟩ := c_plan hw j2 j3 (p1 := 91 + 2 * o) (Or.inr (by omega)) (zr_p1 (by omega)) j4 j5
  obtain ⟨I2, e2, f3⟩ := l_follow J hw (f2.g j2.1) f1 (show x < 46656 by omega)
  have z2 : zCl I I2 := fun p h1 h2 h3 h4 => (f3 p (by omega)).trans ((f2 p (by omega)).trans (j6 p h1 h2 h3 h4))
  have l2 : I2 39 3 = -9 := by rw [f3 39 (by decide), f2 39 (by decide)]; exact j7
  have e25 : (zu I2 147 0 0) 147 25 = nI mb := by rw [zu_offk (by decide), zCl_at z2 (by decide)]; exact g25
  obtain ⟨I3, e3, f4, -⟩ := t_nextOf J hw (tE_th z2 ht) (show b < 8 by omega) (show o < 5 by omega) zTw.rf (show x < 46656 by omega)
  have z0 : zin (nI (b)) 8 = true := zin_nI (by omega) (by decide)
  have c0 : Int32.toNatClampNeg (nI (b)) = b := nI_clamp (by omega)
  have z1 : zin (nI (o)) 4 = true := zin_nI (by omega) (by decide)
  have c1 : Int32.toNatClampNeg (nI (o)) = o := nI_clamp (by omega)
  refine ⟨nI (eNx E m q x), I2, I3, ?_, ?_, ?_⟩
  · unfold f_X11_next
    rw [rd_yes1 g2 hm h, Option.bind_some, if_neg i10, l_isFilling, ← zb_t h3, Option.bind_some, if_neg i10, if_pos z0, c0, zr_34 b (by omega), j1, Option.bind_some, if_pos z1, c1, zr_33 o (by omega), e1, Option.bind_some, e2, Option.bind_some]
  · unfold f_X12_next
    rw [rd_yes2 e25 hm h, Option.bind_some, if_pos rfl, l_in_0_46655, ← zb_t h3, Option.bind_some, if_neg i10, e3, Option.bind_some]
  · have hv1 : zInv (n + 1) (zu I2 147 0 0) J := by
      refine zInv_of (zInw_th (zInw_cl z2 (zInw_of hv))) ?_ ?_ ?_
      · rw [zu_row (by decide)]
        exact l2
      · rw [zu_offk (by decide), zCl_at z2 (by decide)]
        exact hv.law.2
      · obtain ⟨S, s1, s2, s3⟩ := hv.stp
        refine ⟨S, by omega, ?_, ?_⟩
        · rw [zu_offk (by decide), zCl_at z2 (by decide)]
          exact s2
        · rw [zu_row (by decide), zCl_at z2 (by decide)]
          exact s3
    exact zInv_row hv1 (fun p h1 h2 h3 _ => f4 p h1 h2 h3)
