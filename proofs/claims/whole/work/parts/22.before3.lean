theorem l_vb (J : zJ) {I : zM} {d m tm : Nat} {T : Nat → Int32} (w : vDo I d T m) (htm : tm ≤ 5) (a b g : Int32) : ∀ k fuel v f, k ≤ 24 → k < fuel → f ≤ tm → ∃ r, f_X1_valueBefore_14 J d a b g (nI tm) fuel v (nI f) (nI k - 1) I = some r ∧ ((∃ q f', f' ≤ tm ∧ r = .inr ((sB T a b g (nI tm) k (nI (tm - f)) v True).2.1, nI f', q, I) ∧ (sB T a b g (nI tm) k (nI (tm - f)) v True).1 = nI (tm - f') ∧ (sB T a b g (nI tm) k (nI (tm - f)) v True).2.2) ∨ (r = .inl (0, I) ∧ ¬ (sB T a b g (nI tm) k (nI (tm - f)) v True).2.2)) := by
  intro k
  induction k with
  | zero =>
    intro fuel v f hk hf hft
    obtain ⟨n, rfl⟩ : ∃ n, fuel = n + 1 := ⟨fuel - 1, by omega⟩
    refine ⟨.inr (v, nI f, nI 0 - 1, I), ?_, Or.inl ⟨nI 0 - 1, f, hft, rfl, rfl, trivial⟩⟩
    unfold f_X1_valueBefore_14
    rw [if_pos nI_m1_neg]
  | succ k ih =>
    intro fuel v f hk hf hft
    obtain ⟨n, rfl⟩ : ∃ n, fuel = n + 1 := ⟨fuel - 1, by omega⟩
    have hn : ¬ nI k < 0 := nI_pos (by omega)
    by_cases hl : tm ≤ f
    · have e0 : tm - f = 0 := by omega
      have es : sB T a b g (nI tm) (k + 1) (nI (tm - f)) v True = (nI (tm - f), v, True) := if_pos (by rw [e0]; decide)
      rw [es]
      refine ⟨.inr (v, nI f, nI k, I), ?_, Or.inl ⟨nI k, f, hft, rfl, rfl, trivial⟩⟩
      unfold f_X1_valueBefore_14
      rw [nI_pred, if_neg hn, if_pos (nI_le hl (by omega))]
    have hc : ¬ nI tm ≤ nI f := nI_ge (by omega) (by omega)
    have hl0 : ¬ nI (tm - f) ≤ 0 := nI_nle (by omega) (by omega)
    have z : zin (nI k) 24 = true := zin_nI (by omega) (by decide)
    have c : Int32.toNatClampNeg (nI k) = k := nI_clamp (by omega)
    have r3 := vDo_at w (k := k) (f := 3) (by omega) (by decide)
    have r4 := vDo_at w (k := k) (f := 4) (by omega) (by decide)
    have r5 := vDo_at w (k := k) (f := 5) (by omega) (by decide)
    by_cases hM : sMt T a b g k
    case neg =>
      have es : sB T a b g (nI tm) (k + 1) (nI (tm - f)) v True = sB T a b g (nI tm) k (nI (tm - f)) v True := (if_neg hl0).trans (if_neg hM)
      rw [es]
      obtain ⟨r, e1, e2⟩ := ih n v f (by omega) (by omega) hft
      refine ⟨r, ?_, e2⟩
      unfold f_X1_valueBefore_14
      rw [nI_pred, if_neg hn, if_neg hc, if_pos z, c, r3]
      by_cases p : T (6 * k + 3) = g
      · rw [if_pos p, l_tw J w (by omega), Option.bind_some, if_pos (zb_eq0.mpr (fun q : sTw T a b k => hM ⟨p, q⟩)), nI_dn]
        exact e1
      · rw [if_neg p, nI_dn]
        exact e1
    have es : sB T a b g (nI tm) (k + 1) (nI (tm - f)) v True = sB T a b g (nI tm) k (nI (tm - f) + (-1)) (T (6 * k + 4)) (True ∧ T (6 * k + 5) = 0 ∧ (nI (tm - f) = nI tm ∨ T (6 * k + 4) = v)) := (if_neg hl0).trans (if_pos hM)
    have el : nI (tm - f) + (-1) = nI (tm - (f + 1)) := by
      rw [nI_dn, show tm - f = (tm - (f + 1)) + 1 by omega, nI_pred]
    rw [es, el]
    have st : ∀ R, (if T (6 * k + 5) = 0 then (if nI f ≤ 0 then f_X1_valueBefore_14 J d a b g (nI tm) n (T (6 * k + 4)) (nI (f + 1)) (nI k - 1) I else if T (6 * k + 4) = v then f_X1_valueBefore_14 J d a b g (nI tm) n (T (6 * k + 4)) (nI (f + 1)) (nI k - 1) I else some (.inl (0, I))) else some (.inl (0, I))) = R → f_X1_valueBefore_14 J d a b g (nI tm) (n + 1) v (nI f) (nI (k + 1) - 1) I = R := by
      intro R hR
      rw [← hR]
      conv => lhs; unfold f_X1_valueBefore_14
      rw [nI_pred, if_neg hn, if_neg hc, if_pos z, c, r3, if_pos hM.1, l_tw J w (by omega), Option.bind_some, if_neg (fun q => zb_eq0.mp q (show sTw T a b k from hM.2))]
      simp only [z, ↓reduceIte, r5, r4, nI_dn, q_a1]
    by_cases h5 : T (6 * k + 5) = 0
    case neg => exact ⟨_, (st _ rfl).trans (if_neg h5), Or.inr ⟨rfl, sB_no _ _ _ _ (fun q => h5 q.2.1)⟩⟩
    by_cases h0 : f = 0
    · have ht : (True ∧ T (6 * k + 5) = 0 ∧ (nI (tm - f) = nI tm ∨ T (6 * k + 4) = v)) = True := eq_true ⟨trivial, h5, Or.inl (by rw [h0]; rfl)⟩
      rw [ht]
      obtain ⟨r, e1, e2⟩ := ih n (T (6 * k + 4)) (f + 1) (by omega) (by omega) (by omega)
      exact ⟨r, (st _ rfl).trans ((if_pos h5).trans ((if_pos (by rw [h0]; decide)).trans e1)), e2⟩
    · have hf0 : ¬ nI f ≤ 0 := nI_nle (by omega) (by omega)
      by_cases h8 : T (6 * k + 4) = v
      · have ht : (True ∧ T (6 * k + 5) = 0 ∧ (nI (tm - f) = nI tm ∨ T (6 * k + 4) = v)) = True := eq_true ⟨trivial, h5, Or.inr h8⟩
        rw [ht]
        obtain ⟨r, e1, e2⟩ := ih n (T (6 * k + 4)) (f + 1) (by omega) (by omega) (by omega)
        exact ⟨r, (st _ rfl).trans ((if_pos h5).trans ((if_neg hf0).trans ((if_pos h8).trans e1))), e2⟩
      · refine ⟨_, (st _ rfl).trans ((if_pos h5).trans ((if_neg hf0).trans (if_neg h8))), Or.inr ⟨rfl, sB_no _ _ _ _ (fun q => q.2.2.elim (fun e => ?_) h8)⟩⟩
        have := (nI_eq (by omega) (by omega)).mp e
        omega
