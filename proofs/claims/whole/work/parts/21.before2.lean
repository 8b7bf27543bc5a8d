theorem sB_no {T : Nat → Int32} {a b g tm : Int32} : ∀ k l v (x : Prop), ¬ x → ¬ (sB T a b g tm k l v x).2.2 := by
  intro k
  induction k with
  | zero => intro l v x h; exact h
  | succ k ih =>
    intro l v x h
    unfold sB
    by_cases hl : l ≤ 0
    · rw [if_pos hl]
      exact h
    · rw [if_neg hl]
      by_cases hM : sMt T a b g k
      · rw [if_pos hM]
        exact ih _ _ _ (fun q => h q.1)
      · rw [if_neg hM]
        exact ih _ _ _ h
def sTw (T : Nat → Int32) (a b : Int32) (k : Nat) : Prop := (T (6 * k) = a ∧ T (6 * k + 1) = b) ∨ (T (6 * k) = b ∧ T (6 * k + 1) = a)
theorem l_tw (J : zJ) {I : zM} {d m k : Nat} {T : Nat → Int32} (v : vDo I d T m) (hk : k < 24) (a b : Int32) : f_X1_isOfTwo J d (nI k) a b I = some (zb (sTw T a b k), I) := by
  have z : zin (nI k) 24 = true := zin_nI (by omega) (by decide)
  have c : Int32.toNatClampNeg (nI k) = k := nI_clamp (by omega)
  have r0 := vDo_at v (k := k) (f := 0) hk (by decide)
  have r1 := vDo_at v (k := k) (f := 1) hk (by decide)
  rw [Nat.add_zero] at r0
  unfold f_X1_isOfTwo
  rw [if_pos z, if_pos z, if_pos z, if_pos z, c, r0, r1]
  by_cases p1 : T (6 * k) = a
  · rw [if_pos p1]
    by_cases p2 : T (6 * k + 1) = b
    · rw [if_pos p2, ← zb_t (P := sTw T a b k) (Or.inl ⟨p1, p2⟩)]
    · rw [if_neg p2]
      by_cases p3 : T (6 * k) = b
      · rw [if_pos p3]
        by_cases p4 : T (6 * k + 1) = a
        · rw [if_pos p4, ← zb_t (P := sTw T a b k) (Or.inr ⟨p3, p4⟩)]
        · rw [if_neg p4, ← zb_f (P := sTw T a b k) (fun q => q.elim (fun q => p2 q.2) (fun q => p4 q.2))]
      · rw [if_neg p3, ← zb_f (P := sTw T a b k) (fun q => q.elim (fun q => p2 q.2) (fun q => p3 q.1))]
  · rw [if_neg p1]
    by_cases p3 : T (6 * k) = b
    · rw [if_pos p3]
      by_cases p4 : T (6 * k + 1) = a
      · rw [if_pos p4, ← zb_t (P := sTw T a b k) (Or.inr ⟨p3, p4⟩)]
      · rw [if_neg p4, ← zb_f (P := sTw T a b k) (fun q => q.elim (fun q => p1 q.1) (fun q => p4 q.2))]
    · rw [if_neg p3, ← zb_f (P := sTw T a b k) (fun q => q.elim (fun q => p1 q.1) (fun q => p3 q.1))]
