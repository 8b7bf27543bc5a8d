/-! ===== the small questions of both programs ===== -/
theorem tl_0 : (0 : Int32).toInt = 0 := by decide +kernel
theorem tl_1 : (1 : Int32).toInt = 1 := by decide +kernel
theorem tl_2 : (2 : Int32).toInt = 2 := by decide +kernel
theorem tl_3 : (3 : Int32).toInt = 3 := by decide +kernel
theorem tl_4 : (4 : Int32).toInt = 4 := by decide +kernel
theorem tl_5 : (5 : Int32).toInt = 5 := by decide +kernel
theorem tl_6 : (6 : Int32).toInt = 6 := by decide +kernel
theorem tl_8 : (8 : Int32).toInt = 8 := by decide +kernel
theorem tl_9 : (9 : Int32).toInt = 9 := by decide +kernel
theorem tl_24 : (24 : Int32).toInt = 24 := by decide +kernel
theorem tl_51 : (51 : Int32).toInt = 51 := by decide +kernel
theorem tl_60 : (60 : Int32).toInt = 60 := by decide +kernel
theorem tl_99 : (99 : Int32).toInt = 99 := by decide +kernel
theorem tl_100 : (100 : Int32).toInt = 100 := by decide +kernel
theorem tl_46655 : (46655 : Int32).toInt = 46655 := by decide +kernel
theorem tl_46656 : (46656 : Int32).toInt = 46656 := by decide +kernel
theorem qb {α : Type} {P : Prop} {x y : Int32 × α} (h : x = y) : (some x : Option (Int32 × α)) = some y := congrArg some h
theorem l_isGap (J : zJ) (v : Int32) (I : zM) : f_X11_isGap J v I = some (zb (zrg v 0 5), I) := by
  unfold f_X11_isGap
  by_cases c1 : v < 0
  · rw [if_pos c1, ← zb_f (P := zrg v 0 5) (by (simp only [zrg, Int32.lt_iff_toInt_lt, Int32.le_iff_toInt_le, tl_0, tl_1, tl_2, tl_3, tl_4, tl_5, tl_6, tl_8, tl_9, tl_24, tl_51, tl_60, tl_99, tl_100, tl_46655, tl_46656] at c1 ⊢; omega))]
  · rw [if_neg c1]
    by_cases c2 : 6 ≤ v
    · rw [if_pos c2, ← zb_f (P := zrg v 0 5) (by (simp only [zrg, Int32.lt_iff_toInt_lt, Int32.le_iff_toInt_le, tl_0, tl_1, tl_2, tl_3, tl_4, tl_5, tl_6, tl_8, tl_9, tl_24, tl_51, tl_60, tl_99, tl_100, tl_46655, tl_46656] at c1 c2 ⊢; omega))]
    · rw [if_neg c2, ← zb_t (P := zrg v 0 5) (by (simp only [zrg, Int32.lt_iff_toInt_lt, Int32.le_iff_toInt_le, tl_0, tl_1, tl_2, tl_3, tl_4, tl_5, tl_6, tl_8, tl_9, tl_24, tl_51, tl_60, tl_99, tl_100, tl_46655, tl_46656] at c1 c2 ⊢; omega))]
theorem l_isValue (J : zJ) (v : Int32) (I : zM) : f_X11_isValue J v I = some (zb (zrg v 1 5), I) := by
  unfold f_X11_isValue
  by_cases c1 : v < 1
  · rw [if_pos c1, ← zb_f (P := zrg v 1 5) (by (simp only [zrg, Int32.lt_iff_toInt_lt, Int32.le_iff_toInt_le, tl_0, tl_1, tl_2, tl_3, tl_4, tl_5, tl_6, tl_8, tl_9, tl_24, tl_51, tl_60, tl_99, tl_100, tl_46655, tl_46656] at c1 ⊢; omega))]
  · rw [if_neg c1]
    by_cases c2 : 5 < v
    · rw [if_pos c2, ← zb_f (P := zrg v 1 5) (by (simp only [zrg, Int32.lt_iff_toInt_lt, Int32.le_iff_toInt_le, tl_0, tl_1, tl_2, tl_3, tl_4, tl_5, tl_6, tl_8, tl_9, tl_24, tl_51, tl_60, tl_99, tl_100, tl_46655, tl_46656] at c1 c2 ⊢; omega))]
    · rw [if_neg c2, ← zb_t (P := zrg v 1 5) (by (simp only [zrg, Int32.lt_iff_toInt_lt, Int32.le_iff_toInt_le, tl_0, tl_1, tl_2, tl_3, tl_4, tl_5, tl_6, tl_8, tl_9, tl_24, tl_51, tl_60, tl_99, tl_100, tl_46655, tl_46656] at c1 c2 ⊢; omega))]
theorem l_isPerson (J : zJ) (v : Int32) (I : zM) : f_X11_isPerson J v I = some (zb (zrg v 0 4), I) := by
  unfold f_X11_isPerson
  by_cases c1 : v < 0
  · rw [if_pos c1, ← zb_f (P := zrg v 0 4) (by (simp only [zrg, Int32.lt_iff_toInt_lt, Int32.le_iff_toInt_le, tl_0, tl_1, tl_2, tl_3, tl_4, tl_5, tl_6, tl_8, tl_9, tl_24, tl_51, tl_60, tl_99, tl_100, tl_46655, tl_46656] at c1 ⊢; omega))]
  · rw [if_neg c1]
    by_cases c2 : 5 ≤ v
    · rw [if_pos c2, ← zb_f (P := zrg v 0 4) (by (simp only [zrg, Int32.lt_iff_toInt_lt, Int32.le_iff_toInt_le, tl_0, tl_1, tl_2, tl_3, tl_4, tl_5, tl_6, tl_8, tl_9, tl_24, tl_51, tl_60, tl_99, tl_100, tl_46655, tl_46656] at c1 c2 ⊢; omega))]
    · rw [if_neg c2, ← zb_t (P := zrg v 0 4) (by (simp only [zrg, Int32.lt_iff_toInt_lt, Int32.le_iff_toInt_le, tl_0, tl_1, tl_2, tl_3, tl_4, tl_5, tl_6, tl_8, tl_9, tl_24, tl_51, tl_60, tl_99, tl_100, tl_46655, tl_46656] at c1 c2 ⊢; omega))]
theorem l_isTrade (J : zJ) (v : Int32) (I : zM) : f_X11_isTrade J v I = some (zb (zrg v 0 2), I) := by
  unfold f_X11_isTrade
  by_cases c1 : v < 0
  · rw [if_pos c1, ← zb_f (P := zrg v 0 2) (by (simp only [zrg, Int32.lt_iff_toInt_lt, Int32.le_iff_toInt_le, tl_0, tl_1, tl_2, tl_3, tl_4, tl_5, tl_6, tl_8, tl_9, tl_24, tl_51, tl_60, tl_99, tl_100, tl_46655, tl_46656] at c1 ⊢; omega))]
  · rw [if_neg c1]
    by_cases c2 : 3 ≤ v
    · rw [if_pos c2, ← zb_f (P := zrg v 0 2) (by (simp only [zrg, Int32.lt_iff_toInt_lt, Int32.le_iff_toInt_le, tl_0, tl_1, tl_2, tl_3, tl_4, tl_5, tl_6, tl_8, tl_9, tl_24, tl_51, tl_60, tl_99, tl_100, tl_46655, tl_46656] at c1 c2 ⊢; omega))]
    · rw [if_neg c2, ← zb_t (P := zrg v 0 2) (by (simp only [zrg, Int32.lt_iff_toInt_lt, Int32.le_iff_toInt_le, tl_0, tl_1, tl_2, tl_3, tl_4, tl_5, tl_6, tl_8, tl_9, tl_24, tl_51, tl_60, tl_99, tl_100, tl_46655, tl_46656] at c1 c2 ⊢; omega))]
theorem l_isOrder (J : zJ) (v : Int32) (I : zM) : f_X11_isOrder J v I = some (zb (zrg v 0 3), I) := by
  unfold f_X11_isOrder
  by_cases c1 : v < 0
  · rw [if_pos c1, ← zb_f (P := zrg v 0 3) (by (simp only [zrg, Int32.lt_iff_toInt_lt, Int32.le_iff_toInt_le, tl_0, tl_1, tl_2, tl_3, tl_4, tl_5, tl_6, tl_8, tl_9, tl_24, tl_51, tl_60, tl_99, tl_100, tl_46655, tl_46656] at c1 ⊢; omega))]
  · rw [if_neg c1]
    by_cases c2 : 4 ≤ v
    · rw [if_pos c2, ← zb_f (P := zrg v 0 3) (by (simp only [zrg, Int32.lt_iff_toInt_lt, Int32.le_iff_toInt_le, tl_0, tl_1, tl_2, tl_3, tl_4, tl_5, tl_6, tl_8, tl_9, tl_24, tl_51, tl_60, tl_99, tl_100, tl_46655, tl_46656] at c1 c2 ⊢; omega))]
    · rw [if_neg c2, ← zb_t (P := zrg v 0 3) (by (simp only [zrg, Int32.lt_iff_toInt_lt, Int32.le_iff_toInt_le, tl_0, tl_1, tl_2, tl_3, tl_4, tl_5, tl_6, tl_8, tl_9, tl_24, tl_51, tl_60, tl_99, tl_100, tl_46655, tl_46656] at c1 c2 ⊢; omega))]
theorem l_isSide (J : zJ) (v : Int32) (I : zM) : f_X11_isSide J v I = some (zb (zrg v 0 1), I) := by
  unfold f_X11_isSide
  by_cases c1 : v < 0
  · rw [if_pos c1, ← zb_f (P := zrg v 0 1) (by (simp only [zrg, Int32.lt_iff_toInt_lt, Int32.le_iff_toInt_le, tl_0, tl_1, tl_2, tl_3, tl_4, tl_5, tl_6, tl_8, tl_9, tl_24, tl_51, tl_60, tl_99, tl_100, tl_46655, tl_46656] at c1 ⊢; omega))]
  · rw [if_neg c1]
    by_cases c2 : 2 ≤ v
    · rw [if_pos c2, ← zb_f (P := zrg v 0 1) (by (simp only [zrg, Int32.lt_iff_toInt_lt, Int32.le_iff_toInt_le, tl_0, tl_1, tl_2, tl_3, tl_4, tl_5, tl_6, tl_8, tl_9, tl_24, tl_51, tl_60, tl_99, tl_100, tl_46655, tl_46656] at c1 c2 ⊢; omega))]
    · rw [if_neg c2, ← zb_t (P := zrg v 0 1) (by (simp only [zrg, Int32.lt_iff_toInt_lt, Int32.le_iff_toInt_le, tl_0, tl_1, tl_2, tl_3, tl_4, tl_5, tl_6, tl_8, tl_9, tl_24, tl_51, tl_60, tl_99, tl_100, tl_46655, tl_46656] at c1 c2 ⊢; omega))]
theorem l_isSlot (J : zJ) (v : Int32) (I : zM) : f_X11_isSlot J v I = some (zb (zrg v 0 1), I) := by
  unfold f_X11_isSlot
  by_cases c1 : v < 0
  · rw [if_pos c1, ← zb_f (P := zrg v 0 1) (by (simp only [zrg, Int32.lt_iff_toInt_lt, Int32.le_iff_toInt_le, tl_0, tl_1, tl_2, tl_3, tl_4, tl_5, tl_6, tl_8, tl_9, tl_24, tl_51, tl_60, tl_99, tl_100, tl_46655, tl_46656] at c1 ⊢; omega))]
  · rw [if_neg c1]
    by_cases c2 : 2 ≤ v
    · rw [if_pos c2, ← zb_f (P := zrg v 0 1) (by (simp only [zrg, Int32.lt_iff_toInt_lt, Int32.le_iff_toInt_le, tl_0, tl_1, tl_2, tl_3, tl_4, tl_5, tl_6, tl_8, tl_9, tl_24, tl_51, tl_60, tl_99, tl_100, tl_46655, tl_46656] at c1 c2 ⊢; omega))]
    · rw [if_neg c2, ← zb_t (P := zrg v 0 1) (by (simp only [zrg, Int32.lt_iff_toInt_lt, Int32.le_iff_toInt_le, tl_0, tl_1, tl_2, tl_3, tl_4, tl_5, tl_6, tl_8, tl_9, tl_24, tl_51, tl_60, tl_99, tl_100, tl_46655, tl_46656] at c1 c2 ⊢; omega))]
theorem l_isFilling (J : zJ) (v : Int32) (I : zM) : f_X11_isFilling J v I = some (zb (zrg v 0 46655), I) := by
  unfold f_X11_isFilling
  by_cases c1 : v < 0
  · rw [if_pos c1, ← zb_f (P := zrg v 0 46655) (by (simp only [zrg, Int32.lt_iff_toInt_lt, Int32.le_iff_toInt_le, tl_0, tl_1, tl_2, tl_3, tl_4, tl_5, tl_6, tl_8, tl_9, tl_24, tl_51, tl_60, tl_99, tl_100, tl_46655, tl_46656] at c1 ⊢; omega))]
  · rw [if_neg c1]
    by_cases c2 : 46656 ≤ v
    · rw [if_pos c2, ← zb_f (P := zrg v 0 46655) (by (simp only [zrg, Int32.lt_iff_toInt_lt, Int32.le_iff_toInt_le, tl_0, tl_1, tl_2, tl_3, tl_4, tl_5, tl_6, tl_8, tl_9, tl_24, tl_51, tl_60, tl_99, tl_100, tl_46655, tl_46656] at c1 c2 ⊢; omega))]
    · rw [if_neg c2, ← zb_t (P := zrg v 0 46655) (by (simp only [zrg, Int32.lt_iff_toInt_lt, Int32.le_iff_toInt_le, tl_0, tl_1, tl_2, tl_3, tl_4, tl_5, tl_6, tl_8, tl_9, tl_24, tl_51, tl_60, tl_99, tl_100, tl_46655, tl_46656] at c1 c2 ⊢; omega))]
theorem l_in (J : zJ) (w a b : Int64) (I : zM) : f_X12_in J w a b I = some (zb (a ≤ w ∧ w ≤ b), I) := by
  unfold f_X12_in
  by_cases c1 : lg_cmp w a < 0
  · rw [if_pos c1, ← zb_f (P := a ≤ w ∧ w ≤ b) (fun q => Int64.not_lt.mpr q.1 ((lg_cmp_lt w a).mp c1))]
  · rw [if_neg c1]
    by_cases c2 : 0 < lg_cmp w b
    · rw [if_pos c2, ← zb_f (P := a ≤ w ∧ w ≤ b) (fun q => Int64.not_lt.mpr q.2 ((lg_cmp_gt w b).mp c2))]
    · rw [if_neg c2, ← zb_t (P := a ≤ w ∧ w ≤ b) ⟨Int64.not_lt.mp (fun q => c1 ((lg_cmp_lt w a).mpr q)), Int64.not_lt.mp (fun q => c2 ((lg_cmp_gt w b).mpr q))⟩]
theorem l_inr (J : zJ) (v : Int32) (a b : Nat) (I : zM) (ha : a < 2147483648) (hb : b < 2147483648) : f_X12_in J (Int32.toInt64 v) (OfNat.ofNat a) (OfNat.ofNat b) I = some (zb (zrg v a b), I) := by
  rw [l_in, zb_cg (zl_rg ha hb)]
theorem l_inI (J : zJ) (v x : Int32) (a : Nat) (I : zM) (ha : a < 2147483648) : f_X12_in J (Int32.toInt64 v) (OfNat.ofNat a) (Int32.toInt64 x) I = some (zb ((a : Int) ≤ v.toInt ∧ v.toInt ≤ x.toInt), I) := by
  rw [l_in, zb_cg (show _ ↔ ((a : Int) ≤ v.toInt ∧ v.toInt ≤ x.toInt) from ?_)]
  have e1 : (OfNat.ofNat a : Int64).toInt = (a : Int) := lN_toInt (by omega)
  rw [Int64.le_iff_toInt_le, Int64.le_iff_toInt_le, Int32.toInt_toInt64, Int32.toInt_toInt64, e1]
theorem l_in_0_5 (J : zJ) (v : Int32) (I : zM) : f_X12_in J (Int32.toInt64 v) 0 5 I = some (zb (zrg v 0 5), I) := l_inr J v 0 5 I (by decide) (by decide)
theorem l_in_1_5 (J : zJ) (v : Int32) (I : zM) : f_X12_in J (Int32.toInt64 v) 1 5 I = some (zb (zrg v 1 5), I) := l_inr J v 1 5 I (by decide) (by decide)
theorem l_in_1_9 (J : zJ) (v : Int32) (I : zM) : f_X12_in J (Int32.toInt64 v) 1 9 I = some (zb (zrg v 1 9), I) := l_inr J v 1 9 I (by decide) (by decide)
theorem l_in_51_100 (J : zJ) (v : Int32) (I : zM) : f_X12_in J (Int32.toInt64 v) 51 100 I = some (zb (zrg v 51 100), I) := l_inr J v 51 100 I (by decide) (by decide)
theorem l_in_1_8 (J : zJ) (v : Int32) (I : zM) : f_X12_in J (Int32.toInt64 v) 1 8 I = some (zb (zrg v 1 8), I) := l_inr J v 1 8 I (by decide) (by decide)
theorem l_in_0_1 (J : zJ) (v : Int32) (I : zM) : f_X12_in J (Int32.toInt64 v) 0 1 I = some (zb (zrg v 0 1), I) := l_inr J v 0 1 I (by decide) (by decide)
theorem l_in_1_15 (J : zJ) (v : Int32) (I : zM) : f_X12_in J (Int32.toInt64 v) 1 15 I = some (zb (zrg v 1 15), I) := l_inr J v 1 15 I (by decide) (by decide)
theorem l_in_0_46655 (J : zJ) (v : Int32) (I : zM) : f_X12_in J (Int32.toInt64 v) 0 46655 I = some (zb (zrg v 0 46655), I) := l_inr J v 0 46655 I (by decide) (by decide)
theorem l_in_0_4 (J : zJ) (v : Int32) (I : zM) : f_X12_in J (Int32.toInt64 v) 0 4 I = some (zb (zrg v 0 4), I) := l_inr J v 0 4 I (by decide) (by decide)
theorem l_in_0_2 (J : zJ) (v : Int32) (I : zM) : f_X12_in J (Int32.toInt64 v) 0 2 I = some (zb (zrg v 0 2), I) := l_inr J v 0 2 I (by decide) (by decide)
theorem l_in_0_3 (J : zJ) (v : Int32) (I : zM) : f_X12_in J (Int32.toInt64 v) 0 3 I = some (zb (zrg v 0 3), I) := l_inr J v 0 3 I (by decide) (by decide)
theorem l_in_1_3 (J : zJ) (v : Int32) (I : zM) : f_X12_in J (Int32.toInt64 v) 1 3 I = some (zb (zrg v 1 3), I) := l_inr J v 1 3 I (by decide) (by decide)
theorem l_noGap (J : zJ) (v : Int32) (I : zM) : f_X12_noGap J v I = some (zb (¬ zrg v 0 5), I) := by
  unfold f_X12_noGap
  rw [l_in_0_5 J v I, Option.bind_some]
  by_cases h : zrg v 0 5
  · rw [if_neg (fun q => zb_eq0.mp q h), ← zb_f (P := ¬ zrg v 0 5) (fun q => q h)]
  · rw [if_pos (zb_eq0.mpr h), ← zb_t (P := ¬ zrg v 0 5) h]
theorem l_noPerson (J : zJ) (v : Int32) (I : zM) : f_X12_noPerson J v I = some (zb (¬ zrg v 0 4), I) := by
  unfold f_X12_noPerson
  rw [l_in_0_4 J v I, Option.bind_some]
  by_cases h : zrg v 0 4
  · rw [if_neg (fun q => zb_eq0.mp q h), ← zb_f (P := ¬ zrg v 0 4) (fun q => q h)]
  · rw [if_pos (zb_eq0.mpr h), ← zb_t (P := ¬ zrg v 0 4) h]
theorem l_noTrade (J : zJ) (v : Int32) (I : zM) : f_X12_noTrade J v I = some (zb (¬ zrg v 0 2), I) := by
  unfold f_X12_noTrade
  rw [l_in_0_2 J v I, Option.bind_some]
  by_cases h : zrg v 0 2
  · rw [if_neg (fun q => zb_eq0.mp q h), ← zb_f (P := ¬ zrg v 0 2) (fun q => q h)]
  · rw [if_pos (zb_eq0.mpr h), ← zb_t (P := ¬ zrg v 0 2) h]
theorem l_noOrder (J : zJ) (v : Int32) (I : zM) : f_X12_noOrder J v I = some (zb (¬ zrg v 0 3), I) := by
  unfold f_X12_noOrder
  rw [l_in_0_3 J v I, Option.bind_some]
  by_cases h : zrg v 0 3
  · rw [if_neg (fun q => zb_eq0.mp q h), ← zb_f (P := ¬ zrg v 0 3) (fun q => q h)]
  · rw [if_pos (zb_eq0.mpr h), ← zb_t (P := ¬ zrg v 0 3) h]
theorem l_noSlot (J : zJ) (v : Int32) (I : zM) : f_X12_noSlot J v I = some (zb (¬ zrg v 0 1), I) := by
  unfold f_X12_noSlot
  rw [l_in_0_1 J v I, Option.bind_some]
  by_cases h : zrg v 0 1
  · rw [if_neg (fun q => zb_eq0.mp q h), ← zb_f (P := ¬ zrg v 0 1) (fun q => q h)]
  · rw [if_pos (zb_eq0.mpr h), ← zb_t (P := ¬ zrg v 0 1) h]
/-- a number from 0 on, under a count -/
def zlt (v : Int32) (n : Nat) : Prop := 0 ≤ v.toInt ∧ v.toInt < (n : Int)
theorem zlt_nI {v : Int32} {n : Nat} (h : zlt v n) (hn : n < 2147483648) : ∃ j : Nat, j < n ∧ v = nI j := by
  obtain ⟨h1, h2⟩ := h
  refine ⟨v.toInt.toNat, by omega, Int32.toInt_inj.mp ?_⟩
  rw [ztn _ (by omega)]
  omega
theorem zlt_of {j n : Nat} (h : j < n) (hn : n < 2147483648) : zlt (nI j) n := by
  unfold zlt
  rw [ztn _ (by omega)]
  omega
theorem l_isBargain (J : zJ) (v : Int32) (I : zM) {n : Nat} (e : I 0 9 = nI n) (hn : n < 2147483648) : f_X11_isBargain J v I = some (zb (zlt v n), I) := by
  unfold f_X11_isBargain
  rw [e]
  by_cases c1 : v < 0
  · rw [if_pos c1, ← zb_f (P := zlt v n) (by (simp only [zlt, Int32.lt_iff_toInt_lt, tl_0, tl_1, tl_2, tl_3, tl_4, tl_5, tl_6, tl_8, tl_9, tl_24, tl_51, tl_60, tl_99, tl_100, tl_46655, tl_46656] at c1 ⊢; omega))]
  · rw [if_neg c1]
    by_cases c2 : nI n ≤ v
    · rw [if_pos c2, ← zb_f (P := zlt v n) (by (rw [Int32.le_iff_toInt_le, ztn _ hn] at c2; unfold zlt; omega))]
    · rw [if_neg c2, ← zb_t (P := zlt v n) (by (rw [Int32.le_iff_toInt_le, ztn _ hn] at c2; simp only [zlt, Int32.lt_iff_toInt_lt, tl_0, tl_1, tl_2, tl_3, tl_4, tl_5, tl_6, tl_8, tl_9, tl_24, tl_51, tl_60, tl_99, tl_100, tl_46655, tl_46656] at c1 ⊢; omega))]
theorem l_isRule (J : zJ) (v : Int32) (I : zM) {n : Nat} (e : I 18 1 = nI n) (hn : n < 2147483648) : f_X11_isRule J v I = some (zb (zlt v n), I) := by
  unfold f_X11_isRule
  rw [e]
  by_cases c1 : v < 0
  · rw [if_pos c1, ← zb_f (P := zlt v n) (by (simp only [zlt, Int32.lt_iff_toInt_lt, tl_0, tl_1, tl_2, tl_3, tl_4, tl_5, tl_6, tl_8, tl_9, tl_24, tl_51, tl_60, tl_99, tl_100, tl_46655, tl_46656] at c1 ⊢; omega))]
  · rw [if_neg c1]
    by_cases c2 : nI n ≤ v
    · rw [if_pos c2, ← zb_f (P := zlt v n) (by (rw [Int32.le_iff_toInt_le, ztn _ hn] at c2; unfold zlt; omega))]
    · rw [if_neg c2, ← zb_t (P := zlt v n) (by (rw [Int32.le_iff_toInt_le, ztn _ hn] at c2; simp only [zlt, Int32.lt_iff_toInt_lt, tl_0, tl_1, tl_2, tl_3, tl_4, tl_5, tl_6, tl_8, tl_9, tl_24, tl_51, tl_60, tl_99, tl_100, tl_46655, tl_46656] at c1 ⊢; omega))]
theorem nI_m1 {n : Nat} (hn : n < 1073741824) : (nI n - 1).toInt = (n : Int) - 1 := by
  have h := pk_sub_toInt (a := n) (b := 1) (by omega) (by decide)
  exact h
theorem l_inn (J : zJ) (v : Int32) {n : Nat} (I : zM) (hn : n < 1073741824) : f_X12_in J (Int32.toInt64 v) 0 (Int32.toInt64 (nI n - 1)) I = some (zb (zlt v n), I) := by
  have h := l_inI J v (nI n - 1) 0 I (by decide)
  rw [nI_m1 hn] at h
  refine h.trans (congrArg some (Prod.ext (zb_cg ?_) rfl))
  unfold zlt
  omega
theorem l_noBargain (J : zJ) (v : Int32) (I : zM) {n : Nat} (e : I 147 25 = nI n) (hn : n < 1073741824) : f_X12_noBargain J v I = some (zb (¬ zlt v n), I) := by
  unfold f_X12_noBargain
  rw [e, l_inn J v I hn, Option.bind_some]
  by_cases h : zlt v n
  · rw [if_neg (fun q => zb_eq0.mp q h), ← zb_f (P := ¬ zlt v n) (fun q => q h)]
  · rw [if_pos (zb_eq0.mpr h), ← zb_t (P := ¬ zlt v n) h]
theorem l_canRead (J : zJ) (v w : Int32) (I : zM) {n : Nat} (e : I 0 9 = nI n) (hn : n < 2147483648) : f_X11_canRead J v w I = some (zb (zlt v n ∧ zrg w 0 3), I) := by
  unfold f_X11_canRead
  rw [l_isBargain J v I e hn, Option.bind_some]
  by_cases h : zlt v n
  · rw [if_neg (fun q => zb_eq0.mp q h), l_isOrder, Option.bind_some]
    by_cases h2 : zrg w 0 3
    · rw [if_neg (fun q => zb_eq0.mp q h2), ← zb_t (P := zlt v n ∧ zrg w 0 3) ⟨h, h2⟩]
    · rw [if_pos (zb_eq0.mpr h2), ← zb_f (P := zlt v n ∧ zrg w 0 3) (fun q => h2 q.2)]
  · rw [if_pos (zb_eq0.mpr h), ← zb_f (P := zlt v n ∧ zrg w 0 3) (fun q => h q.1)]
theorem l_noReading (J : zJ) (v w : Int32) (I : zM) {n : Nat} (e : I 147 25 = nI n) (hn : n < 1073741824) : f_X12_noReading J v w I = some (zb (¬ (zlt v n ∧ zrg w 0 3)), I) := by
  unfold f_X12_noReading
  rw [l_noBargain J v I e hn, Option.bind_some]
  by_cases h : zlt v n
  · rw [if_pos (zb_eq0.mpr (fun q => q h)), l_noOrder, Option.bind_some]
    by_cases h2 : zrg w 0 3
    · rw [if_pos (zb_eq0.mpr (fun q => q h2)), ← zb_f (P := ¬ (zlt v n ∧ zrg w 0 3)) (fun q => q ⟨h, h2⟩)]
    · rw [if_neg (fun q => zb_eq0.mp q h2), ← zb_t (P := ¬ (zlt v n ∧ zrg w 0 3)) (fun q => h2 q.2)]
  · rw [if_neg (fun q => zb_eq0.mp q h), ← zb_t (P := ¬ (zlt v n ∧ zrg w 0 3)) (fun q => h q.1)]
theorem zrg_lo {v : Int32} {b : Nat} (h : zrg v 0 b) : ¬ v < 0 := by
  simp only [zrg, Int32.lt_iff_toInt_lt, tl_0, tl_1, tl_2, tl_3, tl_4, tl_5, tl_6, tl_8, tl_9, tl_24, tl_51, tl_60, tl_99, tl_100, tl_46655, tl_46656] at h ⊢
  omega
theorem zrg_hi {v : Int32} {a b : Nat} (h : zrg v a b) (hb : b < 2147483648) : v ≤ nI b := by
  rw [Int32.le_iff_toInt_le, ztn b hb]
  exact h.2
theorem zrg_up {v : Int32} {a b c d : Nat} (h : zrg v a b) (h1 : c ≤ a) (h2 : b ≤ d) : zrg v c d := by
  unfold zrg at h ⊢
  omega
theorem l_bit (J : zJ) (x : Int32) (I : zM) {j : Nat} (hj : j < 32) : f_X11_bit J x (nI j) I = some (zb (zbt x j), I) := by
  unfold f_X11_bit
  rw [zbit_eq x hj]
theorem l_withBit (J : zJ) (x v : Int32) (I : zM) {j : Nat} (hj : j < 32) : f_X11_withBit J x (nI j) v I = some (zwb x j (¬ v = 0), I) := by
  unfold f_X11_withBit zwb
  by_cases h : v = 0
  · rw [if_pos h, if_neg (fun q => q h)]
  · rw [if_neg h, if_pos h]
/-! ===== rows ===== -/
theorem zu_row {I : zM} {p k q : Nat} {x : Int32} (h : q ≠ p) : zu I p k x q = I q := by
  funext j
  exact zu_ne I x (fun e => h e.1)
theorem zu_at (I : zM) (p k : Nat) (x : Int32) (j : Nat) : zu I p k x p j = if j = k then x else I p j := by
  simp [zu]
theorem zcp_row {I : zM} {p q n r : Nat} (h : r ≠ q) : zcp I p q n r = I r := by
  funext j
  simp [zcp, h]
theorem zcp_at {I : zM} {p q n j : Nat} (h : j < n) : zcp I p q n q j = I p j := by
  unfold zcp
  rw [if_pos rfl, pk_cpy_in (Nat.zero_le _) (by omega)]
  congr 1
  omega
/-- the rows from lo on, under hi, are what they were -/
def zS (I I' : zM) (lo hi : Nat) : Prop := ∀ p, lo ≤ p → p < hi → I' p = I p
theorem zS.rf {I : zM} {lo hi : Nat} : zS I I lo hi := fun _ _ _ => rfl
theorem zS.zu {I I' : zM} {lo hi p k : Nat} {x : Int32} (h : p < lo ∨ hi ≤ p) (hs : zS I I' lo hi) : zS I (zu I' p k x) lo hi := fun q h1 h2 => (zu_row (by omega)).trans (hs q h1 h2)
theorem zS.zcp {I I' : zM} {lo hi p q n : Nat} (h : q < lo ∨ hi ≤ q) (hs : zS I I' lo hi) : zS I (zcp I' p q n) lo hi := fun r h1 h2 => (zcp_row (by omega)).trans (hs r h1 h2)
theorem zS.tr {I I1 I2 : zM} {lo hi : Nat} (h1 : zS I I1 lo hi) (h2 : zS I1 I2 lo hi) : zS I I2 lo hi := fun p a b => (h2 p a b).trans (h1 p a b)
theorem zS.sub {I I1 : zM} {lo hi lo' hi' : Nat} (h : zS I I1 lo hi) (h1 : lo ≤ lo') (h2 : hi' ≤ hi) : zS I I1 lo' hi' := fun p a b => h p (by omega) (by omega)
theorem zS.at {I I1 : zM} {lo hi p : Nat} (h : zS I I1 lo hi) (h1 : lo ≤ p) (h2 : p < hi) : I1 p = I p := h p h1 h2
theorem zu_off {q p : Nat} (h : q ≠ p) (I : zM) (k : Nat) (x : Int32) (j : Nat) : zu I p k x q j = I q j := zu_ne I x (fun e => h e.1)
theorem zu_offk {j k : Nat} (h : j ≠ k) (I : zM) (p : Nat) (x : Int32) : zu I p k x p j = I p j := zu_ne I x (fun e => h e.2)
theorem q_6 (k : Nat) : (6 : Int32) * nI k = nI (6 * k) := (Int32.ofNat_mul 6 k).symm
theorem q_5 (k : Nat) : (5 : Int32) * nI k = nI (5 * k) := (Int32.ofNat_mul 5 k).symm
theorem q_12 (k : Nat) : (12 : Int32) * nI k = nI (12 * k) := (Int32.ofNat_mul 12 k).symm
theorem q_15 (k : Nat) : (15 : Int32) * nI k = nI (15 * k) := (Int32.ofNat_mul 15 k).symm
theorem q_144 (k : Nat) : (144 : Int32) * nI k = nI (144 * k) := (Int32.ofNat_mul 144 k).symm
theorem q_3l (k : Nat) : (3 : Int32) * nI k = nI (3 * k) := (Int32.ofNat_mul 3 k).symm
theorem q_3r (k : Nat) : nI k * (3 : Int32) = nI (k * 3) := (Int32.ofNat_mul k 3).symm
theorem q_a1 (k : Nat) : nI k + 1 = nI (k + 1) := nI_add k 1
theorem q_a2 (k : Nat) : nI k + 2 = nI (k + 2) := nI_add k 2
theorem q_a3 (k : Nat) : nI k + 3 = nI (k + 3) := nI_add k 3
theorem q_a4 (k : Nat) : nI k + 4 = nI (k + 4) := nI_add k 4
theorem q_a5 (k : Nat) : nI k + 5 = nI (k + 5) := nI_add k 5
theorem q_a6 (k : Nat) : nI k + 6 = nI (k + 6) := nI_add k 6
theorem zr_6_0 : zR 6 0 = 7 := by decide +kernel
theorem zr_6_1 : zR 6 1 = 8 := by decide +kernel
theorem zr_6_2 : zR 6 2 = 9 := by decide +kernel
theorem zr_6_3 : zR 6 3 = 10 := by decide +kernel
theorem zr_6_4 : zR 6 4 = 11 := by decide +kernel
theorem zr_6_5 : zR 6 5 = 12 := by decide +kernel
theorem zr_75_0 : zR 75 0 = 76 := by decide +kernel
theorem zr_75_1 : zR 75 1 = 77 := by decide +kernel
theorem zr_75_2 : zR 75 2 = 78 := by decide +kernel
theorem zr_75_3 : zR 75 3 = 79 := by decide +kernel
theorem zr_75_4 : zR 75 4 = 80 := by decide +kernel
theorem zr_75_5 : zR 75 5 = 81 := by decide +kernel
theorem zr_83_0 : zR 83 0 = 84 := by decide +kernel
theorem zr_83_1 : zR 83 1 = 85 := by decide +kernel
theorem zr_83_2 : zR 83 2 = 86 := by decide +kernel
theorem zr_83_3 : zR 83 3 = 87 := by decide +kernel
theorem zr_83_4 : zR 83 4 = 88 := by decide +kernel
theorem zr_83_5 : zR 83 5 = 89 := by decide +kernel
theorem zr_14_0 : zR 14 0 = 75 := by decide +kernel
theorem zr_14_1 : zR 14 1 = 83 := by decide +kernel
theorem zr_34 : ∀ i, i < 8 → zR 34 i = 99 + 6 * i := by decide +kernel
theorem zr_ba3 : ∀ i, i < 8 → zR (99 + 6 * i) 3 = 100 + 6 * i := by decide +kernel
theorem zr_ba4 : ∀ i, i < 8 → zR (99 + 6 * i) 4 = 102 + 6 * i := by decide +kernel
theorem zr_sa0 : ∀ i, i < 8 → zR (100 + 6 * i) 0 = 101 + 6 * i := by decide +kernel
theorem zr_th : ∀ i, i < 8 → ∀ s, s < 2 → zR (102 + 6 * i) s = 103 + 6 * i + s := by decide +kernel
theorem zr_33 : ∀ w, w < 4 → zR 33 w = 91 + 2 * w := by decide +kernel
theorem zr_or : ∀ w, w < 4 → zR (91 + 2 * w) 0 = 92 + 2 * w := by decide +kernel
theorem zr_43 : ∀ g, g < 6 → zR 43 g = 45 + 5 * g := by decide +kernel
theorem zr_fi : ∀ g, g < 6 → ∀ k, k < 4 → zR (45 + 5 * g) (k + 1) = 46 + 5 * g + k := by decide +kernel
