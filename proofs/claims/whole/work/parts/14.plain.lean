theorem nb_8 : (8 : Nat) < 1073741824 := by decide
theorem q_said : zS_said zInv := by
  intro n I J v1 v2 hn hv
  obtain ⟨m, g1, g2, g3, g4⟩ := hv.bar
  have g3' : zu I 147 0 0 147 25 = nI m := g3
  by_cases h1 : zlt v1 m
  case neg =>
    have e1 : f_X11_said J v1 v2 I = some (-1, I) := by
      simp only [f_X11_said, l_isBargain J v1 I g2 (by omega), Option.bind_some, zb_eq0, zb_eq1, not_true_eq_false, not_false_eq_true, Classical.not_not, ↓reduceIte, h1]
    have e2 : f_X12_said J v1 v2 I = some (-1, zu I 147 0 0) := by
      simp only [f_X12_said, l_noBargain J v1 _ g3' (by omega), Option.bind_some, zb_eq0, zb_eq1, not_true_eq_false, not_false_eq_true, Classical.not_not, ↓reduceIte, h1]
    exact ⟨_, _, _, e1, e2, zInv_thrown hv⟩
  by_cases h2 : zrg v2 0 5
  case neg =>
    have e1 : f_X11_said J v1 v2 I = some (-1, I) := by
      simp only [f_X11_said, l_isBargain J v1 I g2 (by omega), l_isGap, Option.bind_some, zb_eq0, zb_eq1, not_true_eq_false, not_false_eq_true, Classical.not_not, ↓reduceIte, h1, h2]
    have e2 : f_X12_said J v1 v2 I = some (-1, zu I 147 0 0) := by
      simp only [f_X12_said, l_noBargain J v1 _ g3' (by omega), l_noGap, Option.bind_some, zb_eq0, zb_eq1, not_true_eq_false, not_false_eq_true, Classical.not_not, ↓reduceIte, h1, h2]
    exact ⟨_, _, _, e1, e2, zInv_thrown hv⟩
  obtain ⟨i, hi, rfl⟩ := zlt_nI h1 (by omega)
  obtain ⟨g, -, hg, rfl⟩ := zrg_nI h2 (by decide)
  have z1 : zin (nI i) 8 = true := zin_nI (by omega) (by decide)
  have z2 : zin (nI g) 6 = true := zin_nI (by omega) (by decide)
  have z3 : zin (nI (6 * i + g)) 48 = true := zin_nI (by omega) (by decide)
  have c1 : Int32.toNatClampNeg (nI i) = i := nI_clamp (by omega)
  have c2 : Int32.toNatClampNeg (nI g) = g := nI_clamp (by omega)
  have c3 : Int32.toNatClampNeg (nI (6 * i + g)) = 6 * i + g := nI_clamp (by omega)
  have r1 := zr_34 i (by omega)
  have r2 := zr_ba3 i (by omega)
  have r3 := zr_sa0 i (by omega)
  have e1 : f_X11_said J (nI i) (nI g) I = some (I (101 + 6 * i) g, I) := by
    simp only [f_X11_said, l_isBargain J (nI i) I g2 (by omega), l_isGap, Option.bind_some, zb_eq0, zb_eq1, not_true_eq_false, not_false_eq_true, Classical.not_not, ↓reduceIte, h1, h2, z1, z2, c1, c2, r1, r2, r3]
  have e2 : f_X12_said J (nI i) (nI g) I = some (I 162 (6 * i + g), zu I 147 0 0) := by
    simp only [f_X12_said, l_noBargain J (nI i) _ g3' (by omega), l_noGap, Option.bind_some, zb_eq0, zb_eq1, not_true_eq_false, not_false_eq_true, Classical.not_not, ↓reduceIte, h1, h2, q_6, nI_add, z3, c3]
    rfl
  rw [← ((g4 i (by omega)).2.2.2.1 g (by omega)).1] at e2
  exact ⟨_, _, _, e1, e2, zInv_thrown hv⟩
theorem l_noRule (J : zJ) (v : Int32) (I : zM) {m : Nat} (e : I 147 15 = nI m) (hm : m < 1073741824) : f_X12_in J (Int32.toInt64 v) 0 (Int32.toInt64 (I 147 15 - (1 : Int32))) I = some (zb (zlt v m), I) := by
  rw [e]
  exact l_inn J v I hm
theorem q_ruled : zS_ruled zInv := by
  intro n I J v1 v2 hn hv
  obtain ⟨m, g1, g2, g3, g4⟩ := hv.rul
  have g3' : zu I 147 0 0 147 15 = nI m := g3
  by_cases h1 : zlt v1 m
  case neg =>
    have e1 : f_X11_ruled J v1 v2 I = some (-1, I) := by
      simp only [f_X11_ruled, l_isRule J v1 I g2 (by omega), Option.bind_some, zb_eq0, zb_eq1, not_true_eq_false, not_false_eq_true, Classical.not_not, ↓reduceIte, h1]
    have e2 : f_X12_ruled J v1 v2 I = some (-1, zu I 147 0 0) := by
      simp only [f_X12_ruled, l_noRule J v1 _ g3' (by omega), Option.bind_some, zb_eq0, zb_eq1, not_true_eq_false, not_false_eq_true, Classical.not_not, ↓reduceIte, h1]
    exact ⟨_, _, _, e1, e2, zInv_thrown hv⟩
  obtain ⟨i, hi, rfl⟩ := zlt_nI h1 (by omega)
  have z1 : zin (nI i) 13 = true := zin_nI (by omega) (by decide)
  have c1 : Int32.toNatClampNeg (nI i) = i := nI_clamp (by omega)
  by_cases h2 : zrg v2 0 5
  case neg =>
    have k0 : ¬ v2 = 0 := fun e => h2 (by subst e; exact ⟨by decide, by decide⟩)
    have k1 : ¬ v2 = 1 := fun e => h2 (by subst e; exact ⟨by decide, by decide⟩)
    have k2 : ¬ v2 = 2 := fun e => h2 (by subst e; exact ⟨by decide, by decide⟩)
    have k3 : ¬ v2 = 3 := fun e => h2 (by subst e; exact ⟨by decide, by decide⟩)
    have k4 : ¬ v2 = 4 := fun e => h2 (by subst e; exact ⟨by decide, by decide⟩)
    have k5 : ¬ v2 = 5 := fun e => h2 (by subst e; exact ⟨by decide, by decide⟩)
    have e1 : f_X11_ruled J (nI i) v2 I = some (-2, I) := by
      simp only [f_X11_ruled, f_X6_tells, l_isRule J (nI i) I g2 (by omega), Option.bind_some, zb_eq0, zb_eq1, not_true_eq_false, not_false_eq_true, Classical.not_not, ↓reduceIte, h1, z1, k0, k1, k2, k3, k4, k5]
    have e2 : f_X12_ruled J (nI i) v2 I = some (-2, zu I 147 0 0) := by
      simp only [f_X12_ruled, l_noRule J (nI i) _ g3' (by omega), l_in_0_5, Option.bind_some, zb_eq0, zb_eq1, not_true_eq_false, not_false_eq_true, Classical.not_not, ↓reduceIte, h1, h2]
    exact ⟨_, _, _, e1, e2, zInv_thrown hv⟩
  obtain ⟨f, -, hf, rfl⟩ := zrg_nI h2 (by decide)
  have z3 : zin (nI (6 * i + f)) 72 = true := zin_nI (by omega) (by decide)
  have c3 : Int32.toNatClampNeg (nI (6 * i + f)) = 6 * i + f := nI_clamp (by omega)
  have e1 : f_X11_ruled J (nI i) (nI f) I = some (I (zrp J i) f, I) := by
    simp only [f_X11_ruled, l_isRule J (nI i) I g2 (by omega), Option.bind_some, zb_eq0, zb_eq1, not_true_eq_false, not_false_eq_true, Classical.not_not, ↓reduceIte, h1, z1, c1]
    match f, hf with
    | 0, _ => rfl
    | 1, _ => rfl
    | 2, _ => rfl
    | 3, _ => rfl
    | 4, _ => rfl
    | 5, _ => rfl
    | f + 6, hf => exact absurd hf (by omega)
  have e2 : f_X12_ruled J (nI i) (nI f) I = some (I 155 (6 * i + f), zu I 147 0 0) := by
    simp only [f_X12_ruled, l_noRule J (nI i) _ g3' (by omega), l_in_0_5, Option.bind_some, zb_eq0, zb_eq1, not_true_eq_false, not_false_eq_true, Classical.not_not, ↓reduceIte, h1, h2, q_6, nI_add, z3, c3]
    rfl
  rw [← (g4 i hi).1 f (by omega)] at e2
  exact ⟨_, _, _, e1, e2, zInv_thrown hv⟩
theorem q_ordered : zS_ordered zInv := by
  intro n I J v1 v2 hn hv
  by_cases h1 : zrg v1 0 3
  case neg =>
    have e1 : f_X11_ordered J v1 v2 I = some (-1, I) := by
      simp only [f_X11_ordered, l_isOrder, Option.bind_some, zb_eq0, zb_eq1, not_true_eq_false, not_false_eq_true, Classical.not_not, ↓reduceIte, h1]
    have e2 : f_X12_ordered J v1 v2 I = some (-1, zu I 147 0 0) := by
      simp only [f_X12_ordered, l_noOrder, Option.bind_some, zb_eq0, zb_eq1, not_true_eq_false, not_false_eq_true, Classical.not_not, ↓reduceIte, h1]
    exact ⟨_, _, _, e1, e2, zInv_thrown hv⟩
  obtain ⟨w, -, hw, rfl⟩ := zrg_nI h1 (by decide)
  obtain ⟨m, g0, g1, g2, g3, g4, g5⟩ := hv.ord w (by omega)
  have z1 : zin (nI w) 4 = true := zin_nI (by omega) (by decide)
  have z5 : zin (nI w) 5 = true := zin_nI (by omega) (by decide)
  have c1 : Int32.toNatClampNeg (nI w) = w := nI_clamp (by omega)
  have r1 := zr_33 w (by omega)
  have r2 := zr_or w (by omega)
  have g3' : zu I 147 0 0 158 w = nI m := g3
  by_cases h2 : zlt v2 m
  case neg =>
    have e1 : f_X11_ordered J (nI w) v2 I = some (-9, I) := by
      simp only [f_X11_ordered, l_isOrder, Option.bind_some, zb_eq0, zb_eq1, not_true_eq_false, not_false_eq_true, Classical.not_not, ↓reduceIte, h1, z1, c1, r1, g2]
      by_cases c : v2 < 0
      · rw [if_pos c]
      · rw [if_neg c, if_pos]
        have q : ¬ (0 ≤ v2.toInt ∧ v2.toInt < (m : Int)) := h2
        rw [Int32.le_iff_toInt_le, ztn m (by omega)]
        simp only [Int32.lt_iff_toInt_lt, tl_0] at c
        omega
    have e2 : f_X12_ordered J (nI w) v2 I = some (-9, zu I 147 0 0) := by
      simp only [f_X12_ordered, l_noOrder, Option.bind_some, zb_eq0, zb_eq1, not_true_eq_false, not_false_eq_true, Classical.not_not, ↓reduceIte, h1, z5, c1, g3', l_inn J v2 _ (show m < 1073741824 by omega), h2]
    exact ⟨_, _, _, e1, e2, zInv_thrown hv⟩
  obtain ⟨k, hk, rfl⟩ := zlt_nI h2 (by omega)
  have z2 : zin (nI k) 5 = true := zin_nI (by omega) (by decide)
  have c2 : Int32.toNatClampNeg (nI k) = k := nI_clamp (by omega)
  have z3 : zin (nI (5 * w + k)) 25 = true := zin_nI (by omega) (by decide)
  have c3 : Int32.toNatClampNeg (nI (5 * w + k)) = 5 * w + k := nI_clamp (by omega)
  have e1 : f_X11_ordered J (nI w) (nI k) I = some (I (92 + 2 * w) k, I) := by
    have n1 : ¬ nI k < 0 := nI_pos (by omega)
    have n2 : ¬ nI m ≤ nI k := nI_ge hk (by omega)
    simp only [f_X11_ordered, l_isOrder, Option.bind_some, zb_eq0, zb_eq1, not_true_eq_false, not_false_eq_true, Classical.not_not, ↓reduceIte, h1, z1, c1, r1, r2, g2, n1, n2, z2, c2]
  have e2 : f_X12_ordered J (nI w) (nI k) I = some (I 157 (5 * w + k), zu I 147 0 0) := by
    simp only [f_X12_ordered, l_noOrder, Option.bind_some, zb_eq0, zb_eq1, not_true_eq_false, not_false_eq_true, Classical.not_not, ↓reduceIte, h1, z5, c1, g3', l_inn J (nI k) _ (show m < 1073741824 by omega), h2, q_5, nI_add, z3, c3]
    rfl
  rw [← (g4 k hk).1] at e2
  exact ⟨_, _, _, e1, e2, zInv_thrown hv⟩
