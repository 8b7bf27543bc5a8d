theorem q_before : zS_before zInv := by
  intro n I J v1 v2 v3 hn hv
  by_cases h1 : zrg v1 0 4
  case neg =>
    have e1 : f_X11_before J v1 v2 v3 I = some (-1, I) := by
      simp only [f_X11_before, l_isPerson, l_isGap, Option.bind_some, zb_eq0, zb_eq1, not_true_eq_false, not_false_eq_true, Classical.not_not, ↓reduceIte, h1]
    have e2 : f_X12_before J v1 v2 v3 I = some (-1, zu I 147 0 0) := by
      simp only [f_X12_before, l_noPerson, l_noGap, Option.bind_some, zb_eq0, zb_eq1, not_true_eq_false, not_false_eq_true, Classical.not_not, ↓reduceIte, h1]
    exact ⟨_, _, _, e1, e2, zInv_thrown hv⟩
  by_cases h2 : zrg v2 0 4
  case neg =>
    have e1 : f_X11_before J v1 v2 v3 I = some (-1, I) := by
      simp only [f_X11_before, l_isPerson, l_isGap, Option.bind_some, zb_eq0, zb_eq1, not_true_eq_false, not_false_eq_true, Classical.not_not, ↓reduceIte, h1, h2]
    have e2 : f_X12_before J v1 v2 v3 I = some (-1, zu I 147 0 0) := by
      simp only [f_X12_before, l_noPerson, l_noGap, Option.bind_some, zb_eq0, zb_eq1, not_true_eq_false, not_false_eq_true, Classical.not_not, ↓reduceIte, h1, h2]
    exact ⟨_, _, _, e1, e2, zInv_thrown hv⟩
  by_cases h3 : zrg v3 0 5
  case neg =>
    have e1 : f_X11_before J v1 v2 v3 I = some (-1, I) := by
      simp only [f_X11_before, l_isPerson, l_isGap, Option.bind_some, zb_eq0, zb_eq1, not_true_eq_false, not_false_eq_true, Classical.not_not, ↓reduceIte, h1, h2, h3]
    have e2 : f_X12_before J v1 v2 v3 I = some (-1, zu I 147 0 0) := by
      simp only [f_X12_before, l_noPerson, l_noGap, Option.bind_some, zb_eq0, zb_eq1, not_true_eq_false, not_false_eq_true, Classical.not_not, ↓reduceIte, h1, h2, h3]
    exact ⟨_, _, _, e1, e2, zInv_thrown hv⟩
  by_cases he : v1 = v2
  case pos =>
    have e1 : f_X11_before J v1 v2 v3 I = some (-2, I) := by
      simp only [f_X11_before, l_isPerson, l_isGap, Option.bind_some, zb_eq0, zb_eq1, not_true_eq_false, not_false_eq_true, Classical.not_not, ↓reduceIte, h1, h2, h3, eq_true he]
    have e2 : f_X12_before J v1 v2 v3 I = some (-2, zu I 147 0 0) := by
      simp only [f_X12_before, l_noPerson, l_noGap, Option.bind_some, zb_eq0, zb_eq1, not_true_eq_false, not_false_eq_true, Classical.not_not, ↓reduceIte, h1, h2, h3, eq_true he]
    exact ⟨_, _, _, e1, e2, zInv_thrown hv⟩
  obtain ⟨m, w, g3⟩ := vDo_of hv.doi
  obtain ⟨⟨t1, t2⟩, -, -⟩ := hv.tm
  obtain ⟨tm, -, ht, et⟩ := zrg_nI t2 (by decide)
  have k1 := l_valueBefore J w ht v1 v2 v3
  have k2 := l_beforeOf J (I := zu I 147 0 0) (m := m) g3 w.1 v1 v2 v3
  have k2' : f_X12_beforeOf J v1 v2 v3 (zu I 147 0 0) = some (sBe (I 152) m v1 v2 v3 (I 147 8), zu I 147 0 0) := k2
  rw [et] at k2'
  have t3 : I 5 0 = nI tm := t1.trans et
  have e1 : f_X11_before J v1 v2 v3 I = some (sBe (I 152) m v1 v2 v3 (nI tm), I) := by
    simp only [f_X11_before, l_isPerson, l_isGap, Option.bind_some, zb_eq0, zb_eq1, not_true_eq_false, not_false_eq_true, Classical.not_not, ↓reduceIte, h1, h2, h3, he, t3, k1]
  have e2 : f_X12_before J v1 v2 v3 I = some (sBe (I 152) m v1 v2 v3 (nI tm), zu I 147 0 0) := by
    simp only [f_X12_before, l_noPerson, l_noGap, Option.bind_some, zb_eq0, zb_eq1, not_true_eq_false, not_false_eq_true, Classical.not_not, ↓reduceIte, h1, h2, h3, he, k2']
  exact ⟨_, _, _, e1, e2, zInv_thrown hv⟩
