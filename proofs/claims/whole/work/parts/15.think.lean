theorem q_think : zS_think zInv := by
  intro n I J v1 v2 v3 v4 hn hv
  obtain ⟨m, g1, g2, g3, g4⟩ := hv.bar
  have g3' : zu I 147 0 0 147 25 = nI m := g3
  by_cases h1 : zlt v1 m
  case neg =>
    have e1 : f_X11_think J v1 v2 v3 v4 I = some (-1, I) := by
      simp only [f_X11_think, l_isBargain J v1 I g2 (by omega), l_isGap, l_isSide, Option.bind_some, zb_eq0, zb_eq1, not_true_eq_false, not_false_eq_true, Classical.not_not, ↓reduceIte, h1]
    have e2 : f_X12_think J v1 v2 v3 v4 I = some (-1, zu I 147 0 0) := by
      simp only [f_X12_think, l_noBargain J v1 _ g3' (by omega), l_noGap, l_in_0_1, l_in_0_5, Option.bind_some, zb_eq0, zb_eq1, not_true_eq_false, not_false_eq_true, Classical.not_not, ↓reduceIte, h1]
    exact ⟨_, _, _, e1, e2, zInv_thrown hv⟩
  by_cases h2 : zrg v3 0 5
  case neg =>
    have e1 : f_X11_think J v1 v2 v3 v4 I = some (-1, I) := by
      simp only [f_X11_think, l_isBargain J v1 I g2 (by omega), l_isGap, l_isSide, Option.bind_some, zb_eq0, zb_eq1, not_true_eq_false, not_false_eq_true, Classical.not_not, ↓reduceIte, h1, h2]
    have e2 : f_X12_think J v1 v2 v3 v4 I = some (-1, zu I 147 0 0) := by
      simp only [f_X12_think, l_noBargain J v1 _ g3' (by omega), l_noGap, l_in_0_1, l_in_0_5, Option.bind_some, zb_eq0, zb_eq1, not_true_eq_false, not_false_eq_true, Classical.not_not, ↓reduceIte, h1, h2]
    exact ⟨_, _, _, e1, e2, zInv_thrown hv⟩
  by_cases h3 : zrg v2 0 1
  case neg =>
    have e1 : f_X11_think J v1 v2 v3 v4 I = some (-2, I) := by
      simp only [f_X11_think, l_isBargain J v1 I g2 (by omega), l_isGap, l_isSide, Option.bind_some, zb_eq0, zb_eq1, not_true_eq_false, not_false_eq_true, Classical.not_not, ↓reduceIte, h1, h2, h3]
    have e2 : f_X12_think J v1 v2 v3 v4 I = some (-2, zu I 147 0 0) := by
      simp only [f_X12_think, l_noBargain J v1 _ g3' (by omega), l_noGap, l_in_0_1, l_in_0_5, Option.bind_some, zb_eq0, zb_eq1, not_true_eq_false, not_false_eq_true, Classical.not_not, ↓reduceIte, h1, h2, h3]
    exact ⟨_, _, _, e1, e2, zInv_thrown hv⟩
  by_cases h4 : zrg v4 0 5
  case neg =>
    have e1 : f_X11_think J v1 v2 v3 v4 I = some (-2, I) := by
      simp only [f_X11_think, l_isBargain J v1 I g2 (by omega), l_isGap, l_isSide, Option.bind_some, zb_eq0, zb_eq1, not_true_eq_false, not_false_eq_true, Classical.not_not, ↓reduceIte, h1, h2, h3, h4]
      by_cases c : v4 < 0
      · rw [if_pos c]
      · rw [if_neg c, if_neg (fun c2 : v4 ≤ 5 => h4 (by simp only [zrg, Int32.lt_iff_toInt_lt, Int32.le_iff_toInt_le, tl_0, tl_5] at c c2 ⊢; omega))]
    have e2 : f_X12_think J v1 v2 v3 v4 I = some (-2, zu I 147 0 0) := by
      simp only [f_X12_think, l_noBargain J v1 _ g3' (by omega), l_noGap, l_in_0_1, l_in_0_5, Option.bind_some, zb_eq0, zb_eq1, not_true_eq_false, not_false_eq_true, Classical.not_not, ↓reduceIte, h1, h2, h3, h4]
    exact ⟨_, _, _, e1, e2, zInv_thrown hv⟩
  obtain ⟨i, hi, rfl⟩ := zlt_nI h1 (by omega)
  obtain ⟨g, -, hg, rfl⟩ := zrg_nI h2 (by decide)
  obtain ⟨s, -, hs, rfl⟩ := zrg_nI h3 (by decide)
  have z1 : zin (nI i) 8 = true := zin_nI (by omega) (by decide)
  have z2 : zin (nI g) 6 = true := zin_nI (by omega) (by decide)
  have z4 : zin (nI s) 2 = true := zin_nI (by omega) (by decide)
  have z3 : zin (nI (12 * i + 6 * s + g)) 96 = true := zin_nI (by omega) (by decide)
  have c1 : Int32.toNatClampNeg (nI i) = i := nI_clamp (by omega)
  have c2 : Int32.toNatClampNeg (nI g) = g := nI_clamp (by omega)
  have c4 : Int32.toNatClampNeg (nI s) = s := nI_clamp (by omega)
  have c3 : Int32.toNatClampNeg (nI (12 * i + 6 * s + g)) = 12 * i + 6 * s + g := nI_clamp (by omega)
  have r1 := zr_34 i (by omega)
  have r2 := zr_ba4 i (by omega)
  have r3 := zr_th i (by omega) s (by omega)
  have n1 : ¬ v4 < 0 := zrg_lo h4
  have n2 : v4 ≤ 5 := zrg_hi h4 (by decide)
  have e1 : f_X11_think J (nI i) (nI s) (nI g) v4 I = some (I (103 + 6 * i + s) g, (zu I (103 + 6 * i + s) g v4)) := by
    simp only [f_X11_think, l_isBargain J (nI i) I g2 (by omega), l_isGap, l_isSide, Option.bind_some, zb_eq0, zb_eq1, not_true_eq_false, not_false_eq_true, Classical.not_not, ↓reduceIte, h1, h2, h3, n1, n2, z1, z2, z4, c1, c2, c4, r1, r2, r3]
  have g3'' : zu (zu I (103 + 6 * i + s) g v4) 147 0 0 147 25 = nI m := by
    rw [zu_offk (show (25 : Nat) ≠ 0 by decide), zu_off (show (147 : Nat) ≠ 103 + 6 * i + s by omega)]
    exact g3
  have e2 : f_X12_think J (nI i) (nI s) (nI g) v4 (zu I (103 + 6 * i + s) g v4) = some (I 164 (12 * i + 6 * s + g), (zu (zu (zu I (103 + 6 * i + s) g v4) 147 0 0) 164 (12 * i + 6 * s + g) v4)) := by
    simp only [f_X12_think, l_noBargain J (nI i) _ g3'' (by omega), l_noGap, l_in_0_1, l_in_0_5, Option.bind_some, zb_eq0, zb_eq1, not_true_eq_false, not_false_eq_true, Classical.not_not, ↓reduceIte, h1, h2, h3, h4, q_12, q_6, nI_add, z3, c3]
    rw [zu_off (show (164 : Nat) ≠ 147 by decide), zu_off (show (164 : Nat) ≠ 103 + 6 * i + s by omega)]
  obtain ⟨b1, b2, b3, b4, b5, b6, b7⟩ := g4 i (by omega)
  have er : I (103 + 6 * i + s) g = I 164 (12 * i + 6 * s + g) := by
    rcases (show s = 0 ∨ s = 1 by omega) with rfl | rfl
    · exact (b6 g (by omega)).1
    · have q := (b7 g (by omega)).1
      rw [show 103 + 6 * i + 1 = 104 + 6 * i by omega]
      exact q
  rw [← er] at e2
  refine ⟨_, _, _, e1, e2, ?_⟩
  have w147 : ∀ k, k ≠ 0 → (zu (zu (zu I (103 + 6 * i + s) g v4) 147 0 0) 164 (12 * i + 6 * s + g) v4) 147 k = I 147 k := fun k hk => by
    rw [zu_off (show (147 : Nat) ≠ 164 by decide), zu_offk hk, zu_off (show (147 : Nat) ≠ 103 + 6 * i + s by omega)]
  refine (zInv_mk hv.jok hv.jin (qGap_cg (I := I) ((zS.zu (by omega) (zS.zu (by omega) (zS.zu (by omega) zS.rf)))) ((zS.zu (by omega) (zS.zu (by omega) (zS.zu (by omega) zS.rf)))) hv.gap) (qTm_cg (I := I) ((zS.zu (by omega) (zS.zu (by omega) (zS.zu (by omega) zS.rf)))) (w147 8 (by decide)) (w147 9 (by decide)) (w147 10 (by decide)) hv.tm) (qDoi_cg (I := I) ((zS.zu (by omega) (zS.zu (by omega) (zS.zu (by omega) zS.rf)))) ((zS.zu (by omega) (zS.zu (by omega) (zS.zu (by omega) zS.rf)))) (w147 6 (by decide)) hv.doi) (qKep_cg (I := I) ((zS.zu (by omega) (zS.zu (by omega) (zS.zu (by omega) zS.rf)))) ((zS.zu (by omega) (zS.zu (by omega) (zS.zu (by omega) zS.rf)))) (fun j _ => congrFun (zS.at (I := I) (lo := 166) (hi := 167) ((zS.zu (by omega) (zS.zu (by omega) (zS.zu (by omega) zS.rf)))) (by decide) (by decide)) j) (fun j _ => congrFun (zS.at (I := I) (lo := 167) (hi := 168) ((zS.zu (by omega) (zS.zu (by omega) (zS.zu (by omega) zS.rf)))) (by decide) (by decide)) j) (fun j _ => congrFun (zS.at (I := I) (lo := 168) (hi := 169) ((zS.zu (by omega) (zS.zu (by omega) (zS.zu (by omega) zS.rf)))) (by decide) (by decide)) j) ((zS.zu (by omega) (zS.zu (by omega) (zS.zu (by omega) zS.rf)))) hv.kep) (qTxt_cg (I := I) ((zS.zu (by omega) (zS.zu (by omega) (zS.zu (by omega) zS.rf)))) ((zS.zu (by omega) (zS.zu (by omega) (zS.zu (by omega) zS.rf)))) (w147 12 (by decide)) hv.txt) (qRul_cg (I := I) hv.jok ((zS.zu (by omega) (zS.zu (by omega) (zS.zu (by omega) zS.rf)))) ((zS.zu (by omega) (zS.zu (by omega) (zS.zu (by omega) zS.rf)))) (w147 15 (by decide)) hv.rul) (qOrd_cg (I := I) ((zS.zu (by omega) (zS.zu (by omega) (zS.zu (by omega) zS.rf)))) (fun j _ => congrFun (zS.at (I := I) (lo := 157) (hi := 158) ((zS.zu (by omega) (zS.zu (by omega) (zS.zu (by omega) zS.rf)))) (by decide) (by decide)) j) (fun j _ => congrFun (zS.at (I := I) (lo := 158) (hi := 159) ((zS.zu (by omega) (zS.zu (by omega) (zS.zu (by omega) zS.rf)))) (by decide) (by decide)) j) hv.ord) (⟨m, g1, ?_, (w147 25 (by decide)).trans g3, fun a ha => ?_⟩) (qLaw_cg (I := I) (congrFun (zS.at (I := I) (lo := 39) (hi := 40) ((zS.zu (by omega) (zS.zu (by omega) (zS.zu (by omega) zS.rf)))) (by decide) (by decide)) 3) (w147 32 (by decide)) hv.law) (qStp_cg (I := I) (w147 39 (by decide)) ((zS.zu (by omega) (zS.zu (by omega) (zS.zu (by omega) zS.rf)))) hv.stp))
  · rw [zS.at (I := I) (lo := 0) (hi := 1) (zS.zu (by omega) (zS.zu (by omega) (zS.zu (by omega) zS.rf))) (by decide) (by decide)]
    exact g2
  by_cases ea : a = i
  · subst ea
    have w164 : ∀ x, (zu (zu (zu I (103 + 6 * a + s) g v4) 147 0 0) 164 (12 * a + 6 * s + g) v4) 164 x = if x = 12 * a + 6 * s + g then v4 else I 164 x := fun x => by
      rw [zu_at, zu_off (show (164 : Nat) ≠ 147 by decide), zu_off (show (164 : Nat) ≠ 103 + 6 * a + s by omega)]
    have wr : ∀ q, q < 147 → q ≠ 103 + 6 * a + s → (zu (zu (zu I (103 + 6 * a + s) g v4) 147 0 0) 164 (12 * a + 6 * s + g) v4) q = I q := fun q h1 h2 => by
      rw [zu_row (by omega), zu_row (by omega), zu_row h2]
    have wq : ∀ x, (zu (zu (zu I (103 + 6 * a + s) g v4) 147 0 0) 164 (12 * a + 6 * s + g) v4) (103 + 6 * a + s) x = if x = g then v4 else I (103 + 6 * a + s) x := fun x => by
      rw [zu_off (by omega), zu_off (by omega), zu_at]
    have rw_ : ∀ q, 159 ≤ q → q < 164 → (zu (zu (zu I (103 + 6 * a + s) g v4) 147 0 0) 164 (12 * a + 6 * s + g) v4) q = I q := fun q h1 h2 => by
      rw [zu_row (by omega), zu_row (by omega), zu_row (by omega)]
    refine ⟨?_, ?_, ?_, fun x hx => ?_, ?_, fun x hx => ?_, fun x hx => ?_⟩
    · rw [wr _ (by omega) (by omega), rw_ 159 (by decide) (by decide)]; exact b1
    · rw [wr _ (by omega) (by omega), rw_ 160 (by decide) (by decide)]; exact b2
    · rw [wr _ (by omega) (by omega), rw_ 161 (by decide) (by decide)]; exact b3
    · rw [wr _ (by omega) (by omega), rw_ 162 (by decide) (by decide)]; exact b4 x hx
    · rw [wr _ (by omega) (by omega), rw_ 163 (by decide) (by decide)]; exact b5
    · rw [w164]
      rcases (show s = 0 ∨ s = 1 by omega) with rfl | rfl
      · rw [show 103 + 6 * a = 103 + 6 * a + 0 from rfl, wq]
        by_cases ex : x = g
        · rw [if_pos ex, if_pos (by omega)]; exact ⟨rfl, h4⟩
        · rw [if_neg ex, if_neg (by omega)]; exact b6 x hx
      · rw [wr _ (by omega) (by omega), if_neg (by omega)]; exact b6 x hx
    · rw [w164]
      rcases (show s = 0 ∨ s = 1 by omega) with rfl | rfl
      · rw [wr _ (by omega) (by omega), if_neg (by omega)]; exact b7 x hx
      · rw [show 104 + 6 * a = 103 + 6 * a + 1 by omega, wq]
        by_cases ex : x = g
        · rw [if_pos ex, if_pos (by omega)]; exact ⟨rfl, h4⟩
        · rw [if_neg ex, if_neg (by omega), show 103 + 6 * a + 1 = 104 + 6 * a by omega]; exact b7 x hx
  · refine qBa_cg (I := I) (zS.zu (by omega) (zS.zu (by omega) (zS.zu (by omega) zS.rf))) ?_ ?_ ?_ (fun x hx => ?_) ?_ (fun x hx => ?_) (g4 a ha)
    · rw [zu_row (by omega), zu_row (by omega), zu_row (by omega)]
    · rw [zu_row (by omega), zu_row (by omega), zu_row (by omega)]
    · rw [zu_row (by omega), zu_row (by omega), zu_row (by omega)]
    · rw [zu_row (by omega), zu_row (by omega), zu_row (by omega)]
    · rw [zu_row (by omega), zu_row (by omega), zu_row (by omega)]
    · rw [zu_offk (by omega), zu_row (by omega), zu_row (by omega)]
