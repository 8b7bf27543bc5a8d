/-- the first of j numbers from k on of which something holds; NONE -/
noncomputable def sLk (Q : Nat → Prop) : Nat → Nat → Int32
  | 0, _ => -9
  | j + 1, k => @ite _ (Q k) (Classical.propDecidable _) (nI k) (sLk Q j (k + 1))
theorem sLk_p {Q : Nat → Prop} {j v : Nat} (h : Q v) : sLk Q (j + 1) v = nI v := if_pos h
theorem sLk_n {Q : Nat → Prop} {j v : Nat} (h : ¬ Q v) : sLk Q (j + 1) v = sLk Q j (v + 1) := if_neg h
theorem l_lk1 (J : zJ) {I : zM} {d : Nat} (t g : Int32) {le sh all own v : Nat} (hl : I 5 1 = nI le) (hs : I 5 2 = nI sh) (h1 : le ≤ 9) (h2 : sh ≤ 100) (h4 : all ≤ 24) (h3 : own ≤ 24) (hv : v < 6) (h8 : zR d 8 = d + 7) (hc : I (d + 7) v = nI own) : ∀ j k fuel, k + j = 100 → j < fuel → ((f_X1_lacking_11 J d t g (nI v) (nI all) fuel (nI k) I).bind fun q => Sum.elim (fun a => some a) (fun a5 => some (((-9), a5.2))) q) = some (sLk (fun k => cuQ (all + k) le sh (own + k)) j k, I) := by
  intro j
  induction j with
  | zero =>
    intro k fuel hk hf
    obtain ⟨n, rfl⟩ : ∃ n, fuel = n + 1 := ⟨fuel - 1, by omega⟩
    have e : k = 100 := by omega
    subst e
    unfold f_X1_lacking_11
    rw [if_pos (show (99 : Int32) < nI 100 by decide)]
    rfl
  | succ j ih =>
    intro k fuel hk hf
    obtain ⟨n, rfl⟩ : ∃ n, fuel = n + 1 := ⟨fuel - 1, by omega⟩
    have h0 : ¬ (99 : Int32) < nI k := nI_nlt (a := 99) (by omega) (by decide)
    have z0 : zin (nI (v)) 6 = true := zin_nI (by omega) (by decide)
    have c0 : Int32.toNatClampNeg (nI (v)) = v := nI_clamp (by omega)
    have kk := l_isCustom J (own := own + k) (all := all + k) hl hs h1 h2 (by omega) (by omega)
    simp only [f_X1_lacking_11, h0, z0, c0, h8, hc, nI_add, kk, q_a1, Option.bind_some, ↓reduceIte]
    by_cases q : cuQ (all + k) le sh (own + k)
    · rw [if_neg (fun z => zb_eq0.mp z q), sLk_p (Q := fun k => cuQ (all + k) le sh (own + k)) q]
      rfl
    · rw [if_pos (zb_eq0.mpr q), sLk_n (Q := fun k => cuQ (all + k) le sh (own + k)) q]
      exact ih (k + 1) n (by omega) (by omega)
theorem l_lk2 (J : zJ) {I : zM} (t g v : Int32) {le sh all own : Nat} (hl : I 147 9 = nI le) (hs : I 147 10 = nI sh) (h1 : le ≤ 9) (h2 : sh ≤ 100) (h4 : all ≤ 24) (h3 : own ≤ 24) : ∀ j k fuel, k + j = 100 → j < fuel → ((f_X12_lacks_57 J t g v (nI all) (nI own) fuel (nI k) I).bind fun q => Sum.elim (fun a => some a) (fun a16 => some (((-9), a16.2))) q) = some (sLk (fun k => cuQ (all + k) le sh (own + k)) j k, I) := by
  intro j
  induction j with
  | zero =>
    intro k fuel hk hf
    obtain ⟨n, rfl⟩ : ∃ n, fuel = n + 1 := ⟨fuel - 1, by omega⟩
    have e : k = 100 := by omega
    subst e
    unfold f_X12_lacks_57
    rw [if_pos (show (100 : Int32) ≤ nI 100 by decide)]
    rfl
  | succ j ih =>
    intro k fuel hk hf
    obtain ⟨n, rfl⟩ : ∃ n, fuel = n + 1 := ⟨fuel - 1, by omega⟩
    have h0 : ¬ (100 : Int32) ≤ nI k := nI_ge (b := 100) (by omega) (by decide)
    have hb : sh * (all + k) ≤ 100 * 1000 := Nat.mul_le_mul h2 (by omega)
    simp only [f_X12_lacks_57, h0, hl, hs, nI_add, q_100m, q_mul, q_a1, ↓reduceIte]
    by_cases a : le ≤ all + k
    · rw [if_neg (nI_nlt a (by omega))]
      by_cases b : sh * (all + k) ≤ 100 * (own + k)
      · rw [if_neg (nI_nlt b (by omega)), sLk_p (Q := fun k => cuQ (all + k) le sh (own + k)) ⟨a, by rw [Nat.mul_comm _ 100]; exact b⟩]
        rfl
      · rw [if_pos (nI_lt (by omega) (by omega)), sLk_n (Q := fun k => cuQ (all + k) le sh (own + k)) (fun q => b (by have := q.2; rw [Nat.mul_comm _ 100] at this; exact this))]
        exact ih (k + 1) n (by omega) (by omega)
    · rw [if_pos (nI_lt (by omega) (by omega)), sLk_n (Q := fun k => cuQ (all + k) le sh (own + k)) (fun q => a q.1)]
      exact ih (k + 1) n (by omega) (by omega)
theorem q_lacks : zS_lacks zInv := by
  intro n I J v1 v2 v3 hn hv
  by_cases h1 : zrg v1 0 2
  case neg =>
    have e1 : f_X11_lacks J v1 v2 v3 I = some (-1, I) := by
      simp only [f_X11_lacks, l_isTrade, Option.bind_some, zb_eq0, zb_eq1, not_true_eq_false, not_false_eq_true, Classical.not_not, ↓reduceIte, h1]
    have e2 : f_X12_lacks J v1 v2 v3 I = some (-1, zu I 147 0 0) := by
      simp only [f_X12_lacks, l_noTrade, Option.bind_some, zb_eq0, zb_eq1, not_true_eq_false, not_false_eq_true, Classical.not_not, ↓reduceIte, h1]
    exact ⟨_, _, _, e1, e2, zInv_thrown hv⟩
  by_cases h2 : zrg v2 0 5
  case neg =>
    have e1 : f_X11_lacks J v1 v2 v3 I = some (-1, I) := by
      simp only [f_X11_lacks, l_isTrade, l_isGap, Option.bind_some, zb_eq0, zb_eq1, not_true_eq_false, not_false_eq_true, Classical.not_not, ↓reduceIte, h1, h2]
    have e2 : f_X12_lacks J v1 v2 v3 I = some (-1, zu I 147 0 0) := by
      simp only [f_X12_lacks, l_noTrade, l_noGap, Option.bind_some, zb_eq0, zb_eq1, not_true_eq_false, not_false_eq_true, Classical.not_not, ↓reduceIte, h1, h2]
    exact ⟨_, _, _, e1, e2, zInv_thrown hv⟩
  by_cases h3 : zrg v3 1 5
  case neg =>
    have e1 : f_X11_lacks J v1 v2 v3 I = some (-2, I) := by
      simp only [f_X11_lacks, l_isTrade, l_isGap, l_isValue, Option.bind_some, zb_eq0, zb_eq1, not_true_eq_false, not_false_eq_true, Classical.not_not, ↓reduceIte, h1, h2, h3]
    have e2 : f_X12_lacks J v1 v2 v3 I = some (-2, zu I 147 0 0) := by
      simp only [f_X12_lacks, l_noTrade, l_noGap, l_in_1_5, Option.bind_some, zb_eq0, zb_eq1, not_true_eq_false, not_false_eq_true, Classical.not_not, ↓reduceIte, h1, h2, h3]
    exact ⟨_, _, _, e1, e2, zInv_thrown hv⟩
  obtain ⟨v, hv1, hv5, rfl⟩ := zrg_nI h3 (by decide)
  obtain ⟨m, w, g3⟩ := vDo_of hv.doi
  have hm := w.1
  obtain ⟨tm, le, sh, -, -, a3, a4, a5, a6, -, -, t3, t4, t5, t6⟩ := zTm hv.tm
  obtain ⟨I', k1, f1, f2⟩ := l_tallyUp J w (vVa_0 hv.doi w.2.1 w.1) v1 v2 (by decide +kernel)
  have b1 := sCt_le (P := tAl (I 152) v1 v2) m 0
  have b2 := sCt_le (P := tOw (I 152) v1 v2 (nI v)) m 0
  have k3 := l_lk1 J (I := I') (d := 6) v1 v2 (le := le) (sh := sh) (all := sCt (tAl (I 152) v1 v2) m 0) (own := sCt (tOw (I 152) v1 v2 (nI v)) m 0) (v := v) (by rw [f1 5 (by decide)]; exact t3) (by rw [f1 5 (by decide)]; exact t5) a4 a6 (by omega) (by omega) (by omega) (by decide +kernel) (f2 v (by omega)) 100 0 zF (by omega) (by unfold zF; omega)
  have k4 := l_many J (I := zu I' 147 0 0) (m := m) (show I' 147 6 = nI m by rw [f1 147 (by decide)]; exact g3) w.1 v1 v2 0
  have k5 := l_many J (I := zu I' 147 0 0) (m := m) (show I' 147 6 = nI m by rw [f1 147 (by decide)]; exact g3) w.1 v1 v2 (nI v)
  have e3 : (zu I' 147 0 0) 152 = I 152 := f1 152 (by decide)
  have ek : tMa (I 152) v1 v2 0 = tAl (I 152) v1 v2 := by
    funext i
    apply propext
    exact ⟨fun q => q.1, fun q => ⟨q, Or.inl rfl⟩⟩
  have ek2 : tMa (I 152) v1 v2 (nI v) = tOw (I 152) v1 v2 (nI v) := by
    funext i
    apply propext
    exact ⟨fun q => ⟨q.1, q.2.resolve_left (nI_ne0 (by omega) (by omega))⟩, fun q => ⟨q.1, Or.inr q.2⟩⟩
  rw [e3, ek] at k4
  rw [e3, ek2] at k5
  have k6 := l_lk2 J (I := zu I' 147 0 0) v1 v2 (nI v) (le := le) (sh := sh) (all := sCt (tAl (I 152) v1 v2) m 0) (own := sCt (tOw (I 152) v1 v2 (nI v)) m 0) (show I' 147 9 = nI le by rw [f1 147 (by decide)]; exact t4) (show I' 147 10 = nI sh by rw [f1 147 (by decide)]; exact t6) a4 a6 (by omega) (by omega) 100 0 zF (by omega) (by unfold zF; omega)
  generalize sLk (fun k => cuQ (sCt (tAl (I 152) v1 v2) m 0 + k) le sh (sCt (tOw (I 152) v1 v2 (nI v)) m 0 + k)) 100 0 = R at k3 k6
  have k1' : f_X1_lacking J 6 v1 v2 (nI v) I = some (R, I') := by
    unfold f_X1_lacking
    rw [k1, Option.bind_some]
    exact k3
  have e1 : f_X11_lacks J v1 v2 (nI v) I = some (R, I') := by
    simp only [f_X11_lacks, l_isTrade, l_isGap, l_isValue, Option.bind_some, zb_eq0, zb_eq1, not_true_eq_false, not_false_eq_true, Classical.not_not, ↓reduceIte, h1, h2, h3, k1']
  have e2 : f_X12_lacks J v1 v2 (nI v) I' = some (R, zu I' 147 0 0) := by
    simp only [f_X12_lacks, l_noTrade, l_noGap, l_in_1_5, Option.bind_some, zb_eq0, zb_eq1, not_true_eq_false, not_false_eq_true, Classical.not_not, ↓reduceIte, h1, h2, h3, k4, k5]
    exact k6
  exact ⟨_, _, _, e1, e2, zInv_thrown (zInv_tally hv f1)⟩
