def sPr (V : Nat → Int32) : Nat → Nat → Int32 → Int32
  | 0, _, x => x
  | j + 1, k, x => sPr V j (k + 1) (if V k ≤ 0 then x + (0 : Int32) else x + (1 : Int32))
theorem sPr_cg {V W : Nat → Int32} (h : ∀ k, k < 6 → V k = W k) : ∀ j k x, k + j = 6 → sPr V j k x = sPr W j k x := by
  intro j
  induction j with
  | zero => intro k x _; rfl
  | succ j ih =>
    intro k x hk
    unfold sPr
    rw [h k (by omega)]
    exact ih (k + 1) _ (by omega)
theorem l_pr (J : zJ) (I : zM) : ∀ j k fuel x, k + j = 6 → j < fuel → f_X3_present_13 J 6 fuel x (nI k) I = some (.inr (sPr (I 2) j k x, nI 6, I)) := by
  intro j
  induction j with
  | zero =>
    intro k fuel x hk hf
    obtain ⟨n, rfl⟩ : ∃ n, fuel = n + 1 := ⟨fuel - 1, by omega⟩
    have e : k = 6 := by omega
    subst e
    unfold f_X3_present_13
    rw [if_pos (show (6 : Int32) ≤ nI 6 by decide)]
    rfl
  | succ j ih =>
    intro k fuel x hk hf
    obtain ⟨n, rfl⟩ : ∃ n, fuel = n + 1 := ⟨fuel - 1, by omega⟩
    have h0 : ¬ (6 : Int32) ≤ nI k := nI_ge (b := 6) (by omega) (by decide)
    have z : zin (nI k) 6 = true := zin_nI (by omega) (by decide)
    have c : Int32.toNatClampNeg (nI k) = k := nI_clamp (by omega)
    unfold f_X3_present_13 sPr
    rw [if_neg h0, if_pos z, c, q_a1]
    by_cases a : I 2 k ≤ 0
    · rw [if_pos a, if_pos a]
      exact ih (k + 1) n _ (by omega) (by omega)
    · rw [if_neg a, if_neg a]
      exact ih (k + 1) n _ (by omega) (by omega)
theorem l_pr2 (J : zJ) (u : Int32) (I : zM) : ∀ j k fuel x, k + j = 6 → j < fuel → f_X12_count_9 J u fuel x (nI k) I = some (.inr (sPr (I 148) j k x, nI 6, I)) := by
  intro j
  induction j with
  | zero =>
    intro k fuel x hk hf
    obtain ⟨n, rfl⟩ : ∃ n, fuel = n + 1 := ⟨fuel - 1, by omega⟩
    have e : k = 6 := by omega
    subst e
    unfold f_X12_count_9
    rw [if_pos (show (6 : Int32) ≤ nI 6 by decide)]
    rfl
  | succ j ih =>
    intro k fuel x hk hf
    obtain ⟨n, rfl⟩ : ∃ n, fuel = n + 1 := ⟨fuel - 1, by omega⟩
    have h0 : ¬ (6 : Int32) ≤ nI k := nI_ge (b := 6) (by omega) (by decide)
    have z : zin (nI k) 6 = true := zin_nI (by omega) (by decide)
    have c : Int32.toNatClampNeg (nI k) = k := nI_clamp (by omega)
    unfold f_X12_count_9 sPr
    rw [if_neg h0, if_pos z, c, q_a1]
    by_cases a : I 148 k ≤ 0
    · rw [if_pos a, if_pos a]
      exact ih (k + 1) n _ (by omega) (by omega)
    · rw [if_neg a, if_neg a]
      exact ih (k + 1) n _ (by omega) (by omega)
theorem q_count : zS_count zInv := by
  intro n I J v1 hn hv
  have k1 : f_X3_present_13 J 6 zF 0 0 I = some (.inr (sPr (I 148) 6 0 0, nI 6, I)) := by
    rw [← sPr_cg (V := I 2) (fun k hk => (hv.gap.1 k hk).1) 6 0 0 rfl]
    exact l_pr J I 6 0 zF 0 rfl (by unfold zF; omega)
  have k2 : f_X12_count_9 J v1 zF 0 0 (zu I 147 0 0) = some (.inr (sPr (I 148) 6 0 0, nI 6, zu I 147 0 0)) := l_pr2 J v1 (zu I 147 0 0) 6 0 zF 0 rfl (by unfold zF; omega)
  obtain ⟨m1, a1, a2, a3, -⟩ := hv.doi
  have d1 : True ∧ I 6 6 = nI m1 ∧ I 147 6 = nI m1 := ⟨trivial, a2, a3⟩
  obtain ⟨m2, d2⟩ := hv.txt
  obtain ⟨m3, d3⟩ := hv.rul
  obtain ⟨m4, d4⟩ := hv.bar
  by_cases h0 : v1 = 0
  case pos =>
    have e1 : f_X11_count J v1 I = some (sPr (I 148) 6 0 0, I) := by
      simp only [f_X11_count, eq_true h0, ↓reduceIte, f_X3_present, k1, Option.bind_some, Sum.elim_inr]
    have e2 : f_X12_count J v1 I = some (sPr (I 148) 6 0 0, zu I 147 0 0) := by
      simp only [f_X12_count, k2, Option.bind_some, Sum.elim_inr, eq_true h0, ↓reduceIte]
    exact ⟨_, _, _, e1, e2, zInv_thrown hv⟩
  by_cases h1 : v1 = 1
  case pos =>
    have e1 : f_X11_count J v1 I = some (I 6 6, I) := by
      simp only [f_X11_count, h0, eq_true h1, ↓reduceIte]
    have e2 : f_X12_count J v1 I = some (I 6 6, zu I 147 0 0) := by
      simp only [f_X12_count, k2, Option.bind_some, Sum.elim_inr, h0, eq_true h1, ↓reduceIte]
      exact congrArg some (Prod.ext (d1.2.2.trans d1.2.1.symm) rfl)
    exact ⟨_, _, _, e1, e2, zInv_thrown hv⟩
  by_cases h2 : v1 = 2
  case pos =>
    have e1 : f_X11_count J v1 I = some (I 16 1, I) := by
      simp only [f_X11_count, h0, h1, eq_true h2, ↓reduceIte]
    have e2 : f_X12_count J v1 I = some (I 16 1, zu I 147 0 0) := by
      simp only [f_X12_count, k2, Option.bind_some, Sum.elim_inr, h0, h1, eq_true h2, ↓reduceIte]
      exact congrArg some (Prod.ext (d2.2.2.1.trans d2.2.1.symm) rfl)
    exact ⟨_, _, _, e1, e2, zInv_thrown hv⟩
  by_cases h3 : v1 = 3
  case pos =>
    have e1 : f_X11_count J v1 I = some (I 18 1, I) := by
      simp only [f_X11_count, h0, h1, h2, eq_true h3, ↓reduceIte]
    have e2 : f_X12_count J v1 I = some (I 18 1, zu I 147 0 0) := by
      simp only [f_X12_count, k2, Option.bind_some, Sum.elim_inr, h0, h1, h2, eq_true h3, ↓reduceIte]
      exact congrArg some (Prod.ext (d3.2.2.1.trans d3.2.1.symm) rfl)
    exact ⟨_, _, _, e1, e2, zInv_thrown hv⟩
  by_cases h4 : v1 = 4
  case pos =>
    have e1 : f_X11_count J v1 I = some (I 0 9, I) := by
      simp only [f_X11_count, h0, h1, h2, h3, eq_true h4, ↓reduceIte]
    have e2 : f_X12_count J v1 I = some (I 0 9, zu I 147 0 0) := by
      simp only [f_X12_count, k2, Option.bind_some, Sum.elim_inr, h0, h1, h2, h3, eq_true h4, ↓reduceIte]
      exact congrArg some (Prod.ext (d4.2.2.1.trans d4.2.1.symm) rfl)
    exact ⟨_, _, _, e1, e2, zInv_thrown hv⟩
  have e1 : f_X11_count J v1 I = some (-2, I) := by
    simp only [f_X11_count, h0, h1, h2, h3, h4, ↓reduceIte]
  have e2 : f_X12_count J v1 I = some (-2, zu I 147 0 0) := by
    simp only [f_X12_count, k2, Option.bind_some, Sum.elim_inr, h0, h1, h2, h3, h4, ↓reduceIte]
  exact ⟨_, _, _, e1, e2, zInv_thrown hv⟩

