/-- a block of doings as one row of numbers -/
def vDo (I : zM) (d : Nat) (T : Nat → Int32) (m : Nat) : Prop := m ≤ 24 ∧ I d 6 = nI m ∧ (∀ f, f < 6 → zR d f = d + 1 + f) ∧ ∀ k f, k < 24 → f < 6 → I (d + 1 + f) k = T (6 * k + f)
theorem zr_do : ∀ f, f < 6 → zR 6 f = 6 + 1 + f := by decide +kernel
theorem zr_d7 : ∀ s, s < 2 → ∀ f, f < 6 → zR (75 + 8 * s) f = 75 + 8 * s + 1 + f := by decide +kernel
theorem vDo_at {I : zM} {d m k f : Nat} {T : Nat → Int32} (v : vDo I d T m) (hk : k < 24) (hf : f < 6) : I (zR d f) k = T (6 * k + f) := by
  rw [v.2.2.1 f hf]
  exact v.2.2.2 k f hk hf
def sKn (T : Nat → Int32) (a m : Nat) (p t : Int32) : Prop := ∃ k, a ≤ k ∧ k < m ∧ T (6 * k + 2) = t ∧ (T (6 * k) = p ∨ T (6 * k + 1) = p)
theorem sKn_end {T : Nat → Int32} {m : Nat} {p t : Int32} : ¬ sKn T m m p t := by
  rintro ⟨k, h1, h2, -⟩
  omega
theorem sKn_go {T : Nat → Int32} {a m : Nat} {p t : Int32} (h : a < m) (hn : ¬ (T (6 * a + 2) = t ∧ (T (6 * a) = p ∨ T (6 * a + 1) = p))) : sKn T a m p t ↔ sKn T (a + 1) m p t := by
  constructor
  · rintro ⟨k, h1, h2, h3⟩
    by_cases e : k = a
    · subst e
      exact absurd h3 hn
    · exact ⟨k, by omega, h2, h3⟩
  · rintro ⟨k, h1, h2, h3⟩
    exact ⟨k, by omega, h2, h3⟩
theorem l_kn (J : zJ) {I : zM} {d m : Nat} {T : Nat → Int32} (v : vDo I d T m) (p t : Int32) : ∀ j k fuel, k + j = m → j < fuel → ∃ r, f_X1_isKnown_20 J d p t fuel (nI k) I = some r ∧ ((sKn T k m p t ∧ r = .inl (1, I)) ∨ (¬ sKn T k m p t ∧ r = .inr (nI m, I))) := by
  have hm := v.1
  intro j
  induction j with
  | zero =>
    intro k fuel hk hf
    obtain ⟨n, rfl⟩ : ∃ n, fuel = n + 1 := ⟨fuel - 1, by omega⟩
    have e : k = m := by omega
    subst e
    refine ⟨.inr (nI k, I), ?_, Or.inr ⟨sKn_end, rfl⟩⟩
    unfold f_X1_isKnown_20
    rw [v.2.1, if_pos (nI_le (Nat.le_refl _) (by omega))]
  | succ j ih =>
    intro k fuel hk hf
    obtain ⟨n, rfl⟩ : ∃ n, fuel = n + 1 := ⟨fuel - 1, by omega⟩
    have h0 : ¬ nI m ≤ nI k := nI_ge (by omega) (by omega)
    have z : zin (nI k) 24 = true := zin_nI (by omega) (by decide)
    have c : Int32.toNatClampNeg (nI k) = k := nI_clamp (by omega)
    have r0 := vDo_at v (k := k) (f := 0) (by omega) (by decide)
    have r1 := vDo_at v (k := k) (f := 1) (by omega) (by decide)
    have r2 := vDo_at v (k := k) (f := 2) (by omega) (by decide)
    by_cases a : T (6 * k + 2) = t ∧ (T (6 * k) = p ∨ T (6 * k + 1) = p)
    · refine ⟨.inl (1, I), ?_, Or.inl ⟨⟨k, by omega, by omega, a⟩, rfl⟩⟩
      obtain ⟨a1, a2⟩ := a
      simp only [f_X1_isKnown_20, v.2.1, h0, z, c, r0, r1, r2, eq_true a1, ↓reduceIte, Nat.add_zero]
      by_cases a3 : T (6 * k) = p
      · rw [if_pos a3]
      · have a4 : T (6 * k + 1) = p := a2.resolve_left a3
        rw [if_neg a3, if_pos a4]
    · obtain ⟨r, e1, e2⟩ := ih (k + 1) n (by omega) (by omega)
      rw [← sKn_go (by omega) a] at e2
      refine ⟨r, ?_, e2⟩
      simp only [f_X1_isKnown_20, v.2.1, h0, z, c, r0, r1, r2, ↓reduceIte, Nat.add_zero, q_a1]
      by_cases a1 : T (6 * k + 2) = t
      · have a3 : ¬ T (6 * k) = p := fun q => a ⟨a1, Or.inl q⟩
        have a4 : ¬ T (6 * k + 1) = p := fun q => a ⟨a1, Or.inr q⟩
        rw [if_pos a1, if_neg a3, if_neg a4]
        exact e1
      · rw [if_neg a1]
        exact e1
theorem l_isKnown (J : zJ) {I : zM} {d m : Nat} {T : Nat → Int32} (v : vDo I d T m) {p t : Nat} (hp : p < 5) (ht : t < 3) : f_X1_isKnown J d (nI p) (nI t) I = some (zb (zbt (I d 7) (3 * p + t) ∨ sKn T 0 m (nI p) (nI t)), I) := by
  have ea : nI p * 3 + nI t = nI (3 * p + t) := by
    rw [q_3r, nI_add, Nat.mul_comm]
  have hm := v.1
  obtain ⟨r, e1, e2⟩ := l_kn J v (nI p) (nI t) m 0 zF (by omega) (by unfold zF; omega)
  have e1' : f_X1_isKnown_20 J d (nI p) (nI t) zF 0 I = some r := e1
  unfold f_X1_isKnown
  rw [ea, l_bit J _ _ (show 3 * p + t < 32 by omega), Option.bind_some]
  by_cases b : zbt (I d 7) (3 * p + t)
  · rw [if_pos (zb_eq1.mpr b), ← zb_t (P := zbt (I d 7) (3 * p + t) ∨ sKn T 0 m (nI p) (nI t)) (Or.inl b)]
  · rw [if_neg (fun q => b (zb_eq1.mp q)), e1', Option.bind_some]
    rcases e2 with ⟨q1, q2⟩ | ⟨q1, q2⟩
    · rw [q2, ← zb_t (P := zbt (I d 7) (3 * p + t) ∨ sKn T 0 m (nI p) (nI t)) (Or.inr q1)]
      rfl
    · rw [q2, ← zb_f (P := zbt (I d 7) (3 * p + t) ∨ sKn T 0 m (nI p) (nI t)) (fun q => q.elim b q1)]
      rfl
theorem l_kn2 (J : zJ) {I : zM} {m : Nat} (h6 : I 147 6 = nI m) (hm : m ≤ 24) (p t : Int32) : ∀ j k fuel x, k + j = m → j < fuel → (x = 0 ∨ x = 1) → f_X12_isKnowing_14 J p t fuel x (nI k) I = some (.inr (zb (x = 1 ∨ sKn (I 152) k m p t), nI m, I)) := by
  intro j
  induction j with
  | zero =>
    intro k fuel x hk hf hx
    obtain ⟨n, rfl⟩ : ∃ n, fuel = n + 1 := ⟨fuel - 1, by omega⟩
    have e : k = m := by omega
    subst e
    unfold f_X12_isKnowing_14
    rw [h6, if_pos (nI_le (Nat.le_refl _) (by omega))]
    have ex : x = zb (x = 1 ∨ sKn (I 152) k k p t) := by
      rcases hx with rfl | rfl
      · exact zb_f (fun q => q.elim (by decide) sKn_end)
      · exact zb_t (Or.inl rfl)
    rw [← ex]
  | succ j ih =>
    intro k fuel x hk hf hx
    obtain ⟨n, rfl⟩ : ∃ n, fuel = n + 1 := ⟨fuel - 1, by omega⟩
    have h0 : ¬ nI m ≤ nI k := nI_ge (by omega) (by omega)
    have z0 : zin (nI (6 * k)) 144 = true := zin_nI (by omega) (by decide)
    have z1 : zin (nI (6 * k + 1)) 144 = true := zin_nI (by omega) (by decide)
    have z2 : zin (nI (6 * k + 2)) 144 = true := zin_nI (by omega) (by decide)
    have c0 : Int32.toNatClampNeg (nI (6 * k)) = 6 * k := nI_clamp (by omega)
    have c1 : Int32.toNatClampNeg (nI (6 * k + 1)) = 6 * k + 1 := nI_clamp (by omega)
    have c2 : Int32.toNatClampNeg (nI (6 * k + 2)) = 6 * k + 2 := nI_clamp (by omega)
    have i0 := ih (k + 1) n 0 (by omega) (by omega) (Or.inl rfl)
    have i1 := ih (k + 1) n 1 (by omega) (by omega) (Or.inr rfl)
    rw [← zb_t (P := (1 : Int32) = 1 ∨ sKn (I 152) (k + 1) m p t) (Or.inl rfl)] at i1
    simp only [f_X12_isKnowing_14, h6, h0, q_6, q_a1, q_a2, z0, z1, z2, c0, c1, c2, ↓reduceIte]
    rcases hx with rfl | rfl
    · rw [if_pos rfl]
      by_cases a : I 152 (6 * k + 2) = t ∧ (I 152 (6 * k) = p ∨ I 152 (6 * k + 1) = p)
      · rw [← zb_t (P := (0 : Int32) = 1 ∨ sKn (I 152) k m p t) (Or.inr ⟨k, by omega, by omega, a⟩), if_pos a.1]
        by_cases a3 : I 152 (6 * k) = p
        · rw [if_pos a3]
          exact i1
        · rw [if_neg a3, if_pos (a.2.resolve_left a3)]
          exact i1
      · rw [zb_cg (show ((0 : Int32) = 1 ∨ sKn (I 152) k m p t) ↔ ((0 : Int32) = 1 ∨ sKn (I 152) (k + 1) m p t) from or_congr Iff.rfl (sKn_go (by omega) a))]
        by_cases a1 : I 152 (6 * k + 2) = t
        · rw [if_pos a1, if_neg (fun q => a ⟨a1, Or.inl q⟩), if_neg (fun q => a ⟨a1, Or.inr q⟩)]
          exact i0
        · rw [if_neg a1]
          exact i0
    · rw [if_neg (by decide), ← zb_t (P := (1 : Int32) = 1 ∨ sKn (I 152) k m p t) (Or.inl rfl)]
      exact i1
theorem l_isKnowing (J : zJ) {I : zM} {m : Nat} {B : Nat → Prop} (h6 : I 147 6 = nI m) (hm : m ≤ 24) (hb : ∀ i, i < 15 → I 153 i = zb (B i)) {p t : Nat} (hp : p < 5) (ht : t < 3) : f_X12_isKnowing J (nI p) (nI t) I = some (zb (B (3 * p + t) ∨ sKn (I 152) 0 m (nI p) (nI t)), I) := by
  have eb : (3 : Int32) * nI p + nI t = nI (3 * p + t) := by
    rw [q_3l, nI_add]
  have zz : zin (nI (3 * p + t)) 15 = true := zin_nI (by omega) (by decide)
  have cc : Int32.toNatClampNeg (nI (3 * p + t)) = 3 * p + t := nI_clamp (by omega)
  have e1 := l_kn2 J h6 hm (nI p) (nI t) m 0 zF (zb (B (3 * p + t))) (by omega) (by unfold zF; omega) (zb_01 _)
  have e1' : f_X12_isKnowing_14 J (nI p) (nI t) zF (zb (B (3 * p + t))) 0 I = _ := e1
  unfold f_X12_isKnowing
  rw [eb, if_pos zz, cc, hb _ (by omega), e1', Option.bind_some]
  rw [zb_cg (show (zb (B (3 * p + t)) = 1 ∨ sKn (I 152) 0 m (nI p) (nI t)) ↔ (B (3 * p + t) ∨ sKn (I 152) 0 m (nI p) (nI t)) from or_congr zb_eq1 Iff.rfl)]
  exact if_pos (zb_01 _)
theorem vDo_of {I : zM} (h : qDoi I) : ∃ m, vDo I 6 (I 152) m ∧ I 147 6 = nI m := by
  obtain ⟨m, g1, g2, g3, g4, g5, g6, g7⟩ := h
  exact ⟨m, ⟨g1, g2, zr_do, fun k f hk hf => by have q := g4 k f hk hf; rw [Nat.zero_add] at q; exact q⟩, g3⟩
theorem qDoi_told {I : zM} (h : qDoi I) : ∀ i, i < 15 → I 153 i = zb (zbt (I 6 7) i) := by
  obtain ⟨m, g1, g2, g3, g4, g5, g6, g7⟩ := h
  intro i hi
  have q := g7 i hi
  rw [Nat.zero_add] at q
  exact q
theorem q_knows : zS_knows zInv := by
  intro n I J v1 v2 hn hv
  by_cases h1 : zrg v1 0 4
  case neg =>
    have e1 : f_X11_knows J v1 v2 I = some (-1, I) := by
      simp only [f_X11_knows, l_isPerson, Option.bind_some, zb_eq0, zb_eq1, not_true_eq_false, not_false_eq_true, Classical.not_not, ↓reduceIte, h1]
    have e2 : f_X12_knows J v1 v2 I = some (-1, zu I 147 0 0) := by
      simp only [f_X12_knows, l_noPerson, Option.bind_some, zb_eq0, zb_eq1, not_true_eq_false, not_false_eq_true, Classical.not_not, ↓reduceIte, h1]
    exact ⟨_, _, _, e1, e2, zInv_thrown hv⟩
  by_cases h2 : zrg v2 0 2
  case neg =>
    have e1 : f_X11_knows J v1 v2 I = some (-1, I) := by
      simp only [f_X11_knows, l_isPerson, l_isTrade, Option.bind_some, zb_eq0, zb_eq1, not_true_eq_false, not_false_eq_true, Classical.not_not, ↓reduceIte, h1, h2]
    have e2 : f_X12_knows J v1 v2 I = some (-1, zu I 147 0 0) := by
      simp only [f_X12_knows, l_noPerson, l_noTrade, Option.bind_some, zb_eq0, zb_eq1, not_true_eq_false, not_false_eq_true, Classical.not_not, ↓reduceIte, h1, h2]
    exact ⟨_, _, _, e1, e2, zInv_thrown hv⟩
  obtain ⟨p, -, hp, rfl⟩ := zrg_nI h1 (by decide)
  obtain ⟨t, -, ht, rfl⟩ := zrg_nI h2 (by decide)
  obtain ⟨m, v, g3⟩ := vDo_of hv.doi
  have g3' : zu I 147 0 0 147 6 = nI m := g3
  have k1 := l_isKnown J v (show p < 5 by omega) (show t < 3 by omega)
  have k2 := l_isKnowing J (I := zu I 147 0 0) (B := zbt (I 6 7)) g3' v.1 (show ∀ i, i < 15 → I 153 i = zb (zbt (I 6 7) i) from qDoi_told hv.doi) (show p < 5 by omega) (show t < 3 by omega)
  have k2' : f_X12_isKnowing J (nI p) (nI t) (zu I 147 0 0) = some (zb (zbt (I 6 7) (3 * p + t) ∨ sKn (I 152) 0 m (nI p) (nI t)), zu I 147 0 0) := k2
  generalize (zbt (I 6 7) (3 * p + t) ∨ sKn (I 152) 0 m (nI p) (nI t)) = Q at k1 k2'
  have e1 : f_X11_knows J (nI p) (nI t) I = some (zb Q, I) := by
    simp only [f_X11_knows, l_isPerson, l_isTrade, k1, Option.bind_some, zb_eq0, zb_eq1, not_true_eq_false, not_false_eq_true, Classical.not_not, ↓reduceIte, h1, h2]
    by_cases q : Q
    · rw [if_neg (fun z => zb_eq0.mp z q), ← zb_t q]
    · rw [if_pos (zb_eq0.mpr q), ← zb_f q]
  have e2 : f_X12_knows J (nI p) (nI t) I = some (zb Q, zu I 147 0 0) := by
    simp only [f_X12_knows, l_noPerson, l_noTrade, k2', Option.bind_some, zb_eq0, zb_eq1, not_true_eq_false, not_false_eq_true, Classical.not_not, ↓reduceIte, h1, h2]
    by_cases q : Q
    · rw [if_neg (fun z => zb_eq0.mp z q), ← zb_t q]
    · rw [if_pos (zb_eq0.mpr q), ← zb_f q]
  exact ⟨_, _, _, e1, e2, zInv_thrown hv⟩
