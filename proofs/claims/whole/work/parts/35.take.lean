/-! ===== the class takes up a bargain ===== -/
theorem vDo_cgr {I I' : zM} {d m : Nat} {T : Nat → Int32} (h : ∀ p, d ≤ p → p < d + 7 → I' p = I p) (w : vDo I d T m) : vDo I' d T m := by
  obtain ⟨w1, w2, w3, w4⟩ := w
  refine ⟨w1, by rw [h d (by omega) (by omega)]; exact w2, w3, fun k f hk hf => ?_⟩
  rw [h (d + 1 + f) (by omega) (by omega)]
  exact w4 k f hk hf
def sKw (T : Nat → Int32) (m : Nat) (B : Nat → Prop) (p t : Nat) : Prop := B (3 * p + t) ∨ sKn T 0 m (nI p) (nI t)
noncomputable def sCs (K : Prop) (T : Nat → Int32) (m t le sh g : Nat) : Int32 := @ite _ K (Classical.propDecidable _) (nI (sCu T m (nI t) (nI g) le sh)) 0
theorem sCs_p {K : Prop} {T : Nat → Int32} {m t le sh g : Nat} (h : K) : sCs K T m t le sh g = nI (sCu T m (nI t) (nI g) le sh) := if_pos h
theorem sCs_n {K : Prop} {T : Nat → Int32} {m t le sh g : Nat} (h : ¬ K) : sCs K T m t le sh g = 0 := if_neg h
/-- the same but for the sources' rows and a tally -/
def zTk (d : Nat) (I0 I : zM) : Prop := ∀ p, p ≠ 40 → p ≠ 41 → p ≠ 42 → p ≠ d + 7 → I p = I0 p
theorem l_tk (J : zJ) {I0 : zM} {b d m tm le sh a c t : Nat} {T : Nat → Int32} (hb : b < 8) (w : vDo I0 d T m) (hv : vVa T m) (hd : 5 < d) (hd2 : d + 7 < 39 ∨ 42 < d) (hd3 : d < 90) (h8 : zR d 8 = d + 7) (ht : I0 5 0 = nI tm) (hl : I0 5 1 = nI le) (hs : I0 5 2 = nI sh) (h5 : tm ≤ 5) (h1 : le ≤ 9) (h2 : sh ≤ 100) (ha : I0 (99 + 6 * b) 0 = nI a) (hc : I0 (99 + 6 * b) 1 = nI c) (htr : I0 39 5 = nI t) (K : Prop) : ∀ j k fuel I, k + j = 6 → j < fuel → zTk d I0 I → (∀ g, g < k → I 40 g = I0 (101 + 6 * b) g ∧ I 41 g = sBe T m (nI a) (nI c) (nI g) (nI tm) ∧ I 42 g = sCs K T m t le sh g) → ∃ I', f_X5_take_58 J (99 + 6 * b) d (zb K) fuel (nI k) I = some (.inr (nI 6, I')) ∧ zTk d I0 I' ∧ ∀ g, g < 6 → I' 40 g = I0 (101 + 6 * b) g ∧ I' 41 g = sBe T m (nI a) (nI c) (nI g) (nI tm) ∧ I' 42 g = sCs K T m t le sh g := by
  intro j
  induction j with
  | zero =>
    intro k fuel I hk hf hI hg
    obtain ⟨n, rfl⟩ : ∃ n, fuel = n + 1 := ⟨fuel - 1, by omega⟩
    have e : k = 6 := by omega
    subst e
    refine ⟨I, ?_, hI, hg⟩
    unfold f_X5_take_58
    rw [if_pos (show (6 : Int32) ≤ nI 6 by decide)]
  | succ j ih =>
    intro k fuel I hk hf hI hg
    obtain ⟨n, rfl⟩ : ∃ n, fuel = n + 1 := ⟨fuel - 1, by omega⟩
    have h0 : ¬ (6 : Int32) ≤ nI k := nI_ge (b := 6) (by omega) (by decide)
    have z0 : zin (nI (k)) 6 = true := zin_nI (by omega) (by decide)
    have c0 : Int32.toNatClampNeg (nI (k)) = k := nI_clamp (by omega)
    have r1 := zr_ba3 b hb
    have r2 := zr_sa0 b hb
    have e101 : I (101 + 6 * b) = I0 (101 + 6 * b) := hI _ (by omega) (by omega) (by omega) (by omega)
    have e99 : I (99 + 6 * b) = I0 (99 + 6 * b) := hI _ (by omega) (by omega) (by omega) (by omega)
    have e5 : I 5 = I0 5 := hI _ (by omega) (by omega) (by omega) (by omega)
    have e39 : I 39 = I0 39 := hI _ (by omega) (by omega) (by omega) (by omega)
    have w1 : vDo (zu I 40 k (I0 (101 + 6 * b) k)) d T m := vDo_cgr (fun p p1 p2 => (zu_row (by omega)).trans (hI p (by omega) (by omega) (by omega) (by omega))) w
    have kb := l_valueBefore J w1 h5 (nI a) (nI c) (nI k)
    have n99 : 99 + 6 * b ≠ 40 := by omega
    have f99 : (zu I 40 k (I0 (101 + 6 * b) k)) (99 + 6 * b) = I0 (99 + 6 * b) := (zu_row n99).trans e99
    have f5 : (zu I 40 k (I0 (101 + 6 * b) k)) 5 = I0 5 := (zu_row (by decide)).trans e5
    simp only [f_X5_take_58, h0, z0, c0, r1, r2, e101, f99, f5, ha, hc, ht, kb, Option.bind_some, q_a1, ↓reduceIte]
    by_cases hK : K
    · rw [if_neg (fun z => zb_eq0.mp z hK)]
      have w2 : vDo (zu (zu I 40 k (I0 (101 + 6 * b) k)) 41 k (sBe T m (nI a) (nI c) (nI k) (nI tm))) d T m := vDo_cgr (fun p p1 p2 => zu_row (by omega)) w1
      have f5' : (zu (zu I 40 k (I0 (101 + 6 * b) k)) 41 k (sBe T m (nI a) (nI c) (nI k) (nI tm))) 5 = I0 5 := (zu_row (by decide)).trans f5
      have f39' : (zu (zu I 40 k (I0 (101 + 6 * b) k)) 41 k (sBe T m (nI a) (nI c) (nI k) (nI tm))) 39 = I0 39 := (zu_row (by decide)).trans ((zu_row (by decide)).trans e39)
      obtain ⟨I3, k3, f3⟩ := l_customOf J w2 hv (by omega) (by rw [f5']; exact hl) (by rw [f5']; exact hs) h1 h2 (by omega) h8 (nI t) (nI k)
      simp only [f39', htr, k3, Option.bind_some]
      have g40 : I3 40 = _ := f3 40 (by omega)
      have g41 : I3 41 = _ := f3 41 (by omega)
      have g42 : I3 42 = _ := f3 42 (by omega)
      rw [zu_row (by decide)] at g40
      rw [zu_row (by decide), zu_row (by decide)] at g42
      refine ih (k + 1) n (zu I3 42 k (nI (sCu T m (nI t) (nI k) le sh))) (by omega) (by omega) (fun p p1 p2 p3 p4 => (zu_row p3).trans ((f3 p p4).trans ((zu_row p2).trans ((zu_row p1).trans (hI p p1 p2 p3 p4))))) (fun g hgk => ?_)
      rw [zu_row (show 40 ≠ 42 by decide), zu_row (show 41 ≠ 42 by decide), g40, g41, zu_at, zu_at, zu_at, zu_row (show 41 ≠ 40 by decide), g42]
      by_cases e : g = k
      · rw [if_pos e, if_pos e, if_pos e, e, sCs_p hK]
        exact ⟨rfl, rfl, rfl⟩
      · rw [if_neg e, if_neg e, if_neg e]
        exact hg g (by omega)
    · rw [if_pos (zb_eq0.mpr hK)]
      refine ih (k + 1) n _ (by omega) (by omega) (fun p p1 p2 p3 p4 => (zu_row p3).trans ((zu_row p2).trans ((zu_row p1).trans (hI p p1 p2 p3 p4)))) (fun g hgk => ?_)
      rw [zu_row (show 40 ≠ 42 by decide), zu_row (show 41 ≠ 42 by decide), zu_row (show 40 ≠ 41 by decide), zu_at, zu_at, zu_at, zu_row (show 41 ≠ 40 by decide), zu_row (show 42 ≠ 41 by decide), zu_row (show 42 ≠ 40 by decide)]
      by_cases e : g = k
      · rw [if_pos e, if_pos e, if_pos e, e, sCs_n hK]
        exact ⟨rfl, rfl, rfl⟩
      · rw [if_neg e, if_neg e, if_neg e]
        exact hg g (by omega)
theorem l_take (J : zJ) {I : zM} {b d m tm le sh a c t : Nat} {T : Nat → Int32} (hb : b < 8) (w : vDo I d T m) (hv : vVa T m) (hd : 5 < d) (hd2 : d + 7 < 39 ∨ 42 < d) (hd3 : d < 90) (h8 : zR d 8 = d + 7) (ht : I 5 0 = nI tm) (hl : I 5 1 = nI le) (hs : I 5 2 = nI sh) (h5 : tm ≤ 5) (h1 : le ≤ 9) (h2 : sh ≤ 100) (ha : I (99 + 6 * b) 0 = nI a) (hc : I (99 + 6 * b) 1 = nI c) (htr : I (99 + 6 * b) 2 = nI t) (ha5 : a < 5) (hc5 : c < 5) (ht3 : t < 3) : ∃ I', f_X5_take J (99 + 6 * b) d I = some I' ∧ (∀ p, p ≠ 39 → p ≠ 40 → p ≠ 41 → p ≠ 42 → p ≠ d + 7 → I' p = I p) ∧ (∀ k, k ≠ 5 → k ≠ 6 → I' 39 k = I 39 k) ∧ I' 39 5 = nI t ∧ I' 39 6 = I (100 + 6 * b) 1 ∧ ∀ g, g < 6 → I' 40 g = I (101 + 6 * b) g ∧ I' 41 g = sBe T m (nI a) (nI c) (nI g) (nI tm) ∧ I' 42 g = sCs (sKw T m (zbt (I d 7)) a t ∧ sKw T m (zbt (I d 7)) c t) T m t le sh g := by
  have r1 := zr_ba3 b hb
  have n99 : 99 + 6 * b ≠ 39 := by omega
  have n100 : 100 + 6 * b ≠ 39 := by omega
  have n101 : 101 + 6 * b ≠ 39 := by omega
  have hI1 : ∀ p, p ≠ 39 → (zu (zu I 39 5 (nI t)) 39 6 (I (100 + 6 * b) 1)) p = I p := fun p hp => (zu_row hp).trans (zu_row hp)
  have w1 : vDo (zu (zu I 39 5 (nI t)) 39 6 (I (100 + 6 * b) 1)) d T m := vDo_cgr (fun p p1 p2 => hI1 p (by omega)) w
  have ka := l_isKnown J w1 ha5 ht3
  have kc := l_isKnown J w1 hc5 ht3
  have ed : (zu (zu I 39 5 (nI t)) 39 6 (I (100 + 6 * b) 1)) d = I d := hI1 d (by omega)
  rw [ed] at ka kc
  have e99 : (zu (zu I 39 5 (nI t)) 39 6 (I (100 + 6 * b) 1)) (99 + 6 * b) = I (99 + 6 * b) := hI1 _ n99
  have e100 : (zu I 39 5 (nI t)) (100 + 6 * b) = I (100 + 6 * b) := zu_row n100
  have e395 : (zu (zu I 39 5 (nI t)) 39 6 (I (100 + 6 * b) 1)) 39 5 = nI t := by rw [zu_at, if_neg (by decide), zu_at, if_pos rfl]
  have lp := fun K => l_tk J (I0 := zu (zu I 39 5 (nI t)) 39 6 (I (100 + 6 * b) 1)) (b := b) (d := d) (m := m) (tm := tm) (le := le) (sh := sh) (a := a) (c := c) (t := t) (T := T) hb w1 hv hd hd2 hd3 h8 (by rw [hI1 5 (by decide)]; exact ht) (by rw [hI1 5 (by decide)]; exact hl) (by rw [hI1 5 (by decide)]; exact hs) h5 h1 h2 (by rw [e99]; exact ha) (by rw [e99]; exact hc) e395 K 6 0 zF (zu (zu I 39 5 (nI t)) 39 6 (I (100 + 6 * b) 1)) rfl (by unfold zF; omega) (fun _ _ _ _ _ => rfl) (fun g h => absurd h (by omega))
  have e101 : (zu (zu I 39 5 (nI t)) 39 6 (I (100 + 6 * b) 1)) (101 + 6 * b) = I (101 + 6 * b) := hI1 _ n101
  have fin : ∀ K : Prop, K = (sKw T m (zbt (I d 7)) a t ∧ sKw T m (zbt (I d 7)) c t) → (∀ I', f_X5_take_58 J (99 + 6 * b) d (zb K) zF 0 (zu (zu I 39 5 (nI t)) 39 6 (I (100 + 6 * b) 1)) = some (.inr (nI 6, I')) → f_X5_take J (99 + 6 * b) d I = some I') → ∃ I', f_X5_take J (99 + 6 * b) d I = some I' ∧ (∀ p, p ≠ 39 → p ≠ 40 → p ≠ 41 → p ≠ 42 → p ≠ d + 7 → I' p = I p) ∧ (∀ k, k ≠ 5 → k ≠ 6 → I' 39 k = I 39 k) ∧ I' 39 5 = nI t ∧ I' 39 6 = I (100 + 6 * b) 1 ∧ ∀ g, g < 6 → I' 40 g = I (101 + 6 * b) g ∧ I' 41 g = sBe T m (nI a) (nI c) (nI g) (nI tm) ∧ I' 42 g = sCs (sKw T m (zbt (I d 7)) a t ∧ sKw T m (zbt (I d 7)) c t) T m t le sh g := fun K eK hh => by
    obtain ⟨I', k1, k2, k3⟩ := lp K
    have e39 : I' 39 = _ := k2 39 (by decide) (by decide) (by decide) (by omega)
    refine ⟨I', hh I' k1, fun p p1 p2 p3 p4 p5 => (k2 p p2 p3 p4 p5).trans (hI1 p p1), fun k h5 h6 => ?_, ?_, ?_, fun g hg => ?_⟩
    · rw [e39, zu_at, if_neg h6, zu_at, if_neg h5]
    · rw [e39]
      exact e395
    · rw [e39, zu_at, if_pos rfl]
    · have q := k3 g hg
      rw [e101, eK] at q
      exact q
  by_cases A : zbt (I d 7) (3 * a + t) ∨ sKn T 0 m (nI a) (nI t)
  · by_cases C : zbt (I d 7) (3 * c + t) ∨ sKn T 0 m (nI c) (nI t)
    · refine fin True (eq_true ⟨A, C⟩).symm (fun I' k1 => ?_)
      rw [← zb_t (P := True) trivial] at k1
      unfold f_X5_take
      simp only [htr, r1, e100, e395, e99, ha, hc, ka, kc, Option.bind_some]
      rw [if_neg (fun z => zb_eq0.mp z A), if_neg (fun z => zb_eq0.mp z C), k1, Option.bind_some]
      rfl
    · refine fin False (eq_false (fun q => C q.2)).symm (fun I' k1 => ?_)
      rw [← zb_f (P := False) (fun q => q)] at k1
      unfold f_X5_take
      simp only [htr, r1, e100, e395, e99, ha, hc, ka, kc, Option.bind_some]
      rw [if_neg (fun z => zb_eq0.mp z A), if_pos (zb_eq0.mpr C), k1, Option.bind_some]
      rfl
  · refine fin False (eq_false (fun q => A q.1)).symm (fun I' k1 => ?_)
    rw [← zb_f (P := False) (fun q => q)] at k1
    unfold f_X5_take
    simp only [htr, r1, e100, e395, e99, ha, hc, ka, kc, Option.bind_some]
    rw [if_pos (zb_eq0.mpr A), k1, Option.bind_some]
    rfl
