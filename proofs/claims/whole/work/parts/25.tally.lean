/-! ===== tallies, custom ===== -/
theorem q_a0 (k : Nat) : nI k + 0 = nI k := nI_add k 0
theorem q_m100 (k : Nat) : nI k * (100 : Int32) = nI (k * 100) := (Int32.ofNat_mul k 100).symm
theorem q_100m (k : Nat) : (100 : Int32) * nI k = nI (100 * k) := (Int32.ofNat_mul 100 k).symm
theorem q_mul (a b : Nat) : nI a * nI b = nI (a * b) := (Int32.ofNat_mul a b).symm
/-- how many of the places from k on, j of them, have something -/
noncomputable def sCt (P : Nat → Prop) : Nat → Nat → Nat
  | 0, _ => 0
  | j + 1, k => (@ite _ (P k) (Classical.propDecidable _) 1 0) + sCt P j (k + 1)
theorem sCt_p {P : Nat → Prop} {j k : Nat} (h : P k) : sCt P (j + 1) k = 1 + sCt P j (k + 1) := congrArg (· + sCt P j (k + 1)) (if_pos h)
theorem sCt_n {P : Nat → Prop} {j k : Nat} (h : ¬ P k) : sCt P (j + 1) k = sCt P j (k + 1) := (congrArg (· + sCt P j (k + 1)) (if_neg h)).trans (Nat.zero_add _)
theorem sCt_le {P : Nat → Prop} : ∀ j k, sCt P j k ≤ j := by
  intro j
  induction j with
  | zero => intro k; exact Nat.le_refl _
  | succ j ih =>
    intro k
    have := ih (k + 1)
    by_cases h : P k
    · rw [sCt_p h]; omega
    · rw [sCt_n h]; omega
theorem sCt_mono {P R : Nat → Prop} (h : ∀ k, P k → R k) : ∀ j k, sCt P j k ≤ sCt R j k := by
  intro j
  induction j with
  | zero => intro k; exact Nat.le_refl _
  | succ j ih =>
    intro k
    have := ih (k + 1)
    by_cases h1 : P k
    · rw [sCt_p h1, sCt_p (h k h1)]; omega
    · rw [sCt_n h1]
      by_cases h2 : R k
      · rw [sCt_p h2]; omega
      · rw [sCt_n h2]; omega
theorem sCt_two {P Q R : Nat → Prop} (h1 : ∀ k, P k → R k) (h2 : ∀ k, Q k → R k) (h3 : ∀ k, P k → ¬ Q k) : ∀ j k, sCt P j k + sCt Q j k ≤ sCt R j k := by
  intro j
  induction j with
  | zero => intro k; exact Nat.le_refl _
  | succ j ih =>
    intro k
    have := ih (k + 1)
    by_cases a1 : P k
    · rw [sCt_p a1, sCt_n (h3 k a1), sCt_p (h1 k a1)]; omega
    · rw [sCt_n a1]
      by_cases a2 : Q k
      · rw [sCt_p a2, sCt_p (h2 k a2)]; omega
      · rw [sCt_n a2]
        by_cases a3 : R k
        · rw [sCt_p a3]; omega
        · rw [sCt_n a3]; omega
def tAl (T : Nat → Int32) (t g : Int32) (k : Nat) : Prop := T (6 * k + 2) = t ∧ T (6 * k + 3) = g
def tMa (T : Nat → Int32) (t g v : Int32) (k : Nat) : Prop := tAl T t g k ∧ (v = 0 ∨ (T (6 * k + 4) = v ∧ T (6 * k + 5) = 0))
theorem l_ma (J : zJ) {I : zM} {m : Nat} (h6 : I 147 6 = nI m) (hm : m ≤ 24) (t g v : Int32) : ∀ j k fuel x, k + j = m → j < fuel → f_X12_many_6 J t g v fuel (nI x) (nI k) I = some (.inr (nI (x + sCt (tMa (I 152) t g v) j k), nI m, I)) := by
  intro j
  induction j with
  | zero =>
    intro k fuel x hk hf
    obtain ⟨n, rfl⟩ : ∃ n, fuel = n + 1 := ⟨fuel - 1, by omega⟩
    have e : k = m := by omega
    subst e
    unfold f_X12_many_6
    rw [h6, if_pos (nI_le (Nat.le_refl _) (by omega))]
    rfl
  | succ j ih =>
    intro k fuel x hk hf
    obtain ⟨n, rfl⟩ : ∃ n, fuel = n + 1 := ⟨fuel - 1, by omega⟩
    have h0 : ¬ nI m ≤ nI k := nI_ge (by omega) (by omega)
    have z2 : zin (nI (6 * k + 2)) 144 = true := zin_nI (by omega) (by decide)
    have c2 : Int32.toNatClampNeg (nI (6 * k + 2)) = 6 * k + 2 := nI_clamp (by omega)
    have z3 : zin (nI (6 * k + 3)) 144 = true := zin_nI (by omega) (by decide)
    have c3 : Int32.toNatClampNeg (nI (6 * k + 3)) = 6 * k + 3 := nI_clamp (by omega)
    have z4 : zin (nI (6 * k + 4)) 144 = true := zin_nI (by omega) (by decide)
    have c4 : Int32.toNatClampNeg (nI (6 * k + 4)) = 6 * k + 4 := nI_clamp (by omega)
    have z5 : zin (nI (6 * k + 5)) 144 = true := zin_nI (by omega) (by decide)
    have c5 : Int32.toNatClampNeg (nI (6 * k + 5)) = 6 * k + 5 := nI_clamp (by omega)
    have iy : tMa (I 152) t g v k → f_X12_many_6 J t g v n (nI (x + 1)) (nI (k + 1)) I = some (.inr (nI (x + sCt (tMa (I 152) t g v) (j + 1) k), nI m, I)) := fun p => by
      rw [sCt_p p, ← Nat.add_assoc]
      exact ih (k + 1) n (x + 1) (by omega) (by omega)
    have io : ¬ tMa (I 152) t g v k → f_X12_many_6 J t g v n (nI x) (nI (k + 1)) I = some (.inr (nI (x + sCt (tMa (I 152) t g v) (j + 1) k), nI m, I)) := fun p => by
      rw [sCt_n p]
      exact ih (k + 1) n x (by omega) (by omega)
    simp only [f_X12_many_6, h6, h0, q_6, q_a0, q_a1, q_a2, q_a3, q_a4, q_a5, z2, z3, z4, z5, c2, c3, c4, c5, ↓reduceIte]
    by_cases a1 : I 152 (6 * k + 2) = t
    · rw [if_pos a1]
      by_cases a2 : I 152 (6 * k + 3) = g
      · rw [if_pos a2]
        by_cases a3 : v = 0
        · rw [if_pos a3]
          exact iy ⟨⟨a1, a2⟩, Or.inl a3⟩
        · rw [if_neg a3]
          by_cases a4 : I 152 (6 * k + 4) = v
          · rw [if_pos a4]
            by_cases a5 : I 152 (6 * k + 5) = 0
            · rw [if_pos a5]
              exact iy ⟨⟨a1, a2⟩, Or.inr ⟨a4, a5⟩⟩
            · rw [if_neg a5]
              exact io (fun q => q.2.elim a3 (fun q => a5 q.2))
          · rw [if_neg a4]
            exact io (fun q => q.2.elim a3 (fun q => a4 q.1))
      · rw [if_neg a2]
        exact io (fun q => a2 q.1.2)
    · rw [if_neg a1]
      exact io (fun q => a1 q.1.1)
theorem l_many (J : zJ) {I : zM} {m : Nat} (h6 : I 147 6 = nI m) (hm : m ≤ 24) (t g v : Int32) : f_X12_many J t g v I = some (nI (sCt (tMa (I 152) t g v) m 0), I) := by
  have e : f_X12_many_6 J t g v zF 0 0 I = _ := l_ma J h6 hm t g v m 0 zF 0 (by omega) (by unfold zF; omega)
  unfold f_X12_many
  rw [e, Option.bind_some, Nat.zero_add]
  rfl
theorem vDo_cg {I I' : zM} {d m : Nat} {T : Nat → Int32} (h : ∀ p, p ≠ d + 7 → I' p = I p) (w : vDo I d T m) : vDo I' d T m := by
  obtain ⟨w1, w2, w3, w4⟩ := w
  refine ⟨w1, by rw [h d (by omega)]; exact w2, w3, fun k f hk hf => ?_⟩
  rw [h (d + 1 + f) (by omega)]
  exact w4 k f hk hf
theorem l_tz (J : zJ) (d : Nat) (t g : Int32) (h8 : zR d 8 = d + 7) : ∀ j k fuel (I : zM), k + j = 6 → j < fuel → ∃ I', f_X1_tallyUp_2 J d t g fuel (nI k) I = some (.inr (nI 6, I')) ∧ (∀ p, p ≠ d + 7 → I' p = I p) ∧ (∀ v, k ≤ v → v < 6 → I' (d + 7) v = 0) ∧ (∀ v, v < k → I' (d + 7) v = I (d + 7) v) := by
  intro j
  induction j with
  | zero =>
    intro k fuel I hk hf
    obtain ⟨n, rfl⟩ : ∃ n, fuel = n + 1 := ⟨fuel - 1, by omega⟩
    have e : k = 6 := by omega
    subst e
    refine ⟨I, ?_, fun _ _ => rfl, fun v h1 h2 => absurd h1 (by omega), fun _ _ => rfl⟩
    unfold f_X1_tallyUp_2
    rw [if_pos (show (5 : Int32) < nI 6 by decide)]
  | succ j ih =>
    intro k fuel I hk hf
    obtain ⟨n, rfl⟩ : ∃ n, fuel = n + 1 := ⟨fuel - 1, by omega⟩
    have h0 : ¬ (5 : Int32) < nI k := nI_nlt (a := 5) (by omega) (by decide)
    have z0 : zin (nI (k)) 6 = true := zin_nI (by omega) (by decide)
    have c0 : Int32.toNatClampNeg (nI (k)) = k := nI_clamp (by omega)
    obtain ⟨I', e, f1, f2, f3⟩ := ih (k + 1) n (zu I (d + 7) k 0) (by omega) (by omega)
    refine ⟨I', ?_, fun p hp => (f1 p hp).trans (zu_row hp), fun v h1 h2 => ?_, fun v hv => ?_⟩
    · simp only [f_X1_tallyUp_2, h0, z0, c0, h8, q_a1, ↓reduceIte]
      exact e
    · by_cases ev : v = k
      · rw [f3 v (by omega), zu_at, if_pos ev]
      · exact f2 v (by omega) h2
    · rw [f3 v (by omega), zu_at, if_neg (by omega)]
def tOw (T : Nat → Int32) (t g v : Int32) (k : Nat) : Prop := tAl T t g k ∧ (T (6 * k + 4) = v ∧ T (6 * k + 5) = 0)
def vVa (T : Nat → Int32) (m : Nat) : Prop := ∀ k, k < m → ∃ v, 1 ≤ v ∧ v < 6 ∧ T (6 * k + 4) = nI v
theorem l_ty (J : zJ) {I : zM} {d m : Nat} {T : Nat → Int32} (w : vDo I d T m) (hv : vVa T m) (t g : Int32) (h8 : zR d 8 = d + 7) : ∀ j k fuel a (I' : zM) (c : Nat → Nat), k + j = m → j < fuel → (∀ p, p ≠ d + 7 → I' p = I p) → (∀ v, v < 6 → I' (d + 7) v = nI (c v)) → ∃ I'', f_X1_tallyUp_25 J d t g fuel (nI a) (nI k) I' = some (.inr (nI (a + sCt (tAl T t g) j k), nI m, I'')) ∧ (∀ p, p ≠ d + 7 → I'' p = I p) ∧ (∀ v, v < 6 → I'' (d + 7) v = nI (c v + sCt (tOw T t g (nI v)) j k)) := by
  intro j
  induction j with
  | zero =>
    intro k fuel a I' c hk hf f1 f2
    obtain ⟨n, rfl⟩ : ∃ n, fuel = n + 1 := ⟨fuel - 1, by omega⟩
    have e : k = m := by omega
    subst e
    have hm := w.1
    refine ⟨I', ?_, f1, f2⟩
    unfold f_X1_tallyUp_25
    rw [(vDo_cg f1 w).2.1, if_pos (nI_le (Nat.le_refl _) (by omega))]
    rfl
  | succ j ih =>
    intro k fuel a I' c hk hf f1 f2
    obtain ⟨n, rfl⟩ : ∃ n, fuel = n + 1 := ⟨fuel - 1, by omega⟩
    have hm := w.1
    have w' := vDo_cg f1 w
    have h0 : ¬ nI m ≤ nI k := nI_ge (by omega) (by omega)
    have z0 : zin (nI (k)) 24 = true := zin_nI (by omega) (by decide)
    have c0 : Int32.toNatClampNeg (nI (k)) = k := nI_clamp (by omega)
    obtain ⟨v, hv1, hv2, hv3⟩ := hv k (by omega)
    have zv : zin (nI (v)) 6 = true := zin_nI (by omega) (by decide)
    have cv : Int32.toNatClampNeg (nI (v)) = v := nI_clamp (by omega)
    have r2 := vDo_at w' (k := k) (f := 2) (by omega) (by decide)
    have r3 := vDo_at w' (k := k) (f := 3) (by omega) (by decide)
    have r4 := vDo_at w' (k := k) (f := 4) (by omega) (by decide)
    have r5 := vDo_at w' (k := k) (f := 5) (by omega) (by decide)
    rw [hv3] at r4
    have ne : ∀ u, u < 6 → u ≠ v → ¬ tOw T t g (nI u) k := fun u h1 h2 q => h2 (by
      have := hv3.symm.trans q.2.1
      exact ((nI_eq (by omega) (by omega)).mp this).symm)
    simp only [f_X1_tallyUp_25, w'.2.1, h0, z0, c0, r2, r3, r4, r5, zv, cv, h8, q_a1, ↓reduceIte]
    by_cases a1 : T (6 * k + 2) = t
    case neg =>
      rw [if_neg a1, sCt_n (fun q : tAl T t g k => a1 q.1)]
      obtain ⟨I'', e, g1, g2⟩ := ih (k + 1) n a I' c (by omega) (by omega) f1 f2
      exact ⟨I'', e, g1, fun u hu => by rw [sCt_n (fun q : tOw T t g (nI u) k => a1 q.1.1)]; exact g2 u hu⟩
    rw [if_pos a1]
    by_cases a2 : T (6 * k + 3) = g
    case neg =>
      rw [if_neg a2, sCt_n (fun q : tAl T t g k => a2 q.2)]
      obtain ⟨I'', e, g1, g2⟩ := ih (k + 1) n a I' c (by omega) (by omega) f1 f2
      exact ⟨I'', e, g1, fun u hu => by rw [sCt_n (fun q : tOw T t g (nI u) k => a2 q.1.2)]; exact g2 u hu⟩
    rw [if_pos a2, sCt_p (show tAl T t g k from ⟨a1, a2⟩), ← Nat.add_assoc, f2 v hv2]
    by_cases a5 : T (6 * k + 5) = 0
    · rw [if_pos a5, q_a1]
      obtain ⟨I'', e, g1, g2⟩ := ih (k + 1) n (a + 1) (zu I' (d + 7) v (nI (c v + 1))) (fun u => if u = v then c v + 1 else c u) (by omega) (by omega) (fun p hp => (zu_row hp).trans (f1 p hp)) (fun u hu => by
        rw [zu_at]
        by_cases eu : u = v
        · rw [if_pos eu, if_pos eu]
        · rw [if_neg eu, if_neg eu]
          exact f2 u hu)
      refine ⟨I'', e, g1, fun u hu => ?_⟩
      rw [g2 u hu]
      by_cases eu : u = v
      · subst eu
        rw [if_pos rfl, sCt_p (show tOw T t g (nI u) k from ⟨⟨a1, a2⟩, hv3, a5⟩), Nat.add_assoc]
      · rw [if_neg eu, sCt_n (ne u hu eu)]
    · rw [if_neg a5, q_a0]
      obtain ⟨I'', e, g1, g2⟩ := ih (k + 1) n (a + 1) (zu I' (d + 7) v (nI (c v))) c (by omega) (by omega) (fun p hp => (zu_row hp).trans (f1 p hp)) (fun u hu => by
        rw [zu_at]
        by_cases eu : u = v
        · rw [if_pos eu, eu]
        · rw [if_neg eu]
          exact f2 u hu)
      exact ⟨I'', e, g1, fun u hu => by rw [sCt_n (fun q : tOw T t g (nI u) k => a5 q.2.2)]; exact g2 u hu⟩
theorem l_tallyUp (J : zJ) {I : zM} {d m : Nat} {T : Nat → Int32} (w : vDo I d T m) (hv : vVa T m) (t g : Int32) (h8 : zR d 8 = d + 7) : ∃ I', f_X1_tallyUp J d t g I = some (nI (sCt (tAl T t g) m 0), I') ∧ (∀ p, p ≠ d + 7 → I' p = I p) ∧ (∀ v, v < 6 → I' (d + 7) v = nI (sCt (tOw T t g (nI v)) m 0)) := by
  have hm := w.1
  obtain ⟨I1, e1, f1, f2, -⟩ := l_tz J d t g h8 6 0 zF I (by omega) (by unfold zF; omega)
  obtain ⟨I2, e2, g1, g2⟩ := l_ty J w hv t g h8 m 0 zF 0 I1 (fun _ => 0) (by omega) (by unfold zF; omega) f1 (fun v h => f2 v (by omega) h)
  have e1' : f_X1_tallyUp_2 J d t g zF 0 I = _ := e1
  have e2' : f_X1_tallyUp_25 J d t g zF 0 0 I1 = _ := e2
  refine ⟨I2, ?_, g1, fun v hv => ?_⟩
  · unfold f_X1_tallyUp
    rw [e1', Option.bind_some]
    show (f_X1_tallyUp_25 J d t g zF 0 0 I1).bind _ = _
    rw [e2', Option.bind_some, Nat.zero_add]
    rfl
  · rw [g2 v hv, Nat.zero_add]
