theorem w_base {n : Nat} {I : zM} {J : zJ} (hv : zInv n I J) {b : Nat} (hb : b < 8) : ∃ nn tm le sh a c t m, nn ≤ 24 ∧ eP I b tm le sh a c t ∧ rP I J m ∧ I 147 6 = nI nn ∧ (∃ I0, f_X5_take J (99 + 6 * b) 6 I = some I0 ∧ zCl I I0 ∧ I0 39 3 = -9 ∧ ∀ L, cT (eS I b nn tm le sh a c t (fun g => I 162 (6 * b + g)) L) m I0 J) ∧ ∀ S L q, oP L q → eW (eS I b nn tm le sh a c t S L) m q := by
  obtain ⟨mb, -, -, -, gb⟩ := hv.bar
  have hba := gb b hb
  obtain ⟨tm, le, sh, a, c, t, hp⟩ := eP_of hv.tm hba
  obtain ⟨m, hr⟩ := rP_of hv.rul
  obtain ⟨nn, w, h6⟩ := vDo_of hv.doi
  have hva := vVa_0 hv.doi w.2.1 w.1
  refine ⟨nn, tm, le, sh, a, c, t, m, w.1, hp, hr, h6, ?_, fun S L q hoq => eW_of hv.gap hr hba hoq (Or.inl rfl)⟩
  obtain ⟨I0, k1, k2, k3, k4⟩ := c_take (L := LO I 0) hv.jok hv.gap hr hba hb hp w hva (Or.inl rfl) (lg := -9) (lv := I 147 33) hv.law.1 (Or.inl rfl)
  exact ⟨I0, k1, fun p h1 h2 h3 h4 => k3 p (by omega) (by omega) (by omega) (by omega) (by omega), (k4 3 (by decide) (by decide)).trans hv.law.1, fun L => k2⟩
/-- the twin beside I, but for the words of one bargain -/
def zTp (I : zM) (b : Nat) (S : Nat → Int32) (T : zM) : Prop := (∀ p, 90 < p → p ≠ 147 → p ≠ 162 → (p < 170 ∨ 178 ≤ p) → T p = I p) ∧ ((∀ y, (y < 6 * b ∨ 6 * b + 6 ≤ y) → T 162 y = I 162 y) ∧ ∀ g, g < 6 → T 162 (6 * b + g) = S g) ∧ ∀ k, k < 39 → k ≠ 0 → T 147 k = I 147 k
theorem zTp.tv {I T T' : zM} {b : Nat} {S : Nat → Int32} (h : zTp I b S T) (g : zTv T T') : zTp I b S T' := by
  obtain ⟨a1, a2, a3⟩ := h
  refine ⟨fun p h1 h2 h3 h4 => (g.1 p h2 h4).trans (a1 p h1 h2 h3 h4), ?_, fun k h1 h2 => (g.2 k h1).trans (a3 k h1 h2)⟩
  rw [g.1 162 (by decide) (by decide)]
  exact a2
theorem zTp_g {I T : zM} {nn b : Nat} {S : Nat → Int32} (hv : qDoi I) (h6 : I 147 6 = nI nn) (h : zTp I b S T) (hl : I 147 32 = -9) : zTg I b S (I 152) nn (zbt (I 6 7)) (-9) (I 147 33) T := by
  have e : ∀ p, 90 < p ∧ p < 170 ∧ p ≠ 147 ∧ p ≠ 162 → T p = I p := fun p hp => h.1 p (by omega) (by omega) (by omega) (by omega)
  exact ⟨⟨e 148 (by decide), e 150 (by decide), e 151 (by decide), e 155 (by decide), e 159 (by decide), e 160 (by decide), e 161 (by decide), e 163 (by decide)⟩, h.2.1.2, ⟨e 152 (by decide), (h.2.2 6 (by decide) (by decide)).trans h6, fun i hi => by rw [e 153 (by decide)]; exact qDoi_told hv i hi⟩, ⟨h.2.2 15 (by decide) (by decide), h.2.2 8 (by decide) (by decide), h.2.2 9 (by decide) (by decide), h.2.2 10 (by decide) (by decide)⟩, (h.2.2 32 (by decide) (by decide)).trans hl, h.2.2 33 (by decide) (by decide)⟩
noncomputable def nK (k g : Nat) (x y : Int32) : Int32 := @ite _ (zbt (nI k) g) (Classical.propDecidable _) x y
theorem nK_p {k g : Nat} {x y : Int32} (h : zbt (nI k) g) : nK k g x y = x := if_pos h
theorem nK_n {k g : Nat} {x y : Int32} (h : ¬ zbt (nI k) g) : nK k g x y = y := if_neg h
theorem t_130 (J : zJ) {I T0 : zM} {b k : Nat} (u2 u3 u4 : Int32) (hb : b < 8) (h164 : T0 164 = I 164) : ∀ j g fuel T, g + j = 6 → j < fuel → (∀ p, p ≠ 162 → T p = T0 p) → (∀ y, (y < 6 * b ∨ 6 * b + 6 ≤ y) → T 162 y = T0 162 y) → (∀ h, h < g → T 162 (6 * b + h) = nK k h (alk I h b) (T0 162 (6 * b + h))) → (∀ h, g ≤ h → h < 6 → T 162 (6 * b + h) = T0 162 (6 * b + h)) → ∃ y T', f_X12_words_130 J (nI b) u2 u3 u4 (nI k) fuel (nI g) T = some (.inr (y, T')) ∧ (∀ p, p ≠ 162 → T' p = T0 p) ∧ (∀ y, (y < 6 * b ∨ 6 * b + 6 ≤ y) → T' 162 y = T0 162 y) ∧ ∀ h, h < 6 → T' 162 (6 * b + h) = nK k h (alk I h b) (T0 162 (6 * b + h)) := by
  intro j
  induction j with
  | zero =>
    intro g fuel T hg hf h1 h2 h3 h4
    obtain ⟨n, rfl⟩ : ∃ n, fuel = n + 1 := ⟨fuel - 1, by omega⟩
    have e : g = 6 := by omega
    subst e
    refine ⟨nI 6, T, ?_, h1, h2, h3⟩
    unfold f_X12_words_130
    rw [if_pos (show (6 : Int32) ≤ nI 6 by decide)]
  | succ j ih =>
    intro g fuel T hgj hf h1 h2 h3 h4
    obtain ⟨n, rfl⟩ : ∃ n, fuel = n + 1 := ⟨fuel - 1, by omega⟩
    have h0 : ¬ (6 : Int32) ≤ nI g := nI_ge (b := 6) (by omega) (by decide)
    have hg : g < 6 := by omega
    have z0 : zin (nI (6 * b + g)) 48 = true := zin_nI (by omega) (by decide)
    have c0 : Int32.toNatClampNeg (nI (6 * b + g)) = 6 * b + g := nI_clamp (by omega)
    have bt := zbit_eq (nI k) (show g < 32 by omega)
    have ka := t_alike J (I := I) (T := T) hb hg ((h1 164 (by decide)).trans h164)
    have st : ∀ x, x = nK k g (alk I g b) (T0 162 (6 * b + g)) → ∃ y T', f_X12_words_130 J (nI b) u2 u3 u4 (nI k) n (nI (g + 1)) (zu T 162 (6 * b + g) x) = some (.inr (y, T')) ∧ (∀ p, p ≠ 162 → T' p = T0 p) ∧ (∀ y, (y < 6 * b ∨ 6 * b + 6 ≤ y) → T' 162 y = T0 162 y) ∧ ∀ h, h < 6 → T' 162 (6 * b + h) = nK k h (alk I h b) (T0 162 (6 * b + h)) := fun x hx => ih (g + 1) n _ (by omega) (by omega) (fun p hp => (zu_row hp).trans (h1 p hp)) (fun y hy => (zu_offk (by omega) T 162 _).trans (h2 y hy)) (fun h hh => by
      rw [zu_at]
      by_cases e : h = g
      · rw [if_pos (by omega), hx, e]
      · rw [if_neg (by omega)]
        exact h3 h (by omega)) (fun h hh h6 => by
      rw [zu_offk (by omega)]
      exact h4 h (by omega) h6)
    by_cases c : zbt (nI k) g
    · obtain ⟨y, T', e1, e2⟩ := st (alk I g b) (nK_p c).symm
      refine ⟨y, T', ?_, e2⟩
      unfold f_X12_words_130
      rw [if_neg h0, bt, if_pos (zb_eq1.mpr c), ka, Option.bind_some, q_6, nI_add, if_pos z0, c0, q_a1]
      exact e1
    · obtain ⟨y, T', e1, e2⟩ := st (T 162 (6 * b + g)) (by rw [nK_n c]; exact h4 g (Nat.le_refl _) hg)
      refine ⟨y, T', ?_, e2⟩
      unfold f_X12_words_130
      rw [if_neg h0, bt, if_neg (fun z => c (zb_eq1.mp z)), q_6, nI_add, if_pos z0, if_pos z0, c0, q_a1]
      exact e1
theorem t_270 (J : zJ) {T0 : zM} {b k : Nat} (u2 u3 : Int32) (hb : b < 8) : ∀ j g fuel T, g + j = 6 → j < fuel → (∀ p, p ≠ 162 → T p = T0 p) → (∀ y, (y < 6 * b ∨ 6 * b + 6 ≤ y) → T 162 y = T0 162 y) → (∀ h, h < g → T 162 (6 * b + h) = nK k h 0 (T0 162 (6 * b + h))) → (∀ h, g ≤ h → h < 6 → T 162 (6 * b + h) = T0 162 (6 * b + h)) → ∃ y T', (∀ u4 u6, f_X12_words_270 J (nI b) u2 u3 u4 (nI k) u6 fuel (nI g) T = some (.inr (y, T'))) ∧ (∀ p, p ≠ 162 → T' p = T0 p) ∧ (∀ y, (y < 6 * b ∨ 6 * b + 6 ≤ y) → T' 162 y = T0 162 y) ∧ ∀ h, h < 6 → T' 162 (6 * b + h) = nK k h 0 (T0 162 (6 * b + h)) := by
  intro j
  induction j with
  | zero =>
    intro g fuel T hg hf h1 h2 h3 h4
    obtain ⟨n, rfl⟩ : ∃ n, fuel = n + 1 := ⟨fuel - 1, by omega⟩
    have e : g = 6 := by omega
    subst e
    refine ⟨nI 6, T, ?_, h1, h2, h3⟩
    intro u4 u6
    unfold f_X12_words_270
    rw [if_pos (show (6 : Int32) ≤ nI 6 by decide)]
  | succ j ih =>
    intro g fuel T hgj hf h1 h2 h3 h4
    obtain ⟨n, rfl⟩ : ∃ n, fuel = n + 1 := ⟨fuel - 1, by omega⟩
    have h0 : ¬ (6 : Int32) ≤ nI g := nI_ge (b := 6) (by omega) (by decide)
    have hg : g < 6 := by omega
    have z0 : zin (nI (6 * b + g)) 48 = true := zin_nI (by omega) (by decide)
    have c0 : Int32.toNatClampNeg (nI (6 * b + g)) = 6 * b + g := nI_clamp (by omega)
    have bt := zbit_eq (nI k) (show g < 32 by omega)
    have st : ∀ x, x = nK k g 0 (T0 162 (6 * b + g)) → ∃ y T', (∀ u4 u6, f_X12_words_270 J (nI b) u2 u3 u4 (nI k) u6 n (nI (g + 1)) (zu T 162 (6 * b + g) x) = some (.inr (y, T'))) ∧ (∀ p, p ≠ 162 → T' p = T0 p) ∧ (∀ y, (y < 6 * b ∨ 6 * b + 6 ≤ y) → T' 162 y = T0 162 y) ∧ ∀ h, h < 6 → T' 162 (6 * b + h) = nK k h 0 (T0 162 (6 * b + h)) := fun x hx => ih (g + 1) n _ (by omega) (by omega) (fun p hp => (zu_row hp).trans (h1 p hp)) (fun y hy => (zu_offk (by omega) T 162 _).trans (h2 y hy)) (fun h hh => by
      rw [zu_at]
      by_cases e : h = g
      · rw [if_pos (by omega), hx, e]
      · rw [if_neg (by omega)]
        exact h3 h (by omega)) (fun h hh h6 => by
      rw [zu_offk (by omega)]
      exact h4 h (by omega) h6)
    by_cases c : zbt (nI k) g
    · obtain ⟨y, T', e1, e2⟩ := st 0 (nK_p c).symm
      refine ⟨y, T', ?_, e2⟩
      intro u4 u6
      unfold f_X12_words_270
      rw [if_neg h0, bt, if_pos (zb_eq1.mpr c), q_6, nI_add, if_pos z0, c0, q_a1]
      exact e1 u4 u6
    · obtain ⟨y, T', e1, e2⟩ := st (T 162 (6 * b + g)) (by rw [nK_n c]; exact h4 g (Nat.le_refl _) hg)
      refine ⟨y, T', ?_, e2⟩
      intro u4 u6
      unfold f_X12_words_270
      rw [if_neg h0, bt, if_neg (fun z => c (zb_eq1.mp z)), q_6, nI_add, if_pos z0, if_pos z0, c0, q_a1]
      exact e1 u4 u6
theorem t_194 (J : zJ) {I : zM} {b u : Nat} {A : Nat → Nat} {G : Nat → zM → Prop} (u3 u4 u5 : Int32) (hb : b < 8) (hba : qBa I b) (hG : ∀ S T, G S T → T 164 = I 164) (hr : ∀ i S T, i < 4 → S < 800000 → G S T → ∃ T', f_X12_readIt J (nI b) (nI i) T = some T' ∧ G (S + 1) T' ∧ ∀ g, g < 6 → T' 175 g = nI (dig (A i) g)) : ∀ j i fuel X S T, i + j = 4 → j < fuel → S + j < 800000 → G S T → ∃ y T' S', f_X12_words_194 J (nI b) (nI u) u3 u4 u5 fuel (zb X) (nI i) T = some (.inr (zb (X ∧ okF I b u A i), y, T')) ∧ S' ≤ S + j ∧ G S' T' := by
  intro j
  induction j with
  | zero =>
    intro i fuel X S T hi hf hS hT
    obtain ⟨n, rfl⟩ : ∃ n, fuel = n + 1 := ⟨fuel - 1, by omega⟩
    have e : i = 4 := by omega
    subst e
    refine ⟨nI 4, T, S, ?_, Nat.le_refl _, hT⟩
    unfold f_X12_words_194
    rw [if_pos (show (4 : Int32) ≤ nI 4 by decide), zb_cg (show (X ∧ okF I b u A 4) ↔ X from ⟨fun q => q.1, fun q => ⟨q, okF_end⟩⟩)]
  | succ j ih =>
    intro i fuel X S T hi hf hS hT
    obtain ⟨n, rfl⟩ : ∃ n, fuel = n + 1 := ⟨fuel - 1, by omega⟩
    have h0 : ¬ (4 : Int32) ≤ nI i := nI_ge (b := 4) (by omega) (by decide)
    have hi4 : i < 4 := by omega
    by_cases x : X
    case neg =>
      refine ⟨nI i, T, S, ?_, by omega, hT⟩
      unfold f_X12_words_194
      rw [if_neg h0, if_pos (zb_eq0.mpr x), zb_cg (show (X ∧ okF I b u A i) ↔ X from ⟨fun q => q.1, fun q => absurd q x⟩)]
    have hx0 : ¬ zb X = 0 := fun z => zb_eq0.mp z x
    have bt := zbit_eq (nI u) (show i < 32 by omega)
    by_cases c : zbt (nI u) i
    case neg =>
      obtain ⟨y, T', S', e1, e2, e3⟩ := ih (i + 1) n X S T (by omega) (by omega) (by omega) hT
      refine ⟨y, T', S', ?_, by omega, e3⟩
      unfold f_X12_words_194
      rw [if_neg h0, if_neg hx0, bt, if_neg (fun z => c (zb_eq1.mp z)), q_a1, zb_cg (show (X ∧ okF I b u A i) ↔ (X ∧ okF I b u A (i + 1)) from and_congr Iff.rfl (okF_go (fun h => absurd h c)))]
      exact e1
    obtain ⟨T1, k1, k2, k3⟩ := hr i S T hi4 (by omega) hT
    have e164 := hG _ T1 k2
    have f0 := t_fars J (I := T1) (b := b) (s := 0) (A := A i) (V := I (103 + 6 * b)) hb (by decide) (fun g hg => by rw [e164]; exact th_of hba (show 0 < 2 by decide) g hg) k3
    have f1 := t_fars J (I := T1) (b := b) (s := 1) (A := A i) (V := I (104 + 6 * b)) hb (by decide) (fun g hg => by
      rw [e164]
      have := th_of hba (show 1 < 2 by decide) g hg
      rw [show 103 + 6 * b + 1 = 104 + 6 * b by omega] at this
      exact this) k3
    have f0' : f_X12_fars J (nI b) 0 T1 = _ := f0
    have f1' : f_X12_fars J (nI b) 1 T1 = _ := f1
    have nfi : nFa I b (A i) ↔ (zset (sFa (I (103 + 6 * b)) (A i)) = 0 ∧ zset (sFa (I (104 + 6 * b)) (A i)) = 0) := by
      rw [zset_eq0, zset_eq0]
      exact ⟨fun q => ⟨fun g hg s => q g hg (Or.inl s), fun g hg s => q g hg (Or.inr s)⟩, fun q g hg s => s.elim (q.1 g hg) (q.2 g hg)⟩
    have st : ∀ R, (if zset (sFa (I (103 + 6 * b)) (A i)) = 0 then (if zset (sFa (I (104 + 6 * b)) (A i)) = 0 then f_X12_words_194 J (nI b) (nI u) u3 u4 u5 n 1 (nI (i + 1)) T1 else f_X12_words_194 J (nI b) (nI u) u3 u4 u5 n 0 (nI (i + 1)) T1) else f_X12_words_194 J (nI b) (nI u) u3 u4 u5 n 0 (nI (i + 1)) T1) = R → f_X12_words_194 J (nI b) (nI u) u3 u4 u5 (n + 1) (zb X) (nI i) T = R := fun R hR => by
      rw [← hR]
      conv => lhs; unfold f_X12_words_194
      rw [if_neg h0, if_neg hx0, bt, if_pos (zb_eq1.mpr c), k1, Option.bind_some, f0', Option.bind_some]
      show (if zset (sFa (I (103 + 6 * b)) (A i)) = 0 then ((f_X12_fars J (nI b) 1 T1).bind _) else _) = _
      rw [f1', Option.bind_some, q_a1]
    obtain ⟨y, T', S', e1, e2, e3⟩ := ih (i + 1) n True (S + 1) T1 (by omega) (by omega) (by omega) k2
    obtain ⟨y0, T0, S0, d1, d2, d3⟩ := ih (i + 1) n False (S + 1) T1 (by omega) (by omega) (by omega) k2
    rw [← zb_t (P := True) trivial] at e1
    rw [← zb_f (P := False) (fun q => q)] at d1
    by_cases nf : nFa I b (A i)
    · refine ⟨y, T', S', ?_, by omega, e3⟩
      rw [st _ ((if_pos (nfi.mp nf).1).trans (if_pos (nfi.mp nf).2)), zb_cg (show (X ∧ okF I b u A i) ↔ (True ∧ okF I b u A (i + 1)) from and_congr ⟨fun _ => trivial, fun _ => x⟩ (okF_go (fun _ => nf)))]
      exact e1
    · refine ⟨y0, T0, S0, ?_, by omega, d3⟩
      have z : (X ∧ okF I b u A i) ↔ (False ∧ okF I b u A (i + 1)) := ⟨fun q => absurd (q.2 i (Nat.le_refl _) hi4 c) nf, fun q => q.1.elim⟩
      rw [zb_cg z]
      by_cases w0 : zset (sFa (I (103 + 6 * b)) (A i)) = 0
      · rw [st _ ((if_pos w0).trans (if_neg (fun w1 => nf (nfi.mpr ⟨w0, w1⟩))))]
        exact d1
      · rw [st _ (if_neg w0)]
        exact d1
/-- the best so far -/
def pB (M : Int32) (ok : Nat → Prop) (k : Nat) : Option Nat → Prop
  | none => ∀ x, x < k → ¬ (sub M x ∧ ok x)
  | some f => f < k ∧ sub M f ∧ ok f ∧ ∀ x, x < k → sub M x → ok x → pop f < pop x ∨ (pop f = pop x ∧ f ≤ x)
theorem pB_no {M : Int32} {ok : Nat → Prop} {k : Nat} {r : Option Nat} (h : pB M ok k r) (no : ¬ (sub M k ∧ ok k)) : pB M ok (k + 1) r := by
  cases r with
  | none =>
    intro x hx q
    by_cases e : x = k
    · subst e
      exact no q
    · exact h x (by omega) q
  | some f =>
    refine ⟨by have := h.1; omega, h.2.1, h.2.2.1, fun x hx a b => ?_⟩
    by_cases e : x = k
    · subst e
      exact absurd ⟨a, b⟩ no
    · exact h.2.2.2 x (by omega) a b
theorem pB_le {M : Int32} {ok : Nat → Prop} {k f : Nat} (h : pB M ok k (some f)) (l : pop f ≤ pop k) : pB M ok (k + 1) (some f) := by
  refine ⟨by have := h.1; omega, h.2.1, h.2.2.1, fun x hx a b => ?_⟩
  by_cases e : x = k
  · subst e
    have := h.1
    omega
  · exact h.2.2.2 x (by omega) a b
theorem pB_yes {M : Int32} {ok : Nat → Prop} {k : Nat} {r : Option Nat} (h : pB M ok k r) (s : sub M k) (o : ok k) (l : ∀ f, r = some f → pop k < pop f) : pB M ok (k + 1) (some k) := by
  refine ⟨by omega, s, o, fun x hx a b => ?_⟩
  by_cases e : x = k
  · subst e
    exact Or.inr ⟨rfl, Nat.le_refl _⟩
  · cases r with
    | none => exact absurd ⟨a, b⟩ (h x (by omega))
    | some f =>
      have h1 := h.2.2.2 x (by omega) a b
      have h2 := l f rfl
      left
      omega
theorem t_w91 (J : zJ) {b u : Nat} {M : Int32} {ok : Nat → Prop} {G : Nat → zM → Prop} (hp : ∀ k S T (u4 : Int32), k < 64 → sub M k → S < 700000 → G S T → ∃ T1 T2 T3 y1 y2 y3 S', f_X12_words_130 J (nI b) (nI u) M u4 (nI k) zF 0 T = some (.inr (y1, T1)) ∧ f_X12_words_194 J (nI b) (nI u) M u4 (nI k) zF 1 0 T1 = some (.inr (zb (ok k), y2, T2)) ∧ (∀ u4' u6, f_X12_words_270 J (nI b) (nI u) M u4' (nI k) u6 zF 0 T2 = some (.inr (y3, T3))) ∧ S' ≤ S + 4 ∧ G S' T3) : ∀ j k fuel r S T, k + j = 64 → j < fuel → S + 4 * j < 700000 → pB M ok k r → G S T → ∃ r' y T' S', f_X12_words_91 J (nI b) (nI u) M fuel (cRw r) (nI k) T = some (.inr (cRw r', y, T')) ∧ isB M ok r' ∧ S' ≤ S + 4 * j ∧ G S' T' := by
  intro j
  induction j with
  | zero =>
    intro k fuel r S T hk hf hS hB hT
    obtain ⟨n, rfl⟩ : ∃ n, fuel = n + 1 := ⟨fuel - 1, by omega⟩
    have e : k = 64 := by omega
    subst e
    refine ⟨r, nI 64, T, S, ?_, ?_, Nat.le_refl _, hT⟩
    · unfold f_X12_words_91
      rw [if_pos (show (64 : Int32) ≤ nI 64 by decide)]
    · cases r with
      | none => exact hB
      | some f => exact hB
  | succ j ih =>
    intro k fuel r S T hk hf hS hB hT
    obtain ⟨n, rfl⟩ : ∃ n, fuel = n + 1 := ⟨fuel - 1, by omega⟩
    have h0 : ¬ (64 : Int32) ≤ nI k := nI_ge (b := 64) (by omega) (by decide)
    have hk64 : k < 64 := by omega
    by_cases s : sub M k
    case neg =>
      obtain ⟨r', y, T', S', e1, e2, e3, e4⟩ := ih (k + 1) n r S T (by omega) (by omega) (by omega) (pB_no hB (fun q => s q.1)) hT
      refine ⟨r', y, T', S', ?_, e2, by omega, e4⟩
      unfold f_X12_words_91
      rw [if_neg h0, if_neg (show ¬ nI k &&& (M ^^^ ((-1) : Int32)) = 0 from s), q_a1]
      exact e1
    have s' : nI k &&& (M ^^^ ((-1) : Int32)) = 0 := s
    obtain ⟨T1, T2, T3, y1, y2, y3, S1, k1, k2, k3, k4, k5⟩ := hp k S T (cRw r) hk64 s (by omega) hT
    -- what is done with a set that is tried
    have fin : (∀ f, r = some f → pop k < pop f) → ∃ r' y T' S', ((f_X12_words_130 J (nI b) (nI u) M (cRw r) (nI k) zF 0 T).bind fun q => Sum.elim (fun a => some (.inl a)) (fun a15 => ((f_X12_words_194 J (nI b) (nI u) M (cRw r) (nI k) zF 1 0 a15.2).bind fun q => Sum.elim (fun a => some (.inl a)) (fun a18 => (if a18.1 = 0 then ((f_X12_words_270 J (nI b) (nI u) M (cRw r) (nI k) a18.1 zF 0 a18.2.2).bind fun q => Sum.elim (fun a => some (.inl a)) (fun a22 => f_X12_words_91 J (nI b) (nI u) M n (cRw r) (nI k + 1) a22.2) q) else ((f_X12_words_270 J (nI b) (nI u) M (nI k) (nI k) a18.1 zF 0 a18.2.2).bind fun q => Sum.elim (fun a => some (.inl a)) (fun a25 => f_X12_words_91 J (nI b) (nI u) M n (nI k) (nI k + 1) a25.2) q))) q)) q) = some (.inr (cRw r', y, T')) ∧ isB M ok r' ∧ S' ≤ S + 4 * (j + 1) ∧ G S' T' := fun less => by
      rw [k1, Option.bind_some]
      show ∃ r' y T' S', ((f_X12_words_194 J (nI b) (nI u) M (cRw r) (nI k) zF 1 0 T1).bind _) = _ ∧ _
      rw [k2, Option.bind_some]
      show ∃ r' y T' S', (if zb (ok k) = 0 then ((f_X12_words_270 J (nI b) (nI u) M (cRw r) (nI k) (zb (ok k)) zF 0 T2).bind _) else ((f_X12_words_270 J (nI b) (nI u) M (nI k) (nI k) (zb (ok k)) zF 0 T2).bind _)) = _ ∧ _
      rw [k3, k3, Option.bind_some, Option.bind_some]
      by_cases o : ok k
      · obtain ⟨r', y, T', S', e1, e2, e3, e4⟩ := ih (k + 1) n (some k) S1 T3 (by omega) (by omega) (by omega) (pB_yes hB s o less) k5
        refine ⟨r', y, T', S', ?_, e2, by omega, e4⟩
        rw [if_neg (fun z => zb_eq0.mp z o)]
        show f_X12_words_91 J (nI b) (nI u) M n (nI k) (nI k + 1) T3 = _
        rw [q_a1]
        exact e1
      · obtain ⟨r', y, T', S', e1, e2, e3, e4⟩ := ih (k + 1) n r S1 T3 (by omega) (by omega) (by omega) (pB_no hB (fun q => o q.2)) k5
        refine ⟨r', y, T', S', ?_, e2, by omega, e4⟩
        rw [if_pos (zb_eq0.mpr o)]
        show f_X12_words_91 J (nI b) (nI u) M n (cRw r) (nI k + 1) T3 = _
        rw [q_a1]
        exact e1
    cases r with
    | none =>
      obtain ⟨r', y, T', S', e1, e2⟩ := fin (fun f h => by cases h)
      refine ⟨r', y, T', S', ?_, e2⟩
      rw [← e1]
      conv => lhs; unfold f_X12_words_91
      rw [if_neg h0, if_pos s', if_pos (show cRw none = -9 from rfl)]
    | some f =>
      have hf64 : f < 64 := by have := hB.1; omega
      have b1 := t_bits J T hk64
      have b2 := t_bits J T hf64
      have pk := pop_le k
      have pf := pop_le f
      have n9 : ¬ cRw (some f) = -9 := m9_ne (k := f) (by omega)
      have b2' : f_X12_bits J (cRw (some f)) T = _ := b2
      by_cases l : pop f ≤ pop k
      · obtain ⟨r', y, T', S', e1, e2, e3, e4⟩ := ih (k + 1) n (some f) S T (by omega) (by omega) (by omega) (pB_le hB l) hT
        refine ⟨r', y, T', S', ?_, e2, by omega, e4⟩
        unfold f_X12_words_91
        rw [if_neg h0, if_pos s', if_neg n9, b1, Option.bind_some]
        show ((f_X12_bits J (cRw (some f)) T).bind _) = _
        rw [b2', Option.bind_some, if_pos (show nI (pop f) ≤ nI (pop k) from nI_le l (by omega)), q_a1]
        exact e1
      · obtain ⟨r', y, T', S', e1, e2⟩ := fin (fun f' h => by cases h; omega)
        refine ⟨r', y, T', S', ?_, e2⟩
        rw [← e1]
        conv => lhs; unfold f_X12_words_91
        rw [if_neg h0, if_pos s', if_neg n9, b1, Option.bind_some]
        show ((f_X12_bits J (cRw (some f)) T).bind _) = _
        rw [b2', Option.bind_some, if_neg (show ¬ nI (pop f) ≤ nI (pop k) from nI_ge (by omega) (by omega))]
theorem sub_may {I : zM} {b k g : Nat} (hg : g < 6) (h : sub (zset (may I b)) k) (c : zbt (nI k) g) : I 162 (6 * b + g) = 0 := by
  by_cases m : may I b g
  · exact m.1
  · exfalso
    have : zbt (nI k &&& (zset (may I b) ^^^ ((-1) : Int32))) g := (zbt_and _ _ g).mpr ⟨c, (zbt_not _ (by omega)).mpr (fun q => m ((zset_bit (by omega)).mp q).2)⟩
    have e : nI k &&& (zset (may I b) ^^^ ((-1) : Int32)) = 0 := h
    rw [e] at this
    exact zbt_0 g this
theorem q_words : zS_words zInv := by
  intro n I J v1 v2 hn hv
  obtain ⟨mb, hm, g2, g25, gb⟩ := hv.bar
  by_cases h1 : zlt v1 mb
  case neg =>
    refine ⟨-1, I, zu I 147 0 0, ?_, ?_, zInv_thrown hv⟩
    · unfold f_X11_words
      rw [l_isBargain J v1 I g2 (by omega), ← zb_f h1, Option.bind_some, if_pos rfl]
    · unfold f_X12_words
      rw [l_noBargain J v1 (zu I 147 0 0) g25 (by omega), ← zb_t (P := ¬ zlt v1 mb) h1, Option.bind_some, if_neg i10]
  by_cases h2 : zrg v2 1 15
  case neg =>
    refine ⟨-2, I, zu I 147 0 0, ?_, ?_, zInv_thrown hv⟩
    · unfold f_X11_words
      rw [l_isBargain J v1 I g2 (by omega), ← zb_t h1, Option.bind_some, if_neg i10]
      by_cases a : v2 < 1
      · rw [if_pos a]
      · rw [if_neg a, if_neg (fun c : v2 < 16 => h2 (by
          have e16 : (16 : Int32).toInt = 16 := by decide +kernel
          rw [Int32.lt_iff_toInt_lt, e16] at c
          rw [Int32.lt_iff_toInt_lt, tl_1] at a
          unfold zrg
          omega))]
    · unfold f_X12_words
      rw [l_noBargain J v1 (zu I 147 0 0) g25 (by omega), ← zb_f (P := ¬ zlt v1 mb) (fun q => q h1), Option.bind_some, if_pos rfl, l_in_1_15, ← zb_f h2, Option.bind_some, if_pos rfl]
  obtain ⟨b, hbm, rfl⟩ := zlt_nI h1 (by omega)
  obtain ⟨u, hu1, hu, rfl⟩ := zrg_nI h2 (by decide)
  have hb : b < 8 := by omega
  have hba := gb b hb
  obtain ⟨nn, tm, le, sh, a, c, t, m, hnn, hp, hr, h6, ⟨I0, k1, z0, l0, k2⟩, fw⟩ := w_base hv hb
  have exq : ∀ o : Nat, ∃ q : Nat, o < 4 → oP (LO I o) q ∧ I 158 o = nI q ∧ ∀ I', zCl I I' → I' (91 + 2 * o) 1 = nI q ∧ ∀ k, k < q → I' (91 + 2 * o + 1) k = LO I o k := fun o => by
    by_cases ho : o < 4
    · obtain ⟨q, a1, -, a2, a3⟩ := r_ord hv ho
      exact ⟨q, fun _ => ⟨a1, a2, a3⟩⟩
    · exact ⟨0, fun h => absurd h ho⟩
  obtain ⟨Q, hQ⟩ := Classical.axiomOfChoice exq
  -- the answers by a set and an order
  obtain ⟨A, hA⟩ : ∃ A : Nat → Nat → Nat, ∀ k i, A k i = rA (eNx (eS I b nn tm le sh a c t (Sy I b k) (LO I i)) m (Q i)) := ⟨fun k i => rA (eNx (eS I b nn tm le sh a c t (Sy I b k) (LO I i)) m (Q i)), fun _ _ => rfl⟩
  have hA6 : ∀ k i, A k i < 46656 := fun k i => by rw [hA]; exact rA_lt
  have cls : ∀ k I', k < 64 → (zCl I I' ∧ I' 39 3 = -9 ∧ ∃ S', cT (eS I b nn tm le sh a c t S' (LO I 0)) m I' J) → ∃ I1, f_X11_isAsThought J (99 + 6 * b) (nI k) (nI u) I' = some (zb (okF I b u (A k) 0), I1) ∧ (zCl I I1 ∧ I1 39 3 = -9 ∧ ∃ S', cT (eS I b nn tm le sh a c t S' (LO I 0)) m I1 J) := fun k I' hk ⟨e1, e2, S', e3⟩ => by
    obtain ⟨I1, s1, s2, s3⟩ := l_sayToo J hb hk hba e1
    have z1 : zCl I I1 := e1.tr (fun p p1 _ _ _ => s2 p (by omega))
    obtain ⟨I2, d1, d2⟩ := l_at12 J (I := I) (b := b) (u := u) (k := k) (A := A k) (G := fun I' => zCl I I' ∧ I' 39 3 = -9 ∧ cT (eS I b nn tm le sh a c t (Sy I b k) (LO I 0)) m I' J) hb (hA6 k) (fun I' h => h.1) (fun i I' hi h => by
      obtain ⟨q1, q2, q3⟩ := hQ i hi
      obtain ⟨x1, x2⟩ := q3 I' h.1
      have hc : cT (eS I b nn tm le sh a c t (Sy I b k) (LO I i)) m I' J := h.2.2
      obtain ⟨I'', c1, c2, c3, c4⟩ := c_rd (fw (Sy I b k) (LO I i) (Q i) q1) hc rfl (Or.inr (show 75 ≤ 91 + 2 * i by omega)) (zr_p1 hi) x1 x2
      exact ⟨I'', c1, by rw [c3, hA], h.1.tr (zCl.re c2), (c2.2 3 (by decide)).trans h.2.1, c4⟩) 4 0 zF I1 rfl (by unfold zF; omega) ⟨z1, by rw [s2 39 (by decide)]; exact e2, cT_say e3 s2 s3 (LO I 0)⟩
    refine ⟨I2, ?_, d2.1, d2.2.1, _, d2.2.2⟩
    unfold f_X11_isAsThought
    rw [s1, Option.bind_some]
    exact d1
  have sy := l_sayable J hb hba z0
  obtain ⟨r, I1, g1, g3, g4⟩ := l_w54 J (b := b) (u := u) (M := zset (may I b)) (ok := fun k => okF I b u (A k) 0) (G := fun I' => zCl I I' ∧ I' 39 3 = -9 ∧ ∃ S', cT (eS I b nn tm le sh a c t S' (LO I 0)) m I' J) hb cls 7 0 zF I0 rfl (by unfold zF; omega) (fun _ _ _ _ => Nat.zero_le _) ⟨z0, l0, _, k2 (LO I 0)⟩
  have g4' : ((f_X11_words_54 J (nI b) (nI u) (zset (may I b)) zF 0 I0).bind fun q => Sum.elim (fun a => some a) (fun a14 => some (((-9), a14.2))) q) = _ := g4
  -- the twin
  obtain ⟨S, s1, s2⟩ := tQ_of hv g1.1
  have hl9 := hv.law.2
  have row : ∀ p, 90 < p → p ≠ 147 → (zu I1 147 0 0) p = I p := fun p a b => (zu_row b).trans (zCl_at g1.1 a)
  have w35 := t_w35 J (I := I) (T := zu I1 147 0 0) (nI u) hb hba (row 162 (by decide) (by decide)) (row 164 (by decide) (by decide)) 6 0 zF rfl (by unfold zF; omega)
  rw [← zs_0] at w35
  have w35' : f_X12_words_35 J (nI b) (nI u) zF 0 0 (zu I1 147 0 0) = _ := w35
  obtain ⟨r', y, T, S', t1, t2, t3, t4⟩ := t_w91 J (b := b) (u := u) (M := zset (may I b)) (ok := fun k => okF I b u (A k) 0) (G := fun S T => zTl I T ∧ T 147 32 = -9 ∧ T 147 33 = I 147 33 ∧ (∀ p, p ≤ 90 → T p = I1 p) ∧ tQ S T) (fun k S T u4 hk hs hS ⟨a1, a2, a3, a4, a5⟩ => by
    have f162 : T 162 = I 162 := a1.1 162 (by decide) (by decide) (by decide)
    obtain ⟨y1, T1, b1, b2, b3, b4⟩ := t_130 J (I := I) (T0 := T) (b := b) (k := k) (nI u) (zset (may I b)) u4 hb (a1.1 164 (by decide) (by decide) (by decide)) 6 0 zF T rfl (by unfold zF; omega) (fun _ _ => rfl) (fun _ _ => rfl) (fun h hh => absurd hh (by omega)) (fun _ _ _ => rfl)
    have b1' : f_X12_words_130 J (nI b) (nI u) (zset (may I b)) u4 (nI k) zF 0 T = _ := b1
    have zp : zTp I b (Sy I b k) T1 := ⟨fun p p1 p2 p3 p4 => (b2 p p3).trans (a1.1 p p1 p2 p4), ⟨fun y hy => by rw [b3 y hy, f162], fun g hg => by
      rw [b4 g hg, f162]
      by_cases c : zbt (nI k) g
      · rw [nK_p c, Sy_p c]
      · rw [nK_n c, Sy_n c]⟩, fun x x1 x2 => by
      rw [b2 147 (by decide)]
      by_cases e32 : x = 32
      · rw [e32, a2, hl9]
      · by_cases e33 : x = 33
        · rw [e33, a3]
        · exact a1.2 x x1 x2 e32 e33⟩
    obtain ⟨y2, T2, S2, d1, d2, d3, d4, d5⟩ := t_194 J (I := I) (b := b) (u := u) (A := A k) (G := fun S T => zTp I b (Sy I b k) T ∧ (∀ p, p ≤ 90 → T p = I1 p) ∧ tQ S T) (zset (may I b)) u4 (nI k) hb hba (fun S T h => h.1.1 164 (by decide) (by decide) (by decide) (by decide)) (fun i S T hi hS ⟨x1, x2, x3⟩ => by
      obtain ⟨q1, q2, q3⟩ := hQ i hi
      have hq5 := q1.1
      have te := t_gen (J := J) (L := LO I i) (q := Q i) (o := i) hr hp (zTp_g hv.doi h6 x1 hl9) hnn (by rw [x1.1 158 (by decide) (by decide) (by decide) (by decide)]; exact q2) (fun k hk => by rw [x1.1 157 (by decide) (by decide) (by decide) (by decide)]; rfl)
      obtain ⟨T', r1, r2, r3, r4⟩ := t_rdi J (fw (Sy I b k) (LO I i) (Q i) q1) te hb (show i < 5 by omega) (show S < 900000 by omega) x3
      exact ⟨T', r1, ⟨x1.tv r2.v, fun p hp => (r2.1 p (by omega) (by omega)).trans (x2 p hp), r3⟩, fun g hg => by rw [r4 g hg, hA]⟩) 4 0 zF True S T1 rfl (by unfold zF; omega) (by omega) ⟨zp, fun p hp => (b2 p (by omega)).trans (a4 p hp), by rw [b2 147 (by decide)]; exact a5.1, by rw [b2 173 (by decide)]; exact a5.2⟩
    rw [← zb_t (P := True) trivial, zb_cg (show (True ∧ okF I b u (A k) 0) ↔ okF I b u (A k) 0 from ⟨fun q => q.2, fun q => ⟨trivial, q⟩⟩)] at d1
    have d1' : f_X12_words_194 J (nI b) (nI u) (zset (may I b)) u4 (nI k) zF 1 0 T1 = _ := d1
    -- the words are laid back, whatever numbers go along
    obtain ⟨y3, T3, e1, e2, e3, e4⟩ := t_270 J (T0 := T2) (b := b) (k := k) (nI u) (zset (may I b)) hb 6 0 zF T2 rfl (by unfold zF; omega) (fun _ _ => rfl) (fun _ _ => rfl) (fun h hh => absurd hh (by omega)) (fun _ _ _ => rfl)
    have r162 : T3 162 = I 162 := by
      funext j
      by_cases hj : j < 6 * b ∨ 6 * b + 6 ≤ j
      · rw [e3 j hj]
        exact d3.2.1.1 j hj
      · obtain ⟨g, hg, rfl⟩ : ∃ g, g < 6 ∧ j = 6 * b + g := ⟨j - 6 * b, by omega, by omega⟩
        rw [e4 g hg]
        by_cases c : zbt (nI k) g
        · rw [nK_p c]
          exact (sub_may hg hs c).symm
        · rw [nK_n c, d3.2.1.2 g hg, Sy_n c]
    refine ⟨T1, T2, T3, y1, y2, y3, S2, b1', d1', e1, d2, ⟨fun p p1 p2 p3 => ?_, fun x x1 x2 _ _ => by rw [e2 147 (by decide)]; exact d3.2.2 x x1 x2⟩, ?_, ?_, fun p hp => (e2 p (by omega)).trans (d4 p hp), ?_, ?_⟩
    · by_cases e : p = 162
      · rw [e]
        exact r162
      · exact (e2 p e).trans (d3.1 p p1 p2 e p3)
    · rw [e2 147 (by decide), d3.2.2 32 (by decide) (by decide)]
      exact hl9
    · rw [e2 147 (by decide)]
      exact d3.2.2 33 (by decide) (by decide)
    · rw [e2 147 (by decide)]
      exact d5.1
    · rw [e2 173 (by decide)]
      exact d5.2) 64 0 zF none S (zu I1 147 0 0) rfl (by unfold zF; omega) (by omega) (fun x hx => absurd hx (by omega)) ⟨zTl_th g1.1, by rw [zu_offk (by decide), zCl_at g1.1 (by decide)]; exact hl9, by rw [zu_offk (by decide), zCl_at g1.1 (by decide)], fun p hp => zu_row (by omega), s2⟩
  have er : r' = r := isB_one t2 g3
  rw [er] at t1
  have t1' : f_X12_words_91 J (nI b) (nI u) (zset (may I b)) zF (-9) 0 (zu I1 147 0 0) = _ := t1
  have z7 : zin (nI (b)) 8 = true := zin_nI (by omega) (by decide)
  have c7 : Int32.toNatClampNeg (nI (b)) = b := nI_clamp (by omega)
  have lt1 : ¬ nI u < 1 := nI_nlt (b := 1) hu1 (by omega)
  have lt16 : nI u < 16 := nI_lt (b := 16) (by omega) (by decide)
  refine ⟨cRw r, I1, T, ?_, ?_, zInv_tl hv g1.1 g1.2.1 t4.1 t4.2.1 t4.2.2.2.1 t4.2.2.2.2 (by omega)⟩
  · unfold f_X11_words
    rw [l_isBargain J (nI b) I g2 (by omega), ← zb_t h1, Option.bind_some, if_neg i10, if_neg lt1, if_pos lt16, if_pos z7, c7, zr_34 b hb]
    show ((f_X5_take J (99 + 6 * b) 6 I).bind _) = _
    rw [k1, Option.bind_some, if_pos z7, sy, Option.bind_some]
    exact g4'
  · unfold f_X12_words
    rw [l_noBargain J (nI b) (zu I1 147 0 0) (n := mb) (by rw [zu_offk (by decide), zCl_at g1.1 (by decide)]; exact g25) (by omega), ← zb_f (P := ¬ zlt (nI b) mb) (fun q => q h1), Option.bind_some, if_pos rfl, l_in_1_15, ← zb_t h2, Option.bind_some, if_neg i10, w35', Option.bind_some]
    show ((f_X12_words_91 J (nI b) (nI u) (zset (may I b)) zF (-9) 0 (zu I1 147 0 0)).bind _) = _
    rw [t1', Option.bind_some]
    rfl
