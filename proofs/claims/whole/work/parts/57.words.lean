/-! ===== words ===== -/
/-- what is said with the thoughts at a set of gaps put behind -/
noncomputable def Sy (I : zM) (b k g : Nat) : Int32 := @ite _ (zbt (nI k) g) (Classical.propDecidable _) (alk I g b) (I 162 (6 * b + g))
theorem Sy_p {I : zM} {b k g : Nat} (h : zbt (nI k) g) : Sy I b k g = alk I g b := if_pos h
theorem Sy_n {I : zM} {b k g : Nat} (h : ¬ zbt (nI k) g) : Sy I b k g = I 162 (6 * b + g) := if_neg h
noncomputable def eS (I : zM) (b nn tm le sh a c t : Nat) (S L : Nat → Int32) : zM := eOf I S L (I 152) nn (zbt (I 6 7)) tm le sh a c t (I 163 b) (-9) (I 147 33)
/-- where sayings can be put -/
def may (I : zM) (b g : Nat) : Prop := I 162 (6 * b + g) = 0 ∧ ¬ alk I g b = 0
theorem l_sy4 (J : zJ) {I I' : zM} {b : Nat} (hb : b < 8) (hba : qBa I b) (hz : zCl I I') : ∀ j g fuel, g + j = 6 → j < fuel → f_X0_sayable_4 J (99 + 6 * b) fuel (zset (fun i => i < g ∧ may I b i)) (nI g) I' = some (.inr (zset (may I b), nI 6, I')) := by
  have r1 := zr_ba3 b hb
  have r2 := zr_sa0 b hb
  intro j
  induction j with
  | zero =>
    intro g fuel hk hf
    obtain ⟨n, rfl⟩ : ∃ n, fuel = n + 1 := ⟨fuel - 1, by omega⟩
    have e : g = 6 := by omega
    subst e
    unfold f_X0_sayable_4
    rw [if_pos (show (6 : Int32) ≤ nI 6 by decide), zset_6]
  | succ j ih =>
    intro g fuel hk hf
    obtain ⟨n, rfl⟩ : ∃ n, fuel = n + 1 := ⟨fuel - 1, by omega⟩
    have h0 : ¬ (6 : Int32) ≤ nI g := nI_ge (b := 6) (by omega) (by decide)
    have hg : g < 6 := by omega
    have z0 : zin (nI (g)) 6 = true := zin_nI (by omega) (by decide)
    have c0 : Int32.toNatClampNeg (nI (g)) = g := nI_clamp (by omega)
    have st := ih (g + 1) n (by omega) (by omega)
    have kc := l_common J (I' := I') hba hb hg (zCl_at hz (by omega)) (zCl_at hz (by omega))
    have e1 : I' (101 + 6 * b) g = I 162 (6 * b + g) := by rw [zCl_at hz (by omega)]; exact (hba.2.2.2.1 g hg).1
    unfold f_X0_sayable_4
    rw [if_neg h0, if_pos z0, c0, r1, r2, e1, q_a1]
    by_cases a : I 162 (6 * b + g) = 0
    · rw [if_pos a, kc, Option.bind_some]
      by_cases c : alk I g b = 0
      · rw [if_pos c, zs_no (P := may I b) (fun q => q.2 c)]
        exact st
      · rw [if_neg c, zs_go (P := may I b) ⟨a, c⟩ hg]
        exact st
    · rw [if_neg a, zs_no (P := may I b) (fun q => a q.1)]
      exact st
theorem l_sayable (J : zJ) {I I' : zM} {b : Nat} (hb : b < 8) (hba : qBa I b) (hz : zCl I I') : f_X0_sayable J (99 + 6 * b) I' = some (zset (may I b), I') := by
  have k := l_sy4 J hb hba hz 6 0 zF rfl (by unfold zF; omega)
  rw [← zs_0] at k
  have k' : f_X0_sayable_4 J (99 + 6 * b) zF 0 0 I' = _ := k
  unfold f_X0_sayable
  rw [k', Option.bind_some]
  rfl
theorem t_w35 (J : zJ) {I T : zM} {b : Nat} (u2 : Int32) (hb : b < 8) (hba : qBa I b) (h162 : T 162 = I 162) (h164 : T 164 = I 164) : ∀ j g fuel, g + j = 6 → j < fuel → f_X12_words_35 J (nI b) u2 fuel (zset (fun i => i < g ∧ may I b i)) (nI g) T = some (.inr (zset (may I b), nI 6, T)) := by
  intro j
  induction j with
  | zero =>
    intro g fuel hk hf
    obtain ⟨n, rfl⟩ : ∃ n, fuel = n + 1 := ⟨fuel - 1, by omega⟩
    have e : g = 6 := by omega
    subst e
    unfold f_X12_words_35
    rw [if_pos (show (6 : Int32) ≤ nI 6 by decide), zset_6]
  | succ j ih =>
    intro g fuel hk hf
    obtain ⟨n, rfl⟩ : ∃ n, fuel = n + 1 := ⟨fuel - 1, by omega⟩
    have h0 : ¬ (6 : Int32) ≤ nI g := nI_ge (b := 6) (by omega) (by decide)
    have hg : g < 6 := by omega
    have z0 : zin (nI (6 * b + g)) 48 = true := zin_nI (by omega) (by decide)
    have c0 : Int32.toNatClampNeg (nI (6 * b + g)) = 6 * b + g := nI_clamp (by omega)
    have st := ih (g + 1) n (by omega) (by omega)
    have ka := t_alike J (I := I) (T := T) hb hg h164
    have rg := alk_rg hba hg
    unfold f_X12_words_35
    rw [if_neg h0, q_6, nI_add, if_pos z0, c0, h162, q_a1, or_0]
    by_cases a : I 162 (6 * b + g) = 0
    · rw [if_pos a, ka, Option.bind_some]
      by_cases c : alk I g b = 0
      · rw [if_pos (show alk I g b ≤ 0 by rw [c]; decide), zs_no (P := may I b) (fun q => q.2 c)]
        exact st
      · rw [if_neg (fun z => c ((rg_le0 rg).mp z)), zs_go (P := may I b) ⟨a, c⟩ hg]
        exact st
    · rw [if_neg a, zs_no (P := may I b) (fun q => a q.1)]
      exact st
/-! the class says too -/
theorem l_st2 (J : zJ) {I I0 : zM} {b k : Nat} (hb : b < 8) (hk : k < 64) (hba : qBa I b) (hz : zCl I I0) : ∀ j g fuel I', g + j = 6 → j < fuel → (∀ p, p ≠ 40 → I' p = I0 p) → (∀ h, h < g → I' 40 h = Sy I b k h) → ∃ y I'', f_X5_sayToo_2 J (99 + 6 * b) (nI k) fuel (nI g) I' = some (.inr (y, I'')) ∧ (∀ p, p ≠ 40 → I'' p = I0 p) ∧ ∀ h, h < 6 → I'' 40 h = Sy I b k h := by
  have r1 := zr_ba3 b hb
  have r2 := zr_sa0 b hb
  intro j
  induction j with
  | zero =>
    intro g fuel I' hg hf h1 h2
    obtain ⟨n, rfl⟩ : ∃ n, fuel = n + 1 := ⟨fuel - 1, by omega⟩
    have e : g = 6 := by omega
    subst e
    refine ⟨nI 6, I', ?_, h1, h2⟩
    unfold f_X5_sayToo_2
    rw [if_pos (show (6 : Int32) ≤ nI 6 by decide)]
  | succ j ih =>
    intro g fuel I' hgj hf h1 h2
    obtain ⟨n, rfl⟩ : ∃ n, fuel = n + 1 := ⟨fuel - 1, by omega⟩
    have h0 : ¬ (6 : Int32) ≤ nI g := nI_ge (b := 6) (by omega) (by decide)
    have hg : g < 6 := by omega
    have z0 : zin (nI (g)) 6 = true := zin_nI (by omega) (by decide)
    have c0 : Int32.toNatClampNeg (nI (g)) = g := nI_clamp (by omega)
    have kb := l_bit J (nI k) I' (j := g) (by omega)
    have kc := l_common J (I' := I') hba hb hg ((h1 _ (by omega)).trans (zCl_at hz (by omega))) ((h1 _ (by omega)).trans (zCl_at hz (by omega)))
    have st : ∀ x, x = Sy I b k g → ∃ y I'', f_X5_sayToo_2 J (99 + 6 * b) (nI k) n (nI (g + 1)) (zu I' 40 g x) = some (.inr (y, I'')) ∧ (∀ p, p ≠ 40 → I'' p = I0 p) ∧ ∀ h, h < 6 → I'' 40 h = Sy I b k h := fun x hx => ih (g + 1) n (zu I' 40 g x) (by omega) (by omega) (fun p hp => (zu_row hp).trans (h1 p hp)) (fun h hh => by
      rw [zu_at]
      by_cases e : h = g
      · rw [if_pos e, hx, e]
      · rw [if_neg e]
        exact h2 h (by omega))
    by_cases c : zbt (nI k) g
    · obtain ⟨y, I'', e1, e2⟩ := st (alk I g b) (Sy_p c).symm
      refine ⟨y, I'', ?_, e2⟩
      unfold f_X5_sayToo_2
      rw [if_neg h0, kb, Option.bind_some, if_pos (zb_eq1.mpr c)]
      show ((f_X0_commonThought J (99 + 6 * b) (nI g) I').bind _) = _
      rw [kc, Option.bind_some, if_pos z0, c0, q_a1]
      exact e1
    · obtain ⟨y, I'', e1, e2⟩ := st (I' (101 + 6 * b) g) (by rw [Sy_n c, h1 _ (by omega), zCl_at hz (by omega)]; exact (hba.2.2.2.1 g hg).1)
      refine ⟨y, I'', ?_, e2⟩
      unfold f_X5_sayToo_2
      rw [if_neg h0, kb, Option.bind_some, if_neg (fun z => c (zb_eq1.mp z)), if_pos z0, if_pos z0, c0, r1, r2, q_a1]
      exact e1
theorem l_sayToo (J : zJ) {I I0 : zM} {b k : Nat} (hb : b < 8) (hk : k < 64) (hba : qBa I b) (hz : zCl I I0) : ∃ I', f_X5_sayToo J (99 + 6 * b) (nI k) I0 = some I' ∧ (∀ p, p ≠ 40 → I' p = I0 p) ∧ ∀ h, h < 6 → I' 40 h = Sy I b k h := by
  obtain ⟨y, I', e, f1, f2⟩ := l_st2 J hb hk hba hz 6 0 zF I0 rfl (by unfold zF; omega) (fun _ _ => rfl) (fun h hh => absurd hh (by omega))
  have e' : f_X5_sayToo_2 J (99 + 6 * b) (nI k) zF 0 I0 = _ := e
  refine ⟨I', ?_, f1, f2⟩
  unfold f_X5_sayToo
  rw [e', Option.bind_some]
  rfl
theorem cT_say {I I1 I2 : zM} {J : zJ} {b nn tm le sh a c t m : Nat} {S S' L : Nat → Int32} (h : cT (eS I b nn tm le sh a c t S' L) m I1 J) (h1 : ∀ p, p ≠ 40 → I2 p = I1 p) (h2 : ∀ g, g < 6 → I2 40 g = S g) (L' : Nat → Int32) : cT (eS I b nn tm le sh a c t S L') m I2 J := by
  obtain ⟨c1, ⟨c2, c3⟩, c4, c5, c6, c7, c8⟩ := h
  refine ⟨cG_cg (fun p a b => h1 p (by omega)) c1, ⟨by rw [h1 18 (by decide)]; exact c2, fun r hr => ?_⟩, fun g hg => ⟨h2 g hg, ?_, ?_⟩, ?_, ?_, ?_, ?_⟩
  · obtain ⟨x, y, z⟩ := c3 r hr
    refine ⟨x, y, ?_⟩
    rw [h1 (zrp J r) (by omega)]
    exact z
  · rw [h1 41 (by decide)]; exact (c4 g hg).2.1
  · rw [h1 42 (by decide)]; exact (c4 g hg).2.2
  · rw [h1 39 (by decide)]; exact c5
  · rw [h1 39 (by decide)]; exact c6
  · rw [h1 39 (by decide)]; exact c7
  · rw [h1 39 (by decide)]; exact c8
/-- no side is far at any gap -/
def nFa (I : zM) (b A : Nat) : Prop := ∀ g, g < 6 → ¬ (sFa (I (103 + 6 * b)) A g ∨ sFa (I (104 + 6 * b)) A g)
/-- by the orders from i on that are asked for -/
def okF (I : zM) (b u : Nat) (A : Nat → Nat) (i : Nat) : Prop := ∀ h, i ≤ h → h < 4 → zbt (nI u) h → nFa I b (A h)
theorem okF_end {I : zM} {b u : Nat} {A : Nat → Nat} : okF I b u A 4 := fun h h1 h2 => absurd h1 (by omega)
theorem okF_go {I : zM} {b u i : Nat} {A : Nat → Nat} (h : zbt (nI u) i → nFa I b (A i)) : okF I b u A i ↔ okF I b u A (i + 1) := by
  constructor
  · exact fun q h h1 h2 h3 => q h (by omega) h2 h3
  · intro q x h1 h2 h3
    by_cases e : x = i
    · subst e
      exact h h3
    · exact q x (by omega) h2 h3
theorem l_at12 (J : zJ) {I : zM} {b u k : Nat} {A : Nat → Nat} {G : zM → Prop} (hb : b < 8) (hA : ∀ i, A i < 46656) (hG : ∀ I', G I' → zCl I I') (hr : ∀ i I', i < 4 → G I' → ∃ I1, f_X5_read J (91 + 2 * i) I' = some I1 ∧ I1 39 14 = nI (A i) ∧ G I1) : ∀ j i fuel I', i + j = 4 → j < fuel → G I' → ∃ I'', ((f_X11_isAsThought_12 J (99 + 6 * b) (nI k) (nI u) fuel (nI i) I').bind fun q => Sum.elim (fun a => some a) (fun a5 => some ((1, a5.2))) q) = some (zb (okF I b u A i), I'') ∧ G I'' := by
  intro j
  induction j with
  | zero =>
    intro i fuel I' hi hf hI
    obtain ⟨n, rfl⟩ : ∃ n, fuel = n + 1 := ⟨fuel - 1, by omega⟩
    have e : i = 4 := by omega
    subst e
    refine ⟨I', ?_, hI⟩
    unfold f_X11_isAsThought_12
    rw [if_pos (show (4 : Int32) ≤ nI 4 by decide), ← zb_t (P := okF I b u A 4) okF_end]
    rfl
  | succ j ih =>
    intro i fuel I' hi hf hI
    obtain ⟨n, rfl⟩ : ∃ n, fuel = n + 1 := ⟨fuel - 1, by omega⟩
    have h0 : ¬ (4 : Int32) ≤ nI i := nI_ge (b := 4) (by omega) (by decide)
    have hi4 : i < 4 := by omega
    have z0 : zin (nI (i)) 4 = true := zin_nI (by omega) (by decide)
    have c0 : Int32.toNatClampNeg (nI (i)) = i := nI_clamp (by omega)
    have kb := l_bit J (nI u) I' (j := i) (by omega)
    by_cases c : zbt (nI u) i
    · obtain ⟨I1, k1, k2, k3⟩ := hr i I' hi4 hI
      have hz := hG I1 k3
      have f0 := l_farFrom J I1 (b := b) (s := 0) hb (by decide) (hA i)
      have f1 := l_farFrom J I1 (b := b) (s := 1) hb (by decide) (hA i)
      have e0 : I1 (103 + 6 * b + 0) = I (103 + 6 * b) := zCl_at hz (by omega)
      have e1 : I1 (103 + 6 * b + 1) = I (104 + 6 * b) := by rw [show 103 + 6 * b + 1 = 104 + 6 * b by omega]; exact zCl_at hz (by omega)
      rw [e0] at f0
      rw [e1] at f1
      have f0' : f_X0_farFrom J (99 + 6 * b) 0 (nI (A i)) I1 = _ := f0
      have f1' : f_X0_farFrom J (99 + 6 * b) 1 (nI (A i)) I1 = _ := f1
      have st : ∀ R, (if zset (sFa (I (103 + 6 * b)) (A i)) ||| zset (sFa (I (104 + 6 * b)) (A i)) = 0 then f_X11_isAsThought_12 J (99 + 6 * b) (nI k) (nI u) n (nI (i + 1)) I1 else some (.inl ((0, I1)))) = R → f_X11_isAsThought_12 J (99 + 6 * b) (nI k) (nI u) (n + 1) (nI i) I' = R := fun R hR => by
        rw [← hR]
        conv => lhs; unfold f_X11_isAsThought_12
        rw [if_neg h0, kb, Option.bind_some, if_pos (zb_eq1.mpr c), if_pos z0, c0, zr_33 i hi4]
        show ((f_X5_read J (91 + 2 * i) I').bind _) = _
        rw [k1, Option.bind_some, k2, f0', Option.bind_some]
        show ((f_X0_farFrom J (99 + 6 * b) 1 (I1 39 14) I1).bind _) = _
        rw [k2, f1', Option.bind_some, q_a1]
      rw [zset_orr] at st
      by_cases nf : nFa I b (A i)
      · obtain ⟨I'', d1, d2⟩ := ih (i + 1) n I1 (by omega) (by omega) k3
        refine ⟨I'', ?_, d2⟩
        rw [st _ (if_pos (zset_eq0.mpr nf)), zb_cg (okF_go (fun _ => nf))]
        exact d1
      · refine ⟨I1, ?_, k3⟩
        rw [st _ (if_neg (fun z => nf (zset_eq0.mp z))), ← zb_f (P := okF I b u A i) (fun q => nf (q i (Nat.le_refl _) hi4 c))]
        rfl
    · obtain ⟨I'', d1, d2⟩ := ih (i + 1) n I' (by omega) (by omega) hI
      refine ⟨I'', ?_, d2⟩
      rw [zb_cg (okF_go (fun h => absurd h c))]
      have st : f_X11_isAsThought_12 J (99 + 6 * b) (nI k) (nI u) (n + 1) (nI i) I' = f_X11_isAsThought_12 J (99 + 6 * b) (nI k) (nI u) n (nI (i + 1)) I' := by
        conv => lhs; unfold f_X11_isAsThought_12
        rw [if_neg h0, kb, Option.bind_some, if_neg (fun z => c (zb_eq1.mp z)), q_a1]
      rw [st]
      exact d1
/-- a set that will do -/
def sub (M : Int32) (k : Nat) : Prop := nI k &&& (M ^^^ ((-1) : Int32)) = 0
/-- the class's scan for one size -/
theorem l_w64 (J : zJ) {b u z : Nat} {M : Int32} {ok : Nat → Prop} {G : zM → Prop} (hb : b < 8) (hz : z ≤ 6) (hr : ∀ k I', k < 64 → G I' → ∃ I1, f_X11_isAsThought J (99 + 6 * b) (nI k) (nI u) I' = some (zb (ok k), I1) ∧ G I1) : ∀ j k fuel I', k + j = 64 → j < fuel → G I' → ∃ I'', G I'' ∧ ((∃ k', k ≤ k' ∧ k' < 64 ∧ sub M k' ∧ ok k' ∧ pop k' = z ∧ (∀ x, k ≤ x → x < k' → ¬ (sub M x ∧ ok x ∧ pop x = z)) ∧ f_X11_words_64 J (nI b) (nI u) M (nI z) fuel (nI k) I' = some (.inl (nI k', I''))) ∨ ((∀ x, k ≤ x → x < 64 → ¬ (sub M x ∧ ok x ∧ pop x = z)) ∧ ∃ y, f_X11_words_64 J (nI b) (nI u) M (nI z) fuel (nI k) I' = some (.inr (y, I'')))) := by
  have z0 : zin (nI (b)) 8 = true := zin_nI (by omega) (by decide)
  have c0 : Int32.toNatClampNeg (nI (b)) = b := nI_clamp (by omega)
  intro j
  induction j with
  | zero =>
    intro k fuel I' hk hf hI
    obtain ⟨n, rfl⟩ : ∃ n, fuel = n + 1 := ⟨fuel - 1, by omega⟩
    have e : k = 64 := by omega
    subst e
    refine ⟨I', hI, Or.inr ⟨fun x h1 h2 => absurd h1 (by omega), nI 64, ?_⟩⟩
    unfold f_X11_words_64
    rw [if_pos (show (64 : Int32) ≤ nI 64 by decide)]
  | succ j ih =>
    intro k fuel I' hk hf hI
    obtain ⟨n, rfl⟩ : ∃ n, fuel = n + 1 := ⟨fuel - 1, by omega⟩
    have h0 : ¬ (64 : Int32) ≤ nI k := nI_ge (b := 64) (by omega) (by decide)
    have bc := l_bc J I' (show k < 64 by omega)
    have pl := pop_le k
    have pass : ∀ I1, G I1 → ¬ (sub M k ∧ ok k ∧ pop k = z) → f_X11_words_64 J (nI b) (nI u) M (nI z) (n + 1) (nI k) I' = f_X11_words_64 J (nI b) (nI u) M (nI z) n (nI (k + 1)) I1 → ∃ I'', G I'' ∧ ((∃ k', k ≤ k' ∧ k' < 64 ∧ sub M k' ∧ ok k' ∧ pop k' = z ∧ (∀ x, k ≤ x → x < k' → ¬ (sub M x ∧ ok x ∧ pop x = z)) ∧ f_X11_words_64 J (nI b) (nI u) M (nI z) (n + 1) (nI k) I' = some (.inl (nI k', I''))) ∨ ((∀ x, k ≤ x → x < 64 → ¬ (sub M x ∧ ok x ∧ pop x = z)) ∧ ∃ y, f_X11_words_64 J (nI b) (nI u) M (nI z) (n + 1) (nI k) I' = some (.inr (y, I'')))) := fun I1 h1 no st => by
      obtain ⟨I'', g1, g2⟩ := ih (k + 1) n I1 (by omega) (by omega) h1
      have low : ∀ x, k ≤ x → ¬ k + 1 ≤ x → ¬ (sub M x ∧ ok x ∧ pop x = z) := fun x a b => by
        have : x = k := by omega
        subst this
        exact no
      rcases g2 with ⟨k', a1, a2, a3, a4, a5, a6, a7⟩ | ⟨a1, y, a2⟩
      · refine ⟨I'', g1, Or.inl ⟨k', by omega, a2, a3, a4, a5, fun x h1 h2 => ?_, st.trans a7⟩⟩
        by_cases c : k + 1 ≤ x
        · exact a6 x c h2
        · exact low x h1 c
      · refine ⟨I'', g1, Or.inr ⟨fun x h1 h2 => ?_, y, st.trans a2⟩⟩
        by_cases c : k + 1 ≤ x
        · exact a1 x c h2
        · exact low x h1 c
    by_cases c1 : pop k = z
    case neg =>
      refine pass I' hI (fun q => c1 q.2.2) ?_
      conv => lhs; unfold f_X11_words_64
      rw [if_neg h0, bc, Option.bind_some, if_neg (show ¬ nI (pop k) = nI z from fun e => c1 ((nI_eq (by omega) (by omega)).mp e)), q_a1]
    by_cases c2 : sub M k
    case neg =>
      refine pass I' hI (fun q => c2 q.1) ?_
      conv => lhs; unfold f_X11_words_64
      rw [if_neg h0, bc, Option.bind_some, if_pos (show nI (pop k) = nI z from congrArg nI c1), if_neg (show ¬ nI k &&& (M ^^^ ((-1) : Int32)) = 0 from c2), q_a1]
    obtain ⟨I1, k1, k2⟩ := hr k I' (by omega) hI
    have st : ∀ R, (if zb (ok k) = 0 then f_X11_words_64 J (nI b) (nI u) M (nI z) n (nI (k + 1)) I1 else some (.inl ((nI k, I1)))) = R → f_X11_words_64 J (nI b) (nI u) M (nI z) (n + 1) (nI k) I' = R := fun R hR => by
      rw [← hR]
      conv => lhs; unfold f_X11_words_64
      rw [if_neg h0, bc, Option.bind_some, if_pos (show nI (pop k) = nI z from congrArg nI c1), if_pos (show nI k &&& (M ^^^ ((-1) : Int32)) = 0 from c2), if_pos z0, c0, zr_34 b hb]
      show ((f_X11_isAsThought J (99 + 6 * b) (nI k) (nI u) I').bind _) = _
      rw [k1, Option.bind_some, q_a1]
    by_cases c3 : ok k
    · exact ⟨I1, k2, Or.inl ⟨k, Nat.le_refl _, by omega, c2, c3, c1, fun x h1 h2 => absurd h1 (by omega), st _ (if_neg (fun z => zb_eq0.mp z c3))⟩⟩
    · exact pass I1 k2 (fun q => c3 q.2.1) (st _ (if_pos (zb_eq0.mpr c3)))
/-- the fewest, and of those the least as bits -/
def isB (M : Int32) (ok : Nat → Prop) : Option Nat → Prop
  | none => ∀ k, k < 64 → ¬ (sub M k ∧ ok k)
  | some k => k < 64 ∧ sub M k ∧ ok k ∧ ∀ x, x < 64 → sub M x → ok x → pop k < pop x ∨ (pop k = pop x ∧ k ≤ x)
def cRw : Option Nat → Int32
  | none => -9
  | some k => nI k
theorem isB_one {M : Int32} {ok : Nat → Prop} {r s : Option Nat} (h1 : isB M ok r) (h2 : isB M ok s) : r = s := by
  cases r with
  | none =>
    cases s with
    | none => rfl
    | some k => exact absurd ⟨h2.2.1, h2.2.2.1⟩ (h1 k h2.1)
  | some k =>
    cases s with
    | none => exact absurd ⟨h1.2.1, h1.2.2.1⟩ (h2 k h1.1)
    | some l =>
      have a := h1.2.2.2 l h2.1 h2.2.1 h2.2.2.1
      have b := h2.2.2.2 k h1.1 h1.2.1 h1.2.2.1
      have : k = l := by omega
      rw [this]
theorem l_w54 (J : zJ) {b u : Nat} {M : Int32} {ok : Nat → Prop} {G : zM → Prop} (hb : b < 8) (hr : ∀ k I', k < 64 → G I' → ∃ I1, f_X11_isAsThought J (99 + 6 * b) (nI k) (nI u) I' = some (zb (ok k), I1) ∧ G I1) : ∀ j z fuel I', z + j = 7 → j < fuel → (∀ x, x < 64 → sub M x → ok x → z ≤ pop x) → G I' → ∃ r I'', G I'' ∧ isB M ok r ∧ ((f_X11_words_54 J (nI b) (nI u) M fuel (nI z) I').bind fun q => Sum.elim (fun a => some a) (fun a14 => some (((-9), a14.2))) q) = some (cRw r, I'') := by
  intro j
  induction j with
  | zero =>
    intro z fuel I' hz hf hlo hI
    obtain ⟨n, rfl⟩ : ∃ n, fuel = n + 1 := ⟨fuel - 1, by omega⟩
    have e : z = 7 := by omega
    subst e
    refine ⟨none, I', hI, fun k hk q => ?_, ?_⟩
    · have := hlo k hk q.1 q.2
      have := pop_le k
      omega
    · unfold f_X11_words_54
      rw [if_pos (show (6 : Int32) < nI 7 by decide)]
      rfl
  | succ j ih =>
    intro z fuel I' hz hf hlo hI
    obtain ⟨n, rfl⟩ : ∃ n, fuel = n + 1 := ⟨fuel - 1, by omega⟩
    have h0 : ¬ (6 : Int32) < nI z := nI_nlt (a := 6) (by omega) (by decide)
    obtain ⟨I1, g1, g2⟩ := l_w64 J (u := u) (z := z) (M := M) (ok := ok) (G := G) hb (by omega) hr 64 0 zF I' rfl (by unfold zF; omega) hI
    rcases g2 with ⟨k, -, a2, a3, a4, a5, a6, a7⟩ | ⟨a1, y, a2⟩
    · refine ⟨some k, I1, g1, ⟨a2, a3, a4, fun x h1 h2 h3 => ?_⟩, ?_⟩
      · have := hlo x h1 h2 h3
        by_cases c : pop x = z
        · right
          refine ⟨by omega, ?_⟩
          by_cases d : k ≤ x
          · exact d
          · exact absurd ⟨h2, h3, c⟩ (a6 x (Nat.zero_le _) (by omega))
        · left
          omega
      · have a7' : f_X11_words_64 J (nI b) (nI u) M (nI z) zF 0 I' = _ := a7
        unfold f_X11_words_54
        rw [if_neg h0, a7', Option.bind_some]
        rfl
    · obtain ⟨r, I'', d1, d2, d3⟩ := ih (z + 1) n I1 (by omega) (by omega) (fun x h1 h2 h3 => by
        have := hlo x h1 h2 h3
        by_cases c : pop x = z
        · exact absurd ⟨h2, h3, c⟩ (a1 x (Nat.zero_le _) h1)
        · omega) g1
      refine ⟨r, I'', d1, d2, ?_⟩
      have a2' : f_X11_words_64 J (nI b) (nI u) M (nI z) zF 0 I' = _ := a2
      rw [← d3]
      conv => lhs; unfold f_X11_words_54
      rw [if_neg h0, a2', Option.bind_some, q_a1]
      rfl
