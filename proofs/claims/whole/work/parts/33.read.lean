/-! ===== the class's reading ===== -/
def uNl (a b i : Nat) : Prop := dig a i ≠ dig b i
theorem l_un (J : zJ) (u v : Int32) (I : zM) {a b : Nat} (ha : a < 46656) (hb : b < 46656) : ∀ k fuel, k ≤ 6 → k < fuel → ∃ x y z, f_X11_unlike_10 J u v fuel (zset (fun i => k ≤ i ∧ uNl a b i)) (nI (a / 6 ^ (6 - k))) (nI (b / 6 ^ (6 - k))) (nI k - 1) I = some (.inr (zset (uNl a b), x, y, z, I)) := by
  intro k
  induction k with
  | zero =>
    intro fuel hk hf
    obtain ⟨n, rfl⟩ : ∃ n, fuel = n + 1 := ⟨fuel - 1, by omega⟩
    refine ⟨nI (a / 6 ^ (6 - 0)), nI (b / 6 ^ (6 - 0)), nI 0 - 1, ?_⟩
    unfold f_X11_unlike_10
    rw [if_pos nI_m1_neg, zset_cg (P := fun i => 0 ≤ i ∧ uNl a b i) (Q := uNl a b) (fun i _ => ⟨fun q => q.2, fun q => ⟨Nat.zero_le _, q⟩⟩)]
  | succ k ih =>
    intro fuel hk hf
    obtain ⟨n, rfl⟩ : ∃ n, fuel = n + 1 := ⟨fuel - 1, by omega⟩
    have hn : ¬ nI k < 0 := nI_pos (by omega)
    have e6 : 6 - (k + 1) = 5 - k := by omega
    have da : a / 6 ^ (5 - k) < 2147483648 := Nat.lt_of_le_of_lt (Nat.div_le_self _ _) (by omega)
    have db : b / 6 ^ (5 - k) < 2147483648 := Nat.lt_of_le_of_lt (Nat.div_le_self _ _) (by omega)
    have da2 : a / 6 ^ (5 - k) / 6 = a / 6 ^ (6 - k) := by rw [Nat.div_div_eq_div_mul, ← Nat.pow_succ, show (5 - k).succ = 6 - k by omega]
    have db2 : b / 6 ^ (5 - k) / 6 = b / 6 ^ (6 - k) := by rw [Nat.div_div_eq_div_mul, ← Nat.pow_succ, show (5 - k).succ = 6 - k by omega]
    have ra : nI (a / 6 ^ (5 - k)) - nI (a / 6 ^ (6 - k)) * (6 : Int32) = nI (dig a k) := by rw [← da2]; exact q_rem6 da
    have rb : nI (b / 6 ^ (5 - k)) - nI (b / 6 ^ (6 - k)) * (6 : Int32) = nI (dig b k) := by rw [← db2]; exact q_rem6 db
    have la := dig_lt a k
    have lb := dig_lt b k
    obtain ⟨x, y, z, e⟩ := ih n (by omega) (by omega)
    refine ⟨x, y, z, ?_⟩
    rw [e6]
    unfold f_X11_unlike_10
    rw [nI_pred, if_neg hn, q_div6 da, q_div6 db, da2, db2, ra, rb, nI_dn]
    by_cases c : dig a k = dig b k
    · rw [if_pos (congrArg nI c), zset_cg (P := fun i => k + 1 ≤ i ∧ uNl a b i) (Q := fun i => k ≤ i ∧ uNl a b i) (fun i _ => ⟨fun q => ⟨by omega, q.2⟩, fun q => ⟨by
        have := q.1
        by_cases ei : i = k
        · exact absurd c (by rw [← ei]; exact q.2)
        · omega, q.2⟩⟩)]
      exact e
    · rw [if_neg (fun z => c ((nI_eq (by omega) (by omega)).mp z)), zset_or (by omega), zset_cg (P := fun i => (k + 1 ≤ i ∧ uNl a b i) ∨ i = k) (Q := fun i => k ≤ i ∧ uNl a b i) (fun i _ => ⟨fun q => q.elim (fun q => ⟨by omega, q.2⟩) (fun q => ⟨by omega, by rw [q]; exact c⟩), fun q => by
        by_cases ei : i = k
        · exact Or.inr ei
        · exact Or.inl ⟨by have := q.1; omega, q.2⟩⟩)]
      exact e
theorem l_unlike (J : zJ) (I : zM) {a b : Nat} (ha : a < 46656) (hb : b < 46656) : f_X11_unlike J (nI a) (nI b) I = some (zset (uNl a b), I) := by
  obtain ⟨x, y, z, e⟩ := l_un J (nI a) (nI b) I ha hb 6 zF (by omega) (by unfold zF; omega)
  rw [zset_0 (P := fun i => 6 ≤ i ∧ uNl a b i) (fun i hi q => by have := q.1; omega), Nat.sub_self, Nat.pow_zero, Nat.div_one, Nat.div_one] at e
  have e' : f_X11_unlike_10 J (nI a) (nI b) zF 0 (nI a) (nI b) 5 I = _ := e
  unfold f_X11_unlike
  rw [e', Option.bind_some]
  rfl
noncomputable def wOut (P : Nat → Prop) (d : Nat → Nat) (g : Nat) : Nat := @ite _ (P g) (Classical.propDecidable _) 0 (d g)
theorem wOut_p {P : Nat → Prop} {d : Nat → Nat} {g : Nat} (h : P g) : wOut P d g = 0 := if_pos h
theorem wOut_n {P : Nat → Prop} {d : Nat → Nat} {g : Nat} (h : ¬ P g) : wOut P d g = d g := if_neg h
theorem wOut_lt {P : Nat → Prop} {d : Nat → Nat} {g : Nat} (h : d g < 6) : wOut P d g < 6 := by
  by_cases c : P g
  · rw [wOut_p c]; decide
  · rw [wOut_n c]; exact h
theorem l_wo (J : zJ) {I : zM} {d : Nat → Nat} (u : Int32) (P : Nat → Prop) (hd : dN I 44 d) : ∀ j g fuel, g + j = 6 → j < fuel → f_X5_without_13 J u (zset P) fuel (nI (pf (wOut P d) g)) (nI g) I = some (.inr (nI (undig (wOut P d)), nI 6, I)) := by
  intro j
  induction j with
  | zero =>
    intro g fuel hk hf
    obtain ⟨n, rfl⟩ : ∃ n, fuel = n + 1 := ⟨fuel - 1, by omega⟩
    have e : g = 6 := by omega
    subst e
    unfold f_X5_without_13
    rw [if_pos (show (6 : Int32) ≤ nI 6 by decide), pf_6]
  | succ j ih =>
    intro g fuel hk hf
    obtain ⟨n, rfl⟩ : ∃ n, fuel = n + 1 := ⟨fuel - 1, by omega⟩
    have h0 : ¬ (6 : Int32) ≤ nI g := nI_ge (b := 6) (by omega) (by decide)
    have z0 : zin (nI (g)) 6 = true := zin_nI (by omega) (by decide)
    have c0 : Int32.toNatClampNeg (nI (g)) = g := nI_clamp (by omega)
    have st := ih (g + 1) n (by omega) (by omega)
    have kb := l_bit J (zset P) I (j := g) (by omega)
    have hb : zbt (zset P) g ↔ P g := (zset_bit (by omega)).trans ⟨fun q => q.2, fun q => ⟨by omega, q⟩⟩
    rw [zb_cg hb] at kb
    simp only [f_X5_without_13, h0, kb, Option.bind_some, z0, c0, hd g (by omega), q_m6, q_a0, nI_add, q_a1, ↓reduceIte]
    have pfe : pf (wOut P d) (g + 1) = pf (wOut P d) g * 6 + wOut P d g := rfl
    rw [pfe] at st
    by_cases c : P g
    · rw [if_pos (zb_eq1.mpr c)]
      rw [wOut_p c, Nat.add_zero] at st
      exact st
    · rw [if_neg (fun z => c (zb_eq1.mp z))]
      rw [wOut_n c] at st
      exact st
theorem l_without (J : zJ) (I : zM) {a : Nat} (P : Nat → Prop) (ha : a < 46656) : ∃ I', f_X5_without J (nI a) (zset P) I = some (nI (undig (wOut P (dig a))), I') ∧ ∀ p, p ≠ 44 → I' p = I p := by
  obtain ⟨I', e, f1, f2⟩ := l_spread J I ha
  refine ⟨I', ?_, f1⟩
  have k : f_X5_without_13 J (nI a) (zset P) zF 0 0 I' = _ := l_wo J (nI a) P f2 6 0 zF rfl (by unfold zF; omega)
  unfold f_X5_without
  rw [e, Option.bind_some, k, Option.bind_some]
  rfl
/-- the gaps that turn, as seen up to k behind the ring's first -/
def rTn (f : Nat → Nat) (mu k g : Nat) : Prop := ∃ t, t ≤ k ∧ dig (it f mu) g ≠ dig (it f (mu + t)) g
/-- THE ANSWER -/
noncomputable def rAn (f : Nat → Nat) (mu k : Nat) : Nat := undig (wOut (rTn f mu k) (dig (it f mu)))
theorem rAn_lt {f : Nat → Nat} {mu k : Nat} : rAn f mu k < 46656 := undig_lt fun g _ => wOut_lt (dig_lt _ _)
theorem rAn_dig {f : Nat → Nat} {mu k g : Nat} (hg : g < 6) : dig (rAn f mu k) g = wOut (rTn f mu k) (dig (it f mu)) g := dig_undig (fun i _ => wOut_lt (dig_lt _ _)) hg
theorem rTn_0 {f : Nat → Nat} {mu g : Nat} : ¬ rTn f mu 0 g := by
  rintro ⟨t, h1, h2⟩
  have : t = 0 := by omega
  subst this
  exact h2 rfl
theorem rTn_s {f : Nat → Nat} {mu k g : Nat} : (rTn f mu k g ∨ uNl (it f mu) (it f (mu + (k + 1))) g) ↔ rTn f mu (k + 1) g := by
  constructor
  · rintro (⟨t, h1, h2⟩ | h)
    · exact ⟨t, by omega, h2⟩
    · exact ⟨k + 1, Nat.le_refl _, h⟩
  · rintro ⟨t, h1, h2⟩
    by_cases c : t = k + 1
    · subst c
      exact Or.inr h2
    · exact Or.inl ⟨t, by omega, h2⟩
theorem l_rd (J : zJ) {E I0 : zM} {m q mu lam p1 : Nat} (hw : eW E m q) (hc : cG E I0) (hf : cF E m q I0) (hl : lam ≤ 46656) : ∀ j k fuel I, k + 1 + j = lam → j < fuel → zRd I0 I → I 39 12 = nI mu → I 39 13 = nI lam → I 39 15 = zset (rTn (eNx E m q) mu k) → I 39 16 = nI (it (eNx E m q) (mu + k)) → ∃ y I', f_X5_read_26 J p1 (nI (it (eNx E m q) mu)) fuel (nI (k + 1)) I = some (.inr (y, I')) ∧ zRd I0 I' ∧ I' 39 12 = nI mu ∧ I' 39 13 = nI lam ∧ I' 39 15 = zset (rTn (eNx E m q) mu (lam - 1)) ∧ I' 39 16 = nI (it (eNx E m q) (mu + (lam - 1))) := by
  have lt := it_lt (f := eNx E m q) (eNx_lt hw.1)
  intro j
  induction j with
  | zero =>
    intro k fuel I hk hfu hI h12 h13 h15 h16
    obtain ⟨n, rfl⟩ : ∃ n, fuel = n + 1 := ⟨fuel - 1, by omega⟩
    have e : k = lam - 1 := by omega
    subst e
    refine ⟨nI (lam - 1 + 1), I, ?_, hI, h12, h13, h15, h16⟩
    unfold f_X5_read_26
    rw [h13, if_pos (nI_le (by omega) (by omega))]
  | succ j ih =>
    intro k fuel I hk hfu hI h12 h13 h15 h16
    obtain ⟨n, rfl⟩ : ∃ n, fuel = n + 1 := ⟨fuel - 1, by omega⟩
    obtain ⟨I1, k1, k2⟩ := l_follow J hw (hI.g hc) (hI.f hf) (lt (mu + k))
    have kn : it (eNx E m q) (mu + (k + 1)) = eNx E m q (it (eNx E m q) (mu + k)) := rfl
    have un := l_unlike J (zu I1 39 16 (nI (it (eNx E m q) (mu + (k + 1))))) (lt mu) (lt (mu + (k + 1)))
    rw [← kn] at k1
    have hI1 := (hI.fo k2).up (k := 16) (x := nI (it (eNx E m q) (mu + (k + 1)))) (by omega)
    have e12 : I1 39 12 = nI mu := by rw [k2 39 (by decide)]; exact h12
    have e13 : I1 39 13 = nI lam := by rw [k2 39 (by decide)]; exact h13
    have e15 : I1 39 15 = zset (rTn (eNx E m q) mu k) := by rw [k2 39 (by decide)]; exact h15
    obtain ⟨y, I', a1, a2⟩ := ih (k + 1) n (zu (zu I1 39 16 (nI (it (eNx E m q) (mu + (k + 1))))) 39 15 (zset (rTn (eNx E m q) mu (k + 1)))) (by omega) (by omega) (hI1.up (by omega)) (by rw [zu_at, if_neg (by decide), zu_at, if_neg (by decide)]; exact e12) (by rw [zu_at, if_neg (by decide), zu_at, if_neg (by decide)]; exact e13) (by rw [zu_at, if_pos rfl]) (by rw [zu_at, if_neg (by decide), zu_at, if_pos rfl])
    refine ⟨y, I', ?_, a2⟩
    have z16 : (zu I1 39 16 (nI (it (eNx E m q) (mu + (k + 1))))) 39 16 = nI (it (eNx E m q) (mu + (k + 1))) := by rw [zu_at, if_pos rfl]
    have z15 : (zu I1 39 16 (nI (it (eNx E m q) (mu + (k + 1))))) 39 15 = zset (rTn (eNx E m q) mu k) := by rw [zu_at, if_neg (by decide)]; exact e15
    unfold f_X5_read_26
    rw [h13, if_neg (nI_ge (by omega) (by omega)), h16, k1, Option.bind_some]
    simp only [z16, un, Option.bind_some, z15, q_a1, zset_orr]
    rw [zset_cg (fun i _ => rTn_s)]
    exact a1
/-- what stands in the reading when it is done -/
def rDn (f : Nat → Nat) (mu lam : Nat) (I : zM) : Prop := I 39 12 = nI mu ∧ I 39 13 = nI lam ∧ I 39 14 = nI (rAn f mu (lam - 1)) ∧ I 39 15 = zset (rTn f mu (lam - 1)) ∧ I 39 16 = nI (it f (mu + (lam - 1)))
theorem l_read (J : zJ) {E I I0 : zM} {m q mu lam p1 : Nat} (hp : f_X5_plan J p1 I = some I0) (hw : eW E m q) (hc : cG E I0) (hf : cF E m q I0) (hR : isRing (eNx E m q) mu lam) (hml : mu + lam ≤ 46656) : ∃ I', f_X5_read J p1 I = some I' ∧ zRd I0 I' ∧ rDn (eNx E m q) mu lam I' := by
  have lt := it_lt (f := eNx E m q) (eNx_lt hw.1)
  have hl := hR.1
  obtain ⟨I1, a1, a2, a3⟩ := l_findRing J hw hc hf hR hml
  obtain ⟨I2, b1, b2, b3, b4⟩ := l_findRounds J hw (a2.g hc) (a2.f hf) hR hml a3
  have h02 : zRd I0 I2 := ⟨fun p h1 h2 => (b2.1 p h1 h2).trans (a2.1 p h1 h2), fun k hk => (b2.2 k hk).trans (a2.2 k hk)⟩
  obtain ⟨y, I3, c1, c2, c3, c4, c5, c6⟩ := l_rd J (p1 := p1) (mu := mu) (lam := lam) hw hc hf (by omega) (lam - 1) 0 zF (zu (zu I2 39 15 0) 39 16 (nI (it (eNx E m q) mu))) (by omega) (by unfold zF; omega) ((h02.up (by omega)).up (by omega)) (by rw [zu_at, if_neg (by decide), zu_at, if_neg (by decide)]; exact b4) (by rw [zu_at, if_neg (by decide), zu_at, if_neg (by decide)]; exact b3) (by rw [zu_at, if_neg (by decide), zu_at, if_pos rfl]; exact (zset_0 (fun i _ => rTn_0)).symm) (by rw [zu_at, if_pos rfl]; rfl)
  obtain ⟨I4, d1, d2⟩ := l_without J I3 (rTn (eNx E m q) mu (lam - 1)) (lt mu)
  refine ⟨zu I4 39 14 (nI (rAn (eNx E m q) mu (lam - 1))), ?_, (c2.fo d2).up (by omega), ?_⟩
  · have c1' : f_X5_read_26 J p1 (nI (it (eNx E m q) mu)) zF 1 (zu (zu I2 39 15 0) 39 16 (nI (it (eNx E m q) mu))) = _ := c1
    unfold f_X5_read
    rw [hp, Option.bind_some, a1, Option.bind_some, b1, Option.bind_some]
    show (f_X5_read_26 J p1 (nI (it (eNx E m q) mu)) zF 1 (zu (zu I2 39 15 0) 39 16 (nI (it (eNx E m q) mu)))).bind _ = _
    rw [c1', Option.bind_some]
    show (f_X5_without J (nI (it (eNx E m q) mu)) (I3 39 15) I3).bind _ = _
    rw [c5, d1, Option.bind_some]
    rfl
  · have f39 : I4 39 = I3 39 := d2 39 (by decide)
    refine ⟨?_, ?_, ?_, ?_, ?_⟩
    · rw [zu_at, if_neg (by decide), f39]; exact c3
    · rw [zu_at, if_neg (by decide), f39]; exact c4
    · rw [zu_at, if_pos rfl]
    · rw [zu_at, if_neg (by decide), f39]; exact c5
    · rw [zu_at, if_neg (by decide), f39]; exact c6
