/-! ===== the twin's reading ===== -/
theorem zTw.n3 {I0 I I' : zM} (h : zTw I0 I) (f : ∀ p, p ≠ 170 → p ≠ 171 → p ≠ 172 → I' p = I p) : zTw I0 I' := ⟨fun p h1 h2 => (f p (by omega) (by omega) (by omega)).trans (h.1 p h1 h2), fun k hk => by rw [f 147 (by decide) (by decide) (by decide)]; exact h.2 k hk⟩
theorem t_15 (J : zJ) {E I0 : zM} {m q b o nn tm le sh mu lam S : Nat} (hw : eW E m q) (ht : tE E m q b o nn tm le sh I0) (hb : b < 8) (ho : o < 5) (hR : isRing (eNx E m q) mu lam) (hml : mu + lam ≤ 46656) (hS : S < 1000000) : ∀ j n fuel I, n + j = mu + lam → j < fuel → zTw I0 I → I 147 39 = nI S → (∀ i, i < n → I 173 (it (eNx E m q) i) = nI S ∧ I 174 (it (eNx E m q) i) = nI i) → (∀ a, a < 46656 → (∀ i, i < n → it (eNx E m q) i ≠ a) → ∃ s, s < S ∧ I 173 a = nI s) → ∃ I', f_X12_readIt_15 J (nI b) (nI o) fuel (nI (it (eNx E m q) n)) (nI n) I = some (.inr (nI (it (eNx E m q) mu), nI (mu + lam), I')) ∧ zTw I0 I' ∧ I' 147 39 = nI S ∧ I' 174 (it (eNx E m q) mu) = nI mu ∧ ∀ a, a < 46656 → ∃ s, s ≤ S ∧ I' 173 a = nI s := by
  have lt := it_lt (f := eNx E m q) (eNx_lt hw.1)
  have hl := hR.1
  intro j
  induction j with
  | zero =>
    intro n fuel I hn hf hI h39 h1 h2
    obtain ⟨f, rfl⟩ : ∃ n, fuel = n + 1 := ⟨fuel - 1, by omega⟩
    have e : n = mu + lam := by omega
    subst e
    have lm := lt mu
    have z0 : zin (nI (it (eNx E m q) mu)) 46656 = true := zin_nI (by omega) (by decide)
    have c0 : Int32.toNatClampNeg (nI (it (eNx E m q) mu)) = it (eNx E m q) mu := nI_clamp (by omega)
    obtain ⟨a1, a2⟩ := h1 mu (by omega)
    refine ⟨I, ?_, hI, h39, a2, fun a ha => ?_⟩
    · rw [hR.2.1]
      unfold f_X12_readIt_15
      rw [if_pos z0, c0, if_pos (a1.trans h39.symm)]
    · by_cases c : ∃ i, i < mu + lam ∧ it (eNx E m q) i = a
      · obtain ⟨i, hi, e⟩ := c
        exact ⟨S, Nat.le_refl _, by rw [← e]; exact (h1 i hi).1⟩
      · obtain ⟨s, b1, b2⟩ := h2 a ha (fun i hi e => c ⟨i, hi, e⟩)
        exact ⟨s, by omega, b2⟩
  | succ j ih =>
    intro n fuel I hn hf hI h39 h1 h2
    obtain ⟨f, rfl⟩ : ∃ n, fuel = n + 1 := ⟨fuel - 1, by omega⟩
    have ln := lt n
    have z0 : zin (nI (it (eNx E m q) n)) 46656 = true := zin_nI (by omega) (by decide)
    have c0 : Int32.toNatClampNeg (nI (it (eNx E m q) n)) = it (eNx E m q) n := nI_clamp (by omega)
    have new : ∀ i, i < n → it (eNx E m q) i ≠ it (eNx E m q) n := fun i hi => hR.2.2 i n hi (by omega)
    obtain ⟨s, b1, b2⟩ := h2 _ ln new
    have ne : ¬ I 173 (it (eNx E m q) n) = I 147 39 := fun e => by
      rw [b2, h39] at e
      have := (nI_eq (by omega) (by omega)).mp e
      omega
    have hI1 : zTw I0 (zu (zu I 173 (it (eNx E m q) n) (nI S)) 174 (it (eNx E m q) n) (nI n)) := (hI.up (by decide) (by decide)).up (by decide) (by decide)
    obtain ⟨I1, k1, k2, -⟩ := t_nextOf J hw ht hb ho hI1 ln
    have kn : it (eNx E m q) (n + 1) = eNx E m q (it (eNx E m q) n) := rfl
    have r173 : I1 173 = zu I 173 (it (eNx E m q) n) (nI S) 173 := (k2 173 (by decide) (by decide) (by decide)).trans (zu_row (by decide))
    have r174 : I1 174 = zu (zu I 173 (it (eNx E m q) n) (nI S)) 174 (it (eNx E m q) n) (nI n) 174 := k2 174 (by decide) (by decide) (by decide)
    have r147 : I1 147 = I 147 := (k2 147 (by decide) (by decide) (by decide)).trans ((zu_row (by decide)).trans (zu_row (by decide)))
    obtain ⟨I', d1, d2⟩ := ih (n + 1) f I1 (by omega) (by omega) (hI1.n3 k2) (by rw [r147]; exact h39) (fun i hi => by
      rw [r173, r174, zu_at, zu_at, zu_row (show 174 ≠ 173 by decide)]
      by_cases c : i = n
      · subst c
        rw [if_pos rfl, if_pos rfl]
        exact ⟨rfl, rfl⟩
      · rw [if_neg (new i (by omega)), if_neg (new i (by omega))]
        exact h1 i (by omega)) (fun a ha hna => by
      rw [r173, zu_at, if_neg (fun e => hna n (by omega) e.symm)]
      exact h2 a ha (fun i hi => hna i (by omega)))
    refine ⟨I', ?_, d2⟩
    unfold f_X12_readIt_15
    rw [if_pos z0, c0, if_neg ne, if_pos z0, if_pos z0, h39, k1, Option.bind_some, q_a1]
    exact d1
theorem t_r89 (J : zJ) (u1 u2 u3 u4 : Int32) {I0 : zM} : ∀ j g fuel I, g + j = 6 → j < fuel → (∀ p, p ≠ 175 → p ≠ 177 → I p = I0 p) → (∀ h, h < g → I 175 h = I0 170 h ∧ I 177 h = 0) → ∃ I', f_X12_readIt_89 J u1 u2 u3 u4 fuel (nI g) I = some (.inr (nI 6, I')) ∧ (∀ p, p ≠ 175 → p ≠ 177 → I' p = I0 p) ∧ ∀ h, h < 6 → I' 175 h = I0 170 h ∧ I' 177 h = 0 := by
  intro j
  induction j with
  | zero =>
    intro g fuel I hg hf hI hh
    obtain ⟨n, rfl⟩ : ∃ n, fuel = n + 1 := ⟨fuel - 1, by omega⟩
    have e : g = 6 := by omega
    subst e
    refine ⟨I, ?_, hI, hh⟩
    unfold f_X12_readIt_89
    rw [if_pos (show (6 : Int32) ≤ nI 6 by decide)]
  | succ j ih =>
    intro g fuel I hg hf hI hh
    obtain ⟨n, rfl⟩ : ∃ n, fuel = n + 1 := ⟨fuel - 1, by omega⟩
    have h0 : ¬ (6 : Int32) ≤ nI g := nI_ge (b := 6) (by omega) (by decide)
    have z0 : zin (nI (g)) 6 = true := zin_nI (by omega) (by decide)
    have c0 : Int32.toNatClampNeg (nI (g)) = g := nI_clamp (by omega)
    obtain ⟨I', e1, e2⟩ := ih (g + 1) n (zu (zu I 175 g (I 170 g)) 177 g 0) (by omega) (by omega) (fun p p1 p2 => (zu_row p2).trans ((zu_row p1).trans (hI p p1 p2))) (fun h hgh => by
      rw [zu_row (show 175 ≠ 177 by decide), zu_at, zu_at, zu_row (show 177 ≠ 175 by decide)]
      by_cases c : h = g
      · rw [if_pos c, if_pos c, c, hI 170 (by decide) (by decide)]
        exact ⟨rfl, rfl⟩
      · rw [if_neg c, if_neg c]
        exact hh h (by omega))
    refine ⟨I', ?_, e2⟩
    unfold f_X12_readIt_89
    rw [if_neg h0, if_pos z0, if_pos z0, if_pos z0, c0, q_a1]
    exact e1
theorem t_r166 (J : zJ) (u1 u2 u3 u4 u5 : Int32) {I0 : zM} {P : Nat → Prop} {d d0 : Nat → Nat} (hd : dN I0 170 d) (h175 : ∀ g, g < 6 → I0 175 g = nI (d0 g)) (h6 : ∀ g, d g < 6) (h60 : ∀ g, d0 g < 6) (h177 : ∀ g, g < 6 → I0 177 g = zb (P g)) : ∀ j g fuel I, g + j = 6 → j < fuel → (∀ p, p ≠ 177 → I p = I0 p) → (∀ h, h < g → I 177 h = zb (P h ∨ d h ≠ d0 h)) → (∀ h, g ≤ h → I 177 h = I0 177 h) → ∃ I', f_X12_readIt_166 J u1 u2 u3 u4 u5 fuel (nI g) I = some (.inr (nI 6, I')) ∧ (∀ p, p ≠ 177 → I' p = I0 p) ∧ ∀ h, h < 6 → I' 177 h = zb (P h ∨ d h ≠ d0 h) := by
  intro j
  induction j with
  | zero =>
    intro g fuel I hg hf hI hh _
    obtain ⟨n, rfl⟩ : ∃ n, fuel = n + 1 := ⟨fuel - 1, by omega⟩
    have e : g = 6 := by omega
    subst e
    refine ⟨I, ?_, hI, hh⟩
    unfold f_X12_readIt_166
    rw [if_pos (show (6 : Int32) ≤ nI 6 by decide)]
  | succ j ih =>
    intro g fuel I hg hf hI hh hr
    obtain ⟨n, rfl⟩ : ∃ n, fuel = n + 1 := ⟨fuel - 1, by omega⟩
    have h0 : ¬ (6 : Int32) ≤ nI g := nI_ge (b := 6) (by omega) (by decide)
    have hg6 : g < 6 := by omega
    have z0 : zin (nI (g)) 6 = true := zin_nI (by omega) (by decide)
    have c0 : Int32.toNatClampNeg (nI (g)) = g := nI_clamp (by omega)
    have step : ∀ x, x = zb (P g ∨ d g ≠ d0 g) → ∃ I', f_X12_readIt_166 J u1 u2 u3 u4 u5 n (nI (g + 1)) (zu I 177 g x) = some (.inr (nI 6, I')) ∧ (∀ p, p ≠ 177 → I' p = I0 p) ∧ ∀ h, h < 6 → I' 177 h = zb (P h ∨ d h ≠ d0 h) := fun x hx => ih (g + 1) n (zu I 177 g x) (by omega) (by omega) (fun p p1 => (zu_row p1).trans (hI p p1)) (fun h hgh => by
      rw [zu_at]
      by_cases c : h = g
      · rw [if_pos c, hx, c]
      · rw [if_neg c]
        exact hh h (by omega)) (fun h hgh => by rw [zu_offk (by omega)]; exact hr h (by omega))
    have e177 : I 177 g = zb (P g) := (hr g (Nat.le_refl _)).trans (h177 g hg6)
    have e170 : I 170 g = nI (d g) := by rw [hI 170 (by decide)]; exact hd g hg6
    have e175 : I 175 g = nI (d0 g) := by rw [hI 175 (by decide)]; exact h175 g hg6
    have l1 := h6 g
    have l2 := h60 g
    unfold f_X12_readIt_166
    rw [if_neg h0, if_pos z0, c0, e177]
    by_cases p : P g
    · rw [if_neg (fun z => zb_eq0.mp z p), if_pos z0, q_a1]
      exact step 1 (zb_t (P := P g ∨ d g ≠ d0 g) (Or.inl p))
    · rw [if_pos (zb_eq0.mpr p), if_pos z0, if_pos z0, e170, e175]
      by_cases c : d g = d0 g
      · rw [if_pos (congrArg nI c), if_pos z0, q_a1]
        exact step 0 (zb_f (P := P g ∨ d g ≠ d0 g) (fun q => q.elim p (fun q => q c)))
      · rw [if_neg (fun z => c ((nI_eq (by omega) (by omega)).mp z)), if_pos z0, q_a1]
        exact step 1 (zb_t (P := P g ∨ d g ≠ d0 g) (Or.inr c))
theorem t_r132 (J : zJ) (u3 u4 : Int32) {E I0 : zM} {m q b o nn tm le sh mu lam S : Nat} {st : Nat → Int32} (hw : eW E m q) (ht : tE E m q b o nn tm le sh I0) (hb : b < 8) (ho : o < 5) (hl : lam ≤ 46656) : ∀ j k fuel I, k + 1 + j = lam → j < fuel → zTw I0 I → I 147 39 = nI S → I 147 40 = nI lam → I 147 42 = nI mu → I 173 = st → I 147 41 = nI (it (eNx E m q) (mu + k)) → (∀ g, g < 6 → I 175 g = nI (dig (it (eNx E m q) mu) g)) → (∀ g, g < 6 → I 177 g = zb (rTn (eNx E m q) mu k g)) → ∃ y I', f_X12_readIt_132 J (nI b) (nI o) u3 u4 fuel (nI (k + 1)) I = some (.inr (y, I')) ∧ zTw I0 I' ∧ I' 147 39 = nI S ∧ I' 147 40 = nI lam ∧ I' 147 42 = nI mu ∧ I' 173 = st ∧ I' 147 41 = nI (it (eNx E m q) (mu + (lam - 1))) ∧ (∀ g, g < 6 → I' 175 g = nI (dig (it (eNx E m q) mu) g)) ∧ (∀ g, g < 6 → I' 177 g = zb (rTn (eNx E m q) mu (lam - 1) g)) := by
  have lt := it_lt (f := eNx E m q) (eNx_lt hw.1)
  intro j
  induction j with
  | zero =>
    intro k fuel I hk hf hI h39 h40 h42 h173 h41 h175 h177
    obtain ⟨n, rfl⟩ : ∃ n, fuel = n + 1 := ⟨fuel - 1, by omega⟩
    have e : k = lam - 1 := by omega
    subst e
    refine ⟨nI (lam - 1 + 1), I, ?_, hI, h39, h40, h42, h173, h41, h175, h177⟩
    unfold f_X12_readIt_132
    rw [h40, if_pos (nI_le (by omega) (by omega))]
  | succ j ih =>
    intro k fuel I hk hf hI h39 h40 h42 h173 h41 h175 h177
    obtain ⟨n, rfl⟩ : ∃ n, fuel = n + 1 := ⟨fuel - 1, by omega⟩
    obtain ⟨I1, k1, k2, -⟩ := t_nextOf J hw ht hb ho hI (lt (mu + k))
    have kn : it (eNx E m q) (mu + (k + 1)) = eNx E m q (it (eNx E m q) (mu + k)) := rfl
    rw [← kn] at k1
    obtain ⟨I2, d1, d2, d3⟩ := t_layd J (zu I1 147 41 (nI (it (eNx E m q) (mu + (k + 1))))) (lt (mu + (k + 1)))
    have r177 : I2 177 = I 177 := (d2 177 (by decide)).trans ((zu_row (by decide)).trans (k2 177 (by decide) (by decide) (by decide)))
    have r175 : I2 175 = I 175 := (d2 175 (by decide)).trans ((zu_row (by decide)).trans (k2 175 (by decide) (by decide) (by decide)))
    have r173 : I2 173 = I 173 := (d2 173 (by decide)).trans ((zu_row (by decide)).trans (k2 173 (by decide) (by decide) (by decide)))
    have r147 : I2 147 = zu I1 147 41 (nI (it (eNx E m q) (mu + (k + 1)))) 147 := d2 147 (by decide)
    have s147 : I1 147 = I 147 := k2 147 (by decide) (by decide) (by decide)
    have hI2 : zTw I0 I2 := ((hI.n3 k2).u7 (k := 41) (by decide)).n3 (fun p p1 _ _ => d2 p p1)
    obtain ⟨I3, e1, e2, e3⟩ := t_r166 J (nI b) (nI o) u3 u4 (nI (k + 1)) (I0 := I2) (P := rTn (eNx E m q) mu k) (d0 := dig (it (eNx E m q) mu)) d3 (fun g hg => by rw [r175]; exact h175 g hg) (fun g => dig_lt _ g) (fun g => dig_lt _ g) (fun g hg => by rw [r177]; exact h177 g hg) 6 0 zF I2 rfl (by unfold zF; omega) (fun _ _ => rfl) (fun h hh => absurd hh (by omega)) (fun _ _ => rfl)
    have t147 : I3 147 = zu I1 147 41 (nI (it (eNx E m q) (mu + (k + 1)))) 147 := (e2 147 (by decide)).trans r147
    have hI3 : zTw I0 I3 := ⟨fun p h1 h2 => by
      by_cases c : p = 177
      · omega
      · exact (e2 p c).trans (hI2.1 p h1 h2), fun k hk => by rw [e2 147 (by decide)]; exact hI2.2 k hk⟩
    obtain ⟨y, I', f1, f2⟩ := ih (k + 1) n I3 (by omega) (by omega) hI3 (by rw [t147, zu_at, if_neg (by decide), s147]; exact h39) (by rw [t147, zu_at, if_neg (by decide), s147]; exact h40) (by rw [t147, zu_at, if_neg (by decide), s147]; exact h42) (by rw [e2 173 (by decide), r173]; exact h173) (by rw [t147, zu_at, if_pos rfl]) (fun g hg => by rw [e2 175 (by decide), r175]; exact h175 g hg) (fun g hg => by
      rw [e3 g hg]
      exact zb_cg ((or_congr Iff.rfl ⟨fun q => q.symm, fun q => q.symm⟩).trans rTn_s))
    refine ⟨y, I', ?_, f2⟩
    have e1' : f_X12_readIt_166 J (nI b) (nI o) u3 u4 (nI (k + 1)) zF 0 I2 = _ := e1
    have z41 : (zu I1 147 41 (nI (it (eNx E m q) (mu + (k + 1))))) 147 41 = nI (it (eNx E m q) (mu + (k + 1))) := by rw [zu_at, if_pos rfl]
    unfold f_X12_readIt_132
    rw [h40, if_neg (nI_ge (by omega) (by omega)), h41, k1, Option.bind_some]
    simp only [z41, d1, Option.bind_some, e1', q_a1]
    exact f1
theorem t_r227 (J : zJ) (u1 u2 u3 u4 : Int32) {I0 : zM} {P : Nat → Prop} {d : Nat → Nat} (h175 : ∀ g, g < 6 → I0 175 g = nI (d g)) (h177 : ∀ g, g < 6 → I0 177 g = zb (P g)) : ∀ j g fuel I, g + j = 6 → j < fuel → (∀ p, p ≠ 175 → I p = I0 p) → (∀ h, h < g → I 175 h = nI (wOut P d h)) → (∀ h, g ≤ h → I 175 h = I0 175 h) → ∃ I', f_X12_readIt_227 J u1 u2 u3 u4 fuel (nI g) I = some (.inr (nI 6, I')) ∧ (∀ p, p ≠ 175 → I' p = I0 p) ∧ ∀ h, h < 6 → I' 175 h = nI (wOut P d h) := by
  intro j
  induction j with
  | zero =>
    intro g fuel I hg hf hI hh _
    obtain ⟨n, rfl⟩ : ∃ n, fuel = n + 1 := ⟨fuel - 1, by omega⟩
    have e : g = 6 := by omega
    subst e
    refine ⟨I, ?_, hI, hh⟩
    unfold f_X12_readIt_227
    rw [if_pos (show (6 : Int32) ≤ nI 6 by decide)]
  | succ j ih =>
    intro g fuel I hg hf hI hh hr
    obtain ⟨n, rfl⟩ : ∃ n, fuel = n + 1 := ⟨fuel - 1, by omega⟩
    have h0 : ¬ (6 : Int32) ≤ nI g := nI_ge (b := 6) (by omega) (by decide)
    have hg6 : g < 6 := by omega
    have z0 : zin (nI (g)) 6 = true := zin_nI (by omega) (by decide)
    have c0 : Int32.toNatClampNeg (nI (g)) = g := nI_clamp (by omega)
    have step : ∀ x, x = nI (wOut P d g) → ∃ I', f_X12_readIt_227 J u1 u2 u3 u4 n (nI (g + 1)) (zu I 175 g x) = some (.inr (nI 6, I')) ∧ (∀ p, p ≠ 175 → I' p = I0 p) ∧ ∀ h, h < 6 → I' 175 h = nI (wOut P d h) := fun x hx => ih (g + 1) n (zu I 175 g x) (by omega) (by omega) (fun p p1 => (zu_row p1).trans (hI p p1)) (fun h hgh => by
      rw [zu_at]
      by_cases c : h = g
      · rw [if_pos c, hx, c]
      · rw [if_neg c]
        exact hh h (by omega)) (fun h hgh => by rw [zu_offk (by omega)]; exact hr h (by omega))
    have e177 : I 177 g = zb (P g) := by rw [hI 177 (by decide)]; exact h177 g hg6
    have e175 : I 175 g = nI (d g) := (hr g (Nat.le_refl _)).trans (h175 g hg6)
    unfold f_X12_readIt_227
    rw [if_neg h0, if_pos z0, c0, e177]
    by_cases p : P g
    · rw [if_neg (fun z => zb_eq0.mp z p), if_pos z0, q_a1]
      exact step 0 (by rw [wOut_p p]; rfl)
    · rw [if_pos (zb_eq0.mpr p), if_pos z0, if_pos z0, q_a1, e175]
      exact step _ (by rw [wOut_n p])
/-- what stands in the twin when it has read -/
def tDn (f : Nat → Nat) (mu lam S : Nat) (I : zM) : Prop := I 147 39 = nI S ∧ I 147 40 = nI lam ∧ I 147 41 = nI (it f (mu + (lam - 1))) ∧ I 147 42 = nI mu ∧ (∀ g, g < 6 → I 175 g = nI (dig (rAn f mu (lam - 1)) g)) ∧ (∀ g, g < 6 → I 177 g = zb (rTn f mu (lam - 1) g)) ∧ ∀ a, a < 46656 → ∃ s, s ≤ S ∧ I 173 a = nI s
theorem t_readIt (J : zJ) {E I : zM} {m q b o nn tm le sh mu lam S : Nat} (hw : eW E m q) (ht : tE E m q b o nn tm le sh I) (hb : b < 8) (ho : o < 5) (hR : isRing (eNx E m q) mu lam) (hml : mu + lam ≤ 46656) (hS : S < 900000) (h39 : I 147 39 = nI S) (hst : ∀ a, a < 46656 → ∃ s, s ≤ S ∧ I 173 a = nI s) : ∃ I', f_X12_readIt J (nI b) (nI o) I = some I' ∧ zTw I I' ∧ tDn (eNx E m q) mu lam (S + 1) I' := by
  have lt := it_lt (f := eNx E m q) (eNx_lt hw.1)
  have hl := hR.1
  have lm := lt mu
  have z0 : zin (nI (it (eNx E m q) mu)) 46656 = true := zin_nI (by omega) (by decide)
  have c0 : Int32.toNatClampNeg (nI (it (eNx E m q) mu)) = it (eNx E m q) mu := nI_clamp (by omega)
  obtain ⟨I1, a1, a2, a3, a4, a5⟩ := t_15 J hw ht hb ho hR hml (S := S + 1) (by omega) (mu + lam) 0 zF (zu I 147 39 (nI (S + 1))) (by omega) (by unfold zF; omega) (zTw.rf.u7 (by decide)) (by rw [zu_at, if_pos rfl]) (fun i hi => absurd hi (by omega)) (fun a ha _ => by
    obtain ⟨s, s1, s2⟩ := hst a ha
    exact ⟨s, by omega, by rw [zu_row (by decide)]; exact s2⟩)
  have a1' : f_X12_readIt_15 J (nI b) (nI o) zF 0 0 (zu I 147 39 (nI (S + 1))) = _ := a1
  obtain ⟨I2, b1, b2, b3⟩ := t_layd J (zu (zu I1 147 42 (nI mu)) 147 40 (nI lam)) lm
  obtain ⟨I3, d1, d2, d3⟩ := t_r89 J (nI b) (nI o) (nI (it (eNx E m q) mu)) (nI (mu + lam)) (I0 := I2) 6 0 zF I2 rfl (by unfold zF; omega) (fun _ _ _ => rfl) (fun h hh => absurd hh (by omega))
  have d1' : f_X12_readIt_89 J (nI b) (nI o) (nI (it (eNx E m q) mu)) (nI (mu + lam)) zF 0 I2 = _ := d1
  have hI2 : zTw I I2 := ((a2.u7 (k := 42) (x := nI mu) (by decide)).u7 (k := 40) (x := nI lam) (by decide)).n3 (fun p p1 _ _ => b2 p p1)
  have hI3 : zTw I I3 := ⟨fun p h1 h2 => (d2 p (by omega) (by omega)).trans (hI2.1 p h1 h2), fun k hk => by rw [d2 147 (by decide) (by decide)]; exact hI2.2 k hk⟩
  have r147 : I3 147 = (zu (zu I1 147 42 (nI mu)) 147 40 (nI lam)) 147 := (d2 147 (by decide) (by decide)).trans (b2 147 (by decide))
  have r173 : I3 173 = I1 173 := (d2 173 (by decide) (by decide)).trans ((b2 173 (by decide)).trans ((zu_row (by decide)).trans (zu_row (by decide))))
  obtain ⟨y, I4, e1, e2, e3, e4, e5, e6, e7, e8, e9⟩ := t_r132 J (nI (it (eNx E m q) mu)) (nI (mu + lam)) (mu := mu) (lam := lam) (S := S + 1) (st := I1 173) hw ht hb ho (by omega) (lam - 1) 0 zF (zu I3 147 41 (nI (it (eNx E m q) mu))) (by omega) (by unfold zF; omega) (hI3.u7 (by decide)) (by rw [zu_at, if_neg (by decide), r147, zu_at, if_neg (by decide), zu_at, if_neg (by decide)]; exact a3) (by rw [zu_at, if_neg (by decide), r147, zu_at, if_pos rfl]) (by rw [zu_at, if_neg (by decide), r147, zu_at, if_neg (by decide), zu_at, if_pos rfl]) (by rw [zu_row (by decide)]; exact r173) (by rw [zu_at, if_pos rfl]; rfl) (fun g hg => by rw [zu_row (by decide), (d3 g hg).1]; exact b3 g hg) (fun g hg => by rw [zu_row (by decide), (d3 g hg).2]; exact zb_f rTn_0)
  have e1' : f_X12_readIt_132 J (nI b) (nI o) (nI (it (eNx E m q) mu)) (nI (mu + lam)) zF 1 (zu I3 147 41 (nI (it (eNx E m q) mu))) = _ := e1
  obtain ⟨I5, f1, f2, f3⟩ := t_r227 J (nI b) (nI o) (nI (it (eNx E m q) mu)) (nI (mu + lam)) (I0 := I4) e8 e9 6 0 zF I4 rfl (by unfold zF; omega) (fun _ _ => rfl) (fun h hh => absurd hh (by omega)) (fun _ _ => rfl)
  have f1' : f_X12_readIt_227 J (nI b) (nI o) (nI (it (eNx E m q) mu)) (nI (mu + lam)) zF 0 I4 = _ := f1
  refine ⟨I5, ?_, ⟨fun p h1 h2 => (f2 p (by omega)).trans (e2.1 p h1 h2), fun k hk => by rw [f2 147 (by decide)]; exact e2.2 k hk⟩, ?_⟩
  · have s42 : (zu I1 147 42 (nI mu)) 147 42 = nI mu := by rw [zu_at, if_pos rfl]
    have sub : nI (mu + lam) - nI mu = nI lam := by rw [pk_sub (by omega), show mu + lam - mu = lam by omega]
    unfold f_X12_readIt
    rw [h39, q_a1, a1', Option.bind_some]
    show (if zin (nI (it (eNx E m q) mu)) 46656 = true then _ else _) = _
    rw [if_pos z0]
    simp only [c0, a4, s42, sub, b1, Option.bind_some, d1', Sum.elim_inr, e1', f1']
  · refine ⟨by rw [f2 147 (by decide)]; exact e3, by rw [f2 147 (by decide)]; exact e4, by rw [f2 147 (by decide)]; exact e7, by rw [f2 147 (by decide)]; exact e5, fun g hg => ?_, fun g hg => by rw [f2 177 (by decide)]; exact e9 g hg, fun a ha => ?_⟩
    · rw [f3 g hg, rAn_dig hg]
    · rw [f2 173 (by decide), e6]
      exact a5 a ha
