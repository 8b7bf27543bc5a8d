/-! ===== the class's plan ===== -/
def cR (E : zM) (m : Nat) (I : zM) (J : zJ) : Prop := I 18 1 = nI m ∧ ∀ r, r < m → 20 ≤ zrp J r ∧ zrp J r < 33 ∧ ∀ f, f < 6 → I (zrp J r) f = E 3 (6 * r + f)
def cS (E I : zM) : Prop := (∀ g, g < 6 → I 40 g = E 4 g ∧ I 41 g = E 5 g ∧ I 42 g = E 6 g) ∧ I 39 3 = E 8 2 ∧ (E 8 2 = -9 ∨ I 39 4 = E 8 3) ∧ I 39 5 = E 8 0 ∧ I 39 6 = E 8 1
/-- the same but for the fillers -/
def zFl (I0 I : zM) : Prop := ∀ p, (p < 45 ∨ 75 ≤ p) → I p = I0 p
theorem zFl.rf {I : zM} : zFl I I := fun _ _ => rfl
theorem zFl.tr {I I1 I2 : zM} (h : zFl I I1) (g : zFl I1 I2) : zFl I I2 := fun p hp => (g p hp).trans (h p hp)
theorem zFl.g {E I0 I : zM} (h : zFl I0 I) (c : cG E I0) : cG E I := cG_cg (fun p h1 h2 => h p (by omega)) c
theorem zFl.r {E I0 I : zM} {J : zJ} {m : Nat} (h : zFl I0 I) (c : cR E m I0 J) : cR E m I J := by
  obtain ⟨c1, c2⟩ := c
  refine ⟨by rw [h 18 (by omega)]; exact c1, fun r hr => ?_⟩
  obtain ⟨a, b, d⟩ := c2 r hr
  refine ⟨a, b, ?_⟩
  rw [h (zrp J r) (by omega)]
  exact d
theorem zFl.s {E I0 I : zM} (h : zFl I0 I) (c : cS E I0) : cS E I := by
  unfold cS at c ⊢
  rw [h 40 (by omega), h 41 (by omega), h 42 (by omega), h 39 (by omega)]
  exact c
def hF (I : zM) (F : Nat → List zf) : Prop := ∀ g, g < 6 → hL I (45 + 5 * g) (F g)
theorem hF_cg {I : zM} {F F' : Nat → List zf} (h : ∀ g, g < 6 → F g = F' g) (w : hF I F) : hF I F' := fun g hg => by rw [← h g hg]; exact w g hg
theorem l_there (J : zJ) {E I : zM} (hc : cG E I) {g : Nat} (hg : g < 6) (v : Int32) : f_X5_isThere J (nI g) v I = some (zb (eTh E g v), I) := by
  have z0 : zin (nI (g)) 6 = true := zin_nI (by omega) (by decide)
  have c0 : Int32.toNatClampNeg (nI (g)) = g := nI_clamp (by omega)
  unfold f_X5_isThere
  rw [z0, c0, if_pos rfl, (hc g hg).1]
  by_cases a : v < 1
  · rw [if_pos a, ← zb_f (P := eTh E g v) (fun q => by
      have := q.1
      rw [Int32.lt_iff_toInt_lt, tl_1] at a
      omega)]
  · rw [if_neg a]
    by_cases b : E 0 g < v
    · rw [if_pos b, ← zb_f (P := eTh E g v) (fun q => by
        have := q.2
        rw [Int32.lt_iff_toInt_lt] at b
        omega)]
    · rw [if_neg b, ← zb_t (P := eTh E g v) (by
        rw [Int32.lt_iff_toInt_lt, tl_1] at a
        rw [Int32.lt_iff_toInt_lt] at b
        exact ⟨by omega, by omega⟩)]
theorem l_addF (J : zJ) {I : zM} {F : Nat → List zf} (w : hF I F) {g : Nat} (hg : g < 6) (hl : (F g).length < 16) (v1 v2 v3 v4 : Int32) : ∃ I', f_X2_add J (45 + 5 * g) v1 v2 v3 v4 I = some I' ∧ hF I' (fun h => if h = g then F g ++ [(v1, v2, v3, v4)] else F h) ∧ zFl I I' := by
  obtain ⟨I', e, h1, h2⟩ := l_adf J (zRf_of hg) (w g hg) hl v1 v2 v3 v4
  refine ⟨I', e, fun h hh => ?_, fun p hp => h2 p (by omega)⟩
  show hL I' (45 + 5 * h) (if h = g then _ else _)
  by_cases c : h = g
  · subst c
    rw [if_pos rfl]
    exact h1
  · rw [if_neg c]
    exact hL_cg (fun r a b => h2 r (by omega)) (w h hh)
theorem q_10a (k : Nat) : (10 : Int32) + nI k = nI (10 + k) := nI_add 10 k
theorem l_plr (J : zJ) {E I0 : zM} {m q : Nat} (l : Int32) (hw : eW E m q) (hc : cG E I0) (hr : cR E m I0 J) (h5 : I0 39 5 = E 8 0) : ∀ j k fuel I F, k + j = m → j < fuel → hF I F → zFl I0 I → (∀ g, g < 6 → (F g ++ eRl E l g j k).length ≤ 16) → ∃ I', f_X5_planRules_2 J l fuel (nI k) I = some (.inr (nI m, I')) ∧ hF I' (fun g => F g ++ eRl E l g j k) ∧ zFl I0 I' := by
  have hm := hw.2.2.1
  intro j
  induction j with
  | zero =>
    intro k fuel I F hk hf w hI hl
    obtain ⟨n, rfl⟩ : ∃ n, fuel = n + 1 := ⟨fuel - 1, by omega⟩
    have e : k = m := by omega
    subst e
    refine ⟨I, ?_, hF_cg (fun g _ => (List.append_nil _).symm) w, hI⟩
    unfold f_X5_planRules_2
    rw [(hI.r hr).1, if_pos (nI_le (Nat.le_refl _) (by omega))]
  | succ j ih =>
    intro k fuel I F hk hf w hI hl
    obtain ⟨n, rfl⟩ : ∃ n, fuel = n + 1 := ⟨fuel - 1, by omega⟩
    have h0 : ¬ nI m ≤ nI k := nI_ge (by omega) (by omega)
    have z0 : zin (nI (k)) 13 = true := zin_nI (by omega) (by decide)
    have c0 : Int32.toNatClampNeg (nI (k)) = k := nI_clamp (by omega)
    obtain ⟨r1, r2⟩ := hI.r hr
    obtain ⟨a1, a2, a3⟩ := r2 k (by omega)
    have f0 := a3 0 (by decide)
    have f1 := a3 1 (by decide)
    have f2 := a3 2 (by decide)
    have f3 := a3 3 (by decide)
    have f4 := a3 4 (by decide)
    have f5 := a3 5 (by decide)
    rw [Nat.add_zero] at f0
    obtain ⟨gk, -, hgk, egk⟩ := zrg_nI (hw.2.2.2.1 k (by omega)).1 (by decide)
    rw [egk] at f1
    have z1 : zin (nI (gk)) 6 = true := zin_nI (by omega) (by decide)
    have c1 : Int32.toNatClampNeg (nI (gk)) = gk := nI_clamp (by omega)
    have r43 := zr_43 gk (by omega)
    have h5' : I 39 5 = E 8 0 := by rw [hI 39 (by omega)]; exact h5
    have th := l_there J (hI.g hc) (show gk < 6 by omega) (E 3 (6 * k + 2))
    -- what is not fit is passed over
    have skip : (∀ g, g < 6 → ¬ eRf E l g k) → ∃ I', f_X5_planRules_2 J l n (nI (k + 1)) I = some (.inr (nI m, I')) ∧ hF I' (fun g => F g ++ eRl E l g (j + 1) k) ∧ zFl I0 I' := fun no => by
      obtain ⟨I', e1, e2, e3⟩ := ih (k + 1) n I F (by omega) (by omega) w hI (fun g hg => by rw [← eRl_n (no g hg)]; exact hl g hg)
      exact ⟨I', e1, hF_cg (fun g hg => by rw [eRl_n (no g hg)]) e2, e3⟩
    have other : ∀ g, g < 6 → g ≠ gk → ¬ eRf E l g k := fun g hg ne q => ne ((nI_eq (by omega) (by omega)).mp (q.2.1.symm.trans egk))
    -- what is fit is laid behind
    have put : eRf E l gk k → ∃ I1 I', f_X2_add J (45 + 5 * gk) (E 3 (6 * k + 2)) (nI (10 + k)) (E 3 (6 * k + 3)) (E 3 (6 * k + 4)) I = some I1 ∧ f_X5_planRules_2 J l n (nI (k + 1)) I1 = some (.inr (nI m, I')) ∧ hF I' (fun g => F g ++ eRl E l g (j + 1) k) ∧ zFl I0 I' := fun yes => by
      have hlg := hl gk (by omega)
      rw [eRl_p yes, List.length_append, List.length_cons] at hlg
      obtain ⟨I1, e1, e2, e3⟩ := l_addF J w (show gk < 6 by omega) (by omega) (E 3 (6 * k + 2)) (nI (10 + k)) (E 3 (6 * k + 3)) (E 3 (6 * k + 4))
      have ap : ∀ g, g < 6 → (if g = gk then F gk ++ [eRe E k] else F g) ++ eRl E l g j (k + 1) = F g ++ eRl E l g (j + 1) k := fun g hg => by
        by_cases c : g = gk
        · subst c
          rw [if_pos rfl, eRl_p yes, List.append_assoc]
          rfl
        · rw [if_neg c, eRl_n (other g hg c)]
      obtain ⟨I', d1, d2, d3⟩ := ih (k + 1) n I1 (fun g => if g = gk then F gk ++ [eRe E k] else F g) (by omega) (by omega) e2 (hI.tr e3) (fun g hg => by rw [ap g hg]; exact hl g hg)
      exact ⟨I1, I', e1, d1, hF_cg (fun g hg => ap g hg) d2, d3⟩
    simp only [f_X5_planRules_2, r1, h0, z0, c0, f0, f1, f2, f3, f4, f5, h5', th, Option.bind_some, z1, c1, r43, q_10a, q_a1, ↓reduceIte]
    by_cases b0 : E 3 (6 * k) = l
    case neg =>
      rw [if_neg b0]
      exact skip (fun g _ q => b0 q.1)
    rw [if_pos b0]
    by_cases t : eTh E gk (E 3 (6 * k + 2))
    · rw [if_neg (fun z => zb_eq0.mp z t)]
      by_cases b5 : E 3 (6 * k + 5) = -9
      · obtain ⟨I1, I', e1, e2⟩ := put ⟨b0, egk, t, Or.inl b5⟩
        rw [if_pos b5, e1, Option.bind_some]
        exact ⟨I', e2⟩
      · rw [if_neg b5]
        by_cases b6 : E 3 (6 * k + 5) = E 8 0
        · obtain ⟨I1, I', e1, e2⟩ := put ⟨b0, egk, t, Or.inr b6⟩
          rw [if_pos b6, e1, Option.bind_some]
          exact ⟨I', e2⟩
        · rw [if_neg b6]
          exact skip (fun g _ q => q.2.2.2.elim b5 b6)
    · rw [if_pos (zb_eq0.mpr t)]
      have no : ∀ g, g < 6 → ¬ eRf E l g k := fun g hg q => by
        by_cases c : g = gk
        · subst c
          exact t q.2.2.1
        · exact other g hg c q
      rw [ite_self, ite_self]
      exact skip no
theorem l_planRules (J : zJ) {E I : zM} {m q : Nat} {F : Nat → List zf} (l : Int32) (hw : eW E m q) (hc : cG E I) (hr : cR E m I J) (h5 : I 39 5 = E 8 0) (w : hF I F) (hl : ∀ g, g < 6 → (F g ++ eRl E l g m 0).length ≤ 16) : ∃ I', f_X5_planRules J l I = some I' ∧ hF I' (fun g => F g ++ eRl E l g m 0) ∧ zFl I I' := by
  have hm := hw.2.2.1
  obtain ⟨I', e1, e2, e3⟩ := l_plr J l hw hc hr h5 m 0 zF I F (by omega) (by unfold zF; omega) w zFl.rf hl
  refine ⟨I', ?_, e2, e3⟩
  have e1' : f_X5_planRules_2 J l zF 0 I = _ := e1
  unfold f_X5_planRules
  rw [e1', Option.bind_some]
  rfl
/-- a row laid up to k -/
noncomputable def rF (E : zM) (e : Nat) (rs : Int32) (F : Nat → List zf) (k g : Nat) : List zf := if g < k then F g ++ eRow E e rs g else F g
theorem rF_s {E : zM} {e : Nat} {rs : Int32} {F : Nat → List zf} {k g : Nat} (h : g ≠ k) : rF E e rs F (k + 1) g = rF E e rs F k g := by
  unfold rF
  by_cases c : g < k
  · rw [if_pos c, if_pos (by omega)]
  · rw [if_neg c, if_neg (by omega)]
theorem rF_k {E : zM} {e : Nat} {rs : Int32} {F : Nat → List zf} {k : Nat} : rF E e rs F k k = F k := if_neg (Nat.lt_irrefl k)
theorem rF_k1 {E : zM} {e : Nat} {rs : Int32} {F : Nat → List zf} {k : Nat} : rF E e rs F (k + 1) k = F k ++ eRow E e rs k := if_pos (Nat.lt_succ_self k)
theorem l_plw (J : zJ) {E I0 : zM} {p e : Nat} {F : Nat → List zf} (rs : Int32) (hp : p < 45) (hc : cG E I0) (hrow : ∀ g, g < 6 → I0 p g = E e g) (hl : ∀ g, g < 6 → (F g ++ eRow E e rs g).length ≤ 16) : ∀ j k fuel I, k + j = 6 → j < fuel → hF I (rF E e rs F k) → zFl I0 I → ∃ I', f_X5_planRow_2 J p rs fuel (nI k) I = some (.inr (nI 6, I')) ∧ hF I' (rF E e rs F 6) ∧ zFl I0 I' := by
  intro j
  induction j with
  | zero =>
    intro k fuel I hk hf w hI
    obtain ⟨n, rfl⟩ : ∃ n, fuel = n + 1 := ⟨fuel - 1, by omega⟩
    have e6 : k = 6 := by omega
    subst e6
    refine ⟨I, ?_, w, hI⟩
    unfold f_X5_planRow_2
    rw [if_pos (show (6 : Int32) ≤ nI 6 by decide)]
  | succ j ih =>
    intro k fuel I hk hf w hI
    obtain ⟨n, rfl⟩ : ∃ n, fuel = n + 1 := ⟨fuel - 1, by omega⟩
    have h0 : ¬ (6 : Int32) ≤ nI k := nI_ge (b := 6) (by omega) (by decide)
    have hk6 : k < 6 := by omega
    have z0 : zin (nI (k)) 6 = true := zin_nI (by omega) (by decide)
    have c0 : Int32.toNatClampNeg (nI (k)) = k := nI_clamp (by omega)
    have r43 := zr_43 k hk6
    have hrk : I p k = E e k := by rw [hI p (by omega)]; exact hrow k hk6
    have th := l_there J (hI.g hc) hk6 (E e k)
    simp only [f_X5_planRow_2, h0, z0, c0, hrk, th, Option.bind_some, r43, q_a1, ↓reduceIte]
    by_cases t : eTh E k (E e k)
    · rw [if_neg (fun z => zb_eq0.mp z t)]
      have hlk := hl k hk6
      rw [eRow_p t, List.length_append] at hlk
      have hlk' : (rF E e rs F k k).length < 16 := by
        rw [rF_k]
        have : ([(E e k, rs, -9, 0)] : List zf).length = 1 := rfl
        omega
      obtain ⟨I1, a1, a2, a3⟩ := l_addF J w hk6 hlk' (E e k) rs (-9) 0
      rw [a1, Option.bind_some]
      refine ih (k + 1) n I1 (by omega) (by omega) (hF_cg (fun g hg => ?_) a2) (hI.tr a3)
      by_cases c : g = k
      · subst c
        rw [if_pos rfl, rF_k, rF_k1, eRow_p t]
      · rw [if_neg c, rF_s c]
    · rw [if_pos (zb_eq0.mpr t)]
      refine ih (k + 1) n I (by omega) (by omega) (hF_cg (fun g hg => ?_) w) hI
      by_cases c : g = k
      · subst c
        rw [rF_k, rF_k1, eRow_n t, List.append_nil]
      · rw [rF_s c]
theorem l_planRow (J : zJ) {E I : zM} {p e : Nat} {F : Nat → List zf} (rs : Int32) (hp : p < 45) (hc : cG E I) (hrow : ∀ g, g < 6 → I p g = E e g) (w : hF I F) (hl : ∀ g, g < 6 → (F g ++ eRow E e rs g).length ≤ 16) : ∃ I', f_X5_planRow J p rs I = some I' ∧ hF I' (fun g => F g ++ eRow E e rs g) ∧ zFl I I' := by
  obtain ⟨I', e1, e2, e3⟩ := l_plw J rs hp hc hrow hl 6 0 zF I rfl (by unfold zF; omega) (hF_cg (fun g _ => (if_neg (Nat.not_lt_zero g)).symm) w) zFl.rf
  refine ⟨I', ?_, hF_cg (fun g hg => if_pos hg) e2, e3⟩
  have e1' : f_X5_planRow_2 J p rs zF 0 I = _ := e1
  unfold f_X5_planRow
  rw [e1', Option.bind_some]
  rfl
theorem l_planLaw (J : zJ) {E I : zM} {F : Nat → List zf} (hc : cG E I) (h2 : I 39 3 = E 8 2) (h3' : E 8 2 = -9 ∨ I 39 4 = E 8 3) (h4 : E 8 4 = 0) (ho : E 8 2 = -9 ∨ zrg (E 8 2) 0 5) (w : hF I F) (hl : ∀ g, g < 6 → (F g ++ eLa E g).length ≤ 16) : ∃ I', f_X5_planLawAhead J I = some I' ∧ hF I' (fun g => F g ++ eLa E g) ∧ zFl I I' := by
  by_cases a : zrg (E 8 2) 0 5
  · have h3 : I 39 4 = E 8 3 := h3'.resolve_left (fun e => m9_no (by rw [← e]; exact a))
    obtain ⟨g, -, hg, eg⟩ := zrg_nI a (by decide)
    have z0 : zin (nI (g)) 6 = true := zin_nI (by omega) (by decide)
    have c0 : Int32.toNatClampNeg (nI (g)) = g := nI_clamp (by omega)
    have r43 := zr_43 g (by omega)
    have th := l_there J hc (show g < 6 by omega) (E 8 3)
    have other : ∀ h, h < 6 → h ≠ g → eLa E h = [] := fun h hh ne => eLa_n (fun q => ne ((nI_eq (by omega) (by omega)).mp (q.1.symm.trans eg)))
    have a' : zrg (nI g) 0 5 := by rw [← eg]; exact a
    by_cases t : eTh E g (E 8 3)
    · have yes : eLa E g = [(E 8 3, 0, -9, 0)] := by rw [eLa_p ⟨eg, t⟩, h4]
      have hlg := hl g (by omega)
      rw [yes, List.length_append] at hlg
      obtain ⟨I1, a1, a2, a3⟩ := l_addF J w (show g < 6 by omega) (by have : ([(E 8 3, 0, -9, 0)] : List zf).length = 1 := rfl; omega) (E 8 3) 0 (-9) 0
      refine ⟨I1, ?_, hF_cg (fun h hh => ?_) a2, a3⟩
      · simp only [f_X5_planLawAhead, l_isGap, Option.bind_some, h2, eg, h3, th, z0, c0, r43, ↓reduceIte]
        rw [if_neg (fun z => zb_eq0.mp z a'), if_neg (fun z => zb_eq0.mp z t), a1, Option.bind_some]
      · by_cases c : h = g
        · subst c
          rw [if_pos rfl, yes]
        · rw [if_neg c, other h hh c, List.append_nil]
    · refine ⟨I, ?_, hF_cg (fun h hh => ?_) w, zFl.rf⟩
      · simp only [f_X5_planLawAhead, l_isGap, Option.bind_some, h2, eg, h3, th, z0, c0, r43, ↓reduceIte]
        rw [if_neg (fun z => zb_eq0.mp z a'), if_pos (zb_eq0.mpr t)]
      · by_cases c : h = g
        · subst c
          rw [eLa_n (fun q => t q.2), List.append_nil]
        · rw [other h hh c, List.append_nil]
  · refine ⟨I, ?_, hF_cg (fun h hh => ?_) w, zFl.rf⟩
    · unfold f_X5_planLawAhead
      rw [l_isGap, Option.bind_some, h2, if_pos (zb_eq0.mpr a)]
    · rw [eLa_n (fun q => a (by rw [q.1]; exact zrg_of (by omega) (by omega) (by decide))), List.append_nil]
theorem l_planLetter (J : zJ) {E I : zM} {m q x : Nat} {F : Nat → List zf} (hw : eW E m q) (hx : x ≤ 4) (hc : cG E I) (hr : cR E m I J) (hs : cS E I) (h4 : E 8 4 = 0) (w : hF I F) (hl : ∀ g, g < 6 → (F g ++ eLe E m g x).length ≤ 16) : ∃ I', f_X5_planLetter J (nI x) I = some I' ∧ hF I' (fun g => F g ++ eLe E m g x) ∧ zFl I I' := by
  obtain ⟨s1, s2, s3, s4, s5⟩ := hs
  have kb := l_bit J (E 8 1) I (j := x) (by omega)
  by_cases c : zbt (E 8 1) x
  · refine ⟨I, ?_, hF_cg (fun g _ => by rw [eLe_x c, List.append_nil]) w, zFl.rf⟩
    unfold f_X5_planLetter
    rw [s5, kb, Option.bind_some, if_pos (zb_eq1.mpr c)]
  · have el : ∀ g, eLe E m g x = eLf E m g x := fun g => eLe_o c
    have hl' : ∀ g, g < 6 → (F g ++ eLf E m g x).length ≤ 16 := fun g hg => by rw [← el g]; exact hl g hg
    have fin : (∃ I', f_X5_planLetter J (nI x) I = some I' ∧ hF I' (fun g => F g ++ eLf E m g x) ∧ zFl I I') → ∃ I', f_X5_planLetter J (nI x) I = some I' ∧ hF I' (fun g => F g ++ eLe E m g x) ∧ zFl I I' := fun ⟨I', e1, e2, e3⟩ => ⟨I', e1, hF_cg (fun g _ => by rw [el g]) e2, e3⟩
    refine fin ?_
    have st : ∀ R : Option zM, ((if nI x = 0 then ((f_X5_planRow J 40 1 I).bind fun q5 => some (q5)) else (if nI x = 1 then ((f_X5_planRow J 41 2 I).bind fun q8 => some (q8)) else (if nI x = 2 then ((f_X5_planRow J 42 3 I).bind fun q11 => some (q11)) else (if nI x = 3 then ((f_X5_planLawAhead J I).bind fun q14 => ((f_X5_planRules J 0 q14).bind fun q16 => some (q16))) else ((f_X5_planRules J 2 I).bind fun q18 => some (q18)))))) = R) → f_X5_planLetter J (nI x) I = R := fun R h => by
      unfold f_X5_planLetter
      rw [s5, kb, Option.bind_some, if_neg (fun z => c (zb_eq1.mp z))]
      exact h
    match x, hx with
    | 0, _ =>
      obtain ⟨I', e1, e2, e3⟩ := l_planRow J 1 (by decide) hc (fun g hg => (s1 g hg).1) w hl'
      refine ⟨I', st _ ?_, e2, e3⟩
      rw [if_pos (show nI 0 = 0 by decide), e1, Option.bind_some]
    | 1, _ =>
      obtain ⟨I', e1, e2, e3⟩ := l_planRow J 2 (by decide) hc (fun g hg => (s1 g hg).2.1) w hl'
      refine ⟨I', st _ ?_, e2, e3⟩
      rw [if_neg (show ¬ nI 1 = 0 by decide), if_pos (show nI 1 = 1 by decide), e1, Option.bind_some]
    | 2, _ =>
      obtain ⟨I', e1, e2, e3⟩ := l_planRow J 3 (by decide) hc (fun g hg => (s1 g hg).2.2) w hl'
      refine ⟨I', st _ ?_, e2, e3⟩
      rw [if_neg (show ¬ nI 2 = 0 by decide), if_neg (show ¬ nI 2 = 1 by decide), if_pos (show nI 2 = 2 by decide), e1, Option.bind_some]
    | 3, _ =>
      obtain ⟨I1, a1, a2, a3⟩ := l_planLaw J hc s2 s3 h4 hw.2.2.2.2.2.2.2.2 w (fun g hg => by
        have h : (F g ++ (eLa E g ++ eRl E 0 g m 0)).length ≤ 16 := hl' g hg
        rw [← List.append_assoc, List.length_append] at h
        omega)
      obtain ⟨I', e1, e2, e3⟩ := l_planRules J 0 hw (a3.g hc) (a3.r hr) (by rw [a3 39 (by omega)]; exact s4) a2 (fun g hg => by
        have h : (F g ++ (eLa E g ++ eRl E 0 g m 0)).length ≤ 16 := hl' g hg
        rw [← List.append_assoc] at h
        exact h)
      refine ⟨I', st _ ?_, hF_cg (fun g _ => List.append_assoc _ _ _) e2, a3.tr e3⟩
      rw [if_neg (show ¬ nI 3 = 0 by decide), if_neg (show ¬ nI 3 = 1 by decide), if_neg (show ¬ nI 3 = 2 by decide), if_pos (show nI 3 = 3 by decide), a1, Option.bind_some, e1, Option.bind_some]
    | 4, _ =>
      obtain ⟨I', e1, e2, e3⟩ := l_planRules J 2 hw hc hr s4 w hl'
      refine ⟨I', st _ ?_, e2, e3⟩
      rw [if_neg (show ¬ nI 4 = 0 by decide), if_neg (show ¬ nI 4 = 1 by decide), if_neg (show ¬ nI 4 = 2 by decide), if_neg (show ¬ nI 4 = 3 by decide), e1, Option.bind_some]
    | n + 5, h => exact absurd h (by omega)
theorem l_pl41 (J : zJ) {E I0 : zM} {m q p1 : Nat} (u3 u4 : Int32) (hw : eW E m q) (hc : cG E I0) (hr : cR E m I0 J) (hs : cS E I0) (h4 : E 8 4 = 0) (hp : p1 + 1 < 45 ∨ 75 ≤ p1) (r1 : zR p1 0 = p1 + 1) (hq : I0 p1 1 = nI q) (hL : ∀ k, k < q → I0 (p1 + 1) k = E 7 k) : ∀ j k fuel I F, k + j = q → j < fuel → hF I F → zFl I0 I → (∀ g, g < 6 → (F g ++ eLs E m g j k).length ≤ 16) → ∃ I', f_X5_plan_41 J p1 u3 u4 fuel (nI k) I = some (.inr (nI q, I')) ∧ hF I' (fun g => F g ++ eLs E m g j k) ∧ zFl I0 I' := by
  have hq5 := hw.2.2.2.2.1
  intro j
  induction j with
  | zero =>
    intro k fuel I F hk hf w hI hl
    obtain ⟨n, rfl⟩ : ∃ n, fuel = n + 1 := ⟨fuel - 1, by omega⟩
    have e : k = q := by omega
    subst e
    refine ⟨I, ?_, hF_cg (fun g _ => (List.append_nil _).symm) w, hI⟩
    unfold f_X5_plan_41
    rw [hI p1 (by omega), hq, if_pos (nI_le (Nat.le_refl _) (by omega))]
  | succ j ih =>
    intro k fuel I F hk hf w hI hl
    obtain ⟨n, rfl⟩ : ∃ n, fuel = n + 1 := ⟨fuel - 1, by omega⟩
    have z0 : zin (nI (k)) 5 = true := zin_nI (by omega) (by decide)
    have c0 : Int32.toNatClampNeg (nI (k)) = k := nI_clamp (by omega)
    obtain ⟨x, -, hx, ex⟩ := zrg_nI (hw.2.2.2.2.2.1 k (by omega)) (by decide)
    have cx : (E 7 k).toNatClampNeg = x := by rw [ex]; exact nI_clamp (by omega)
    have st : ∀ g, F g ++ eLs E m g (j + 1) k = (F g ++ eLe E m g x) ++ eLs E m g j (k + 1) := fun g => by
      show F g ++ (eLe E m g (E 7 k).toNatClampNeg ++ eLs E m g j (k + 1)) = _
      rw [cx, List.append_assoc]
    obtain ⟨I1, a1, a2, a3⟩ := l_planLetter J hw hx (hI.g hc) (hI.r hr) (hI.s hs) h4 w (fun g hg => by
      have h := hl g hg
      rw [st g, List.length_append] at h
      omega)
    obtain ⟨I', e1, e2, e3⟩ := ih (k + 1) n I1 (fun g => F g ++ eLe E m g x) (by omega) (by omega) a2 (hI.tr a3) (fun g hg => by rw [← st g]; exact hl g hg)
    refine ⟨I', ?_, hF_cg (fun g _ => (st g).symm) e2, e3⟩
    unfold f_X5_plan_41
    rw [hI p1 (by omega), hq, if_neg (nI_ge (by omega) (by omega)), if_pos z0, r1, c0, hI (p1 + 1) (by omega), hL k (by omega), ex, a1, Option.bind_some, q_a1]
    exact e1
theorem l_pl11 (J : zJ) {I0 : zM} {p1 : Nat} : ∀ j k fuel I, k + j = 6 → j < fuel → (∀ g, g < k → hL I (45 + 5 * g) []) → zFl I0 I → ∃ I', f_X5_plan_11 J p1 6 fuel (nI k) I = some (.inr (nI 6, I')) ∧ hF I' (fun _ => []) ∧ zFl I0 I' := by
  intro j
  induction j with
  | zero =>
    intro k fuel I hk hf w hI
    obtain ⟨n, rfl⟩ : ∃ n, fuel = n + 1 := ⟨fuel - 1, by omega⟩
    have e : k = 6 := by omega
    subst e
    refine ⟨I, ?_, w, hI⟩
    unfold f_X5_plan_11
    rw [if_pos (show (6 : Int32) ≤ nI 6 by decide)]
  | succ j ih =>
    intro k fuel I hk hf w hI
    obtain ⟨n, rfl⟩ : ∃ n, fuel = n + 1 := ⟨fuel - 1, by omega⟩
    have h0 : ¬ (6 : Int32) ≤ nI k := nI_ge (b := 6) (by omega) (by decide)
    have z0 : zin (nI (k)) 6 = true := zin_nI (by omega) (by decide)
    have c0 : Int32.toNatClampNeg (nI (k)) = k := nI_clamp (by omega)
    have r43 := zr_43 k (by omega)
    obtain ⟨I', e1, e2⟩ := ih (k + 1) n (zu I (45 + 5 * k) 0 0) (by omega) (by omega) (fun g hg => by
      by_cases c : g = k
      · subst c
        refine ⟨by rw [zu_at, if_pos rfl]; rfl, fun i e h => by cases h⟩
      · exact hL_cg (fun r a b => zu_row (by omega)) (w g (by omega))) (fun p hp => (zu_row (by omega)).trans (hI p hp))
    refine ⟨I', ?_, e2⟩
    unfold f_X5_plan_11
    rw [if_neg h0, if_pos z0, c0, r43, q_a1]
    exact e1
theorem l_plan (J : zJ) {E I : zM} {m q p1 : Nat} (hw : eW E m q) (hc : cG E I) (hr : cR E m I J) (hs : cS E I) (h4 : E 8 4 = 0) (hp : p1 + 1 < 45 ∨ 75 ≤ p1) (r1 : zR p1 0 = p1 + 1) (hq : I p1 1 = nI q) (hL : ∀ k, k < q → I (p1 + 1) k = E 7 k) : ∃ I', f_X5_plan J p1 I = some I' ∧ cF E m q I' ∧ zFl I I' := by
  have hq5 := hw.2.2.2.2.1
  have hlen := fun g => eFl_len (g := g) hw
  obtain ⟨I1, a1, a2, a3⟩ := l_pl11 J (p1 := p1) 6 0 zF I rfl (by unfold zF; omega) (fun g h => absurd h (by omega)) zFl.rf
  obtain ⟨I2, b1, b2, b3⟩ := l_planRules J 1 hw (a3.g hc) (a3.r hr) (by rw [a3 39 (by omega)]; exact hs.2.2.2.1) a2 (fun g _ => by
    have h := hlen g
    unfold eFl at h
    rw [List.length_append] at h
    show (eRl E 1 g m 0).length ≤ 16
    omega)
  have h02 := a3.tr b3
  obtain ⟨I3, c1, c2, c3⟩ := l_pl41 J 6 (nI 6) hw hc hr hs h4 hp r1 hq hL q 0 zF I2 (fun g => eRl E 1 g m 0) (by omega) (by unfold zF; omega) b2 h02 (fun g _ => hlen g)
  refine ⟨I3, ?_, c2, c3⟩
  have a1' : f_X5_plan_11 J p1 6 zF 0 I = _ := a1
  have c1' : f_X5_plan_41 J p1 6 (nI 6) zF 0 I2 = _ := c1
  unfold f_X5_plan
  rw [a1', Option.bind_some]
  show (f_X5_planRules J 1 I1).bind _ = _
  rw [b1, Option.bind_some]
  show (f_X5_plan_41 J p1 6 (nI 6) zF 0 I2).bind _ = _
  rw [c1', Option.bind_some]
  rfl
