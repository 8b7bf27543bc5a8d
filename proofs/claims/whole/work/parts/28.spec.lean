/-! ===== what may fill a gap, in the order in which it is tried ===== -/
/-- value, by what, the gap of its if, what that must have -/
abbrev zf : Type := Int32 × Int32 × Int32 × Int32
def eTh (E : zM) (g : Nat) (v : Int32) : Prop := (1 : Int) ≤ v.toInt ∧ v.toInt ≤ (E 0 g).toInt
def eRf (E : zM) (l : Int32) (g r : Nat) : Prop := E 3 (6 * r) = l ∧ E 3 (6 * r + 1) = nI g ∧ eTh E g (E 3 (6 * r + 2)) ∧ (E 3 (6 * r + 5) = -9 ∨ E 3 (6 * r + 5) = E 8 0)
def eRe (E : zM) (r : Nat) : zf := (E 3 (6 * r + 2), nI (10 + r), E 3 (6 * r + 3), E 3 (6 * r + 4))
noncomputable def eRl (E : zM) (l : Int32) (g : Nat) : Nat → Nat → List zf
  | 0, _ => []
  | j + 1, k => @ite _ (eRf E l g k) (Classical.propDecidable _) (eRe E k :: eRl E l g j (k + 1)) (eRl E l g j (k + 1))
theorem eRl_p {E : zM} {l : Int32} {g j k : Nat} (h : eRf E l g k) : eRl E l g (j + 1) k = eRe E k :: eRl E l g j (k + 1) := if_pos h
theorem eRl_n {E : zM} {l : Int32} {g j k : Nat} (h : ¬ eRf E l g k) : eRl E l g (j + 1) k = eRl E l g j (k + 1) := if_neg h
noncomputable def eRow (E : zM) (p : Nat) (rs : Int32) (g : Nat) : List zf := @ite _ (eTh E g (E p g)) (Classical.propDecidable _) [(E p g, rs, -9, 0)] []
theorem eRow_p {E : zM} {p : Nat} {rs : Int32} {g : Nat} (h : eTh E g (E p g)) : eRow E p rs g = [(E p g, rs, -9, 0)] := if_pos h
theorem eRow_n {E : zM} {p : Nat} {rs : Int32} {g : Nat} (h : ¬ eTh E g (E p g)) : eRow E p rs g = [] := if_neg h
noncomputable def eLa (E : zM) (g : Nat) : List zf := @ite _ (E 8 2 = nI g ∧ eTh E g (E 8 3)) (Classical.propDecidable _) [(E 8 3, E 8 4, -9, 0)] []
theorem eLa_p {E : zM} {g : Nat} (h : E 8 2 = nI g ∧ eTh E g (E 8 3)) : eLa E g = [(E 8 3, E 8 4, -9, 0)] := if_pos h
theorem eLa_n {E : zM} {g : Nat} (h : ¬ (E 8 2 = nI g ∧ eTh E g (E 8 3))) : eLa E g = [] := if_neg h
noncomputable def eLf (E : zM) (m : Nat) (g : Nat) : Nat → List zf
  | 0 => eRow E 4 1 g
  | 1 => eRow E 5 2 g
  | 2 => eRow E 6 3 g
  | 3 => eLa E g ++ eRl E 0 g m 0
  | _ => eRl E 2 g m 0
noncomputable def eLe (E : zM) (m : Nat) (g x : Nat) : List zf := @ite _ (zbt (E 8 1) x) (Classical.propDecidable _) [] (eLf E m g x)
theorem eLe_x {E : zM} {m g x : Nat} (h : zbt (E 8 1) x) : eLe E m g x = [] := if_pos h
theorem eLe_o {E : zM} {m g x : Nat} (h : ¬ zbt (E 8 1) x) : eLe E m g x = eLf E m g x := if_neg h
noncomputable def eLs (E : zM) (m : Nat) (g : Nat) : Nat → Nat → List zf
  | 0, _ => []
  | j + 1, k => eLe E m g (E 7 k).toNatClampNeg ++ eLs E m g j (k + 1)
noncomputable def eFl (E : zM) (m q g : Nat) : List zf := eRl E 1 g m 0 ++ eLs E m g q 0
/-! the first that fills -/
def eFt (d : Nat → Nat) (e : zf) : Prop := ¬ zrg e.2.2.1 0 5 ∨ nI (d e.2.2.1.toNatClampNeg) = e.2.2.2
noncomputable def eFi (d : Nat → Nat) : List zf → Option zf
  | [] => none
  | e :: l => @ite _ (eFt d e) (Classical.propDecidable _) (some e) (eFi d l)
theorem eFi_p {d : Nat → Nat} {e : zf} {l : List zf} (h : eFt d e) : eFi d (e :: l) = some e := if_pos h
theorem eFi_n {d : Nat → Nat} {e : zf} {l : List zf} (h : ¬ eFt d e) : eFi d (e :: l) = eFi d l := if_neg h
theorem eFi_some {d : Nat → Nat} {b : List zf} {e : zf} : ∀ {a : List zf}, eFi d a = some e → eFi d (a ++ b) = some e := by
  intro a
  induction a with
  | nil => intro h; cases h
  | cons x a ih =>
    intro h
    by_cases c : eFt d x
    · rw [eFi_p c] at h
      rw [List.cons_append, eFi_p c]
      exact h
    · rw [eFi_n c] at h
      rw [List.cons_append, eFi_n c]
      exact ih h
theorem eFi_none {d : Nat → Nat} {b : List zf} : ∀ {a : List zf}, eFi d a = none → eFi d (a ++ b) = eFi d b := by
  intro a
  induction a with
  | nil => intro _; rfl
  | cons x a ih =>
    intro h
    by_cases c : eFt d x
    · rw [eFi_p c] at h
      cases h
    · rw [eFi_n c] at h
      rw [List.cons_append, eFi_n c]
      exact ih h
theorem eFi_mem {d : Nat → Nat} {e : zf} : ∀ {a : List zf}, eFi d a = some e → e ∈ a := by
  intro a
  induction a with
  | nil => intro h; cases h
  | cons x a ih =>
    intro h
    by_cases c : eFt d x
    · rw [eFi_p c] at h
      cases h
      exact List.mem_cons_self
    · rw [eFi_n c] at h
      exact List.mem_cons_of_mem _ (ih h)
def eVa : Option zf → Int32
  | none => 0
  | some e => e.1
def eRs : Option zf → Int32
  | none => 0
  | some e => e.2.1
def eAk (E : zM) (d : Nat → Nat) (g : Nat) : Prop := ¬ E 0 g ≤ 0 ∧ (E 1 g = -9 ∨ nI (d (E 1 g).toNatClampNeg) = E 2 g)
noncomputable def eGo (E : zM) (m q : Nat) (d : Nat → Nat) (g : Nat) : Option zf := @ite _ (eAk E d g) (Classical.propDecidable _) (eFi d (eFl E m q g)) none
theorem eGo_p {E : zM} {m q g : Nat} {d : Nat → Nat} (h : eAk E d g) : eGo E m q d g = eFi d (eFl E m q g) := if_pos h
theorem eGo_n {E : zM} {m q g : Nat} {d : Nat → Nat} (h : ¬ eAk E d g) : eGo E m q d g = none := if_neg h
noncomputable def eNg (E : zM) (m q : Nat) (d : Nat → Nat) (g : Nat) : Nat := (eVa (eGo E m q d g)).toNatClampNeg
/-- THE NEXT FILLING -/
noncomputable def eNx (E : zM) (m q a : Nat) : Nat := undig (eNg E m q (dig a))
/-- what the table must keep to -/
def eW (E : zM) (m q : Nat) : Prop := (∀ g, g < 6 → zrg (E 0 g) 0 5) ∧ (∀ g, g < 6 → E 1 g = -9 ∨ zrg (E 1 g) 0 5) ∧ m ≤ 12 ∧ (∀ r, r < m → zrg (E 3 (6 * r + 1)) 0 5 ∧ (E 3 (6 * r + 3) = -9 ∨ zrg (E 3 (6 * r + 3)) 0 5)) ∧ q ≤ 5 ∧ (∀ k, k < q → zrg (E 7 k) 0 4) ∧ (∀ i j, i < q → j < q → E 7 i = E 7 j → i = j) ∧ (∃ c, c < 8 ∧ E 8 1 = nI (2 * c)) ∧ (E 8 2 = -9 ∨ zrg (E 8 2) 0 5)
/-! every filler is a value that is there -/
theorem eRl_ok {E : zM} {l : Int32} {g : Nat} : ∀ j k, ∀ e ∈ eRl E l g j k, eTh E g e.1 := by
  intro j
  induction j with
  | zero => intro k e h; cases h
  | succ j ih =>
    intro k e h
    by_cases c : eRf E l g k
    · rw [eRl_p c] at h
      rcases List.mem_cons.mp h with rfl | h
      · exact c.2.2.1
      · exact ih _ e h
    · rw [eRl_n c] at h
      exact ih _ e h
theorem eRow_ok {E : zM} {p g : Nat} {rs : Int32} : ∀ e ∈ eRow E p rs g, eTh E g e.1 := by
  intro e h
  by_cases c : eTh E g (E p g)
  · rw [eRow_p c] at h
    rcases List.mem_singleton.mp h with rfl
    exact c
  · rw [eRow_n c] at h
    cases h
theorem eLa_ok {E : zM} {g : Nat} : ∀ e ∈ eLa E g, eTh E g e.1 := by
  intro e h
  by_cases c : E 8 2 = nI g ∧ eTh E g (E 8 3)
  · rw [eLa_p c] at h
    rcases List.mem_singleton.mp h with rfl
    exact c.2
  · rw [eLa_n c] at h
    cases h
theorem eLf_ok {E : zM} {m g : Nat} : ∀ x, ∀ e ∈ eLf E m g x, eTh E g e.1
  | 0 => eRow_ok
  | 1 => eRow_ok
  | 2 => eRow_ok
  | 3 => fun e h => (List.mem_append.mp h).elim (eLa_ok e) (eRl_ok _ _ e)
  | _ + 4 => eRl_ok _ _
theorem eLe_ok {E : zM} {m g x : Nat} : ∀ e ∈ eLe E m g x, eTh E g e.1 := by
  intro e h
  by_cases c : zbt (E 8 1) x
  · rw [eLe_x c] at h
    cases h
  · rw [eLe_o c] at h
    exact eLf_ok x e h
theorem eLs_ok {E : zM} {m g : Nat} : ∀ j k, ∀ e ∈ eLs E m g j k, eTh E g e.1 := by
  intro j
  induction j with
  | zero => intro k e h; cases h
  | succ j ih => exact fun k e h => (List.mem_append.mp h).elim (eLe_ok e) (ih _ e)
theorem eFl_ok {E : zM} {m q g : Nat} : ∀ e ∈ eFl E m q g, eTh E g e.1 := fun e h => (List.mem_append.mp h).elim (eRl_ok _ _ e) (eLs_ok _ _ e)
theorem eTh_nI {E : zM} {g : Nat} {v : Int32} (h : eTh E g v) (hk : zrg (E 0 g) 0 5) : ∃ j : Nat, 1 ≤ j ∧ j ≤ 5 ∧ v = nI j := by
  refine zrg_nI (a := 1) (b := 5) ⟨h.1, ?_⟩ (by decide)
  have h1 := h.2
  have h2 := hk.2
  omega
theorem eVa_ok {E : zM} {g : Nat} {l : List zf} {d : Nat → Nat} (h : ∀ e ∈ l, eTh E g e.1) (hk : zrg (E 0 g) 0 5) : (eFi d l = none ∧ eVa (eFi d l) = 0) ∨ ∃ e j, eFi d l = some e ∧ 1 ≤ j ∧ j ≤ 5 ∧ e.1 = nI j := by
  cases c : eFi d l with
  | none => exact Or.inl ⟨rfl, rfl⟩
  | some e =>
    obtain ⟨j, h1, h2, h3⟩ := eTh_nI (h e (eFi_mem c)) hk
    exact Or.inr ⟨e, j, rfl, h1, h2, h3⟩
theorem eNg_nI {E : zM} {m q g : Nat} {d : Nat → Nat} (hk : zrg (E 0 g) 0 5) : eVa (eGo E m q d g) = nI (eNg E m q d g) ∧ eNg E m q d g ≤ 5 := by
  have z : eGo E m q d g = none → eVa (eGo E m q d g) = nI (eNg E m q d g) ∧ eNg E m q d g ≤ 5 := fun h => by
    unfold eNg
    rw [h]
    exact ⟨rfl, by decide⟩
  by_cases c : eAk E d g
  · rcases eVa_ok (d := d) (eFl_ok (E := E) (m := m) (q := q) (g := g)) hk with h | ⟨e, j, h1, h2, h3, h4⟩
    · exact z ((eGo_p c).trans h.1)
    · unfold eNg
      rw [eGo_p c, h1]
      show e.1 = nI e.1.toNatClampNeg ∧ e.1.toNatClampNeg ≤ 5
      rw [h4, nI_clamp (by omega)]
      exact ⟨rfl, h3⟩
  · exact z (eGo_n c)
theorem eNx_lt {E : zM} {m q : Nat} (hk : ∀ g, g < 6 → zrg (E 0 g) 0 5) (a : Nat) : eNx E m q a < 46656 := undig_lt fun g hg => by have := (eNg_nI (m := m) (q := q) (d := dig a) (hk g hg)).2; omega
/-! there is room for all of them -/
theorem eRl_len {E : zM} {l : Int32} {g : Nat} : ∀ j k, (eRl E l g j k).length = sCt (eRf E l g) j k := by
  intro j
  induction j with
  | zero => intro k; rfl
  | succ j ih =>
    intro k
    by_cases c : eRf E l g k
    · rw [eRl_p c, sCt_p c, List.length_cons, ih]
      omega
    · rw [eRl_n c, sCt_n c, ih]
theorem sCt_three {P Q R : Nat → Prop} (h1 : ∀ k, P k → ¬ Q k) (h2 : ∀ k, P k → ¬ R k) (h3 : ∀ k, Q k → ¬ R k) : ∀ j k, sCt P j k + sCt Q j k + sCt R j k ≤ j := by
  intro j
  induction j with
  | zero => intro k; exact Nat.le_refl _
  | succ j ih =>
    intro k
    have := ih (k + 1)
    by_cases a : P k
    · rw [sCt_p a, sCt_n (h1 k a), sCt_n (h2 k a)]; omega
    · rw [sCt_n a]
      by_cases b : Q k
      · rw [sCt_p b, sCt_n (h3 k b)]; omega
      · rw [sCt_n b]
        by_cases c : R k
        · rw [sCt_p c]; omega
        · rw [sCt_n c]; omega
theorem eRf_ne {E : zM} {a b : Int32} {g k : Nat} (h : a ≠ b) (p : eRf E a g k) : ¬ eRf E b g k := fun q => h (p.1.symm.trans q.1)
theorem eRow_len {E : zM} {p g : Nat} {rs : Int32} : (eRow E p rs g).length ≤ 1 := by
  by_cases c : eTh E g (E p g)
  · rw [eRow_p c]; exact Nat.le_refl _
  · rw [eRow_n c]; exact Nat.zero_le _
theorem eLa_len {E : zM} {g : Nat} : (eLa E g).length ≤ 1 := by
  by_cases c : E 8 2 = nI g ∧ eTh E g (E 8 3)
  · rw [eLa_p c]; exact Nat.le_refl _
  · rw [eLa_n c]; exact Nat.zero_le _
/-- how many a letter has at most -/
noncomputable def eLw (E : zM) (m g : Nat) : Nat → Nat
  | 0 => 1
  | 1 => 1
  | 2 => 1
  | 3 => 1 + sCt (eRf E 0 g) m 0
  | _ => sCt (eRf E 2 g) m 0
theorem eLf_len {E : zM} {m g : Nat} : ∀ x, (eLf E m g x).length ≤ eLw E m g x
  | 0 => eRow_len
  | 1 => eRow_len
  | 2 => eRow_len
  | 3 => by
    show (eLa E g ++ eRl E 0 g m 0).length ≤ 1 + sCt (eRf E 0 g) m 0
    rw [List.length_append, eRl_len]
    have := eLa_len (E := E) (g := g)
    omega
  | _ + 4 => by
    show (eRl E 2 g m 0).length ≤ sCt (eRf E 2 g) m 0
    rw [eRl_len]
    exact Nat.le_refl _
theorem eLe_len {E : zM} {m g x : Nat} : (eLe E m g x).length ≤ eLw E m g x := by
  by_cases c : zbt (E 8 1) x
  · rw [eLe_x c]; exact Nat.zero_le _
  · rw [eLe_o c]; exact eLf_len x
noncomputable def eUs (w : Nat → Nat) (u : Nat → Prop) (x : Nat) : Nat := @ite _ (u x) (Classical.propDecidable _) (w x) 0
theorem eUs_p {w : Nat → Nat} {u : Nat → Prop} {x : Nat} (h : u x) : eUs w u x = w x := if_pos h
theorem eUs_n {w : Nat → Nat} {u : Nat → Prop} {x : Nat} (h : ¬ u x) : eUs w u x = 0 := if_neg h
theorem eUs_cg {w : Nat → Nat} {u v : Nat → Prop} {x : Nat} (h : u x ↔ v x) : eUs w u x = eUs w v x := by
  by_cases c : u x
  · rw [eUs_p c, eUs_p (h.mp c)]
  · rw [eUs_n c, eUs_n (fun q => c (h.mpr q))]
noncomputable def eUw (w : Nat → Nat) (u : Nat → Prop) : Nat := eUs w u 0 + eUs w u 1 + eUs w u 2 + eUs w u 3 + eUs w u 4
theorem eUw_step {w : Nat → Nat} {u v : Nat → Prop} {y : Nat} (hy : y < 5) (hn : ¬ u y) (h : ∀ x, x < 5 → (v x ↔ (u x ∨ x = y))) : eUw w v = eUw w u + w y := by
  have ne : ∀ x, x < 5 → x ≠ y → eUs w v x = eUs w u x := fun x h5 hx => eUs_cg ((h x h5).trans ⟨fun q => q.resolve_right hx, Or.inl⟩)
  have ey : eUs w v y = w y := eUs_p ((h y hy).mpr (Or.inr rfl))
  have e0 : eUs w u y = 0 := eUs_n hn
  unfold eUw
  match y, hy with
  | 0, _ => rw [ey, e0, ne 1 (by decide) (by decide), ne 2 (by decide) (by decide), ne 3 (by decide) (by decide), ne 4 (by decide) (by decide)]; omega
  | 1, _ => rw [ey, e0, ne 0 (by decide) (by decide), ne 2 (by decide) (by decide), ne 3 (by decide) (by decide), ne 4 (by decide) (by decide)]; omega
  | 2, _ => rw [ey, e0, ne 0 (by decide) (by decide), ne 1 (by decide) (by decide), ne 3 (by decide) (by decide), ne 4 (by decide) (by decide)]; omega
  | 3, _ => rw [ey, e0, ne 0 (by decide) (by decide), ne 1 (by decide) (by decide), ne 2 (by decide) (by decide), ne 4 (by decide) (by decide)]; omega
  | 4, _ => rw [ey, e0, ne 0 (by decide) (by decide), ne 1 (by decide) (by decide), ne 2 (by decide) (by decide), ne 3 (by decide) (by decide)]; omega
  | n + 5, hy => exact absurd hy (by omega)
theorem eUs_le {w : Nat → Nat} {u : Nat → Prop} {x : Nat} : eUs w u x ≤ w x := by
  by_cases c : u x
  · rw [eUs_p c]; exact Nat.le_refl _
  · rw [eUs_n c]; exact Nat.zero_le _
theorem eLs_len {E : zM} {m q g : Nat} (h1 : ∀ k, k < q → zrg (E 7 k) 0 4) (h2 : ∀ i j, i < q → j < q → E 7 i = E 7 j → i = j) : ∀ j k, k + j = q → (eLs E m g j k).length + eUw (eLw E m g) (fun x => ∃ i, i < k ∧ E 7 i = nI x) ≤ eLw E m g 0 + eLw E m g 1 + eLw E m g 2 + eLw E m g 3 + eLw E m g 4 := by
  intro j
  induction j with
  | zero =>
    intro k hk
    have a0 := eUs_le (w := eLw E m g) (u := fun x => ∃ i, i < k ∧ E 7 i = nI x) (x := 0)
    have a1 := eUs_le (w := eLw E m g) (u := fun x => ∃ i, i < k ∧ E 7 i = nI x) (x := 1)
    have a2 := eUs_le (w := eLw E m g) (u := fun x => ∃ i, i < k ∧ E 7 i = nI x) (x := 2)
    have a3 := eUs_le (w := eLw E m g) (u := fun x => ∃ i, i < k ∧ E 7 i = nI x) (x := 3)
    have a4 := eUs_le (w := eLw E m g) (u := fun x => ∃ i, i < k ∧ E 7 i = nI x) (x := 4)
    show 0 + eUw _ _ ≤ _
    unfold eUw
    omega
  | succ j ih =>
    intro k hk
    have h := ih (k + 1) (by omega)
    obtain ⟨y, -, hy, ey⟩ := zrg_nI (h1 k (by omega)) (by decide)
    have st := eUw_step (w := eLw E m g) (u := fun x => ∃ i, i < k ∧ E 7 i = nI x) (v := fun x => ∃ i, i < k + 1 ∧ E 7 i = nI x) (y := y) (by omega) (fun ⟨i, hi, e⟩ => by
      have := h2 i k (by omega) (by omega) (e.trans ey.symm)
      omega) (fun x hx => ⟨fun ⟨i, hi, e⟩ => by
      by_cases c : i = k
      · subst c
        exact Or.inr ((nI_eq (by omega) (by omega)).mp (e.symm.trans ey))
      · exact Or.inl ⟨i, by omega, e⟩, fun q => q.elim (fun ⟨i, hi, e⟩ => ⟨i, by omega, e⟩) (fun e => ⟨k, by omega, by rw [e]; exact ey⟩)⟩)
    rw [st] at h
    have hl := eLe_len (E := E) (m := m) (g := g) (x := y)
    show (eLe E m g (E 7 k).toNatClampNeg ++ eLs E m g j (k + 1)).length + _ ≤ _
    rw [List.length_append, ey, nI_clamp (by omega)]
    omega
theorem eFl_len {E : zM} {m q g : Nat} (h : eW E m q) : (eFl E m q g).length ≤ 16 := by
  obtain ⟨-, -, hm, -, hq, h1, h2, -, -⟩ := h
  have a := eLs_len (E := E) (m := m) (q := q) (g := g) h1 h2 q 0 (by omega)
  have b := sCt_three (P := eRf E 1 g) (Q := eRf E 0 g) (R := eRf E 2 g) (fun k => eRf_ne (by decide)) (fun k => eRf_ne (by decide)) (fun k => eRf_ne (by decide)) m 0
  have c : (eFl E m q g).length = sCt (eRf E 1 g) m 0 + (eLs E m g q 0).length := by
    unfold eFl
    rw [List.length_append, eRl_len]
  have d : eLw E m g 0 + eLw E m g 1 + eLw E m g 2 + eLw E m g 3 + eLw E m g 4 = 1 + 1 + 1 + (1 + sCt (eRf E 0 g) m 0) + sCt (eRf E 2 g) m 0 := rfl
  omega
