/-! ===== the class's fillers ===== -/
/-- the fillers at a place are a list -/
def hL (I : zM) (p : Nat) (l : List zf) : Prop := I p 0 = nI l.length ∧ ∀ i e, l[i]? = some e → I (p + 1) i = e.1 ∧ I (p + 2) i = e.2.1 ∧ I (p + 3) i = e.2.2.1 ∧ I (p + 4) i = e.2.2.2
theorem hL_cg {I I' : zM} {p : Nat} {l : List zf} (h : ∀ r, p ≤ r → r < p + 5 → I' r = I r) (w : hL I p l) : hL I' p l := by
  unfold hL at w ⊢
  rw [h p (by omega) (by omega), h (p + 1) (by omega) (by omega), h (p + 2) (by omega) (by omega), h (p + 3) (by omega) (by omega), h (p + 4) (by omega) (by omega)]
  exact w
def zRf (p : Nat) : Prop := zR p 1 = p + 1 ∧ zR p 2 = p + 2 ∧ zR p 3 = p + 3 ∧ zR p 4 = p + 4
theorem zRf_of {g : Nat} (hg : g < 6) : zRf (45 + 5 * g) := by
  have h0 := zr_fi g hg 0 (by decide)
  have h1 := zr_fi g hg 1 (by decide)
  have h2 := zr_fi g hg 2 (by decide)
  have h3 := zr_fi g hg 3 (by decide)
  refine ⟨h0.trans (by omega), h1.trans (by omega), h2.trans (by omega), h3.trans (by omega)⟩
theorem l_adf (J : zJ) {I : zM} {p : Nat} {l : List zf} (hr : zRf p) (w : hL I p l) (hl : l.length < 16) (v1 v2 v3 v4 : Int32) : ∃ I', f_X2_add J p v1 v2 v3 v4 I = some I' ∧ hL I' p (l ++ [(v1, v2, v3, v4)]) ∧ ∀ r, (r < p ∨ p + 5 ≤ r) → I' r = I r := by
  obtain ⟨r1, r2, r3, r4⟩ := hr
  obtain ⟨w1, w2⟩ := w
  have z0 : zin (nI (l.length)) 16 = true := zin_nI (by omega) (by decide)
  have c0 : Int32.toNatClampNeg (nI (l.length)) = l.length := nI_clamp (by omega)
  have lt : nI l.length < 16 := nI_lt (b := 16) (by omega) (by decide)
  have o1 : ∀ (I : zM) k x j, zu I (p + 1) k x p j = I p j := fun I k x j => zu_off (by omega) I k x j
  have o2 : ∀ (I : zM) k x j, zu I (p + 2) k x p j = I p j := fun I k x j => zu_off (by omega) I k x j
  have o3 : ∀ (I : zM) k x j, zu I (p + 3) k x p j = I p j := fun I k x j => zu_off (by omega) I k x j
  have o4 : ∀ (I : zM) k x j, zu I (p + 4) k x p j = I p j := fun I k x j => zu_off (by omega) I k x j
  refine ⟨zu (zu (zu (zu (zu I (p + 1) l.length v1) (p + 2) l.length v2) (p + 3) l.length v3) (p + 4) l.length v4) p 0 (nI (l.length + 1)), ?_, ⟨?_, fun i e h => ?_⟩, fun r h => ?_⟩
  · simp only [f_X2_add, r1, r2, r3, r4, o1, o2, o3, o4, w1, lt, z0, c0, q_a1, ↓reduceIte]
  · rw [zu_at, if_pos rfl, List.length_append]
    rfl
  · have n1 : p + 1 ≠ p := by omega
    have n2 : p + 2 ≠ p := by omega
    have n3 : p + 3 ≠ p := by omega
    have n4 : p + 4 ≠ p := by omega
    have n12 : p + 1 ≠ p + 2 := by omega
    have n13 : p + 1 ≠ p + 3 := by omega
    have n14 : p + 1 ≠ p + 4 := by omega
    have n23 : p + 2 ≠ p + 3 := by omega
    have n24 : p + 2 ≠ p + 4 := by omega
    have n34 : p + 3 ≠ p + 4 := by omega
    rw [zu_row n1, zu_row n14, zu_row n13, zu_row n12, zu_row n2, zu_row n24, zu_row n23, zu_row n3, zu_row n34, zu_row n4]
    rw [zu_at, zu_at, zu_at, zu_at, zu_row n12.symm, zu_row n23.symm, zu_row n13.symm, zu_row n34.symm, zu_row n24.symm, zu_row n14.symm]
    by_cases c : i < l.length
    · rw [List.getElem?_append_left c] at h
      rw [if_neg (by omega), if_neg (by omega), if_neg (by omega), if_neg (by omega)]
      exact w2 i e h
    · rw [List.getElem?_append_right (by omega)] at h
      have ei : i = l.length := by
        by_cases d : i - l.length = 0
        · omega
        · exfalso
          rw [List.getElem?_eq_none (by show 1 ≤ i - l.length; omega)] at h
          cases h
      subst ei
      rw [Nat.sub_self] at h
      cases h
      rw [if_pos rfl, if_pos rfl, if_pos rfl, if_pos rfl]
      exact ⟨rfl, rfl, rfl, rfl⟩
  · rw [zu_row (by omega), zu_row (by omega), zu_row (by omega), zu_row (by omega), zu_row (by omega)]
/-- digits of a filling stand in the row that is now -/
def dN (I : zM) (p : Nat) (d : Nat → Nat) : Prop := ∀ i, i < 6 → I p i = nI (d i)
theorem l_first (J : zJ) {I : zM} {p : Nat} {l : List zf} {d : Nat → Nat} (hr : zRf p) (w : hL I p l) (hl : l.length ≤ 16) (hd : dN I 44 d) : ∀ (b a : List zf) fuel, l = a ++ b → b.length < fuel → ∃ v, ((f_X2_first_2 J p fuel (nI a.length) I).bind fun q => Sum.elim (fun a => some a) (fun a3 => some (((-9), a3.2))) q) = some (v, I) ∧ ((eFi d b = none ∧ v = -9) ∨ ∃ i e, eFi d b = some e ∧ v = nI i ∧ i < l.length ∧ l[i]? = some e) := by
  intro b
  induction b with
  | nil =>
    intro a fuel e hf
    obtain ⟨n, rfl⟩ : ∃ n, fuel = n + 1 := ⟨fuel - 1, by omega⟩
    rw [List.append_nil] at e
    subst e
    refine ⟨-9, ?_, Or.inl ⟨rfl, rfl⟩⟩
    unfold f_X2_first_2
    rw [w.1, if_pos (nI_le (Nat.le_refl _) (by omega))]
    rfl
  | cons x b ih =>
    intro a fuel e hf
    obtain ⟨n, rfl⟩ : ∃ n, fuel = n + 1 := ⟨fuel - 1, by omega⟩
    have hlen : l.length = a.length + (b.length + 1) := by rw [e, List.length_append]; rfl
    have h0 : ¬ nI l.length ≤ nI a.length := nI_ge (by omega) (by omega)
    have z0 : zin (nI (a.length)) 16 = true := zin_nI (by omega) (by decide)
    have c0 : Int32.toNatClampNeg (nI (a.length)) = a.length := nI_clamp (by omega)
    have hx : l[a.length]? = some x := by rw [e, List.getElem?_append_right (Nat.le_refl _), Nat.sub_self]; rfl
    obtain ⟨-, -, w3, w4⟩ := w.2 a.length x hx
    obtain ⟨v, e1, e2⟩ := ih (a ++ [x]) n (by rw [List.append_assoc]; exact e) (by rw [List.length_cons] at hf; omega)
    rw [List.length_append] at e1
    obtain ⟨-, -, r3, r4⟩ := hr
    simp only [f_X2_first_2, w.1, h0, z0, c0, r3, r4, w3, w4, l_isGap, Option.bind_some, q_a1, ↓reduceIte]
    by_cases c1 : zrg x.2.2.1 0 5
    · rw [if_neg (fun z => zb_eq0.mp z c1)]
      obtain ⟨g, -, hg, eg⟩ := zrg_nI c1 (by decide)
      have z1 : zin (nI (g)) 6 = true := zin_nI (by omega) (by decide)
      have c1 : Int32.toNatClampNeg (nI (g)) = g := nI_clamp (by omega)
      rw [eg, z1, c1, if_pos rfl, hd g (by omega)]
      by_cases c2 : nI (d g) = x.2.2.2
      · rw [if_pos c2]
        have ft : eFt d x := Or.inr (by rw [eg, c1]; exact c2)
        exact ⟨nI a.length, rfl, Or.inr ⟨a.length, x, eFi_p ft, rfl, by omega, hx⟩⟩
      · rw [if_neg c2]
        have ft : ¬ eFt d x := fun q => q.elim (fun q => q (by rw [eg]; exact zrg_of (by omega) hg (by decide))) (fun q => c2 (by rw [eg, c1] at q; exact q))
        rw [eFi_n ft]
        exact ⟨v, e1, e2⟩
    · rw [if_pos (zb_eq0.mpr c1)]
      exact ⟨nI a.length, rfl, Or.inr ⟨a.length, x, eFi_p (Or.inl c1), rfl, by omega, hx⟩⟩
/-- the first that fills, by value and reason -/
theorem l_find (J : zJ) {I : zM} {p : Nat} {l : List zf} {d : Nat → Nat} (hr : zRf p) (w : hL I p l) (hl : l.length ≤ 16) (hd : dN I 44 d) : ∃ v, f_X2_first J p I = some (v, I) ∧ f_X2_valueOf J p v I = some (eVa (eFi d l), I) ∧ f_X2_reasonOf J p v I = some (eRs (eFi d l), I) := by
  obtain ⟨v, e1, e2⟩ := l_first J hr w hl hd l [] zF rfl (by unfold zF; omega)
  refine ⟨v, e1, ?_⟩
  rcases e2 with ⟨h1, rfl⟩ | ⟨i, e, h1, rfl, h3, h4⟩
  · rw [h1]
    exact ⟨if_pos (show (-9 : Int32) < 0 by decide), if_pos (show (-9 : Int32) < 0 by decide)⟩
  · have hn : ¬ nI i < 0 := nI_pos (by omega)
    have h0 : ¬ nI l.length ≤ nI i := nI_ge h3 (by omega)
    have z0 : zin (nI (i)) 16 = true := zin_nI (by omega) (by decide)
    have c0 : Int32.toNatClampNeg (nI (i)) = i := nI_clamp (by omega)
    obtain ⟨w1, w2, -, -⟩ := w.2 i e h4
    obtain ⟨r1, r2, -, -⟩ := hr
    rw [h1]
    constructor
    · unfold f_X2_valueOf
      rw [if_neg hn, w.1, if_neg h0, if_pos z0, r1, c0, w1]
      rfl
    · unfold f_X2_reasonOf
      rw [if_neg hn, w.1, if_neg h0, if_pos z0, r2, c0, w2]
      rfl
