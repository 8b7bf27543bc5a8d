def sMt (T : Nat → Int32) (a b g : Int32) (k : Nat) : Prop := T (6 * k + 3) = g ∧ ((T (6 * k) = a ∧ T (6 * k + 1) = b) ∨ (T (6 * k) = b ∧ T (6 * k + 1) = a))
/-- from the last doing backwards: how many are still sought, the last value, whether all was right -/
noncomputable def sB (T : Nat → Int32) (a b g tm : Int32) : Nat → Int32 → Int32 → Prop → Int32 × Int32 × Prop
  | 0, l, v, x => (l, v, x)
  | k + 1, l, v, x => @ite _ (l ≤ 0) (Classical.propDecidable _) (l, v, x) (@ite _ (sMt T a b g k) (Classical.propDecidable _) (sB T a b g tm k (l + (-1)) (T (6 * k + 4)) (x ∧ T (6 * k + 5) = 0 ∧ (l = tm ∨ T (6 * k + 4) = v))) (sB T a b g tm k l v x))
theorem nI_dn (k : Nat) : nI k + (-1) = nI k - 1 := (Int32.sub_eq_add_neg _ _).symm
theorem nI_m1_neg : nI 0 - 1 < 0 := by decide
theorem l_bo (J : zJ) (I : zM) (a b g : Int32) : ∀ k fuel l v x, k ≤ 24 → k < fuel → ∃ q, f_X12_beforeOf_20 J a b g fuel l v (zb x) (nI k - 1) I = some (.inr ((sB (I 152) a b g (I 147 8) k l v x).1, (sB (I 152) a b g (I 147 8) k l v x).2.1, zb (sB (I 152) a b g (I 147 8) k l v x).2.2, q, I)) := by
  intro k
  induction k with
  | zero =>
    intro fuel l v x hk hf
    obtain ⟨n, rfl⟩ : ∃ n, fuel = n + 1 := ⟨fuel - 1, by omega⟩
    refine ⟨nI 0 - 1, ?_⟩
    unfold f_X12_beforeOf_20
    rw [if_pos nI_m1_neg]
    rfl
  | succ k ih =>
    intro fuel l v x hk hf
    obtain ⟨n, rfl⟩ : ∃ n, fuel = n + 1 := ⟨fuel - 1, by omega⟩
    have hn : ¬ nI k < 0 := nI_pos (by omega)
    by_cases hl : l ≤ 0
    · refine ⟨nI k, ?_⟩
      have es : sB (I 152) a b g (I 147 8) (k + 1) l v x = (l, v, x) := if_pos hl
      unfold f_X12_beforeOf_20
      rw [nI_pred, if_neg hn, if_pos hl, es]
    have z0 : zin (nI (6 * k)) 144 = true := zin_nI (by omega) (by decide)
    have z1 : zin (nI (6 * k + 1)) 144 = true := zin_nI (by omega) (by decide)
    have z3 : zin (nI (6 * k + 3)) 144 = true := zin_nI (by omega) (by decide)
    have z4 : zin (nI (6 * k + 4)) 144 = true := zin_nI (by omega) (by decide)
    have z5 : zin (nI (6 * k + 5)) 144 = true := zin_nI (by omega) (by decide)
    have c0 : Int32.toNatClampNeg (nI (6 * k)) = 6 * k := nI_clamp (by omega)
    have c1 : Int32.toNatClampNeg (nI (6 * k + 1)) = 6 * k + 1 := nI_clamp (by omega)
    have c3 : Int32.toNatClampNeg (nI (6 * k + 3)) = 6 * k + 3 := nI_clamp (by omega)
    have c4 : Int32.toNatClampNeg (nI (6 * k + 4)) = 6 * k + 4 := nI_clamp (by omega)
    have c5 : Int32.toNatClampNeg (nI (6 * k + 5)) = 6 * k + 5 := nI_clamp (by omega)
    by_cases hM : sMt (I 152) a b g k
    · have es : sB (I 152) a b g (I 147 8) (k + 1) l v x = sB (I 152) a b g (I 147 8) k (l + (-1)) (I 152 (6 * k + 4)) (x ∧ I 152 (6 * k + 5) = 0 ∧ (l = I 147 8 ∨ I 152 (6 * k + 4) = v)) := (if_neg hl).trans (if_pos hM)
      rw [es]
      obtain ⟨q, e⟩ := ih n (l + (-1)) (I 152 (6 * k + 4)) (x ∧ I 152 (6 * k + 5) = 0 ∧ (l = I 147 8 ∨ I 152 (6 * k + 4) = v)) (by omega) (by omega)
      refine ⟨q, ?_⟩
      rw [← e]
      obtain ⟨m3, m⟩ := hM
      have key : ∀ R : Option ((Int32 × zM) ⊕ (Int32 × Int32 × Int32 × Int32 × zM)), (f_X12_beforeOf_20 J a b g n (l + (-1)) (I 152 (6 * k + 4)) (zb (x ∧ I 152 (6 * k + 5) = 0 ∧ (l = I 147 8 ∨ I 152 (6 * k + 4) = v))) (nI k - 1) I = R) → (if zb x = 0 then f_X12_beforeOf_20 J a b g n (l + (-1)) (I 152 (6 * k + 4)) 0 (nI k - 1) I else if I 152 (6 * k + 5) = 0 then (if l = I 147 8 then f_X12_beforeOf_20 J a b g n (l + (-1)) (I 152 (6 * k + 4)) 1 (nI k - 1) I else if I 152 (6 * k + 4) = v then f_X12_beforeOf_20 J a b g n (l + (-1)) (I 152 (6 * k + 4)) 1 (nI k - 1) I else f_X12_beforeOf_20 J a b g n (l + (-1)) (I 152 (6 * k + 4)) 0 (nI k - 1) I) else f_X12_beforeOf_20 J a b g n (l + (-1)) (I 152 (6 * k + 4)) 0 (nI k - 1) I) = R := by
        intro R hR
        rw [← hR]
        by_cases hx : x
        · rw [if_neg (fun q => zb_eq0.mp q hx)]
          by_cases h5 : I 152 (6 * k + 5) = 0
          · rw [if_pos h5]
            by_cases h7 : l = I 147 8
            · rw [if_pos h7, ← zb_t (P := x ∧ I 152 (6 * k + 5) = 0 ∧ (l = I 147 8 ∨ I 152 (6 * k + 4) = v)) ⟨hx, h5, Or.inl h7⟩]
            · rw [if_neg h7]
              by_cases h8 : I 152 (6 * k + 4) = v
              · rw [if_pos h8, ← zb_t (P := x ∧ I 152 (6 * k + 5) = 0 ∧ (l = I 147 8 ∨ I 152 (6 * k + 4) = v)) ⟨hx, h5, Or.inr h8⟩]
              · rw [if_neg h8, ← zb_f (P := x ∧ I 152 (6 * k + 5) = 0 ∧ (l = I 147 8 ∨ I 152 (6 * k + 4) = v)) (fun q => q.2.2.elim h7 h8)]
          · rw [if_neg h5, ← zb_f (P := x ∧ I 152 (6 * k + 5) = 0 ∧ (l = I 147 8 ∨ I 152 (6 * k + 4) = v)) (fun q => h5 q.2.1)]
        · rw [if_pos (zb_eq0.mpr hx), ← zb_f (P := x ∧ I 152 (6 * k + 5) = 0 ∧ (l = I 147 8 ∨ I 152 (6 * k + 4) = v)) (fun q => hx q.1)]
      simp only [f_X12_beforeOf_20, nI_pred, hn, hl, q_6, q_a1, q_a3, q_a4, q_a5, z0, z1, z3, z4, z5, c0, c1, c3, c4, c5, nI_dn, eq_true m3, ↓reduceIte]
      by_cases p1 : I 152 (6 * k) = a
      · rw [if_pos p1]
        by_cases p2 : I 152 (6 * k + 1) = b
        · rw [if_pos p2]
          exact key _ rfl
        · have m' := m.resolve_left (fun q => p2 q.2)
          rw [if_neg p2, if_pos m'.1, if_pos m'.2]
          exact key _ rfl
      · have m' := m.resolve_left (fun q => p1 q.1)
        rw [if_neg p1, if_pos m'.1, if_pos m'.2]
        exact key _ rfl
    · have es : sB (I 152) a b g (I 147 8) (k + 1) l v x = sB (I 152) a b g (I 147 8) k l v x := (if_neg hl).trans (if_neg hM)
      rw [es]
      obtain ⟨q, e⟩ := ih n l v x (by omega) (by omega)
      refine ⟨q, ?_⟩
      rw [← e]
      simp only [f_X12_beforeOf_20, nI_pred, hn, hl, q_6, q_a1, q_a3, q_a4, q_a5, z0, z1, z3, z4, z5, c0, c1, c3, c4, c5, nI_dn, ↓reduceIte]
      by_cases p5 : I 152 (6 * k + 3) = g
      · have nm : ¬ ((I 152 (6 * k) = a ∧ I 152 (6 * k + 1) = b) ∨ (I 152 (6 * k) = b ∧ I 152 (6 * k + 1) = a)) := fun q => hM ⟨p5, q⟩
        by_cases p1 : I 152 (6 * k) = a
        · by_cases p2 : I 152 (6 * k + 1) = b
          · exact absurd (Or.inl ⟨p1, p2⟩) nm
          · by_cases p3 : I 152 (6 * k) = b
            · have p4 : ¬ I 152 (6 * k + 1) = a := fun q => nm (Or.inr ⟨p3, q⟩)
              rw [if_pos p1, if_neg p2, if_pos p3, if_neg p4]
            · rw [if_pos p1, if_neg p2, if_neg p3]
        · by_cases p3 : I 152 (6 * k) = b
          · have p4 : ¬ I 152 (6 * k + 1) = a := fun q => nm (Or.inr ⟨p3, q⟩)
            rw [if_neg p1, if_pos p3, if_neg p4]
          · rw [if_neg p1, if_neg p3]
      · simp only [p5, ↓reduceIte, ite_self]
