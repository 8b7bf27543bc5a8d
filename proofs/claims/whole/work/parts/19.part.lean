theorem zs_go {P : Nat → Prop} {k : Nat} (h : P k) (hk : k < 6) : zset (fun i => i < k ∧ P i) ||| ((1 : Int32) <<< (nI k &&& 31)) = zset (fun i => i < k + 1 ∧ P i) := by
  rw [zset_or hk]
  refine zset_cg (fun i hi => ⟨fun q => ?_, fun q => ?_⟩)
  · rcases q with q | rfl
    · exact ⟨by omega, q.2⟩
    · exact ⟨by omega, h⟩
  · by_cases e : i = k
    · exact Or.inr e
    · exact Or.inl ⟨by omega, q.2⟩
theorem zs_no {P : Nat → Prop} {k : Nat} (h : ¬ P k) : zset (fun i => i < k ∧ P i) = zset (fun i => i < k + 1 ∧ P i) := by
  refine zset_cg (fun i hi => ⟨fun q => ⟨by omega, q.2⟩, fun q => ?_⟩)
  by_cases e : i = k
  · subst e
    exact absurd q.2 h
  · exact ⟨by omega, q.2⟩
theorem zs_0 {P : Nat → Prop} : (0 : Int32) = zset (fun i => i < 0 ∧ P i) := (zset_0 (fun i hi q => absurd q.1 (by omega))).symm
def sPa (A B : Nat → Int32) (i : Nat) : Prop := ¬ A i = 0 ∧ ¬ B i = 0 ∧ ¬ A i = B i
theorem l_pa (J : zJ) (I : zM) {r a b : Nat} (ha : zR (zR r 4) 0 = a) (hb : zR (zR r 4) 1 = b) : ∀ j k fuel, k + j = 6 → j < fuel → f_X0_parted_4 J r fuel (zset (fun i => i < k ∧ sPa (I a) (I b) i)) (nI k) I = some (.inr (zset (fun i => i < 6 ∧ sPa (I a) (I b) i), nI 6, I)) := by
  intro j
  induction j with
  | zero =>
    intro k fuel hk hf
    obtain ⟨n, rfl⟩ : ∃ n, fuel = n + 1 := ⟨fuel - 1, by omega⟩
    have e : k = 6 := by omega
    subst e
    unfold f_X0_parted_4
    rw [if_pos (show (6 : Int32) ≤ nI 6 by decide)]
  | succ j ih =>
    intro k fuel hk hf
    obtain ⟨n, rfl⟩ : ∃ n, fuel = n + 1 := ⟨fuel - 1, by omega⟩
    have h0 : ¬ (6 : Int32) ≤ nI k := nI_ge (b := 6) (by omega) (by decide)
    have z : zin (nI k) 6 = true := zin_nI (by omega) (by decide)
    have c : Int32.toNatClampNeg (nI k) = k := nI_clamp (by omega)
    have i1 := ih (k + 1) n (by omega) (by omega)
    unfold f_X0_parted_4
    rw [if_neg h0, if_pos z, c, q_a1, ha, hb]
    by_cases a1 : I a k = 0
    · rw [if_pos a1, zs_no (fun q : sPa (I a) (I b) k => q.1 a1)]
      exact i1
    · rw [if_neg a1, if_pos z]
      by_cases a2 : I b k = 0
      · rw [if_pos a2, zs_no (fun q : sPa (I a) (I b) k => q.2.1 a2)]
        exact i1
      · rw [if_neg a2, if_pos z, if_pos z]
        by_cases a3 : I a k = I b k
        · rw [if_pos a3, zs_no (fun q : sPa (I a) (I b) k => q.2.2 a3)]
          exact i1
        · rw [if_neg a3, zs_go (P := sPa (I a) (I b)) ⟨a1, a2, a3⟩ (by omega)]
          exact i1
theorem rg_le0 {v : Int32} {b : Nat} (h : zrg v 0 b) : v ≤ 0 ↔ v = 0 := by
  rw [Int32.le_iff_toInt_le, tl_0]
  constructor
  · intro q
    apply Int32.toInt_inj.mp
    rw [tl_0]
    have := h.1
    omega
  · rintro rfl
    decide
theorem l_pa2 (J : zJ) (I : zM) {i : Nat} (hi : i < 8) (hr : ∀ x, x < 12 → zrg (I 164 (12 * i + x)) 0 5) : ∀ j k fuel, k + j = 6 → j < fuel → f_X12_part_19 J (nI i) fuel (zset (fun g => g < k ∧ sPa (fun x => I 164 (12 * i + x)) (fun x => I 164 (12 * i + 6 + x)) g)) (nI k) I = some (.inr (zset (fun g => g < 6 ∧ sPa (fun x => I 164 (12 * i + x)) (fun x => I 164 (12 * i + 6 + x)) g), nI 6, I)) := by
  intro j
  induction j with
  | zero =>
    intro k fuel hk hf
    obtain ⟨n, rfl⟩ : ∃ n, fuel = n + 1 := ⟨fuel - 1, by omega⟩
    have e : k = 6 := by omega
    subst e
    unfold f_X12_part_19
    rw [if_pos (show (6 : Int32) ≤ nI 6 by decide)]
  | succ j ih =>
    intro k fuel hk hf
    obtain ⟨n, rfl⟩ : ∃ n, fuel = n + 1 := ⟨fuel - 1, by omega⟩
    have h0 : ¬ (6 : Int32) ≤ nI k := nI_ge (b := 6) (by omega) (by decide)
    have z : zin (nI (12 * i + k)) 96 = true := zin_nI (by omega) (by decide)
    have z2 : zin (nI (12 * i + 6 + k)) 96 = true := zin_nI (by omega) (by decide)
    have c : Int32.toNatClampNeg (nI (12 * i + k)) = 12 * i + k := nI_clamp (by omega)
    have c2 : Int32.toNatClampNeg (nI (12 * i + 6 + k)) = 12 * i + 6 + k := nI_clamp (by omega)
    have i1 := ih (k + 1) n (by omega) (by omega)
    have l1 := rg_le0 (hr k (by omega))
    have l2 : I 164 (12 * i + 6 + k) ≤ 0 ↔ I 164 (12 * i + 6 + k) = 0 := by
      rw [Nat.add_assoc]
      exact rg_le0 (hr (6 + k) (by omega))
    unfold f_X12_part_19
    rw [if_neg h0, q_12, q_a6, nI_add, nI_add, if_pos z, if_pos z2, c, c2, q_a1, Int32.or_zero]
    by_cases a1 : I 164 (12 * i + k) = 0
    · rw [if_pos (l1.mpr a1), zs_no (fun q : sPa (fun x => I 164 (12 * i + x)) (fun x => I 164 (12 * i + 6 + x)) k => q.1 a1)]
      exact i1
    · rw [if_neg (fun q => a1 (l1.mp q))]
      by_cases a2 : I 164 (12 * i + 6 + k) = 0
      · rw [if_pos (l2.mpr a2), zs_no (fun q : sPa (fun x => I 164 (12 * i + x)) (fun x => I 164 (12 * i + 6 + x)) k => q.2.1 a2)]
        exact i1
      · rw [if_neg (fun q => a2 (l2.mp q))]
        by_cases a3 : I 164 (12 * i + k) = I 164 (12 * i + 6 + k)
        · rw [if_pos a3, zs_no (fun q : sPa (fun x => I 164 (12 * i + x)) (fun x => I 164 (12 * i + 6 + x)) k => q.2.2 a3)]
          exact i1
        · rw [if_neg a3, zs_go (P := sPa (fun x => I 164 (12 * i + x)) (fun x => I 164 (12 * i + 6 + x))) ⟨a1, a2, a3⟩ (by omega)]
          exact i1
theorem q_part : zS_part zInv := by
  intro n I J v1 hn hv
  obtain ⟨m, g1, g2, g3, g4⟩ := hv.bar
  have g3' : zu I 147 0 0 147 25 = nI m := g3
  by_cases h1 : zlt v1 m
  case neg =>
    have e1 : f_X11_part J v1 I = some (-1, I) := by
      simp only [f_X11_part, l_isBargain J v1 I g2 (by omega), Option.bind_some, zb_eq0, zb_eq1, not_true_eq_false, not_false_eq_true, Classical.not_not, ↓reduceIte, h1]
    have e2 : f_X12_part J v1 I = some (-1, zu I 147 0 0) := by
      simp only [f_X12_part, l_noBargain J v1 _ g3' (by omega), Option.bind_some, zb_eq0, zb_eq1, not_true_eq_false, not_false_eq_true, Classical.not_not, ↓reduceIte, h1]
    exact ⟨_, _, _, e1, e2, zInv_thrown hv⟩
  obtain ⟨i, hi, rfl⟩ := zlt_nI h1 (by omega)
  obtain ⟨b1, b2, b3, b4, b5, b6, b7⟩ := g4 i (by omega)
  have z1 : zin (nI i) 8 = true := zin_nI (by omega) (by decide)
  have c1 : Int32.toNatClampNeg (nI i) = i := nI_clamp (by omega)
  have r1 := zr_34 i (by omega)
  have r2 := zr_ba4 i (by omega)
  have ra : zR (zR (99 + 6 * i) 4) 0 = 103 + 6 * i := by
    rw [r2]
    exact zr_th i (by omega) 0 (by decide)
  have rb : zR (zR (99 + 6 * i) 4) 1 = 104 + 6 * i := by
    rw [r2, zr_th i (by omega) 1 (by decide)]
    omega
  have k1 := l_pa J I ra rb 6 0 zF rfl (by unfold zF; omega)
  rw [← zs_0] at k1
  have k1' : f_X0_parted_4 J (99 + 6 * i) zF 0 0 I = some (.inr (zset (fun g => g < 6 ∧ sPa (I (103 + 6 * i)) (I (104 + 6 * i)) g), nI 6, I)) := k1
  have k2 := l_pa2 J (zu I 147 0 0) (show i < 8 by omega) (fun x hx => by
    show zrg (I 164 (12 * i + x)) 0 5
    by_cases e : x < 6
    · exact (b6 x e).2
    · have q := (b7 (x - 6) (by omega)).2
      rw [show 12 * i + 6 + (x - 6) = 12 * i + x by omega] at q
      exact q) 6 0 zF rfl (by unfold zF; omega)
  rw [← zs_0] at k2
  have k2' : f_X12_part_19 J (nI i) zF 0 0 (zu I 147 0 0) = some (.inr (zset (fun g => g < 6 ∧ sPa (fun x => I 164 (12 * i + x)) (fun x => I 164 (12 * i + 6 + x)) g), nI 6, zu I 147 0 0)) := k2
  have es : zset (fun g => g < 6 ∧ sPa (I (103 + 6 * i)) (I (104 + 6 * i)) g) = zset (fun g => g < 6 ∧ sPa (fun x => I 164 (12 * i + x)) (fun x => I 164 (12 * i + 6 + x)) g) := zset_cg (fun g hg => by
    unfold sPa
    rw [(b6 g hg).1, (b7 g hg).1])
  have e1 : f_X11_part J (nI i) I = some (zset (fun g => g < 6 ∧ sPa (I (103 + 6 * i)) (I (104 + 6 * i)) g), I) := by
    simp only [f_X11_part, l_isBargain J (nI i) I g2 (by omega), Option.bind_some, zb_eq0, zb_eq1, not_true_eq_false, not_false_eq_true, Classical.not_not, ↓reduceIte, h1, z1, c1, r1, f_X0_parted, k1', Sum.elim_inr]
  have e2 : f_X12_part J (nI i) I = some (zset (fun g => g < 6 ∧ sPa (I (103 + 6 * i)) (I (104 + 6 * i)) g), zu I 147 0 0) := by
    rw [es]
    simp only [f_X12_part, l_noBargain J (nI i) _ g3' (by omega), Option.bind_some, zb_eq0, zb_eq1, not_true_eq_false, not_false_eq_true, Classical.not_not, ↓reduceIte, h1, k2', Sum.elim_inr]
  exact ⟨_, _, _, e1, e2, zInv_thrown hv⟩
