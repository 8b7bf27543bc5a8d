/-! ===== bits ===== -/
def zbt (x : Int32) (j : Nat) : Prop := x.toBitVec.getLsbD j = true
theorem zbt_ext {x y : Int32} (h : ∀ i, i < 32 → (zbt x i ↔ zbt y i)) : x = y := Int32.toBitVec_inj.mp (BitVec.eq_of_getLsbD_eq fun i hi => Bool.eq_iff_iff.mpr (h i hi))
theorem sh31 : ∀ j, j < 32 → nI j &&& 31 = nI j := by decide +kernel
theorem smod32 : ∀ j, j < 32 → ((nI j).toBitVec.smod 32).toNat = j := by decide +kernel
theorem zbt_one : ∀ j, j < 32 → ∀ i, i < 32 → (((1 : Int32) <<< (nI j &&& 31)).toBitVec.getLsbD i = decide (i = j)) := by decide +kernel
theorem zbt_lit1 : ∀ i, i < 32 → ((1 : Int32).toBitVec.getLsbD i = decide (i = 0)) := by decide +kernel
theorem zbt_m1 : ∀ i, i < 32 → ((-1 : Int32).toBitVec.getLsbD i = true) := by decide +kernel
theorem zbt_lit0 (i : Nat) : ((0 : Int32).toBitVec.getLsbD i = false) := by
  show (0#32).getLsbD i = false
  simp
theorem zbt_or (x y : Int32) (i : Nat) : zbt (x ||| y) i ↔ zbt x i ∨ zbt y i := by
  unfold zbt
  rw [Int32.toBitVec_or, BitVec.getLsbD_or, Bool.or_eq_true]
theorem zbt_and (x y : Int32) (i : Nat) : zbt (x &&& y) i ↔ zbt x i ∧ zbt y i := by
  unfold zbt
  rw [Int32.toBitVec_and, BitVec.getLsbD_and, Bool.and_eq_true]
theorem zbt_not (x : Int32) {i : Nat} (hi : i < 32) : zbt (x ^^^ (-1)) i ↔ ¬ zbt x i := by
  unfold zbt
  rw [Int32.toBitVec_xor, BitVec.getLsbD_xor, zbt_m1 i hi]
  cases x.toBitVec.getLsbD i <;> simp
theorem zbt_sh {x : Int32} {j : Nat} (hj : j < 32) : (x >>> (nI j &&& 31)).toBitVec.getLsbD 0 = x.toBitVec.getLsbD j := by
  rw [sh31 j hj, Int32.toBitVec_shiftRight, BitVec.sshiftRight', smod32 j hj, BitVec.getLsbD_sshiftRight]
  simp [hj]
theorem zbit_eq (x : Int32) {j : Nat} (hj : j < 32) : (x >>> (nI j &&& 31)) &&& 1 = zb (zbt x j) := by
  apply zbt_ext
  intro i hi
  rw [zbt_and]
  unfold zbt
  rw [zbt_lit1 i hi]
  by_cases h : x.toBitVec.getLsbD j = true
  · rw [show zb (x.toBitVec.getLsbD j = true) = 1 from (zb_t h).symm, zbt_lit1 i hi]
    by_cases h0 : i = 0
    · subst h0
      rw [zbt_sh hj, h]
      simp
    · simp [h0]
  · rw [show zb (x.toBitVec.getLsbD j = true) = 0 from (zb_f h).symm, zbt_lit0 i]
    by_cases h0 : i = 0
    · subst h0
      rw [zbt_sh hj]
      simp [h]
    · simp [h0]
/-- a bit set or taken away -/
noncomputable def zwb (x : Int32) (j : Nat) (P : Prop) : Int32 := @ite Int32 P (Classical.propDecidable P) (x ||| ((1 : Int32) <<< (nI j &&& 31))) (x &&& (((1 : Int32) <<< (nI j &&& 31)) ^^^ (-1)))
theorem zwb_bit {x : Int32} {j i : Nat} {P : Prop} (hj : j < 32) (hi : i < 32) : zbt (zwb x j P) i ↔ if i = j then P else zbt x i := by
  unfold zwb
  by_cases h : P
  · rw [if_pos h, zbt_or]
    unfold zbt
    rw [zbt_one j hj i hi]
    by_cases e : i = j <;> simp [e, h]
  · rw [if_neg h, zbt_and, zbt_not _ hi]
    unfold zbt
    rw [zbt_one j hj i hi]
    by_cases e : i = j <;> simp [e, h]
def bN (a b c d e f : Bool) : Nat := a.toNat + 2 * b.toNat + 4 * c.toNat + 8 * d.toNat + 16 * e.toNat + 32 * f.toNat
theorem bN_bit : ∀ a b c d e f : Bool, ∀ i, i < 32 → (nI (bN a b c d e f)).toBitVec.getLsbD i = ([a, b, c, d, e, f].getD i false) := by decide +kernel
theorem bN_lt : ∀ a b c d e f : Bool, bN a b c d e f < 64 := by decide +kernel
noncomputable def pb (P : Prop) : Bool := @decide P (Classical.propDecidable P)
theorem pb_iff {P : Prop} : pb P = true ↔ P := by
  unfold pb
  exact @decide_eq_true_iff P (Classical.propDecidable P)
/-- the gaps of which something holds, as bits -/
noncomputable def zsN (P : Nat → Prop) : Nat := bN (pb (P 0)) (pb (P 1)) (pb (P 2)) (pb (P 3)) (pb (P 4)) (pb (P 5))
noncomputable def zset (P : Nat → Prop) : Int32 := nI (zsN P)
theorem zsN_lt (P : Nat → Prop) : zsN P < 64 := bN_lt _ _ _ _ _ _
theorem zset_bit {P : Nat → Prop} {i : Nat} (hi : i < 32) : zbt (zset P) i ↔ i < 6 ∧ P i := by
  unfold zbt zset zsN
  rw [bN_bit _ _ _ _ _ _ i hi]
  match i with
  | 0 => simp [pb_iff]
  | 1 => simp [pb_iff]
  | 2 => simp [pb_iff]
  | 3 => simp [pb_iff]
  | 4 => simp [pb_iff]
  | 5 => simp [pb_iff]
  | n + 6 =>
    simp
    intro h
    omega
theorem zset_cg {P Q : Nat → Prop} (h : ∀ i, i < 6 → (P i ↔ Q i)) : zset P = zset Q := by
  apply zbt_ext
  intro i hi
  rw [zset_bit hi, zset_bit hi]
  exact ⟨fun q => ⟨q.1, (h i q.1).mp q.2⟩, fun q => ⟨q.1, (h i q.1).mpr q.2⟩⟩
theorem zset_0 {P : Nat → Prop} (h : ∀ i, i < 6 → ¬ P i) : zset P = 0 := by
  apply zbt_ext
  intro i hi
  rw [zset_bit hi]
  unfold zbt
  rw [zbt_lit0]
  exact ⟨fun q => absurd q.2 (h i q.1), fun q => by cases q⟩
theorem zset_eq0 {P : Nat → Prop} : zset P = 0 ↔ ∀ i, i < 6 → ¬ P i := by
  refine ⟨fun h i hi hp => ?_, zset_0⟩
  have := (zset_bit (P := P) (show i < 32 by omega)).mpr ⟨hi, hp⟩
  rw [h] at this
  unfold zbt at this
  rw [zbt_lit0] at this
  cases this
theorem zset_or {P : Nat → Prop} {k : Nat} (hk : k < 6) : zset P ||| ((1 : Int32) <<< (nI k &&& 31)) = zset (fun i => P i ∨ i = k) := by
  apply zbt_ext
  intro i hi
  rw [zbt_or, zset_bit hi, zset_bit hi]
  unfold zbt
  rw [zbt_one k (by omega) i hi]
  simp only [decide_eq_true_eq]
  constructor
  · rintro (q | rfl)
    · exact ⟨q.1, Or.inl q.2⟩
    · exact ⟨hk, Or.inr rfl⟩
  · rintro ⟨q, r | r⟩
    · exact Or.inl ⟨q, r⟩
    · exact Or.inr r
theorem zset_orr {P Q : Nat → Prop} : zset P ||| zset Q = zset (fun i => P i ∨ Q i) := by
  apply zbt_ext
  intro i hi
  rw [zbt_or, zset_bit hi, zset_bit hi, zset_bit hi]
  constructor
  · rintro (q | q)
    · exact ⟨q.1, Or.inl q.2⟩
    · exact ⟨q.1, Or.inr q.2⟩
  · rintro ⟨q, r | r⟩
    · exact Or.inl ⟨q, r⟩
    · exact Or.inr ⟨q, r⟩
/-! ===== digits of a filling ===== -/
def dig (a g : Nat) : Nat := a / 6 ^ (5 - g) % 6
def undig (f : Nat → Nat) : Nat := ((((f 0 * 6 + f 1) * 6 + f 2) * 6 + f 3) * 6 + f 4) * 6 + f 5
theorem dig_lt (a g : Nat) : dig a g < 6 := Nat.mod_lt _ (by decide)
theorem undig_lt {f : Nat → Nat} (h : ∀ i, i < 6 → f i < 6) : undig f < 46656 := by
  have h0 := h 0 (by decide); have h1 := h 1 (by decide); have h2 := h 2 (by decide); have h3 := h 3 (by decide); have h4 := h 4 (by decide); have h5 := h 5 (by decide)
  unfold undig
  omega
theorem dig_undig {f : Nat → Nat} (h : ∀ i, i < 6 → f i < 6) {g : Nat} (hg : g < 6) : dig (undig f) g = f g := by
  have h0 := h 0 (by decide); have h1 := h 1 (by decide); have h2 := h 2 (by decide); have h3 := h 3 (by decide); have h4 := h 4 (by decide); have h5 := h 5 (by decide)
  unfold dig undig
  match g, hg with
  | 0, _ => show _ / 7776 % 6 = _; omega
  | 1, _ => show _ / 1296 % 6 = _; omega
  | 2, _ => show _ / 216 % 6 = _; omega
  | 3, _ => show _ / 36 % 6 = _; omega
  | 4, _ => show _ / 6 % 6 = _; omega
  | 5, _ => show _ / 1 % 6 = _; omega
  | n + 6, h => exact absurd h (by omega)
theorem undig_dig {a : Nat} (h : a < 46656) : undig (dig a) = a := by
  show ((((a / 7776 % 6 * 6 + a / 1296 % 6) * 6 + a / 216 % 6) * 6 + a / 36 % 6) * 6 + a / 6 % 6) * 6 + a / 1 % 6 = a
  omega
theorem dig_ext {a b : Nat} (ha : a < 46656) (hb : b < 46656) (h : ∀ g, g < 6 → dig a g = dig b g) : a = b := by
  rw [← undig_dig ha, ← undig_dig hb]
  unfold undig
  rw [h 0 (by decide), h 1 (by decide), h 2 (by decide), h 3 (by decide), h 4 (by decide), h 5 (by decide)]
