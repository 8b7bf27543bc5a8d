def zKW : List zk := [.inr 10, .inr 3, .inl (0, 6, false), .inl (0, 6, false), .inl (0, 6, false), .inl (0, 3, false), .inr 1, .inl (0, 24, false), .inl (0, 24, false), .inl (0, 24, false), .inl (0, 24, false), .inl (0, 24, false), .inl (1, 24, false), .inl (0, 6, false), .inl (4, 2, true), .inl (1, 2, false), .inr 9, .inl (2, 24, false), .inr 7, .inl (7, 13, true), .inr 6, .inr 6, .inr 6, .inr 6, .inr 6, .inr 6, .inr 6, .inr 6, .inr 6, .inr 6, .inr 6, .inr 6, .inr 6, .inl (6, 4, true), .inl (3, 8, true), .inr 4, .inl (0, 5, false), .inr 8, .inl (0, 6, false), .inr 5, .inl (0, 6, false), .inl (0, 6, false), .inl (0, 6, false), .inl (5, 6, true), .inl (0, 6, false), .inr 2, .inl (0, 16, false), .inl (0, 16, false), .inl (0, 16, false), .inl (0, 16, false), .inr 2, .inl (0, 16, false), .inl (0, 16, false), .inl (0, 16, false), .inl (0, 16, false), .inr 2, .inl (0, 16, false), .inl (0, 16, false), .inl (0, 16, false), .inl (0, 16, false), .inr 2, .inl (0, 16, false), .inl (0, 16, false), .inl (0, 16, false), .inl (0, 16, false), .inr 2, .inl (0, 16, false), .inl (0, 16, false), .inl (0, 16, false), .inl (0, 16, false), .inr 2, .inl (0, 16, false), .inl (0, 16, false), .inl (0, 16, false), .inl (0, 16, false), .inr 1, .inl (0, 24, false), .inl (0, 24, false), .inl (0, 24, false), .inl (0, 24, false), .inl (0, 24, false), .inl (1, 24, false), .inl (0, 6, false), .inr 1, .inl (0, 24, false), .inl (0, 24, false), .inl (0, 24, false), .inl (0, 24, false), .inl (0, 24, false), .inl (1, 24, false), .inl (0, 6, false), .inr 4, .inl (0, 5, false), .inr 4, .inl (0, 5, false), .inr 4, .inl (0, 5, false), .inr 4, .inl (0, 5, false), .inr 0, .inr 8, .inl (0, 6, false), .inl (8, 2, true), .inl (0, 6, false), .inl (0, 6, false), .inr 0, .inr 8, .inl (0, 6, false), .inl (8, 2, true), .inl (0, 6, false), .inl (0, 6, false), .inr 0, .inr 8, .inl (0, 6, false), .inl (8, 2, true), .inl (0, 6, false), .inl (0, 6, false), .inr 0, .inr 8, .inl (0, 6, false), .inl (8, 2, true), .inl (0, 6, false), .inl (0, 6, false), .inr 0, .inr 8, .inl (0, 6, false), .inl (8, 2, true), .inl (0, 6, false), .inl (0, 6, false), .inr 0, .inr 8, .inl (0, 6, false), .inl (8, 2, true), .inl (0, 6, false), .inl (0, 6, false), .inr 0, .inr 8, .inl (0, 6, false), .inl (8, 2, true), .inl (0, 6, false), .inl (0, 6, false), .inr 0, .inr 8, .inl (0, 6, false), .inl (8, 2, true), .inl (0, 6, false), .inl (0, 6, false), .inr 11, .inl (0, 6, false), .inl (1, 6, false), .inl (0, 6, false), .inl (0, 6, false), .inl (0, 144, false), .inl (1, 15, false), .inl (0, 24, false), .inl (0, 72, false), .inl (0, 6, false), .inl (0, 25, false), .inl (0, 5, false), .inl (0, 8, false), .inl (0, 8, false), .inl (0, 8, false), .inl (0, 48, false), .inl (0, 8, false), .inl (0, 96, false), .inl (0, 6, false), .inl (0, 432, false), .inl (0, 3, false), .inl (1, 45, false), .inl (1, 3, false), .inl (0, 6, false), .inl (0, 6, false), .inl (0, 6, false), .inl (0, 46656, false), .inl (0, 46656, false), .inl (0, 6, false), .inl (0, 6, false), .inl (1, 6, false)]
def zJT : List (List (Option Nat)) := [[some 1, some 5, some 6, some 14, some 15, some 16, some 18, some 33, some 34, none, some 35, some 37, some 39], [some 2, none, some 3, some 4], [], [], [], [], [some 7, some 8, some 9, some 10, some 11, some 12, none, none, some 13], [], [], [], [], [], [], [], [some 75, some 83], [], [some 17], [], [some 19], [some 20, some 21, some 22, some 23, some 24, some 25, some 26, some 27, some 28, some 29, some 30, some 31, some 32], [], [], [], [], [], [], [], [], [], [], [], [], [], [some 91, some 93, some 95, some 97], [some 99, some 105, some 111, some 117, some 123, some 129, some 135, some 141], [some 36], [], [some 38], [], [some 1, some 5, some 18, none, none, none, none, some 40, some 41, some 42, some 43, some 44], [], [], [], [some 45, some 50, some 55, some 60, some 65, some 70], [], [none, some 46, some 47, some 48, some 49], [], [], [], [], [none, some 51, some 52, some 53, some 54], [], [], [], [], [none, some 56, some 57, some 58, some 59], [], [], [], [], [none, some 61, some 62, some 63, some 64], [], [], [], [], [none, some 66, some 67, some 68, some 69], [], [], [], [], [none, some 71, some 72, some 73, some 74], [], [], [], [], [some 76, some 77, some 78, some 79, some 80, some 81, none, none, some 82], [], [], [], [], [], [], [], [some 84, some 85, some 86, some 87, some 88, some 89, none, none, some 90], [], [], [], [], [], [], [], [some 92], [], [some 94], [], [some 96], [], [some 98], [], [none, none, none, some 100, some 102], [some 101], [], [some 103, some 104], [], [], [none, none, none, some 106, some 108], [some 107], [], [some 109, some 110], [], [], [none, none, none, some 112, some 114], [some 113], [], [some 115, some 116], [], [], [none, none, none, some 118, some 120], [some 119], [], [some 121, some 122], [], [], [none, none, none, some 124, some 126], [some 125], [], [some 127, some 128], [], [], [none, none, none, some 130, some 132], [some 131], [], [some 133, some 134], [], [], [none, none, none, some 136, some 138], [some 137], [], [some 139, some 140], [], [], [none, none, none, some 142, some 144], [some 143], [], [some 145, some 146], [], [], [none, some 148, some 149, some 150, some 151, some 152, none, some 153, none, none, none, some 154, none, none, some 155, none, some 156, some 157, some 158, some 159, some 160, some 161, some 162, some 163, some 164, none, some 165, none, some 166, some 167, some 168, some 169, none, none, some 170, some 171, some 172, some 173, some 174, none, none, none, none, some 175, some 176, some 177], [], [], [], [], [], [], [], [], [], [], [], [], [], [], [], [], [], [], [], [], [], [], [], [], [], [], [], [], [], []]
def zJ0 (p k : Nat) : Option Nat := (zJT.getD p []).getD k none
/-- the rule that stands at place r of the rows -/
def zrp (J : zJ) (r : Nat) : Nat := (J 19 r).getD 0
/-- where each reference leads: as the constructors laid it; the rules' row in some order -/
def zJok (J : zJ) : Prop := (∀ p k, p ≠ 19 → J p k = zJ0 p k) ∧ ∀ r, r < 13 → J 19 r = some (zrp J r) ∧ 20 ≤ zrp J r ∧ zrp J r < 33
def zrg (v : Int32) (a b : Nat) : Prop := (a : Int) ≤ v.toInt ∧ v.toInt ≤ (b : Int)
theorem ztl (n : Nat) (h : n < 2147483648) : (OfNat.ofNat n : Int32).toInt = (n : Int) := nI_toInt h
theorem ztn (n : Nat) (h : n < 2147483648) : (nI n).toInt = (n : Int) := nI_toInt h
theorem zrg_nI {v : Int32} {a b : Nat} (h : zrg v a b) (hb : b < 2147483648) : ∃ j : Nat, a ≤ j ∧ j ≤ b ∧ v = nI j := by
  refine ⟨v.toInt.toNat, ?_, ?_, ?_⟩
  · have := h.1; omega
  · have := h.2; omega
  · apply Int32.toInt_inj.mp
    have h1 := h.1
    have h2 := h.2
    rw [ztn _ (by omega)]
    omega
theorem zrg_of {a b j : Nat} (h1 : a ≤ j) (h2 : j ≤ b) (hb : b < 2147483648) : zrg (nI j) a b := by
  unfold zrg
  rw [ztn _ (by omega)]
  omega
theorem zl_rg {v : Int32} {a b : Nat} (ha : a < 2147483648) (hb : b < 2147483648) : ((OfNat.ofNat a : Int64) ≤ Int32.toInt64 v ∧ Int32.toInt64 v ≤ (OfNat.ofNat b : Int64)) ↔ zrg v a b := by
  have e1 : (OfNat.ofNat a : Int64).toInt = (a : Int) := lN_toInt (by omega)
  have e2 : (OfNat.ofNat b : Int64).toInt = (b : Int) := lN_toInt (by omega)
  rw [Int64.le_iff_toInt_le, Int64.le_iff_toInt_le, Int32.toInt_toInt64, e1, e2]
  rfl
def zR (p k : Nat) : Nat := (zJ0 p k).getD 0
theorem zKW_lt {p : Nat} {k : zk} (h : zKW[p]? = some k) : p < 178 := (List.getElem?_eq_some_iff.mp h).1
def zkd (a b : zk) : Bool := match a, b with
  | .inl (t, n, r), .inl (t', n', r') => t == t' && (n == n' && r == r')
  | .inr x, .inr y => x == y
  | _, _ => false
theorem zkd_iff {a b : zk} : zkd a b = true ↔ a = b := by
  rcases a with ⟨t, n, r⟩ | x <;> rcases b with ⟨t', n', r'⟩ | y <;> simp [zkd]
def zko (a : Option zk) (b : zk) : Bool := match a with
  | none => false
  | some a => zkd a b
theorem zko_iff {a : Option zk} {b : zk} : zko a b = true ↔ a = some b := by
  cases a with
  | none => simp [zko]
  | some a => simp [zko, zkd_iff]
theorem zf_rows {J : zJ} {r : Nat} (hJ : zJok J) (hr : r < 13) : J 19 r = some (zrp J r) ∧ zKW[zrp J r]? = some (.inr 6) := by
  obtain ⟨h1, h2, h3⟩ := hJ.2 r hr
  refine ⟨h1, ?_⟩
  have key : ∀ q, q < 33 → 20 ≤ q → zko zKW[q]? (.inr 6) = true := by decide +kernel
  exact zko_iff.mp (key _ h3 h2)
theorem zJok_set {J : zJ} {j q : Nat} (hJ : zJok J) (h : zKW[q]? = some (.inr 6)) : zJok (zuJ J 19 j (some q)) := by
  have key : ∀ p, p < 178 → zko zKW[p]? (.inr 6) = true → 20 ≤ p ∧ p < 33 := by decide +kernel
  have hq := key q (zKW_lt h) (zko_iff.mpr h)
  refine ⟨fun p k hp => ?_, fun r hr => ?_⟩
  · unfold zuJ
    rw [if_neg hp]
    exact hJ.1 p k hp
  · by_cases e : r = j
    · have e1 : zuJ J 19 j (some q) 19 r = some q := by simp [zuJ, e]
      have e2 : zrp (zuJ J 19 j (some q)) r = q := by unfold zrp; rw [e1]; rfl
      rw [e2]
      exact ⟨e1, hq⟩
    · have e1 : zuJ J 19 j (some q) 19 r = J 19 r := by simp [zuJ, e]
      have e2 : zrp (zuJ J 19 j (some q)) r = zrp J r := by unfold zrp; rw [e1]
      rw [e2, e1]
      exact hJ.2 r hr
theorem zf_10_0 {p : Nat} {J : zJ} (hJ : zJok J) (h : zKW[p]? = some (.inr 10)) : J p 0 = some (zR p 0) ∧ zKW[zR p 0]? = some (.inr 3) := by
  have key : ∀ p, p < 178 → zko zKW[p]? (.inr 10) = true → zJ0 p 0 = some (zR p 0) ∧ zko zKW[zR p 0]? (.inr 3) = true ∧ p ≠ 19 := by decide +kernel
  obtain ⟨h1, h2, h3⟩ := key p (zKW_lt h) (zko_iff.mpr h)
  exact ⟨(hJ.1 p 0 h3).trans h1, zko_iff.mp h2⟩
theorem zf_10_1 {p : Nat} {J : zJ} (hJ : zJok J) (h : zKW[p]? = some (.inr 10)) : J p 1 = some (zR p 1) ∧ zKW[zR p 1]? = some (.inl (0, 3, false)) := by
  have key : ∀ p, p < 178 → zko zKW[p]? (.inr 10) = true → zJ0 p 1 = some (zR p 1) ∧ zko zKW[zR p 1]? (.inl (0, 3, false)) = true ∧ p ≠ 19 := by decide +kernel
  obtain ⟨h1, h2, h3⟩ := key p (zKW_lt h) (zko_iff.mpr h)
  exact ⟨(hJ.1 p 1 h3).trans h1, zko_iff.mp h2⟩
theorem zf_10_2 {p : Nat} {J : zJ} (hJ : zJok J) (h : zKW[p]? = some (.inr 10)) : J p 2 = some (zR p 2) ∧ zKW[zR p 2]? = some (.inr 1) := by
  have key : ∀ p, p < 178 → zko zKW[p]? (.inr 10) = true → zJ0 p 2 = some (zR p 2) ∧ zko zKW[zR p 2]? (.inr 1) = true ∧ p ≠ 19 := by decide +kernel
  obtain ⟨h1, h2, h3⟩ := key p (zKW_lt h) (zko_iff.mpr h)
  exact ⟨(hJ.1 p 2 h3).trans h1, zko_iff.mp h2⟩
theorem zf_10_3 {p : Nat} {J : zJ} (hJ : zJok J) (h : zKW[p]? = some (.inr 10)) : J p 3 = some (zR p 3) ∧ zKW[zR p 3]? = some (.inl (4, 2, true)) := by
  have key : ∀ p, p < 178 → zko zKW[p]? (.inr 10) = true → zJ0 p 3 = some (zR p 3) ∧ zko zKW[zR p 3]? (.inl (4, 2, true)) = true ∧ p ≠ 19 := by decide +kernel
  obtain ⟨h1, h2, h3⟩ := key p (zKW_lt h) (zko_iff.mpr h)
  exact ⟨(hJ.1 p 3 h3).trans h1, zko_iff.mp h2⟩
theorem zf_10_4 {p : Nat} {J : zJ} (hJ : zJok J) (h : zKW[p]? = some (.inr 10)) : J p 4 = some (zR p 4) ∧ zKW[zR p 4]? = some (.inl (1, 2, false)) := by
  have key : ∀ p, p < 178 → zko zKW[p]? (.inr 10) = true → zJ0 p 4 = some (zR p 4) ∧ zko zKW[zR p 4]? (.inl (1, 2, false)) = true ∧ p ≠ 19 := by decide +kernel
  obtain ⟨h1, h2, h3⟩ := key p (zKW_lt h) (zko_iff.mpr h)
  exact ⟨(hJ.1 p 4 h3).trans h1, zko_iff.mp h2⟩
theorem zf_10_5 {p : Nat} {J : zJ} (hJ : zJok J) (h : zKW[p]? = some (.inr 10)) : J p 5 = some (zR p 5) ∧ zKW[zR p 5]? = some (.inr 9) := by
  have key : ∀ p, p < 178 → zko zKW[p]? (.inr 10) = true → zJ0 p 5 = some (zR p 5) ∧ zko zKW[zR p 5]? (.inr 9) = true ∧ p ≠ 19 := by decide +kernel
  obtain ⟨h1, h2, h3⟩ := key p (zKW_lt h) (zko_iff.mpr h)
  exact ⟨(hJ.1 p 5 h3).trans h1, zko_iff.mp h2⟩
theorem zf_10_6 {p : Nat} {J : zJ} (hJ : zJok J) (h : zKW[p]? = some (.inr 10)) : J p 6 = some (zR p 6) ∧ zKW[zR p 6]? = some (.inr 7) := by
  have key : ∀ p, p < 178 → zko zKW[p]? (.inr 10) = true → zJ0 p 6 = some (zR p 6) ∧ zko zKW[zR p 6]? (.inr 7) = true ∧ p ≠ 19 := by decide +kernel
  obtain ⟨h1, h2, h3⟩ := key p (zKW_lt h) (zko_iff.mpr h)
  exact ⟨(hJ.1 p 6 h3).trans h1, zko_iff.mp h2⟩
theorem zf_10_7 {p : Nat} {J : zJ} (hJ : zJok J) (h : zKW[p]? = some (.inr 10)) : J p 7 = some (zR p 7) ∧ zKW[zR p 7]? = some (.inl (6, 4, true)) := by
  have key : ∀ p, p < 178 → zko zKW[p]? (.inr 10) = true → zJ0 p 7 = some (zR p 7) ∧ zko zKW[zR p 7]? (.inl (6, 4, true)) = true ∧ p ≠ 19 := by decide +kernel
  obtain ⟨h1, h2, h3⟩ := key p (zKW_lt h) (zko_iff.mpr h)
  exact ⟨(hJ.1 p 7 h3).trans h1, zko_iff.mp h2⟩
theorem zf_10_8 {p : Nat} {J : zJ} (hJ : zJok J) (h : zKW[p]? = some (.inr 10)) : J p 8 = some (zR p 8) ∧ zKW[zR p 8]? = some (.inl (3, 8, true)) := by
  have key : ∀ p, p < 178 → zko zKW[p]? (.inr 10) = true → zJ0 p 8 = some (zR p 8) ∧ zko zKW[zR p 8]? (.inl (3, 8, true)) = true ∧ p ≠ 19 := by decide +kernel
  obtain ⟨h1, h2, h3⟩ := key p (zKW_lt h) (zko_iff.mpr h)
  exact ⟨(hJ.1 p 8 h3).trans h1, zko_iff.mp h2⟩
theorem zf_10_10 {p : Nat} {J : zJ} (hJ : zJok J) (h : zKW[p]? = some (.inr 10)) : J p 10 = some (zR p 10) ∧ zKW[zR p 10]? = some (.inr 4) := by
  have key : ∀ p, p < 178 → zko zKW[p]? (.inr 10) = true → zJ0 p 10 = some (zR p 10) ∧ zko zKW[zR p 10]? (.inr 4) = true ∧ p ≠ 19 := by decide +kernel
  obtain ⟨h1, h2, h3⟩ := key p (zKW_lt h) (zko_iff.mpr h)
  exact ⟨(hJ.1 p 10 h3).trans h1, zko_iff.mp h2⟩
theorem zf_10_11 {p : Nat} {J : zJ} (hJ : zJok J) (h : zKW[p]? = some (.inr 10)) : J p 11 = some (zR p 11) ∧ zKW[zR p 11]? = some (.inr 8) := by
  have key : ∀ p, p < 178 → zko zKW[p]? (.inr 10) = true → zJ0 p 11 = some (zR p 11) ∧ zko zKW[zR p 11]? (.inr 8) = true ∧ p ≠ 19 := by decide +kernel
  obtain ⟨h1, h2, h3⟩ := key p (zKW_lt h) (zko_iff.mpr h)
  exact ⟨(hJ.1 p 11 h3).trans h1, zko_iff.mp h2⟩
theorem zf_10_12 {p : Nat} {J : zJ} (hJ : zJok J) (h : zKW[p]? = some (.inr 10)) : J p 12 = some (zR p 12) ∧ zKW[zR p 12]? = some (.inr 5) := by
  have key : ∀ p, p < 178 → zko zKW[p]? (.inr 10) = true → zJ0 p 12 = some (zR p 12) ∧ zko zKW[zR p 12]? (.inr 5) = true ∧ p ≠ 19 := by decide +kernel
  obtain ⟨h1, h2, h3⟩ := key p (zKW_lt h) (zko_iff.mpr h)
  exact ⟨(hJ.1 p 12 h3).trans h1, zko_iff.mp h2⟩
theorem zf_3_0 {p : Nat} {J : zJ} (hJ : zJok J) (h : zKW[p]? = some (.inr 3)) : J p 0 = some (zR p 0) ∧ zKW[zR p 0]? = some (.inl (0, 6, false)) := by
  have key : ∀ p, p < 178 → zko zKW[p]? (.inr 3) = true → zJ0 p 0 = some (zR p 0) ∧ zko zKW[zR p 0]? (.inl (0, 6, false)) = true ∧ p ≠ 19 := by decide +kernel
  obtain ⟨h1, h2, h3⟩ := key p (zKW_lt h) (zko_iff.mpr h)
  exact ⟨(hJ.1 p 0 h3).trans h1, zko_iff.mp h2⟩
theorem zf_3_2 {p : Nat} {J : zJ} (hJ : zJok J) (h : zKW[p]? = some (.inr 3)) : J p 2 = some (zR p 2) ∧ zKW[zR p 2]? = some (.inl (0, 6, false)) := by
  have key : ∀ p, p < 178 → zko zKW[p]? (.inr 3) = true → zJ0 p 2 = some (zR p 2) ∧ zko zKW[zR p 2]? (.inl (0, 6, false)) = true ∧ p ≠ 19 := by decide +kernel
  obtain ⟨h1, h2, h3⟩ := key p (zKW_lt h) (zko_iff.mpr h)
  exact ⟨(hJ.1 p 2 h3).trans h1, zko_iff.mp h2⟩
theorem zf_3_3 {p : Nat} {J : zJ} (hJ : zJok J) (h : zKW[p]? = some (.inr 3)) : J p 3 = some (zR p 3) ∧ zKW[zR p 3]? = some (.inl (0, 6, false)) := by
  have key : ∀ p, p < 178 → zko zKW[p]? (.inr 3) = true → zJ0 p 3 = some (zR p 3) ∧ zko zKW[zR p 3]? (.inl (0, 6, false)) = true ∧ p ≠ 19 := by decide +kernel
  obtain ⟨h1, h2, h3⟩ := key p (zKW_lt h) (zko_iff.mpr h)
  exact ⟨(hJ.1 p 3 h3).trans h1, zko_iff.mp h2⟩
theorem zf_1_0 {p : Nat} {J : zJ} (hJ : zJok J) (h : zKW[p]? = some (.inr 1)) : J p 0 = some (zR p 0) ∧ zKW[zR p 0]? = some (.inl (0, 24, false)) := by
  have key : ∀ p, p < 178 → zko zKW[p]? (.inr 1) = true → zJ0 p 0 = some (zR p 0) ∧ zko zKW[zR p 0]? (.inl (0, 24, false)) = true ∧ p ≠ 19 := by decide +kernel
  obtain ⟨h1, h2, h3⟩ := key p (zKW_lt h) (zko_iff.mpr h)
  exact ⟨(hJ.1 p 0 h3).trans h1, zko_iff.mp h2⟩
theorem zf_1_1 {p : Nat} {J : zJ} (hJ : zJok J) (h : zKW[p]? = some (.inr 1)) : J p 1 = some (zR p 1) ∧ zKW[zR p 1]? = some (.inl (0, 24, false)) := by
  have key : ∀ p, p < 178 → zko zKW[p]? (.inr 1) = true → zJ0 p 1 = some (zR p 1) ∧ zko zKW[zR p 1]? (.inl (0, 24, false)) = true ∧ p ≠ 19 := by decide +kernel
  obtain ⟨h1, h2, h3⟩ := key p (zKW_lt h) (zko_iff.mpr h)
  exact ⟨(hJ.1 p 1 h3).trans h1, zko_iff.mp h2⟩
theorem zf_1_2 {p : Nat} {J : zJ} (hJ : zJok J) (h : zKW[p]? = some (.inr 1)) : J p 2 = some (zR p 2) ∧ zKW[zR p 2]? = some (.inl (0, 24, false)) := by
  have key : ∀ p, p < 178 → zko zKW[p]? (.inr 1) = true → zJ0 p 2 = some (zR p 2) ∧ zko zKW[zR p 2]? (.inl (0, 24, false)) = true ∧ p ≠ 19 := by decide +kernel
  obtain ⟨h1, h2, h3⟩ := key p (zKW_lt h) (zko_iff.mpr h)
  exact ⟨(hJ.1 p 2 h3).trans h1, zko_iff.mp h2⟩
theorem zf_1_3 {p : Nat} {J : zJ} (hJ : zJok J) (h : zKW[p]? = some (.inr 1)) : J p 3 = some (zR p 3) ∧ zKW[zR p 3]? = some (.inl (0, 24, false)) := by
  have key : ∀ p, p < 178 → zko zKW[p]? (.inr 1) = true → zJ0 p 3 = some (zR p 3) ∧ zko zKW[zR p 3]? (.inl (0, 24, false)) = true ∧ p ≠ 19 := by decide +kernel
  obtain ⟨h1, h2, h3⟩ := key p (zKW_lt h) (zko_iff.mpr h)
  exact ⟨(hJ.1 p 3 h3).trans h1, zko_iff.mp h2⟩
theorem zf_1_4 {p : Nat} {J : zJ} (hJ : zJok J) (h : zKW[p]? = some (.inr 1)) : J p 4 = some (zR p 4) ∧ zKW[zR p 4]? = some (.inl (0, 24, false)) := by
  have key : ∀ p, p < 178 → zko zKW[p]? (.inr 1) = true → zJ0 p 4 = some (zR p 4) ∧ zko zKW[zR p 4]? (.inl (0, 24, false)) = true ∧ p ≠ 19 := by decide +kernel
  obtain ⟨h1, h2, h3⟩ := key p (zKW_lt h) (zko_iff.mpr h)
  exact ⟨(hJ.1 p 4 h3).trans h1, zko_iff.mp h2⟩
theorem zf_1_5 {p : Nat} {J : zJ} (hJ : zJok J) (h : zKW[p]? = some (.inr 1)) : J p 5 = some (zR p 5) ∧ zKW[zR p 5]? = some (.inl (1, 24, false)) := by
  have key : ∀ p, p < 178 → zko zKW[p]? (.inr 1) = true → zJ0 p 5 = some (zR p 5) ∧ zko zKW[zR p 5]? (.inl (1, 24, false)) = true ∧ p ≠ 19 := by decide +kernel
  obtain ⟨h1, h2, h3⟩ := key p (zKW_lt h) (zko_iff.mpr h)
  exact ⟨(hJ.1 p 5 h3).trans h1, zko_iff.mp h2⟩
theorem zf_1_8 {p : Nat} {J : zJ} (hJ : zJok J) (h : zKW[p]? = some (.inr 1)) : J p 8 = some (zR p 8) ∧ zKW[zR p 8]? = some (.inl (0, 6, false)) := by
  have key : ∀ p, p < 178 → zko zKW[p]? (.inr 1) = true → zJ0 p 8 = some (zR p 8) ∧ zko zKW[zR p 8]? (.inl (0, 6, false)) = true ∧ p ≠ 19 := by decide +kernel
  obtain ⟨h1, h2, h3⟩ := key p (zKW_lt h) (zko_iff.mpr h)
  exact ⟨(hJ.1 p 8 h3).trans h1, zko_iff.mp h2⟩
theorem ze_4 {p j : Nat} {J : zJ} (hJ : zJok J) (h : zKW[p]? = some (.inl (4, 2, true))) (hj : j < 2) : J p j = some (zR p j) ∧ zKW[zR p j]? = some (.inr 1) := by
  have key : ∀ p, p < 178 → zko zKW[p]? (.inl (4, 2, true)) = true → ∀ j, j < 2 → zJ0 p j = some (zR p j) ∧ zko zKW[zR p j]? (.inr 1) = true ∧ p ≠ 19 := by decide +kernel
  obtain ⟨h1, h2, h3⟩ := key p (zKW_lt h) (zko_iff.mpr h) j hj
  exact ⟨(hJ.1 p j h3).trans h1, zko_iff.mp h2⟩
theorem zf_9_0 {p : Nat} {J : zJ} (hJ : zJok J) (h : zKW[p]? = some (.inr 9)) : J p 0 = some (zR p 0) ∧ zKW[zR p 0]? = some (.inl (2, 24, false)) := by
  have key : ∀ p, p < 178 → zko zKW[p]? (.inr 9) = true → zJ0 p 0 = some (zR p 0) ∧ zko zKW[zR p 0]? (.inl (2, 24, false)) = true ∧ p ≠ 19 := by decide +kernel
  obtain ⟨h1, h2, h3⟩ := key p (zKW_lt h) (zko_iff.mpr h)
  exact ⟨(hJ.1 p 0 h3).trans h1, zko_iff.mp h2⟩
theorem zf_7_0 {p : Nat} {J : zJ} (hJ : zJok J) (h : zKW[p]? = some (.inr 7)) : J p 0 = some (zR p 0) ∧ zKW[zR p 0]? = some (.inl (7, 13, true)) := by
  have key : ∀ p, p < 178 → zko zKW[p]? (.inr 7) = true → zJ0 p 0 = some (zR p 0) ∧ zko zKW[zR p 0]? (.inl (7, 13, true)) = true ∧ p ≠ 19 := by decide +kernel
  obtain ⟨h1, h2, h3⟩ := key p (zKW_lt h) (zko_iff.mpr h)
  exact ⟨(hJ.1 p 0 h3).trans h1, zko_iff.mp h2⟩
theorem ze_6 {p j : Nat} {J : zJ} (hJ : zJok J) (h : zKW[p]? = some (.inl (6, 4, true))) (hj : j < 4) : J p j = some (zR p j) ∧ zKW[zR p j]? = some (.inr 4) := by
  have key : ∀ p, p < 178 → zko zKW[p]? (.inl (6, 4, true)) = true → ∀ j, j < 4 → zJ0 p j = some (zR p j) ∧ zko zKW[zR p j]? (.inr 4) = true ∧ p ≠ 19 := by decide +kernel
  obtain ⟨h1, h2, h3⟩ := key p (zKW_lt h) (zko_iff.mpr h) j hj
  exact ⟨(hJ.1 p j h3).trans h1, zko_iff.mp h2⟩
theorem ze_3 {p j : Nat} {J : zJ} (hJ : zJok J) (h : zKW[p]? = some (.inl (3, 8, true))) (hj : j < 8) : J p j = some (zR p j) ∧ zKW[zR p j]? = some (.inr 0) := by
  have key : ∀ p, p < 178 → zko zKW[p]? (.inl (3, 8, true)) = true → ∀ j, j < 8 → zJ0 p j = some (zR p j) ∧ zko zKW[zR p j]? (.inr 0) = true ∧ p ≠ 19 := by decide +kernel
  obtain ⟨h1, h2, h3⟩ := key p (zKW_lt h) (zko_iff.mpr h) j hj
  exact ⟨(hJ.1 p j h3).trans h1, zko_iff.mp h2⟩
theorem zf_4_0 {p : Nat} {J : zJ} (hJ : zJok J) (h : zKW[p]? = some (.inr 4)) : J p 0 = some (zR p 0) ∧ zKW[zR p 0]? = some (.inl (0, 5, false)) := by
  have key : ∀ p, p < 178 → zko zKW[p]? (.inr 4) = true → zJ0 p 0 = some (zR p 0) ∧ zko zKW[zR p 0]? (.inl (0, 5, false)) = true ∧ p ≠ 19 := by decide +kernel
  obtain ⟨h1, h2, h3⟩ := key p (zKW_lt h) (zko_iff.mpr h)
  exact ⟨(hJ.1 p 0 h3).trans h1, zko_iff.mp h2⟩
theorem zf_8_0 {p : Nat} {J : zJ} (hJ : zJok J) (h : zKW[p]? = some (.inr 8)) : J p 0 = some (zR p 0) ∧ zKW[zR p 0]? = some (.inl (0, 6, false)) := by
  have key : ∀ p, p < 178 → zko zKW[p]? (.inr 8) = true → zJ0 p 0 = some (zR p 0) ∧ zko zKW[zR p 0]? (.inl (0, 6, false)) = true ∧ p ≠ 19 := by decide +kernel
  obtain ⟨h1, h2, h3⟩ := key p (zKW_lt h) (zko_iff.mpr h)
  exact ⟨(hJ.1 p 0 h3).trans h1, zko_iff.mp h2⟩
theorem zf_5_0 {p : Nat} {J : zJ} (hJ : zJok J) (h : zKW[p]? = some (.inr 5)) : J p 0 = some (zR p 0) ∧ zKW[zR p 0]? = some (.inr 3) := by
  have key : ∀ p, p < 178 → zko zKW[p]? (.inr 5) = true → zJ0 p 0 = some (zR p 0) ∧ zko zKW[zR p 0]? (.inr 3) = true ∧ p ≠ 19 := by decide +kernel
  obtain ⟨h1, h2, h3⟩ := key p (zKW_lt h) (zko_iff.mpr h)
  exact ⟨(hJ.1 p 0 h3).trans h1, zko_iff.mp h2⟩
theorem zf_5_1 {p : Nat} {J : zJ} (hJ : zJok J) (h : zKW[p]? = some (.inr 5)) : J p 1 = some (zR p 1) ∧ zKW[zR p 1]? = some (.inl (0, 3, false)) := by
  have key : ∀ p, p < 178 → zko zKW[p]? (.inr 5) = true → zJ0 p 1 = some (zR p 1) ∧ zko zKW[zR p 1]? (.inl (0, 3, false)) = true ∧ p ≠ 19 := by decide +kernel
  obtain ⟨h1, h2, h3⟩ := key p (zKW_lt h) (zko_iff.mpr h)
  exact ⟨(hJ.1 p 1 h3).trans h1, zko_iff.mp h2⟩
theorem zf_5_2 {p : Nat} {J : zJ} (hJ : zJok J) (h : zKW[p]? = some (.inr 5)) : J p 2 = some (zR p 2) ∧ zKW[zR p 2]? = some (.inr 7) := by
  have key : ∀ p, p < 178 → zko zKW[p]? (.inr 5) = true → zJ0 p 2 = some (zR p 2) ∧ zko zKW[zR p 2]? (.inr 7) = true ∧ p ≠ 19 := by decide +kernel
  obtain ⟨h1, h2, h3⟩ := key p (zKW_lt h) (zko_iff.mpr h)
  exact ⟨(hJ.1 p 2 h3).trans h1, zko_iff.mp h2⟩
theorem zf_5_7 {p : Nat} {J : zJ} (hJ : zJok J) (h : zKW[p]? = some (.inr 5)) : J p 7 = some (zR p 7) ∧ zKW[zR p 7]? = some (.inl (0, 6, false)) := by
  have key : ∀ p, p < 178 → zko zKW[p]? (.inr 5) = true → zJ0 p 7 = some (zR p 7) ∧ zko zKW[zR p 7]? (.inl (0, 6, false)) = true ∧ p ≠ 19 := by decide +kernel
  obtain ⟨h1, h2, h3⟩ := key p (zKW_lt h) (zko_iff.mpr h)
  exact ⟨(hJ.1 p 7 h3).trans h1, zko_iff.mp h2⟩
theorem zf_5_8 {p : Nat} {J : zJ} (hJ : zJok J) (h : zKW[p]? = some (.inr 5)) : J p 8 = some (zR p 8) ∧ zKW[zR p 8]? = some (.inl (0, 6, false)) := by
  have key : ∀ p, p < 178 → zko zKW[p]? (.inr 5) = true → zJ0 p 8 = some (zR p 8) ∧ zko zKW[zR p 8]? (.inl (0, 6, false)) = true ∧ p ≠ 19 := by decide +kernel
  obtain ⟨h1, h2, h3⟩ := key p (zKW_lt h) (zko_iff.mpr h)
  exact ⟨(hJ.1 p 8 h3).trans h1, zko_iff.mp h2⟩
theorem zf_5_9 {p : Nat} {J : zJ} (hJ : zJok J) (h : zKW[p]? = some (.inr 5)) : J p 9 = some (zR p 9) ∧ zKW[zR p 9]? = some (.inl (0, 6, false)) := by
  have key : ∀ p, p < 178 → zko zKW[p]? (.inr 5) = true → zJ0 p 9 = some (zR p 9) ∧ zko zKW[zR p 9]? (.inl (0, 6, false)) = true ∧ p ≠ 19 := by decide +kernel
  obtain ⟨h1, h2, h3⟩ := key p (zKW_lt h) (zko_iff.mpr h)
  exact ⟨(hJ.1 p 9 h3).trans h1, zko_iff.mp h2⟩
theorem zf_5_10 {p : Nat} {J : zJ} (hJ : zJok J) (h : zKW[p]? = some (.inr 5)) : J p 10 = some (zR p 10) ∧ zKW[zR p 10]? = some (.inl (5, 6, true)) := by
  have key : ∀ p, p < 178 → zko zKW[p]? (.inr 5) = true → zJ0 p 10 = some (zR p 10) ∧ zko zKW[zR p 10]? (.inl (5, 6, true)) = true ∧ p ≠ 19 := by decide +kernel
  obtain ⟨h1, h2, h3⟩ := key p (zKW_lt h) (zko_iff.mpr h)
  exact ⟨(hJ.1 p 10 h3).trans h1, zko_iff.mp h2⟩
theorem zf_5_11 {p : Nat} {J : zJ} (hJ : zJok J) (h : zKW[p]? = some (.inr 5)) : J p 11 = some (zR p 11) ∧ zKW[zR p 11]? = some (.inl (0, 6, false)) := by
  have key : ∀ p, p < 178 → zko zKW[p]? (.inr 5) = true → zJ0 p 11 = some (zR p 11) ∧ zko zKW[zR p 11]? (.inl (0, 6, false)) = true ∧ p ≠ 19 := by decide +kernel
  obtain ⟨h1, h2, h3⟩ := key p (zKW_lt h) (zko_iff.mpr h)
  exact ⟨(hJ.1 p 11 h3).trans h1, zko_iff.mp h2⟩
theorem ze_5 {p j : Nat} {J : zJ} (hJ : zJok J) (h : zKW[p]? = some (.inl (5, 6, true))) (hj : j < 6) : J p j = some (zR p j) ∧ zKW[zR p j]? = some (.inr 2) := by
  have key : ∀ p, p < 178 → zko zKW[p]? (.inl (5, 6, true)) = true → ∀ j, j < 6 → zJ0 p j = some (zR p j) ∧ zko zKW[zR p j]? (.inr 2) = true ∧ p ≠ 19 := by decide +kernel
  obtain ⟨h1, h2, h3⟩ := key p (zKW_lt h) (zko_iff.mpr h) j hj
  exact ⟨(hJ.1 p j h3).trans h1, zko_iff.mp h2⟩
theorem zf_2_1 {p : Nat} {J : zJ} (hJ : zJok J) (h : zKW[p]? = some (.inr 2)) : J p 1 = some (zR p 1) ∧ zKW[zR p 1]? = some (.inl (0, 16, false)) := by
  have key : ∀ p, p < 178 → zko zKW[p]? (.inr 2) = true → zJ0 p 1 = some (zR p 1) ∧ zko zKW[zR p 1]? (.inl (0, 16, false)) = true ∧ p ≠ 19 := by decide +kernel
  obtain ⟨h1, h2, h3⟩ := key p (zKW_lt h) (zko_iff.mpr h)
  exact ⟨(hJ.1 p 1 h3).trans h1, zko_iff.mp h2⟩
theorem zf_2_2 {p : Nat} {J : zJ} (hJ : zJok J) (h : zKW[p]? = some (.inr 2)) : J p 2 = some (zR p 2) ∧ zKW[zR p 2]? = some (.inl (0, 16, false)) := by
  have key : ∀ p, p < 178 → zko zKW[p]? (.inr 2) = true → zJ0 p 2 = some (zR p 2) ∧ zko zKW[zR p 2]? (.inl (0, 16, false)) = true ∧ p ≠ 19 := by decide +kernel
  obtain ⟨h1, h2, h3⟩ := key p (zKW_lt h) (zko_iff.mpr h)
  exact ⟨(hJ.1 p 2 h3).trans h1, zko_iff.mp h2⟩
theorem zf_2_3 {p : Nat} {J : zJ} (hJ : zJok J) (h : zKW[p]? = some (.inr 2)) : J p 3 = some (zR p 3) ∧ zKW[zR p 3]? = some (.inl (0, 16, false)) := by
  have key : ∀ p, p < 178 → zko zKW[p]? (.inr 2) = true → zJ0 p 3 = some (zR p 3) ∧ zko zKW[zR p 3]? (.inl (0, 16, false)) = true ∧ p ≠ 19 := by decide +kernel
  obtain ⟨h1, h2, h3⟩ := key p (zKW_lt h) (zko_iff.mpr h)
  exact ⟨(hJ.1 p 3 h3).trans h1, zko_iff.mp h2⟩
theorem zf_2_4 {p : Nat} {J : zJ} (hJ : zJok J) (h : zKW[p]? = some (.inr 2)) : J p 4 = some (zR p 4) ∧ zKW[zR p 4]? = some (.inl (0, 16, false)) := by
  have key : ∀ p, p < 178 → zko zKW[p]? (.inr 2) = true → zJ0 p 4 = some (zR p 4) ∧ zko zKW[zR p 4]? (.inl (0, 16, false)) = true ∧ p ≠ 19 := by decide +kernel
  obtain ⟨h1, h2, h3⟩ := key p (zKW_lt h) (zko_iff.mpr h)
  exact ⟨(hJ.1 p 4 h3).trans h1, zko_iff.mp h2⟩
theorem zf_0_3 {p : Nat} {J : zJ} (hJ : zJok J) (h : zKW[p]? = some (.inr 0)) : J p 3 = some (zR p 3) ∧ zKW[zR p 3]? = some (.inr 8) := by
  have key : ∀ p, p < 178 → zko zKW[p]? (.inr 0) = true → zJ0 p 3 = some (zR p 3) ∧ zko zKW[zR p 3]? (.inr 8) = true ∧ p ≠ 19 := by decide +kernel
  obtain ⟨h1, h2, h3⟩ := key p (zKW_lt h) (zko_iff.mpr h)
  exact ⟨(hJ.1 p 3 h3).trans h1, zko_iff.mp h2⟩
theorem zf_0_4 {p : Nat} {J : zJ} (hJ : zJok J) (h : zKW[p]? = some (.inr 0)) : J p 4 = some (zR p 4) ∧ zKW[zR p 4]? = some (.inl (8, 2, true)) := by
  have key : ∀ p, p < 178 → zko zKW[p]? (.inr 0) = true → zJ0 p 4 = some (zR p 4) ∧ zko zKW[zR p 4]? (.inl (8, 2, true)) = true ∧ p ≠ 19 := by decide +kernel
  obtain ⟨h1, h2, h3⟩ := key p (zKW_lt h) (zko_iff.mpr h)
  exact ⟨(hJ.1 p 4 h3).trans h1, zko_iff.mp h2⟩
theorem ze_8 {p j : Nat} {J : zJ} (hJ : zJok J) (h : zKW[p]? = some (.inl (8, 2, true))) (hj : j < 2) : J p j = some (zR p j) ∧ zKW[zR p j]? = some (.inl (0, 6, false)) := by
  have key : ∀ p, p < 178 → zko zKW[p]? (.inl (8, 2, true)) = true → ∀ j, j < 2 → zJ0 p j = some (zR p j) ∧ zko zKW[zR p j]? (.inl (0, 6, false)) = true ∧ p ≠ 19 := by decide +kernel
  obtain ⟨h1, h2, h3⟩ := key p (zKW_lt h) (zko_iff.mpr h) j hj
  exact ⟨(hJ.1 p j h3).trans h1, zko_iff.mp h2⟩
theorem zf_11_1 {p : Nat} {J : zJ} (hJ : zJok J) (h : zKW[p]? = some (.inr 11)) : J p 1 = some (zR p 1) ∧ zKW[zR p 1]? = some (.inl (0, 6, false)) := by
  have key : ∀ p, p < 178 → zko zKW[p]? (.inr 11) = true → zJ0 p 1 = some (zR p 1) ∧ zko zKW[zR p 1]? (.inl (0, 6, false)) = true ∧ p ≠ 19 := by decide +kernel
  obtain ⟨h1, h2, h3⟩ := key p (zKW_lt h) (zko_iff.mpr h)
  exact ⟨(hJ.1 p 1 h3).trans h1, zko_iff.mp h2⟩
theorem zf_11_2 {p : Nat} {J : zJ} (hJ : zJok J) (h : zKW[p]? = some (.inr 11)) : J p 2 = some (zR p 2) ∧ zKW[zR p 2]? = some (.inl (1, 6, false)) := by
  have key : ∀ p, p < 178 → zko zKW[p]? (.inr 11) = true → zJ0 p 2 = some (zR p 2) ∧ zko zKW[zR p 2]? (.inl (1, 6, false)) = true ∧ p ≠ 19 := by decide +kernel
  obtain ⟨h1, h2, h3⟩ := key p (zKW_lt h) (zko_iff.mpr h)
  exact ⟨(hJ.1 p 2 h3).trans h1, zko_iff.mp h2⟩
theorem zf_11_3 {p : Nat} {J : zJ} (hJ : zJok J) (h : zKW[p]? = some (.inr 11)) : J p 3 = some (zR p 3) ∧ zKW[zR p 3]? = some (.inl (0, 6, false)) := by
  have key : ∀ p, p < 178 → zko zKW[p]? (.inr 11) = true → zJ0 p 3 = some (zR p 3) ∧ zko zKW[zR p 3]? (.inl (0, 6, false)) = true ∧ p ≠ 19 := by decide +kernel
  obtain ⟨h1, h2, h3⟩ := key p (zKW_lt h) (zko_iff.mpr h)
  exact ⟨(hJ.1 p 3 h3).trans h1, zko_iff.mp h2⟩
theorem zf_11_4 {p : Nat} {J : zJ} (hJ : zJok J) (h : zKW[p]? = some (.inr 11)) : J p 4 = some (zR p 4) ∧ zKW[zR p 4]? = some (.inl (0, 6, false)) := by
  have key : ∀ p, p < 178 → zko zKW[p]? (.inr 11) = true → zJ0 p 4 = some (zR p 4) ∧ zko zKW[zR p 4]? (.inl (0, 6, false)) = true ∧ p ≠ 19 := by decide +kernel
  obtain ⟨h1, h2, h3⟩ := key p (zKW_lt h) (zko_iff.mpr h)
  exact ⟨(hJ.1 p 4 h3).trans h1, zko_iff.mp h2⟩
theorem zf_11_5 {p : Nat} {J : zJ} (hJ : zJok J) (h : zKW[p]? = some (.inr 11)) : J p 5 = some (zR p 5) ∧ zKW[zR p 5]? = some (.inl (0, 144, false)) := by
  have key : ∀ p, p < 178 → zko zKW[p]? (.inr 11) = true → zJ0 p 5 = some (zR p 5) ∧ zko zKW[zR p 5]? (.inl (0, 144, false)) = true ∧ p ≠ 19 := by decide +kernel
  obtain ⟨h1, h2, h3⟩ := key p (zKW_lt h) (zko_iff.mpr h)
  exact ⟨(hJ.1 p 5 h3).trans h1, zko_iff.mp h2⟩
theorem zf_11_7 {p : Nat} {J : zJ} (hJ : zJok J) (h : zKW[p]? = some (.inr 11)) : J p 7 = some (zR p 7) ∧ zKW[zR p 7]? = some (.inl (1, 15, false)) := by
  have key : ∀ p, p < 178 → zko zKW[p]? (.inr 11) = true → zJ0 p 7 = some (zR p 7) ∧ zko zKW[zR p 7]? (.inl (1, 15, false)) = true ∧ p ≠ 19 := by decide +kernel
  obtain ⟨h1, h2, h3⟩ := key p (zKW_lt h) (zko_iff.mpr h)
  exact ⟨(hJ.1 p 7 h3).trans h1, zko_iff.mp h2⟩
theorem zf_11_11 {p : Nat} {J : zJ} (hJ : zJok J) (h : zKW[p]? = some (.inr 11)) : J p 11 = some (zR p 11) ∧ zKW[zR p 11]? = some (.inl (0, 24, false)) := by
  have key : ∀ p, p < 178 → zko zKW[p]? (.inr 11) = true → zJ0 p 11 = some (zR p 11) ∧ zko zKW[zR p 11]? (.inl (0, 24, false)) = true ∧ p ≠ 19 := by decide +kernel
  obtain ⟨h1, h2, h3⟩ := key p (zKW_lt h) (zko_iff.mpr h)
  exact ⟨(hJ.1 p 11 h3).trans h1, zko_iff.mp h2⟩
theorem zf_11_14 {p : Nat} {J : zJ} (hJ : zJok J) (h : zKW[p]? = some (.inr 11)) : J p 14 = some (zR p 14) ∧ zKW[zR p 14]? = some (.inl (0, 72, false)) := by
  have key : ∀ p, p < 178 → zko zKW[p]? (.inr 11) = true → zJ0 p 14 = some (zR p 14) ∧ zko zKW[zR p 14]? (.inl (0, 72, false)) = true ∧ p ≠ 19 := by decide +kernel
  obtain ⟨h1, h2, h3⟩ := key p (zKW_lt h) (zko_iff.mpr h)
  exact ⟨(hJ.1 p 14 h3).trans h1, zko_iff.mp h2⟩
theorem zf_11_16 {p : Nat} {J : zJ} (hJ : zJok J) (h : zKW[p]? = some (.inr 11)) : J p 16 = some (zR p 16) ∧ zKW[zR p 16]? = some (.inl (0, 6, false)) := by
  have key : ∀ p, p < 178 → zko zKW[p]? (.inr 11) = true → zJ0 p 16 = some (zR p 16) ∧ zko zKW[zR p 16]? (.inl (0, 6, false)) = true ∧ p ≠ 19 := by decide +kernel
  obtain ⟨h1, h2, h3⟩ := key p (zKW_lt h) (zko_iff.mpr h)
  exact ⟨(hJ.1 p 16 h3).trans h1, zko_iff.mp h2⟩
theorem zf_11_17 {p : Nat} {J : zJ} (hJ : zJok J) (h : zKW[p]? = some (.inr 11)) : J p 17 = some (zR p 17) ∧ zKW[zR p 17]? = some (.inl (0, 25, false)) := by
  have key : ∀ p, p < 178 → zko zKW[p]? (.inr 11) = true → zJ0 p 17 = some (zR p 17) ∧ zko zKW[zR p 17]? (.inl (0, 25, false)) = true ∧ p ≠ 19 := by decide +kernel
  obtain ⟨h1, h2, h3⟩ := key p (zKW_lt h) (zko_iff.mpr h)
  exact ⟨(hJ.1 p 17 h3).trans h1, zko_iff.mp h2⟩
theorem zf_11_18 {p : Nat} {J : zJ} (hJ : zJok J) (h : zKW[p]? = some (.inr 11)) : J p 18 = some (zR p 18) ∧ zKW[zR p 18]? = some (.inl (0, 5, false)) := by
  have key : ∀ p, p < 178 → zko zKW[p]? (.inr 11) = true → zJ0 p 18 = some (zR p 18) ∧ zko zKW[zR p 18]? (.inl (0, 5, false)) = true ∧ p ≠ 19 := by decide +kernel
  obtain ⟨h1, h2, h3⟩ := key p (zKW_lt h) (zko_iff.mpr h)
  exact ⟨(hJ.1 p 18 h3).trans h1, zko_iff.mp h2⟩
theorem zf_11_19 {p : Nat} {J : zJ} (hJ : zJok J) (h : zKW[p]? = some (.inr 11)) : J p 19 = some (zR p 19) ∧ zKW[zR p 19]? = some (.inl (0, 8, false)) := by
  have key : ∀ p, p < 178 → zko zKW[p]? (.inr 11) = true → zJ0 p 19 = some (zR p 19) ∧ zko zKW[zR p 19]? (.inl (0, 8, false)) = true ∧ p ≠ 19 := by decide +kernel
  obtain ⟨h1, h2, h3⟩ := key p (zKW_lt h) (zko_iff.mpr h)
  exact ⟨(hJ.1 p 19 h3).trans h1, zko_iff.mp h2⟩
theorem zf_11_20 {p : Nat} {J : zJ} (hJ : zJok J) (h : zKW[p]? = some (.inr 11)) : J p 20 = some (zR p 20) ∧ zKW[zR p 20]? = some (.inl (0, 8, false)) := by
  have key : ∀ p, p < 178 → zko zKW[p]? (.inr 11) = true → zJ0 p 20 = some (zR p 20) ∧ zko zKW[zR p 20]? (.inl (0, 8, false)) = true ∧ p ≠ 19 := by decide +kernel
  obtain ⟨h1, h2, h3⟩ := key p (zKW_lt h) (zko_iff.mpr h)
  exact ⟨(hJ.1 p 20 h3).trans h1, zko_iff.mp h2⟩
theorem zf_11_21 {p : Nat} {J : zJ} (hJ : zJok J) (h : zKW[p]? = some (.inr 11)) : J p 21 = some (zR p 21) ∧ zKW[zR p 21]? = some (.inl (0, 8, false)) := by
  have key : ∀ p, p < 178 → zko zKW[p]? (.inr 11) = true → zJ0 p 21 = some (zR p 21) ∧ zko zKW[zR p 21]? (.inl (0, 8, false)) = true ∧ p ≠ 19 := by decide +kernel
  obtain ⟨h1, h2, h3⟩ := key p (zKW_lt h) (zko_iff.mpr h)
  exact ⟨(hJ.1 p 21 h3).trans h1, zko_iff.mp h2⟩
theorem zf_11_22 {p : Nat} {J : zJ} (hJ : zJok J) (h : zKW[p]? = some (.inr 11)) : J p 22 = some (zR p 22) ∧ zKW[zR p 22]? = some (.inl (0, 48, false)) := by
  have key : ∀ p, p < 178 → zko zKW[p]? (.inr 11) = true → zJ0 p 22 = some (zR p 22) ∧ zko zKW[zR p 22]? (.inl (0, 48, false)) = true ∧ p ≠ 19 := by decide +kernel
  obtain ⟨h1, h2, h3⟩ := key p (zKW_lt h) (zko_iff.mpr h)
  exact ⟨(hJ.1 p 22 h3).trans h1, zko_iff.mp h2⟩
theorem zf_11_23 {p : Nat} {J : zJ} (hJ : zJok J) (h : zKW[p]? = some (.inr 11)) : J p 23 = some (zR p 23) ∧ zKW[zR p 23]? = some (.inl (0, 8, false)) := by
  have key : ∀ p, p < 178 → zko zKW[p]? (.inr 11) = true → zJ0 p 23 = some (zR p 23) ∧ zko zKW[zR p 23]? (.inl (0, 8, false)) = true ∧ p ≠ 19 := by decide +kernel
  obtain ⟨h1, h2, h3⟩ := key p (zKW_lt h) (zko_iff.mpr h)
  exact ⟨(hJ.1 p 23 h3).trans h1, zko_iff.mp h2⟩
theorem zf_11_24 {p : Nat} {J : zJ} (hJ : zJok J) (h : zKW[p]? = some (.inr 11)) : J p 24 = some (zR p 24) ∧ zKW[zR p 24]? = some (.inl (0, 96, false)) := by
  have key : ∀ p, p < 178 → zko zKW[p]? (.inr 11) = true → zJ0 p 24 = some (zR p 24) ∧ zko zKW[zR p 24]? (.inl (0, 96, false)) = true ∧ p ≠ 19 := by decide +kernel
  obtain ⟨h1, h2, h3⟩ := key p (zKW_lt h) (zko_iff.mpr h)
  exact ⟨(hJ.1 p 24 h3).trans h1, zko_iff.mp h2⟩
theorem zf_11_26 {p : Nat} {J : zJ} (hJ : zJok J) (h : zKW[p]? = some (.inr 11)) : J p 26 = some (zR p 26) ∧ zKW[zR p 26]? = some (.inl (0, 6, false)) := by
  have key : ∀ p, p < 178 → zko zKW[p]? (.inr 11) = true → zJ0 p 26 = some (zR p 26) ∧ zko zKW[zR p 26]? (.inl (0, 6, false)) = true ∧ p ≠ 19 := by decide +kernel
  obtain ⟨h1, h2, h3⟩ := key p (zKW_lt h) (zko_iff.mpr h)
  exact ⟨(hJ.1 p 26 h3).trans h1, zko_iff.mp h2⟩
theorem zf_11_28 {p : Nat} {J : zJ} (hJ : zJok J) (h : zKW[p]? = some (.inr 11)) : J p 28 = some (zR p 28) ∧ zKW[zR p 28]? = some (.inl (0, 432, false)) := by
  have key : ∀ p, p < 178 → zko zKW[p]? (.inr 11) = true → zJ0 p 28 = some (zR p 28) ∧ zko zKW[zR p 28]? (.inl (0, 432, false)) = true ∧ p ≠ 19 := by decide +kernel
  obtain ⟨h1, h2, h3⟩ := key p (zKW_lt h) (zko_iff.mpr h)
  exact ⟨(hJ.1 p 28 h3).trans h1, zko_iff.mp h2⟩
theorem zf_11_29 {p : Nat} {J : zJ} (hJ : zJok J) (h : zKW[p]? = some (.inr 11)) : J p 29 = some (zR p 29) ∧ zKW[zR p 29]? = some (.inl (0, 3, false)) := by
  have key : ∀ p, p < 178 → zko zKW[p]? (.inr 11) = true → zJ0 p 29 = some (zR p 29) ∧ zko zKW[zR p 29]? (.inl (0, 3, false)) = true ∧ p ≠ 19 := by decide +kernel
  obtain ⟨h1, h2, h3⟩ := key p (zKW_lt h) (zko_iff.mpr h)
  exact ⟨(hJ.1 p 29 h3).trans h1, zko_iff.mp h2⟩
theorem zf_11_30 {p : Nat} {J : zJ} (hJ : zJok J) (h : zKW[p]? = some (.inr 11)) : J p 30 = some (zR p 30) ∧ zKW[zR p 30]? = some (.inl (1, 45, false)) := by
  have key : ∀ p, p < 178 → zko zKW[p]? (.inr 11) = true → zJ0 p 30 = some (zR p 30) ∧ zko zKW[zR p 30]? (.inl (1, 45, false)) = true ∧ p ≠ 19 := by decide +kernel
  obtain ⟨h1, h2, h3⟩ := key p (zKW_lt h) (zko_iff.mpr h)
  exact ⟨(hJ.1 p 30 h3).trans h1, zko_iff.mp h2⟩
theorem zf_11_31 {p : Nat} {J : zJ} (hJ : zJok J) (h : zKW[p]? = some (.inr 11)) : J p 31 = some (zR p 31) ∧ zKW[zR p 31]? = some (.inl (1, 3, false)) := by
  have key : ∀ p, p < 178 → zko zKW[p]? (.inr 11) = true → zJ0 p 31 = some (zR p 31) ∧ zko zKW[zR p 31]? (.inl (1, 3, false)) = true ∧ p ≠ 19 := by decide +kernel
  obtain ⟨h1, h2, h3⟩ := key p (zKW_lt h) (zko_iff.mpr h)
  exact ⟨(hJ.1 p 31 h3).trans h1, zko_iff.mp h2⟩
theorem zf_11_34 {p : Nat} {J : zJ} (hJ : zJok J) (h : zKW[p]? = some (.inr 11)) : J p 34 = some (zR p 34) ∧ zKW[zR p 34]? = some (.inl (0, 6, false)) := by
  have key : ∀ p, p < 178 → zko zKW[p]? (.inr 11) = true → zJ0 p 34 = some (zR p 34) ∧ zko zKW[zR p 34]? (.inl (0, 6, false)) = true ∧ p ≠ 19 := by decide +kernel
  obtain ⟨h1, h2, h3⟩ := key p (zKW_lt h) (zko_iff.mpr h)
  exact ⟨(hJ.1 p 34 h3).trans h1, zko_iff.mp h2⟩
theorem zf_11_35 {p : Nat} {J : zJ} (hJ : zJok J) (h : zKW[p]? = some (.inr 11)) : J p 35 = some (zR p 35) ∧ zKW[zR p 35]? = some (.inl (0, 6, false)) := by
  have key : ∀ p, p < 178 → zko zKW[p]? (.inr 11) = true → zJ0 p 35 = some (zR p 35) ∧ zko zKW[zR p 35]? (.inl (0, 6, false)) = true ∧ p ≠ 19 := by decide +kernel
  obtain ⟨h1, h2, h3⟩ := key p (zKW_lt h) (zko_iff.mpr h)
  exact ⟨(hJ.1 p 35 h3).trans h1, zko_iff.mp h2⟩
theorem zf_11_36 {p : Nat} {J : zJ} (hJ : zJok J) (h : zKW[p]? = some (.inr 11)) : J p 36 = some (zR p 36) ∧ zKW[zR p 36]? = some (.inl (0, 6, false)) := by
  have key : ∀ p, p < 178 → zko zKW[p]? (.inr 11) = true → zJ0 p 36 = some (zR p 36) ∧ zko zKW[zR p 36]? (.inl (0, 6, false)) = true ∧ p ≠ 19 := by decide +kernel
  obtain ⟨h1, h2, h3⟩ := key p (zKW_lt h) (zko_iff.mpr h)
  exact ⟨(hJ.1 p 36 h3).trans h1, zko_iff.mp h2⟩
theorem zf_11_37 {p : Nat} {J : zJ} (hJ : zJok J) (h : zKW[p]? = some (.inr 11)) : J p 37 = some (zR p 37) ∧ zKW[zR p 37]? = some (.inl (0, 46656, false)) := by
  have key : ∀ p, p < 178 → zko zKW[p]? (.inr 11) = true → zJ0 p 37 = some (zR p 37) ∧ zko zKW[zR p 37]? (.inl (0, 46656, false)) = true ∧ p ≠ 19 := by decide +kernel
  obtain ⟨h1, h2, h3⟩ := key p (zKW_lt h) (zko_iff.mpr h)
  exact ⟨(hJ.1 p 37 h3).trans h1, zko_iff.mp h2⟩
theorem zf_11_38 {p : Nat} {J : zJ} (hJ : zJok J) (h : zKW[p]? = some (.inr 11)) : J p 38 = some (zR p 38) ∧ zKW[zR p 38]? = some (.inl (0, 46656, false)) := by
  have key : ∀ p, p < 178 → zko zKW[p]? (.inr 11) = true → zJ0 p 38 = some (zR p 38) ∧ zko zKW[zR p 38]? (.inl (0, 46656, false)) = true ∧ p ≠ 19 := by decide +kernel
  obtain ⟨h1, h2, h3⟩ := key p (zKW_lt h) (zko_iff.mpr h)
  exact ⟨(hJ.1 p 38 h3).trans h1, zko_iff.mp h2⟩
theorem zf_11_43 {p : Nat} {J : zJ} (hJ : zJok J) (h : zKW[p]? = some (.inr 11)) : J p 43 = some (zR p 43) ∧ zKW[zR p 43]? = some (.inl (0, 6, false)) := by
  have key : ∀ p, p < 178 → zko zKW[p]? (.inr 11) = true → zJ0 p 43 = some (zR p 43) ∧ zko zKW[zR p 43]? (.inl (0, 6, false)) = true ∧ p ≠ 19 := by decide +kernel
  obtain ⟨h1, h2, h3⟩ := key p (zKW_lt h) (zko_iff.mpr h)
  exact ⟨(hJ.1 p 43 h3).trans h1, zko_iff.mp h2⟩
theorem zf_11_44 {p : Nat} {J : zJ} (hJ : zJok J) (h : zKW[p]? = some (.inr 11)) : J p 44 = some (zR p 44) ∧ zKW[zR p 44]? = some (.inl (0, 6, false)) := by
  have key : ∀ p, p < 178 → zko zKW[p]? (.inr 11) = true → zJ0 p 44 = some (zR p 44) ∧ zko zKW[zR p 44]? (.inl (0, 6, false)) = true ∧ p ≠ 19 := by decide +kernel
  obtain ⟨h1, h2, h3⟩ := key p (zKW_lt h) (zko_iff.mpr h)
  exact ⟨(hJ.1 p 44 h3).trans h1, zko_iff.mp h2⟩
theorem zf_11_45 {p : Nat} {J : zJ} (hJ : zJok J) (h : zKW[p]? = some (.inr 11)) : J p 45 = some (zR p 45) ∧ zKW[zR p 45]? = some (.inl (1, 6, false)) := by
  have key : ∀ p, p < 178 → zko zKW[p]? (.inr 11) = true → zJ0 p 45 = some (zR p 45) ∧ zko zKW[zR p 45]? (.inl (1, 6, false)) = true ∧ p ≠ 19 := by decide +kernel
  obtain ⟨h1, h2, h3⟩ := key p (zKW_lt h) (zko_iff.mpr h)
  exact ⟨(hJ.1 p 45 h3).trans h1, zko_iff.mp h2⟩
theorem k_X7_spare_aux {J : zJ} (hJ : zJok J) {i : Int32} (h : zin i 13 = true) : zKW[zrp J (Int32.toNatClampNeg i)]? = some (.inr 6) := (zf_rows hJ (zin_lt h)).2

theorem zt_3 {x : Int32} (c0 : ¬ x = 0) (c1 : ¬ x = 1) (c2 : ¬ x = 2) : x.toInt < 0 ∨ 2 < x.toInt := by
  have e0 : ((0 : Int32)).toInt = 0 := by decide
  have e1 : ((1 : Int32)).toInt = 1 := by decide
  have e2 : ((2 : Int32)).toInt = 2 := by decide
  simp only [← Int32.toInt_inj] at c0 c1 c2
  omega
theorem zt_4 {x : Int32} (c0 : ¬ x = 0) (c1 : ¬ x = 1) (c2 : ¬ x = 2) (c3 : ¬ x = 3) : x.toInt < 0 ∨ 3 < x.toInt := by
  have e0 : ((0 : Int32)).toInt = 0 := by decide
  have e1 : ((1 : Int32)).toInt = 1 := by decide
  have e2 : ((2 : Int32)).toInt = 2 := by decide
  have e3 : ((3 : Int32)).toInt = 3 := by decide
  simp only [← Int32.toInt_inj] at c0 c1 c2 c3
  omega
theorem zt_5 {x : Int32} (c0 : ¬ x = 0) (c1 : ¬ x = 1) (c2 : ¬ x = 2) (c3 : ¬ x = 3) (c4 : ¬ x = 4) : x.toInt < 0 ∨ 4 < x.toInt := by
  have e0 : ((0 : Int32)).toInt = 0 := by decide
  have e1 : ((1 : Int32)).toInt = 1 := by decide
  have e2 : ((2 : Int32)).toInt = 2 := by decide
  have e3 : ((3 : Int32)).toInt = 3 := by decide
  have e4 : ((4 : Int32)).toInt = 4 := by decide
  simp only [← Int32.toInt_inj] at c0 c1 c2 c3 c4
  omega
theorem zt_6 {x : Int32} (c0 : ¬ x = 0) (c1 : ¬ x = 1) (c2 : ¬ x = 2) (c3 : ¬ x = 3) (c4 : ¬ x = 4) (c5 : ¬ x = 5) : x.toInt < 0 ∨ 5 < x.toInt := by
  have e0 : ((0 : Int32)).toInt = 0 := by decide
  have e1 : ((1 : Int32)).toInt = 1 := by decide
  have e2 : ((2 : Int32)).toInt = 2 := by decide
  have e3 : ((3 : Int32)).toInt = 3 := by decide
  have e4 : ((4 : Int32)).toInt = 4 := by decide
  have e5 : ((5 : Int32)).toInt = 5 := by decide
  simp only [← Int32.toInt_inj] at c0 c1 c2 c3 c4 c5
  omega
theorem zt_11 {x : Int32} (c0 : ¬ x = 0) (c1 : ¬ x = 1) (c2 : ¬ x = 2) (c3 : ¬ x = 3) (c4 : ¬ x = 4) (c5 : ¬ x = 5) (c6 : ¬ x = 6) (c7 : ¬ x = 7) (c8 : ¬ x = 8) (c9 : ¬ x = 9) (c10 : ¬ x = 10) : x.toInt < 0 ∨ 10 < x.toInt := by
  have e0 : ((0 : Int32)).toInt = 0 := by decide
  have e1 : ((1 : Int32)).toInt = 1 := by decide
  have e2 : ((2 : Int32)).toInt = 2 := by decide
  have e3 : ((3 : Int32)).toInt = 3 := by decide
  have e4 : ((4 : Int32)).toInt = 4 := by decide
  have e5 : ((5 : Int32)).toInt = 5 := by decide
  have e6 : ((6 : Int32)).toInt = 6 := by decide
  have e7 : ((7 : Int32)).toInt = 7 := by decide
  have e8 : ((8 : Int32)).toInt = 8 := by decide
  have e9 : ((9 : Int32)).toInt = 9 := by decide
  have e10 : ((10 : Int32)).toInt = 10 := by decide
  simp only [← Int32.toInt_inj] at c0 c1 c2 c3 c4 c5 c6 c7 c8 c9 c10
  omega
