/-! ===== signs of a text ===== -/
/-- byte by byte, as the library looks -/
noncomputable def sIx (B : Nat → Int32) (c : Int32) : Nat → Nat → Int32
  | 0, _ => -1
  | j + 1, k => @ite _ (B k = c) (Classical.propDecidable _) (nI k) (sIx B c j (k + 1))
theorem sIx_p {B : Nat → Int32} {c : Int32} {j k : Nat} (h : B k = c) : sIx B c (j + 1) k = nI k := if_pos h
theorem sIx_n {B : Nat → Int32} {c : Int32} {j k : Nat} (h : ¬ B k = c) : sIx B c (j + 1) k = sIx B c j (k + 1) := if_neg h
theorem l_ixc (J : zJ) (I : zM) (w N : Nat) (u1 u2 c : Int32) (hN : N ≤ 5) (hl : zlen.getD w 0 = N) : ∀ j k fuel, k + j = N → j < fuel → ((f_J1_indexOfChar_4cfef_7 J w u1 u2 (nI N) c fuel (nI k) I).bind fun q => Sum.elim (fun a => some a) (fun a3 => some (((-1), a3.2))) q) = some (sIx (fun i => (zbyt.getD w []).getD i 0) c j k, I) := by
  intro j
  induction j with
  | zero =>
    intro k fuel hk hf
    obtain ⟨n, rfl⟩ : ∃ n, fuel = n + 1 := ⟨fuel - 1, by omega⟩
    have e : k = N := by omega
    subst e
    unfold f_J1_indexOfChar_4cfef_7
    rw [if_pos (nI_le (Nat.le_refl _) (by omega))]
    rfl
  | succ j ih =>
    intro k fuel hk hf
    obtain ⟨n, rfl⟩ : ∃ n, fuel = n + 1 := ⟨fuel - 1, by omega⟩
    have z0 : zin (nI k) (zlen.getD w 0) = true := by rw [hl]; exact zin_nI (by omega) (by omega)
    have c0 : Int32.toNatClampNeg (nI (k)) = k := nI_clamp (by omega)
    unfold f_J1_indexOfChar_4cfef_7
    rw [if_neg (nI_ge (by omega) (by omega)), if_pos z0, c0, q_a1]
    by_cases h : (zbyt.getD w []).getD k 0 = c
    · rw [if_pos h, sIx_p (B := fun i => (zbyt.getD w []).getD i 0) h]
      rfl
    · rw [if_neg h, sIx_n (B := fun i => (zbyt.getD w []).getD i 0) h]
      exact ih (k + 1) n (by omega) (by omega)
def ix0 (t : Nat) : Int32 := if t = 87 then 0 else if t = 68 then 1 else if t = 67 then 2 else if t = 76 then 3 else if t = 77 then 4 else -1
def ix1 (t : Nat) : Int32 := if t = 76 then 0 else if t = 66 then 1 else if t = 77 then 2 else -1
theorem b8 : ∀ t, t < 256 → (((nI t).toInt8.toInt32 = 87 ↔ t = 87) ∧ ((nI t).toInt8.toInt32 = 68 ↔ t = 68) ∧ ((nI t).toInt8.toInt32 = 67 ↔ t = 67) ∧ ((nI t).toInt8.toInt32 = 76 ↔ t = 76) ∧ ((nI t).toInt8.toInt32 = 77 ↔ t = 77) ∧ ((nI t).toInt8.toInt32 = 66 ↔ t = 66)) := by decide +kernel
theorem l_ixw (J : zJ) (I : zM) (w N : Nat) {t : Nat} (ht : t < 256) (hN : N ≤ 5) (h0 : 0 < N) (hl : zlen.getD w 0 = N) : f_J0_indexOf_0f7a4 J w (nI t) I = some (sIx (fun i => (zbyt.getD w []).getD i 0) (nI t).toInt8.toInt32 N 0, I) := by
  have k := l_ixc J I w N (nI t) 0 (nI t).toInt8.toInt32 hN hl N 0 zF (by omega) (by unfold zF; omega)
  have hn : ¬ nI t < 0 := nI_pos (by omega)
  have h255 : ¬ (255 : Int32) < nI t := nI_nlt (a := 255) (by omega) (by decide)
  have sh : nI N >>> ((0 : Int32) &&& 31) = nI N := by
    have := pk_shrN (n := N) (by omega) ((0 : Int32) &&& 31) 0 (by decide +kernel)
    rw [Nat.pow_zero, Nat.div_one] at this
    exact this
  have z0 : (if (0 : Int32) < 0 then (0 : Int32) else 0) = 0 := by decide
  have lt0 : (0 : Int32) < nI N := nI_lt (a := 0) h0 (by omega)
  have nn : ¬ nI N < nI N := nI_nlt (Nat.le_refl _) (by omega)
  unfold f_J0_indexOf_0f7a4 f_J0_indexOf_7cf53 f_J0_isLatin1_aae02
  rw [Option.bind_some, if_neg (show ¬ ((1 : Int32), I).1 = 0 from i10)]
  unfold f_J0_length_8abf5 f_J0_coder_7d493
  rw [Option.bind_some, hl]
  show (((some (nI N >>> ((0 : Int32) &&& 31), I) : Option (Int32 × zM)).bind fun q8 => (f_J1_indexOf_4cfef J w (nI t) 0 q8.1 q8.2).bind fun q10 => some (q10.1, q10.2)).bind fun q1 => some (q1.1, q1.2)) = _
  rw [Option.bind_some, sh]
  unfold f_J1_indexOf_4cfef f_J1_canEncode_9a6ad
  rw [if_neg hn, if_neg h255, Option.bind_some, if_neg (show ¬ ((1 : Int32), I).1 = 0 from i10), hl, z0, if_neg nn, if_pos lt0]
  unfold f_J1_indexOfChar_4cfef
  show ((((((f_J1_indexOfChar_4cfef_7 J w (nI t) 0 (nI N) (nI t).toInt8.toInt32 zF 0 I).bind fun q => Sum.elim (fun a => some a) (fun a3 => some (((-1), a3.2))) q)).bind fun q5 => some (q5.1, q5.2)).bind fun q10 => some (q10.1, q10.2)).bind fun q1 => some (q1.1, q1.2)) = _
  have k' : ((f_J1_indexOfChar_4cfef_7 J w (nI t) 0 (nI N) (nI t).toInt8.toInt32 zF 0 I).bind fun q => Sum.elim (fun a => some a) (fun a3 => some (((-1), a3.2))) q) = _ := k
  rw [k']
  rfl
theorem l_ix0 (J : zJ) (I : zM) {t : Nat} (ht : t < 256) : f_J0_indexOf_0f7a4 J 0 (nI t) I = some (ix0 t, I) := by
  rw [l_ixw J I 0 5 ht (by decide) (by decide) rfl]
  obtain ⟨b1, b2, b3, b4, b5, b6⟩ := b8 t ht
  congr 2
  unfold ix0
  by_cases a1 : t = 87
  · rw [if_pos a1]
    exact sIx_p (b1.mpr a1).symm
  rw [if_neg a1, sIx_n (fun e => a1 (b1.mp e.symm))]
  by_cases a2 : t = 68
  · rw [if_pos a2]
    exact sIx_p (b2.mpr a2).symm
  rw [if_neg a2, sIx_n (fun e => a2 (b2.mp e.symm))]
  by_cases a3 : t = 67
  · rw [if_pos a3]
    exact sIx_p (b3.mpr a3).symm
  rw [if_neg a3, sIx_n (fun e => a3 (b3.mp e.symm))]
  by_cases a4 : t = 76
  · rw [if_pos a4]
    exact sIx_p (b4.mpr a4).symm
  rw [if_neg a4, sIx_n (fun e => a4 (b4.mp e.symm))]
  by_cases a5 : t = 77
  · rw [if_pos a5]
    exact sIx_p (b5.mpr a5).symm
  rw [if_neg a5, sIx_n (fun e => a5 (b5.mp e.symm))]
  rfl
theorem l_ix1 (J : zJ) (I : zM) {t : Nat} (ht : t < 256) : f_J0_indexOf_0f7a4 J 1 (nI t) I = some (ix1 t, I) := by
  rw [l_ixw J I 1 3 ht (by decide) (by decide) rfl]
  obtain ⟨b1, b2, b3, b4, b5, b6⟩ := b8 t ht
  congr 2
  unfold ix1
  by_cases a1 : t = 76
  · rw [if_pos a1]
    exact sIx_p (b4.mpr a1).symm
  rw [if_neg a1, sIx_n (fun e => a1 (b4.mp e.symm))]
  by_cases a2 : t = 66
  · rw [if_pos a2]
    exact sIx_p (b6.mpr a2).symm
  rw [if_neg a2, sIx_n (fun e => a2 (b6.mp e.symm))]
  by_cases a3 : t = 77
  · rw [if_pos a3]
    exact sIx_p (b5.mpr a3).symm
  rw [if_neg a3, sIx_n (fun e => a3 (b5.mp e.symm))]
  rfl
/-- a letter of orders: its number, NONE -/
def lt0 (t : Nat) : Int32 := if t = 87 then 0 else if t = 68 then 1 else if t = 67 then 2 else if t = 76 then 3 else if t = 77 then 4 else -9
theorem nI_is {t c : Nat} (ht : t < 256) (hc : c < 256) : nI t = nI c ↔ t = c := nI_eq (by omega) (by omega)
theorem t_letterOf (J : zJ) (I : zM) {t : Nat} (ht : t < 256) : f_X12_letterOf J (nI t) I = some (lt0 t, I) := by
  unfold f_X12_letterOf lt0
  have e : ∀ c, c < 256 → (nI t = nI c ↔ t = c) := fun c hc => nI_is ht hc
  by_cases a1 : t = 87
  · rw [if_pos a1, if_pos (show nI t = 87 from (e 87 (by decide)).mpr a1)]
  rw [if_neg a1, if_neg (show ¬ nI t = 87 from fun z => a1 ((e 87 (by decide)).mp z))]
  by_cases a2 : t = 68
  · rw [if_pos a2, if_pos (show nI t = 68 from (e 68 (by decide)).mpr a2)]
  rw [if_neg a2, if_neg (show ¬ nI t = 68 from fun z => a2 ((e 68 (by decide)).mp z))]
  by_cases a3 : t = 67
  · rw [if_pos a3, if_pos (show nI t = 67 from (e 67 (by decide)).mpr a3)]
  rw [if_neg a3, if_neg (show ¬ nI t = 67 from fun z => a3 ((e 67 (by decide)).mp z))]
  by_cases a4 : t = 76
  · rw [if_pos a4, if_pos (show nI t = 76 from (e 76 (by decide)).mpr a4)]
  rw [if_neg a4, if_neg (show ¬ nI t = 76 from fun z => a4 ((e 76 (by decide)).mp z))]
  by_cases a5 : t = 77
  · rw [if_pos a5, if_pos (show nI t = 77 from (e 77 (by decide)).mpr a5)]
  rw [if_neg a5, if_neg (show ¬ nI t = 77 from fun z => a5 ((e 77 (by decide)).mp z))]
/-- the letter's number as both say it -/
theorem lt_ix (t : Nat) : (∃ x, x < 5 ∧ ix0 t = nI x ∧ lt0 t = nI x) ∨ (ix0 t = -1 ∧ lt0 t = -9) := by
  unfold ix0 lt0
  by_cases a1 : t = 87
  · rw [if_pos a1, if_pos a1]
    exact Or.inl ⟨0, by decide, rfl, rfl⟩
  rw [if_neg a1, if_neg a1]
  by_cases a2 : t = 68
  · rw [if_pos a2, if_pos a2]
    exact Or.inl ⟨1, by decide, rfl, rfl⟩
  rw [if_neg a2, if_neg a2]
  by_cases a3 : t = 67
  · rw [if_pos a3, if_pos a3]
    exact Or.inl ⟨2, by decide, rfl, rfl⟩
  rw [if_neg a3, if_neg a3]
  by_cases a4 : t = 76
  · rw [if_pos a4, if_pos a4]
    exact Or.inl ⟨3, by decide, rfl, rfl⟩
  rw [if_neg a4, if_neg a4]
  by_cases a5 : t = 77
  · rw [if_pos a5, if_pos a5]
    exact Or.inl ⟨4, by decide, rfl, rfl⟩
  rw [if_neg a5, if_neg a5]
  exact Or.inr ⟨rfl, rfl⟩
/-- a figure -/
def fg (t lo hi : Nat) : Prop := 48 + lo ≤ t ∧ t ≤ 48 + hi
theorem fg_rg {t lo hi : Nat} (ht : t < 256) : zrg (nI t - (48 : Int32)) lo hi ↔ fg t lo hi := by
  have e : (nI t - (48 : Int32)).toInt = (t : Int) - 48 := pk_sub_toInt (a := t) (b := 48) (by omega) (by decide)
  unfold zrg fg
  rw [e]
  omega
theorem fg_nI {t lo hi : Nat} (h : fg t lo hi) : nI t - (48 : Int32) = nI (t - 48) := pk_sub (a := t) (b := 48) (by have := h.1; omega)
theorem l_figure (J : zJ) (I : zM) {t lo hi : Nat} (ht : t < 256) (hh : hi < 100) (hl : lo < 100) : (fg t lo hi → f_X11_figure J (nI t) (nI lo) (nI hi) I = some (nI (t - 48), I)) ∧ (¬ fg t lo hi → f_X11_figure J (nI t) (nI lo) (nI hi) I = some (-9, I)) := by
  have e : (nI t - (48 : Int32)).toInt = (t : Int) - 48 := pk_sub_toInt (a := t) (b := 48) (by omega) (by decide)
  have c1 : nI t - (48 : Int32) < nI lo ↔ t < 48 + lo := by
    rw [Int32.lt_iff_toInt_lt, e, nI_toInt (by omega)]
    omega
  have c2 : nI hi < nI t - (48 : Int32) ↔ 48 + hi < t := by
    rw [Int32.lt_iff_toInt_lt, e, nI_toInt (by omega)]
    omega
  constructor
  · intro h
    unfold f_X11_figure
    rw [if_neg (fun z => by have := c1.mp z; have := h.1; omega), if_neg (fun z => by have := c2.mp z; have := h.2; omega), fg_nI h]
  · intro h
    unfold f_X11_figure
    by_cases a : t < 48 + lo
    · rw [if_pos (c1.mpr a)]
    · rw [if_neg (fun z => a (c1.mp z)), if_pos (c2.mpr (by
        by_cases b : 48 + hi < t
        · exact b
        · exact absurd ⟨by omega, by omega⟩ h))]
/-- the text, as the class and as the twin has it -/
def xC (I : zM) (L : Nat) (t : Nat → Nat) : Prop := I 16 1 = nI L ∧ ∀ i, i < L → I 17 i = nI (t i)
def xT (I : zM) (L : Nat) (t : Nat → Nat) : Prop := I 147 12 = nI L ∧ ∀ i, i < L → I 154 i = nI (t i)
theorem txt_of {I : zM} (h : qTxt I) : ∃ L t, L ≤ 24 ∧ xC I L t ∧ xT I L t ∧ ∀ i, i < L → t i < 256 := by
  obtain ⟨L, h1, h2, h3, h4⟩ := h
  refine ⟨L, fun i => (I 154 i).toNatClampNeg, h1, ⟨h2, fun i hi => ?_⟩, ⟨h3, fun i hi => ?_⟩, fun i hi => ?_⟩
  · obtain ⟨j, -, hj, e⟩ := zrg_nI (h4 i hi).2 (by decide)
    show I 17 i = nI (I 154 i).toNatClampNeg
    rw [(h4 i hi).1, e, nI_clamp (by omega)]
  · obtain ⟨j, -, hj, e⟩ := zrg_nI (h4 i hi).2 (by decide)
    show I 154 i = nI (I 154 i).toNatClampNeg
    rw [e, nI_clamp (by omega)]
  · obtain ⟨j, -, hj, e⟩ := zrg_nI (h4 i hi).2 (by decide)
    show (I 154 i).toNatClampNeg < 256
    rw [e, nI_clamp (by omega)]
    omega
/-- the same but for the place, the row that is read and the words that are read -/
def zRr (I0 I : zM) : Prop := (∀ p, p ≠ 147 → p ≠ 156 → p ≠ 165 → I p = I0 p) ∧ ∀ k, k ≠ 13 → k ≠ 27 → I 147 k = I0 147 k
theorem zRr.rf {I : zM} : zRr I I := ⟨fun _ _ _ _ => rfl, fun _ _ _ => rfl⟩
theorem zRr.tr {I I1 I2 : zM} (h : zRr I I1) (g : zRr I1 I2) : zRr I I2 := ⟨fun p a b c => (g.1 p a b c).trans (h.1 p a b c), fun k a b => (g.2 k a b).trans (h.2 k a b)⟩
theorem zRr.p {I0 I : zM} {x : Int32} (h : zRr I0 I) : zRr I0 (zu I 147 13 x) := ⟨fun p a b c => (zu_row a).trans (h.1 p a b c), fun k a b => (zu_offk a I 147 x).trans (h.2 k a b)⟩
theorem zRr.o {I0 I : zM} {x : Int32} (h : zRr I0 I) : zRr I0 (zu I 147 27 x) := ⟨fun p a b c => (zu_row a).trans (h.1 p a b c), fun k a b => (zu_offk b I 147 x).trans (h.2 k a b)⟩
theorem zRr.r {I0 I : zM} {k : Nat} {x : Int32} (h : zRr I0 I) : zRr I0 (zu I 156 k x) := ⟨fun p a b c => (zu_row b).trans (h.1 p a b c), fun j a b => by rw [zu_row (show 147 ≠ 156 by decide)]; exact h.2 j a b⟩
theorem zRr.w {I0 I : zM} {k : Nat} {x : Int32} (h : zRr I0 I) : zRr I0 (zu I 165 k x) := ⟨fun p a b c => (zu_row c).trans (h.1 p a b c), fun j a b => by rw [zu_row (show 147 ≠ 165 by decide)]; exact h.2 j a b⟩
theorem zRr.x {I0 I : zM} {L : Nat} {t : Nat → Nat} (h : zRr I0 I) (x : xT I0 L t) : xT I L t := ⟨(h.2 12 (by decide) (by decide)).trans x.1, by rw [h.1 154 (by decide) (by decide) (by decide)]; exact x.2⟩
theorem t_sign (J : zJ) {I : zM} {L i : Nat} {t : Nat → Nat} {c : Nat} (hL : L ≤ 24) (x : xT I L t) (ht : ∀ i, i < L → t i < 256) (hp : I 147 13 = nI i) (hi : i ≤ L) (hc : c < 256) : (i < L ∧ t i = c → f_X12_sign J (nI c) I = some (1, zu I 147 13 (nI (i + 1)))) ∧ (¬ (i < L ∧ t i = c) → f_X12_sign J (nI c) I = some (0, zu I 147 13 (nI i))) := by
  constructor
  · rintro ⟨h1, h2⟩
    have z0 : zin (nI (i)) 24 = true := zin_nI (by omega) (by decide)
    have c0 : Int32.toNatClampNeg (nI (i)) = i := nI_clamp (by omega)
    unfold f_X12_sign
    rw [x.1, hp, if_neg (nI_ge h1 (by omega)), if_pos z0, c0, x.2 i h1, if_pos (congrArg nI h2), q_a1]
  · intro h
    unfold f_X12_sign
    rw [x.1, hp, q_a0]
    by_cases a : i < L
    · have z0 : zin (nI (i)) 24 = true := zin_nI (by omega) (by decide)
      have c0 : Int32.toNatClampNeg (nI (i)) = i := nI_clamp (by omega)
      rw [if_neg (nI_ge a (by omega)), if_pos z0, c0, x.2 i a, if_neg (fun e => h ⟨a, (nI_is (ht i a) hc).mp e⟩)]
    · rw [if_pos (nI_le (by omega) (by omega))]
theorem t_figure (J : zJ) {I : zM} {L i : Nat} {t : Nat → Nat} {lo hi : Nat} (hL : L ≤ 24) (x : xT I L t) (ht : ∀ i, i < L → t i < 256) (hp : I 147 13 = nI i) (hi' : i ≤ L) (hh : hi < 100) (hl : lo < 100) : (i < L ∧ fg (t i) lo hi → f_X12_figure J (nI lo) (nI hi) I = some (nI (t i - 48), zu I 147 13 (nI (i + 1)))) ∧ (¬ (i < L ∧ fg (t i) lo hi) → f_X12_figure J (nI lo) (nI hi) I = some (-9, I)) := by
  have kin : ∀ v : Int32, f_X12_in J (Int32.toInt64 v) (Int32.toInt64 (nI lo)) (Int32.toInt64 (nI hi)) I = some (zb (zrg v lo hi), I) := fun v => by
    rw [l_in]
    refine congrArg some (Prod.ext (zb_cg ?_) rfl)
    rw [Int64.le_iff_toInt_le, Int64.le_iff_toInt_le, Int32.toInt_toInt64, Int32.toInt_toInt64, Int32.toInt_toInt64, nI_toInt (by omega), nI_toInt (by omega)]
    exact Iff.rfl
  constructor
  · rintro ⟨h1, h2⟩
    have z0 : zin (nI (i)) 24 = true := zin_nI (by omega) (by decide)
    have c0 : Int32.toNatClampNeg (nI (i)) = i := nI_clamp (by omega)
    have ne : ¬ nI i = nI L := fun e => by have := (nI_eq (by omega) (by omega)).mp e; omega
    have z13 : (zu I 147 13 (nI (i + 1))) 147 13 = nI (i + 1) := by rw [zu_at, if_pos rfl]
    have r154 : (zu I 147 13 (nI (i + 1))) 154 = I 154 := zu_row (by decide)
    have k := kin (nI (t i) - (48 : Int32))
    unfold f_X12_figure
    rw [hp, x.1, if_neg ne, if_pos z0, c0, x.2 i h1, k, Option.bind_some, if_neg (fun z => zb_eq0.mp z ((fg_rg (ht i h1)).mpr h2))]
    simp only [hp, q_a1, z13, nI_pred, z0, c0, r154, x.2 i h1, fg_nI h2, ↓reduceIte]
  · intro h
    unfold f_X12_figure
    rw [hp, x.1]
    by_cases a : i < L
    · have z0 : zin (nI (i)) 24 = true := zin_nI (by omega) (by decide)
      have c0 : Int32.toNatClampNeg (nI (i)) = i := nI_clamp (by omega)
      have ne : ¬ nI i = nI L := fun e => by have := (nI_eq (by omega) (by omega)).mp e; omega
      have k := kin (nI (t i) - (48 : Int32))
      rw [if_neg ne, if_pos z0, c0, x.2 i a, k, Option.bind_some, if_pos (zb_eq0.mpr (fun q => h ⟨a, (fg_rg (ht i a)).mp q⟩))]
    · rw [if_pos (by rw [show i = L by omega])]
