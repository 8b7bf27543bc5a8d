/-! ===== what fills by a letter, in the twin ===== -/
theorem fb_0_0 : (nI 0 = (0 : Int32)) = True := eq_true (by decide)
theorem fb_0_1 : (nI 0 = (1 : Int32)) = False := eq_false (by decide)
theorem fb_0_2 : (nI 0 = (2 : Int32)) = False := eq_false (by decide)
theorem fb_0_3 : (nI 0 = (3 : Int32)) = False := eq_false (by decide)
theorem fb_1_0 : (nI 1 = (0 : Int32)) = False := eq_false (by decide)
theorem fb_1_1 : (nI 1 = (1 : Int32)) = True := eq_true (by decide)
theorem fb_1_2 : (nI 1 = (2 : Int32)) = False := eq_false (by decide)
theorem fb_1_3 : (nI 1 = (3 : Int32)) = False := eq_false (by decide)
theorem fb_2_0 : (nI 2 = (0 : Int32)) = False := eq_false (by decide)
theorem fb_2_1 : (nI 2 = (1 : Int32)) = False := eq_false (by decide)
theorem fb_2_2 : (nI 2 = (2 : Int32)) = True := eq_true (by decide)
theorem fb_2_3 : (nI 2 = (3 : Int32)) = False := eq_false (by decide)
theorem fb_3_0 : (nI 3 = (0 : Int32)) = False := eq_false (by decide)
theorem fb_3_1 : (nI 3 = (1 : Int32)) = False := eq_false (by decide)
theorem fb_3_2 : (nI 3 = (2 : Int32)) = False := eq_false (by decide)
theorem fb_3_3 : (nI 3 = (3 : Int32)) = True := eq_true (by decide)
theorem fb_4_0 : (nI 4 = (0 : Int32)) = False := eq_false (by decide)
theorem fb_4_1 : (nI 4 = (1 : Int32)) = False := eq_false (by decide)
theorem fb_4_2 : (nI 4 = (2 : Int32)) = False := eq_false (by decide)
theorem fb_4_3 : (nI 4 = (3 : Int32)) = False := eq_false (by decide)
theorem q_4no : ((4 : Int32) ≤ nI 0) = False ∧ ((4 : Int32) ≤ nI 1) = False ∧ ((4 : Int32) ≤ nI 2) = False ∧ ((4 : Int32) ≤ nI 3) = False ∧ ((4 : Int32) ≤ nI 4) = True := ⟨eq_false (by decide), eq_false (by decide), eq_false (by decide), eq_false (by decide), eq_true (by decide)⟩
theorem zbt_2c : ∀ c, c < 8 → (nI (2 * c)).toBitVec.getLsbD 0 = false ∧ (nI (2 * c)).toBitVec.getLsbD 4 = false := by decide +kernel
theorem eW_0 {E : zM} {m q : Nat} (hw : eW E m q) : ¬ zbt (E 8 1) 0 := by
  obtain ⟨c, hc, e⟩ := hw.2.2.2.2.2.2.2.1
  unfold zbt
  rw [e, (zbt_2c c hc).1]
  decide
theorem eW_4 {E : zM} {m q : Nat} (hw : eW E m q) : ¬ zbt (E 8 1) 4 := by
  obtain ⟨c, hc, e⟩ := hw.2.2.2.2.2.2.2.1
  unfold zbt
  rw [e, (zbt_2c c hc).2]
  decide
theorem eRow_y {E : zM} {p g : Nat} {rs : Int32} {d : Nat → Nat} (h : eTh E g (E p g)) : eFi d (eRow E p rs g) = some (E p g, rs, -9, 0) := by
  rw [eRow_p h]
  exact eFi_p (Or.inl m9_no)
theorem eRow_z {E : zM} {p g : Nat} {rs : Int32} {d : Nat → Nat} (h : ¬ eTh E g (E p g)) : eFi d (eRow E p rs g) = none := by
  rw [eRow_n h]
  rfl
/-- what a call of the twin's filledBy leaves -/
def tFb (E : zM) (g : Nat) (w : Option zf) (I I' : zM) : Prop := (∀ p, p ≠ 172 → I' p = I p) ∧ (∀ h, h ≠ g → I' 172 h = I 172 h) ∧ (E 8 2 = -9 → ∀ e, w = some e → I' 172 g = e.2.1)
theorem tFb_none {E I : zM} {g : Nat} : tFb E g none I I := ⟨fun _ _ => rfl, fun _ _ => rfl, fun _ e h => by cases h⟩
theorem tFb_nz {E I : zM} {g : Nat} {x : Int32} : tFb E g none I (zu I 172 g x) := ⟨fun _ hp => zu_row hp, fun _ hh => zu_offk hh I 172 x, fun _ e h => by cases h⟩
theorem tFb_some {E I : zM} {g : Nat} {x : Int32} {w : zf} (hx : E 8 2 = -9 → x = w.2.1) : tFb E g (some w) I (zu I 172 g x) := ⟨fun _ hp => zu_row hp, fun _ hh => zu_offk hh I 172 x, fun h8 e h => by cases h; rw [zu_at, if_pos rfl]; exact hx h8⟩
theorem t_fb0 (J : zJ) {E I : zM} {m q b o n tm le sh g : Nat} {d : Nat → Nat} (hw : eW E m q) (ht : tE E m q b o n tm le sh I) (hb : b < 8) (hg : g < 6) : ∃ I', f_X12_filledBy J (nI 0) (nI b) (nI g) I = some (eVa (eFi d (eLe E m g 0)), I') ∧ tFb E g (eFi d (eLe E m g 0)) I I' := by
  have z0 : zin (nI (g)) 6 = true := zin_nI (by omega) (by decide)
  have c0 : Int32.toNatClampNeg (nI (g)) = g := nI_clamp (by omega)
  have z1 : zin (nI (6 * b + g)) 48 = true := zin_nI (by omega) (by decide)
  have c1 : Int32.toNatClampNeg (nI (6 * b + g)) = 6 * b + g := nI_clamp (by omega)
  have o148 : ∀ x j, zu I 172 g x 148 j = I 148 j := fun x j => zu_off (by decide) I g x j
  have o162 : ∀ x j, zu I 172 g x 162 j = I 162 j := fun x j => zu_off (by decide) I g x j
  have th := t_there J (E := E) (I := zu I 172 g 1) hg ((o148 _ _).trans (ht.1 g hg).1) (E 4 g)
  have f4 := (ht.2.2.1 g hg).1
  rw [eLe_o (eW_0 hw)]
  refine ⟨zu I 172 g 1, ?_, ?_⟩
  · simp only [f_X12_filledBy, fb_0_0, z0, z1, c0, c1, q_6, nI_add, o162, f4, th, Option.bind_some, ↓reduceIte]
    show _ = some (eVa (eFi d (eRow E 4 1 g)), _)
    by_cases t : eTh E g (E 4 g)
    · rw [if_neg (fun z => zb_eq0.mp z t), eRow_y t]
      rfl
    · rw [if_pos (zb_eq0.mpr t), eRow_z t]
      rfl
  · show tFb E g (eFi d (eRow E 4 1 g)) I _
    by_cases t : eTh E g (E 4 g)
    · rw [eRow_y t]
      exact tFb_some (fun _ => rfl)
    · rw [eRow_z t]
      exact tFb_nz
theorem t_fb1 (J : zJ) {E I : zM} {m q b o n tm le sh g : Nat} {d : Nat → Nat} (ht : tE E m q b o n tm le sh I) (hb : b < 8) (hg : g < 6) : ∃ I', f_X12_filledBy J (nI 1) (nI b) (nI g) I = some (eVa (eFi d (eLe E m g 1)), I') ∧ tFb E g (eFi d (eLe E m g 1)) I I' := by
  have z0 : zin (nI (g)) 6 = true := zin_nI (by omega) (by decide)
  have c0 : Int32.toNatClampNeg (nI (g)) = g := nI_clamp (by omega)
  have z1 : zin (nI (b)) 8 = true := zin_nI (by omega) (by decide)
  have c1 : Int32.toNatClampNeg (nI (b)) = b := nI_clamp (by omega)
  have o148 : ∀ x j, zu I 172 g x 148 j = I 148 j := fun x j => zu_off (by decide) I g x j
  have th := t_there J (E := E) (I := zu I 172 g (nI 2)) hg ((o148 _ _).trans (ht.1 g hg).1) (E 5 g)
  have f5 := (ht.2.2.1 g hg).2
  obtain ⟨h6, hn, -⟩ := ht.2.2.2.2.1
  have k := l_beforeOf J h6 hn (I 159 b) (I 160 b) (nI g)
  rw [f5] at k
  have hx : I 163 b = E 8 1 := ht.2.2.2.2.2.2.1
  have bt := zbit_eq (E 8 1) (show 1 < 32 by decide)
  by_cases c : zbt (E 8 1) 1
  · rw [eLe_x c]
    refine ⟨I, ?_, tFb_none⟩
    simp only [f_X12_filledBy, fb_1_0, q_4no.2.1, z1, c1, hx, bt, zb_eq1, c, ↓reduceIte]
    rfl
  rw [eLe_o c]
  refine ⟨zu I 172 g (nI 2), ?_, ?_⟩
  · simp only [f_X12_filledBy, fb_1_0, fb_1_1, q_4no.2.1, z0, c0, z1, c1, hx, bt, zb_eq1, c, k, q_a1, Nat.reduceAdd, th, Option.bind_some, ↓reduceIte]
    show _ = some (eVa (eFi d (eRow E 5 2 g)), _)
    by_cases t : eTh E g (E 5 g)
    · rw [if_neg (fun z => zb_eq0.mp z t), eRow_y t]
      rfl
    · rw [if_pos (zb_eq0.mpr t), eRow_z t]
      rfl
  · show tFb E g (eFi d (eRow E 5 2 g)) I _
    by_cases t : eTh E g (E 5 g)
    · rw [eRow_y t]
      exact tFb_some (fun _ => rfl)
    · rw [eRow_z t]
      exact tFb_nz
theorem t_fb2 (J : zJ) {E I : zM} {m q b o n tm le sh g : Nat} {d : Nat → Nat} (ht : tE E m q b o n tm le sh I) (hb : b < 8) (hg : g < 6) : ∃ I', f_X12_filledBy J (nI 2) (nI b) (nI g) I = some (eVa (eFi d (eLe E m g 2)), I') ∧ tFb E g (eFi d (eLe E m g 2)) I I' := by
  have z0 : zin (nI (g)) 6 = true := zin_nI (by omega) (by decide)
  have c0 : Int32.toNatClampNeg (nI (g)) = g := nI_clamp (by omega)
  have z1 : zin (nI (b)) 8 = true := zin_nI (by omega) (by decide)
  have c1 : Int32.toNatClampNeg (nI (b)) = b := nI_clamp (by omega)
  have o148 : ∀ x j, zu I 172 g x 148 j = I 148 j := fun x j => zu_off (by decide) I g x j
  have th := fun v => t_there J (E := E) (I := zu I 172 g (nI 3)) hg ((o148 _ _).trans (ht.1 g hg).1) v
  obtain ⟨a, cc, t, ha, hc, htt, e159, e160, e161, -, B, hB, f6⟩ := ht.2.2.2.1
  obtain ⟨h6, hn, -, h9, h10, l1, l2, l3, l4⟩ := ht.2.2.2.2.1
  have ka := l_isKnowing J h6 hn hB ha htt
  have kc := l_isKnowing J h6 hn hB hc htt
  have k := l_customOf2 J h6 hn h9 h10 l1 l2 l3 l4 (nI t) (nI g)
  have hx : I 163 b = E 8 1 := ht.2.2.2.2.2.2.1
  have bt := zbit_eq (E 8 1) (show 2 < 32 by decide)
  have f6g := f6 g hg
  by_cases c : zbt (E 8 1) 2
  · rw [eLe_x c]
    refine ⟨I, ?_, tFb_none⟩
    simp only [f_X12_filledBy, fb_2_0, q_4no.2.2.1, z1, c1, hx, bt, zb_eq1, c, ↓reduceIte]
    rfl
  rw [eLe_o c]
  have nz : ¬ eTh E g 0 := fun q => by have h := q.1; rw [tl_0] at h; omega
  refine ⟨zu I 172 g (nI 3), ?_, ?_⟩
  · simp only [f_X12_filledBy, fb_2_0, fb_2_1, fb_2_2, q_4no.2.2.1, z0, c0, z1, c1, hx, bt, zb_eq1, c, e159, e160, e161, ka, kc, k, q_a1, Nat.reduceAdd, th, Option.bind_some, ↓reduceIte]
    show _ = some (eVa (eFi d (eRow E 6 3 g)), _)
    by_cases A : B (3 * a + t) ∨ sKn (I 152) 0 n (nI a) (nI t)
    · rw [if_neg (fun z => zb_eq0.mp z A)]
      by_cases C : B (3 * cc + t) ∨ sKn (I 152) 0 n (nI cc) (nI t)
      · rw [if_neg (fun z => zb_eq0.mp z C)]
        have e6 : E 6 g = nI (sCu (I 152) n (nI t) (nI g) le sh) := f6g.trans (sCs_p ⟨A, C⟩)
        rw [← e6]
        by_cases tt : eTh E g (E 6 g)
        · rw [if_neg (fun z => zb_eq0.mp z tt), eRow_y tt]
          rfl
        · rw [if_pos (zb_eq0.mpr tt), eRow_z tt]
          rfl
      · rw [if_pos (zb_eq0.mpr C), ite_self]
        have e6 : E 6 g = 0 := f6g.trans (sCs_n (fun q => C q.2))
        rw [eRow_z (by rw [e6]; exact nz)]
        rfl
    · rw [if_pos (zb_eq0.mpr A), ite_self]
      have e6 : E 6 g = 0 := f6g.trans (sCs_n (fun q => A q.1))
      rw [eRow_z (by rw [e6]; exact nz)]
      rfl
  · show tFb E g (eFi d (eRow E 6 3 g)) I _
    by_cases tt : eTh E g (E 6 g)
    · rw [eRow_y tt]
      exact tFb_some (fun _ => rfl)
    · rw [eRow_z tt]
      exact tFb_nz
/-- the rule that was found, as a filler -/
theorem t_rule (J : zJ) {E I : zM} {m q b o n tm le sh g : Nat} {d : Nat → Nat} (l : Int32) (hw : eW E m q) (ht : tE E m q b o n tm le sh I) (hb : b < 8) (hg : g < 6) (hd : dN I 170 d) : ∃ I', ((f_X12_ruleFor J l (nI b) (nI g) I).bind fun q58 => (if zin (nI g) 6 = true then (if q58.1 = (-9) then some ((0, zu q58.2 172 (Int32.toNatClampNeg (nI g)) ((10 : Int32) + q58.1))) else (if zin (((6 : Int32) * q58.1) + (2 : Int32)) 72 = true then some (((zu q58.2 172 (Int32.toNatClampNeg (nI g)) ((10 : Int32) + q58.1)) 155 (Int32.toNatClampNeg (((6 : Int32) * q58.1) + (2 : Int32))), zu q58.2 172 (Int32.toNatClampNeg (nI g)) ((10 : Int32) + q58.1))) else none)) else none)) = some (eVa (eFi d (eRl E l g m 0)), I') ∧ tFb E g (eFi d (eRl E l g m 0)) I I' := by
  have hm := hw.2.2.1
  have z0 : zin (nI (g)) 6 = true := zin_nI (by omega) (by decide)
  have c0 : Int32.toNatClampNeg (nI (g)) = g := nI_clamp (by omega)
  obtain ⟨r, k, h⟩ := t_ruleFor J l hw ht hb hg hd
  rw [k, Option.bind_some]
  rcases h with ⟨h1, rfl⟩ | ⟨i, hi, h1, rfl⟩
  · rw [h1]
    refine ⟨zu I 172 g ((10 : Int32) + (-9)), ?_, tFb_nz⟩
    simp only [z0, c0, ↓reduceIte]
    rfl
  · rw [h1]
    have z1 : zin (nI (6 * i + 2)) 72 = true := zin_nI (by omega) (by decide)
    have c1 : Int32.toNatClampNeg (nI (6 * i + 2)) = 6 * i + 2 := nI_clamp (by omega)
    have ne : ¬ nI i = -9 := fun e => by
      have h := congrArg Int32.toInt e
      rw [nI_toInt (by omega)] at h
      have h9 : (-9 : Int32).toInt = -9 := by decide +kernel
      omega
    have o155 : ∀ x j, zu I 172 g x 155 j = I 155 j := fun x j => zu_off (by decide) I g x j
    refine ⟨zu I 172 g (nI (10 + i)), ?_, tFb_some (fun _ => rfl)⟩
    simp only [z0, c0, z1, c1, ne, q_6, q_a2, q_10a, o155, ht.2.1.2 (6 * i + 2) (by omega), ↓reduceIte]
    rfl
theorem t_fb3 (J : zJ) {E I : zM} {m q b o n tm le sh g : Nat} {d : Nat → Nat} (hw : eW E m q) (ht : tE E m q b o n tm le sh I) (hb : b < 8) (hg : g < 6) (hd : dN I 170 d) : ∃ I', f_X12_filledBy J (nI 3) (nI b) (nI g) I = some (eVa (eFi d (eLe E m g 3)), I') ∧ tFb E g (eFi d (eLe E m g 3)) I I' := by
  have z0 : zin (nI (g)) 6 = true := zin_nI (by omega) (by decide)
  have c0 : Int32.toNatClampNeg (nI (g)) = g := nI_clamp (by omega)
  have z1 : zin (nI (b)) 8 = true := zin_nI (by omega) (by decide)
  have c1 : Int32.toNatClampNeg (nI (b)) = b := nI_clamp (by omega)
  have hx : I 163 b = E 8 1 := ht.2.2.2.2.2.2.1
  have h32 : I 147 32 = E 8 2 := ht.2.2.2.2.2.2.2.1
  have h33 : I 147 33 = E 8 3 := ht.2.2.2.2.2.2.2.2
  have bt := zbit_eq (E 8 1) (show 3 < 32 by decide)
  by_cases c : zbt (E 8 1) 3
  · rw [eLe_x c]
    refine ⟨I, ?_, tFb_none⟩
    simp only [f_X12_filledBy, fb_3_0, q_4no.2.2.2.1, z1, c1, hx, bt, zb_eq1, c, ↓reduceIte]
    rfl
  rw [eLe_o c]
  show ∃ I', _ = some (eVa (eFi d (eLa E g ++ eRl E 0 g m 0)), I') ∧ tFb E g (eFi d (eLa E g ++ eRl E 0 g m 0)) I I'
  have th := t_there J (E := E) (I := I) hg (ht.1 g hg).1 (E 8 3)
  by_cases a : E 8 2 = nI g ∧ eTh E g (E 8 3)
  · have fi : eFi d (eLa E g ++ eRl E 0 g m 0) = some (E 8 3, E 8 4, -9, 0) := eFi_some (by rw [eLa_p a]; exact eFi_p (Or.inl m9_no))
    rw [fi]
    refine ⟨zu I 172 g 9, ?_, tFb_some (fun h => ?_)⟩
    · have o147 : ∀ x j, zu I 172 g x 147 j = I 147 j := fun x j => zu_off (by decide) I g x j
      simp only [f_X12_filledBy, fb_3_0, fb_3_1, fb_3_2, fb_3_3, q_4no.2.2.2.1, z0, c0, z1, c1, hx, bt, zb_eq1, c, h32, h33, eq_true a.1, th, zb_eq0, a.2, not_true_eq_false, o147, Option.bind_some, ↓reduceIte]
      rfl
    · exfalso
      have e : (-9 : Int32) = nI g := h.symm.trans a.1
      have h := congrArg Int32.toInt e
      rw [nI_toInt (by omega)] at h
      have h9 : (-9 : Int32).toInt = -9 := by decide +kernel
      omega
  · have fi : eFi d (eLa E g ++ eRl E 0 g m 0) = eFi d (eRl E 0 g m 0) := eFi_none (by rw [eLa_n a]; rfl)
    rw [fi]
    obtain ⟨I', e1, e2⟩ := t_rule J 0 hw ht hb hg hd
    refine ⟨I', ?_, e2⟩
    rw [← e1]
    by_cases a1 : E 8 2 = nI g
    · have a2 : ¬ eTh E g (E 8 3) := fun q => a ⟨a1, q⟩
      simp only [f_X12_filledBy, fb_3_0, fb_3_1, fb_3_2, fb_3_3, q_4no.2.2.2.1, z1, c1, hx, bt, zb_eq1, c, h32, h33, eq_true a1, th, zb_eq0, a2, not_false_eq_true, Option.bind_some, ↓reduceIte]
    · simp only [f_X12_filledBy, fb_3_0, fb_3_1, fb_3_2, fb_3_3, q_4no.2.2.2.1, z1, c1, hx, bt, zb_eq1, c, h32, h33, a1, ↓reduceIte]
theorem t_fb4 (J : zJ) {E I : zM} {m q b o n tm le sh g : Nat} {d : Nat → Nat} (hw : eW E m q) (ht : tE E m q b o n tm le sh I) (hb : b < 8) (hg : g < 6) (hd : dN I 170 d) : ∃ I', f_X12_filledBy J (nI 4) (nI b) (nI g) I = some (eVa (eFi d (eLe E m g 4)), I') ∧ tFb E g (eFi d (eLe E m g 4)) I I' := by
  rw [eLe_o (eW_4 hw)]
  show ∃ I', _ = some (eVa (eFi d (eRl E 2 g m 0)), I') ∧ tFb E g (eFi d (eRl E 2 g m 0)) I I'
  obtain ⟨I', e1, e2⟩ := t_rule J 2 hw ht hb hg hd
  refine ⟨I', ?_, e2⟩
  rw [← e1]
  simp only [f_X12_filledBy, fb_4_0, fb_4_1, fb_4_2, fb_4_3, q_4no.2.2.2.2, ↓reduceIte]
theorem t_fb (J : zJ) {E I : zM} {m q b o n tm le sh g x : Nat} {d : Nat → Nat} (hw : eW E m q) (ht : tE E m q b o n tm le sh I) (hb : b < 8) (hg : g < 6) (hd : dN I 170 d) (hx : x ≤ 4) : ∃ I', f_X12_filledBy J (nI x) (nI b) (nI g) I = some (eVa (eFi d (eLe E m g x)), I') ∧ tFb E g (eFi d (eLe E m g x)) I I' := by
  match x, hx with
  | 0, _ => exact t_fb0 J hw ht hb hg
  | 1, _ => exact t_fb1 J ht hb hg
  | 2, _ => exact t_fb2 J ht hb hg
  | 3, _ => exact t_fb3 J hw ht hb hg hd
  | 4, _ => exact t_fb4 J hw ht hb hg hd
  | k + 5, h => exact absurd h (by omega)
