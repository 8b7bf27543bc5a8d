noncomputable def f_X3_present_13 (J : zJ) (u3 : Int32) : Nat → Int32 → Int32 → zM → Option ((Int32 × zM) ⊕ (Int32 × Int32 × zM))
  | 0, _, _, _ => none
  | n + 1, x1_13, x4_13, I13 => (if u3 ≤ x4_13 then some (.inr (x1_13, x4_13, I13)) else (if zin x4_13 6 = true then (if I13 2 (Int32.toNatClampNeg x4_13) ≤ 0 then f_X3_present_13 J u3 n (x1_13 + (0 : Int32)) (x4_13 + 1) I13 else f_X3_present_13 J u3 n (x1_13 + (1 : Int32)) (x4_13 + 1) I13) else none))
noncomputable def f_X3_present (J : zJ)  (I : zM) : Option (Int32 × zM) := ((f_X3_present_13 J 6 zF 0 0 I).bind fun q => Sum.elim (fun a => some a) (fun a3 => some ((a3.1, a3.2.2))) q)
noncomputable abbrev rmX3_present : Room := { frames := 0, cells := 0, slots := 0, locals := 0 }
theorem zyX3_present : zY yX3_present wsX3_present cX3_present 6 (some .int) 0 := ⟨⟨_, rfl⟩, by decide +kernel⟩
set_option maxHeartbeats 1000000 in
set_option maxRecDepth 100000 in
theorem c_X3_present (B : zB) (I : zM) (J : zJ) (hJ : zJok J)  (r : Int32) (I' : zM) (hf : f_X3_present J  I = some (r, I')) : zCi B zKW I J yX3_present wsX3_present rmX3_present [.ref (za B 1)] (fun r2 I2 J2 => r2 = r ∧ I2 = I' ∧ J2 = J) := by
  refine z_start (own := RX3) (cc := cX3_present) (nL := 6) (ret := (some .int)) rfl (by decide) rfl (Nat.le_of_ble_eq_true rfl) (L := [(0, .ref (za B 1))]) rfl (fun G h hr => ?_)
  rw [f_X3_present] at hf
  refine z_iconst h 0 dX3_present_0 (by decide) (rfl : 0 + 1 = 1) ?_
  refine z_istore_n h [(1, .int 0), (0, .ref (za B 1))] dX3_present_1 (by decide) rfl (rfl : 1 + 1 = 2) ?_
  refine z_aload_n h 1 dX3_present_2 rfl (rfl : 2 + 1 = 3) ?_
  refine z_getr (ci := 3) (C := RX3) (T := TX3) (N := 4) h 0 2 ((hJ.1 1 0 (by decide)).trans rfl) rfl rfl (fun _ hq => List.mem_cons_of_mem _ (List.mem_append_right _ hq)) (by decide) (List.mem_of_getElem? (i := 1) rfl) rfl dX3_present_3 (rfl : 3 + 3 = 6) ?_
  refine z_astore_n h [(2, .ref (za B 2)), (1, .int 0), (0, .ref (za B 1))] dX3_present_6 (by decide) rfl (rfl : 6 + 1 = 7) ?_
  refine z_aload_n h 0 dX3_present_7 rfl (rfl : 7 + 1 = 8) ?_
  refine z_alen h 6 rfl (by decide) (by decide) dX3_present_8 (rfl : 8 + 1 = 9) ?_
  refine z_istore_n h [(3, .int 6), (2, .ref (za B 2)), (1, .int 0), (0, .ref (za B 1))] dX3_present_9 (by decide) rfl (rfl : 9 + 1 = 10) ?_
  refine z_iconst h 0 dX3_present_10 (by decide) (rfl : 10 + 1 = 11) ?_
  refine z_istore h [(4, .int 0), (3, .int 6), (2, .ref (za B 2)), (1, .int 0), (0, .ref (za B 1))] dX3_present_11 (by decide) rfl (rfl : 11 + 2 = 13) ?_
  have loop_13_2 : ∀ (n : Nat) (x1_13 : Int32) (x4_13 : Int32) (I13 : zM) (q : (Int32 × zM) ⊕ (Int32 × Int32 × zM)), f_X3_present_13 J 6 n x1_13 x4_13 I13 = some q → (∀ a, q = .inl a → a = (r, I')) → (∀ a : Int32 × Int32 × zM, q = .inr a → Z B G zKW (a.2.2) (J) (0, 0) 44 [(0, .ref (za B 1)), (1, .int a.1), (2, .ref (za B 2)), (3, .int 6), (4, .int a.2.1)] []) → Z B G zKW I13 J (0, 0) 13 [(0, .ref (za B 1)), (1, .int x1_13), (2, .ref (za B 2)), (3, .int 6), (4, .int x4_13)] [] := by
    intro n; induction n with
    | zero => intro x1_13 x4_13 I13 q hf; exact absurd hf (by rw [f_X3_present_13]; exact fun z => by cases z)
    | succ n ih =>
      intro x1_13 x4_13 I13 q hf hP hE; rw [f_X3_present_13] at hf
      refine z_iload h 4 dX3_present_13 rfl (rfl : 13 + 2 = 15) ?_
      refine z_iload_n h 3 dX3_present_15 rfl (rfl : 15 + 1 = 16) ?_
      refine z_icmp_ge (pc' := 19) h 44 dX3_present_16 (by decide) rfl (fun c3 => ?_) (fun c3 => ?_)
      · have hf := zitt c3 hf
        exact hE (x1_13, x4_13, I13) (zsome hf).symm
      · have hf := zitf c3 hf
        refine z_aload_n h 2 dX3_present_19 rfl (rfl : 19 + 1 = 20) ?_
        refine z_iload h 4 dX3_present_20 rfl (rfl : 20 + 2 = 22) ?_
        obtain ⟨b4, hf⟩ := zchk hf
        refine z_iald h rfl b4 dX3_present_22 (rfl : 22 + 1 = 23) ?_
        refine z_istore h [(5, .int (I13 2 (Int32.toNatClampNeg x4_13))), (0, .ref (za B 1)), (1, .int x1_13), (2, .ref (za B 2)), (3, .int 6), (4, .int x4_13)] dX3_present_23 (by decide) rfl (rfl : 23 + 2 = 25) ?_
        refine z_iload_n h 2 dX3_present_25 rfl (rfl : 25 + 1 = 26) ?_
        refine z_iload h 0 dX3_present_26 rfl (rfl : 26 + 2 = 28) ?_
        refine z_if_le (pc' := 31) h 35 dX3_present_28 (by decide) rfl (fun c5 => ?_) (fun c5 => ?_)
        · have hf := zitt c5 hf
          refine z_iconst h 0 dX3_present_35 (by decide) (rfl : 35 + 1 = 36) ?_
          refine z_iadd h dX3_present_36 (rfl : 36 + 1 = 37) ?_
          refine z_istore_n h [(1, .int (x1_13 + (0 : Int32))), (5, .int (I13 2 (Int32.toNatClampNeg x4_13))), (0, .ref (za B 1)), (2, .ref (za B 2)), (3, .int 6), (4, .int x4_13)] dX3_present_37 (by decide) rfl (rfl : 37 + 1 = 38) ?_
          refine z_iinc h 5 (x4_13 + 1) [(4, .int (x4_13 + 1)), (1, .int (x1_13 + (0 : Int32))), (5, .int (I13 2 (Int32.toNatClampNeg x4_13))), (0, .ref (za B 1)), (2, .ref (za B 2)), (3, .int 6)] dX3_present_38 rfl rfl (by decide) rfl (rfl : 38 + 3 = 41) ?_
          refine z_goto (pc' := 13) h dX3_present_41 (by decide) ?_
          refine z_sub (L' := [(0, .ref (za B 1)), (1, .int (x1_13 + (0 : Int32))), (2, .ref (za B 2)), (3, .int 6), (4, .int (x4_13 + 1))]) [3, 1, 4, 5, 0] rfl ?_
          exact ih (x1_13 + (0 : Int32)) (x4_13 + 1) I13 _ hf hP hE
        · have hf := zitf c5 hf
          refine z_iconst h 1 dX3_present_31 (by decide) (rfl : 31 + 1 = 32) ?_
          refine z_goto (pc' := 36) h dX3_present_32 (by decide) ?_
          refine z_iadd h dX3_present_36 (rfl : 36 + 1 = 37) ?_
          refine z_istore_n h [(1, .int (x1_13 + (1 : Int32))), (5, .int (I13 2 (Int32.toNatClampNeg x4_13))), (0, .ref (za B 1)), (2, .ref (za B 2)), (3, .int 6), (4, .int x4_13)] dX3_present_37 (by decide) rfl (rfl : 37 + 1 = 38) ?_
          refine z_iinc h 5 (x4_13 + 1) [(4, .int (x4_13 + 1)), (1, .int (x1_13 + (1 : Int32))), (5, .int (I13 2 (Int32.toNatClampNeg x4_13))), (0, .ref (za B 1)), (2, .ref (za B 2)), (3, .int 6)] dX3_present_38 rfl rfl (by decide) rfl (rfl : 38 + 3 = 41) ?_
          refine z_goto (pc' := 13) h dX3_present_41 (by decide) ?_
          refine z_sub (L' := [(0, .ref (za B 1)), (1, .int (x1_13 + (1 : Int32))), (2, .ref (za B 2)), (3, .int 6), (4, .int (x4_13 + 1))]) [3, 1, 4, 5, 0] rfl ?_
          exact ih (x1_13 + (1 : Int32)) (x4_13 + 1) I13 _ hf hP hE
  refine z_sub (L' := [(0, .ref (za B 1)), (1, .int 0), (2, .ref (za B 2)), (3, .int 6), (4, .int 0)]) [4, 3, 2, 1, 0] rfl ?_
  obtain ⟨q1, e2, hf⟩ := zbind hf
  refine loop_13_2 _ 0 0 I q1 e2 (fun a ha => ?_) (fun a6 ha  => ?_)
  · have hf := zell ha hf
    exact zsome hf
  have hf := zelr ha hf
  clear ha loop_13_2
  refine z_iload_n h 1 dX3_present_44 rfl (rfl : 44 + 1 = 45) ?_
  refine z_iret h hr dX3_present_45 ?_
  exact ⟨congrArg Prod.fst (zsome hf), congrArg Prod.snd (zsome hf), rfl⟩
noncomputable def f_X4_clear (J : zJ) (p0 : Nat) (I : zM) : Option (zM) := some (zu I p0 1 0)
noncomputable abbrev rmX4_clear : Room := { frames := 0, cells := 0, slots := 0, locals := 0 }
theorem zyX4_clear : zY yX4_clear wsX4_clear cX4_clear 1 none 0 := ⟨⟨_, rfl⟩, by decide +kernel⟩
set_option maxHeartbeats 1000000 in
set_option maxRecDepth 100000 in
theorem c_X4_clear (B : zB) (I : zM) (J : zJ) (hJ : zJok J) (p0 : Nat) (k0 : zKW[p0]? = some (.inr 4)) (I' : zM) (hf : f_X4_clear J p0 I = some I') : zCv B zKW I J yX4_clear wsX4_clear rmX4_clear [.ref (za B p0)] (fun I2 J2 => I2 = I' ∧ J2 = J) := by
  refine z_start (own := RX4) (cc := cX4_clear) (nL := 1) (ret := none) rfl (by decide) rfl (Nat.le_of_ble_eq_true rfl) (L := [(0, .ref (za B p0))]) rfl (fun G h hr => ?_)
  rw [f_X4_clear] at hf
  refine z_aload_n h 0 dX4_clear_0 rfl (rfl : 0 + 1 = 1) ?_
  refine z_iconst h 0 dX4_clear_1 (by decide) (rfl : 1 + 1 = 2) ?_
  refine z_put (ci := 4) (C := RX4) (T := TX4) (N := 2) h 1 tyX4 tyX4_ok nmX4 k0 rfl (fun _ hq => List.mem_cons_of_mem _ (List.mem_append_right _ hq)) (by decide) (List.mem_of_getElem? (i := 1) rfl) rfl rfl rfl dX4_clear_2 (rfl : 2 + 3 = 5) ?_
  refine z_vret h hr dX4_clear_5 ?_
  exact ⟨(zsome hf), rfl⟩
noncomputable def f_X4_has_2 (J : zJ) (r0 : Nat) (u1 : Int32) : Nat → Int32 → zM → Option ((Int32 × zM) ⊕ (Int32 × zM))
  | 0, _, _ => none
  | n + 1, x2_2, I2 => (if I2 r0 1 ≤ x2_2 then some (.inr (x2_2, I2)) else (if zin x2_2 5 = true then (if I2 (zR r0 0) (Int32.toNatClampNeg x2_2) = u1 then some (.inl ((1, I2))) else f_X4_has_2 J r0 u1 n (x2_2 + 1) I2) else none))
noncomputable def f_X4_has (J : zJ) (p0 : Nat) (v1 : Int32) (I : zM) : Option (Int32 × zM) := ((f_X4_has_2 J p0 v1 zF 0 I).bind fun q => Sum.elim (fun a => some a) (fun a3 => some ((0, a3.2))) q)
noncomputable abbrev rmX4_has : Room := { frames := 0, cells := 0, slots := 0, locals := 0 }
theorem zyX4_has : zY yX4_has wsX4_has cX4_has 3 (some .boolean) 1 := ⟨⟨_, rfl⟩, by decide +kernel⟩
set_option maxHeartbeats 1000000 in
set_option maxRecDepth 100000 in
theorem c_X4_has (B : zB) (I : zM) (J : zJ) (hJ : zJok J) (p0 : Nat) (k0 : zKW[p0]? = some (.inr 4)) (v1 : Int32) (r : Int32) (I' : zM) (hf : f_X4_has J p0 v1 I = some (r, I')) : zCi B zKW I J yX4_has wsX4_has rmX4_has [.ref (za B p0), .int v1] (fun r2 I2 J2 => r2 = r ∧ I2 = I' ∧ J2 = J) := by
  refine z_start (own := RX4) (cc := cX4_has) (nL := 3) (ret := (some .boolean)) rfl (by decide) rfl (Nat.le_of_ble_eq_true rfl) (L := [(0, .ref (za B p0)), (1, .int v1)]) rfl (fun G h hr => ?_)
  rw [f_X4_has] at hf
  refine z_iconst h 0 dX4_has_0 (by decide) (rfl : 0 + 1 = 1) ?_
  refine z_istore_n h [(2, .int 0), (0, .ref (za B p0)), (1, .int v1)] dX4_has_1 (by decide) rfl (rfl : 1 + 1 = 2) ?_
  have loop_2_2 : ∀ (n : Nat) (x2_2 : Int32) (I2 : zM) (q : (Int32 × zM) ⊕ (Int32 × zM)), f_X4_has_2 J p0 v1 n x2_2 I2 = some q → (∀ a, q = .inl a → a = (r, I')) → (∀ a : Int32 × zM, q = .inr a → Z B G zKW (a.2) (J) (0, 0) 28 [(0, .ref (za B p0)), (1, .int v1), (2, .int a.1)] []) → Z B G zKW I2 J (0, 0) 2 [(0, .ref (za B p0)), (1, .int v1), (2, .int x2_2)] [] := by
    intro n; induction n with
    | zero => intro x2_2 I2 q hf; exact absurd hf (by rw [f_X4_has_2]; exact fun z => by cases z)
    | succ n ih =>
      intro x2_2 I2 q hf hP hE; rw [f_X4_has_2] at hf
      refine z_iload_n h 2 dX4_has_2 rfl (rfl : 2 + 1 = 3) ?_
      refine z_aload_n h 0 dX4_has_3 rfl (rfl : 3 + 1 = 4) ?_
      refine z_get (ci := 4) (C := RX4) (T := TX4) (N := 2) h 1 k0 rfl (fun _ hq => List.mem_cons_of_mem _ (List.mem_append_right _ hq)) (by decide) (List.mem_of_getElem? (i := 1) rfl) rfl dX4_has_4 (rfl : 4 + 3 = 7) ?_
      refine z_icmp_ge (pc' := 10) h 28 dX4_has_7 (by decide) rfl (fun c3 => ?_) (fun c3 => ?_)
      · have hf := zitt c3 hf
        exact hE (x2_2, I2) (zsome hf).symm
      · have hf := zitf c3 hf
        refine z_aload_n h 0 dX4_has_10 rfl (rfl : 10 + 1 = 11) ?_
        refine z_getr (ci := 4) (C := RX4) (T := TX4) (N := 2) h 0 (zR p0 0) (zf_4_0 hJ k0).1 k0 rfl (fun _ hq => List.mem_cons_of_mem _ (List.mem_append_right _ hq)) (by decide) (List.mem_of_getElem? (i := 2) rfl) rfl dX4_has_11 (rfl : 11 + 3 = 14) ?_
        refine z_iload_n h 2 dX4_has_14 rfl (rfl : 14 + 1 = 15) ?_
        obtain ⟨b4, hf⟩ := zchk hf
        refine z_iald h (zf_4_0 hJ k0).2 b4 dX4_has_15 (rfl : 15 + 1 = 16) ?_
        refine z_iload_n h 1 dX4_has_16 rfl (rfl : 16 + 1 = 17) ?_
        refine z_icmp_ne (pc' := 20) h 22 dX4_has_17 (by decide) rfl (fun c5 => ?_) (fun c5 => ?_)
        · have hf := zitf c5 hf
          refine z_iinc h 2 (x2_2 + 1) [(2, .int (x2_2 + 1)), (0, .ref (za B p0)), (1, .int v1)] dX4_has_22 rfl rfl (by decide) rfl (rfl : 22 + 3 = 25) ?_
          refine z_goto (pc' := 2) h dX4_has_25 (by decide) ?_
          refine z_sub (L' := [(0, .ref (za B p0)), (1, .int v1), (2, .int (x2_2 + 1))]) [1, 2, 0] rfl ?_
          exact ih (x2_2 + 1) I2 _ hf hP hE
        · have hf := zitt c5 hf
          refine z_iconst h 1 dX4_has_20 (by decide) (rfl : 20 + 1 = 21) ?_
          refine z_zret h hr dX4_has_21 (Or.inr rfl) ?_
          exact ⟨congrArg Prod.fst (hP _ (zsome hf).symm), congrArg Prod.snd (hP _ (zsome hf).symm), rfl⟩
  refine z_sub (L' := [(0, .ref (za B p0)), (1, .int v1), (2, .int 0)]) [1, 2, 0] rfl ?_
  obtain ⟨q1, e2, hf⟩ := zbind hf
  refine loop_2_2 _ 0 I q1 e2 (fun a ha => ?_) (fun a6 ha  => ?_)
  · have hf := zell ha hf
    exact zsome hf
  have hf := zelr ha hf
  clear ha loop_2_2
  refine z_iconst h 0 dX4_has_28 (by decide) (rfl : 28 + 1 = 29) ?_
  refine z_zret h hr dX4_has_29 (Or.inl rfl) ?_
  exact ⟨congrArg Prod.fst (zsome hf), congrArg Prod.snd (zsome hf), rfl⟩
noncomputable def f_X4_isWhole (J : zJ) (p0 : Nat) (v1 : Int32) (I : zM) : Option (Int32 × zM) := (if I p0 1 ≤ 0 then some ((0, I)) else some ((1, I)))
noncomputable abbrev rmX4_isWhole : Room := { frames := 0, cells := 0, slots := 0, locals := 0 }
theorem zyX4_isWhole : zY yX4_isWhole wsX4_isWhole cX4_isWhole 2 (some .boolean) 1 := ⟨⟨_, rfl⟩, by decide +kernel⟩
set_option maxHeartbeats 1000000 in
set_option maxRecDepth 100000 in
theorem c_X4_isWhole (B : zB) (I : zM) (J : zJ) (hJ : zJok J) (p0 : Nat) (k0 : zKW[p0]? = some (.inr 4)) (v1 : Int32) (r : Int32) (I' : zM) (hf : f_X4_isWhole J p0 v1 I = some (r, I')) : zCi B zKW I J yX4_isWhole wsX4_isWhole rmX4_isWhole [.ref (za B p0), .int v1] (fun r2 I2 J2 => r2 = r ∧ I2 = I' ∧ J2 = J) := by
  refine z_start (own := RX4) (cc := cX4_isWhole) (nL := 2) (ret := (some .boolean)) rfl (by decide) rfl (Nat.le_of_ble_eq_true rfl) (L := [(0, .ref (za B p0)), (1, .int v1)]) rfl (fun G h hr => ?_)
  rw [f_X4_isWhole] at hf
  refine z_aload_n h 0 dX4_isWhole_0 rfl (rfl : 0 + 1 = 1) ?_
  refine z_get (ci := 4) (C := RX4) (T := TX4) (N := 2) h 1 k0 rfl (fun _ hq => List.mem_cons_of_mem _ (List.mem_append_right _ hq)) (by decide) (List.mem_of_getElem? (i := 1) rfl) rfl dX4_isWhole_1 (rfl : 1 + 3 = 4) ?_
  refine z_if_le (pc' := 7) h 11 dX4_isWhole_4 (by decide) rfl (fun c1 => ?_) (fun c1 => ?_)
  · have hf := zitt c1 hf
    refine z_iconst h 0 dX4_isWhole_11 (by decide) (rfl : 11 + 1 = 12) ?_
    refine z_zret h hr dX4_isWhole_12 (Or.inl rfl) ?_
    exact ⟨congrArg Prod.fst (zsome hf), congrArg Prod.snd (zsome hf), rfl⟩
  · have hf := zitf c1 hf
    refine z_iconst h 1 dX4_isWhole_7 (by decide) (rfl : 7 + 1 = 8) ?_
    refine z_goto (pc' := 12) h dX4_isWhole_8 (by decide) ?_
    refine z_zret h hr dX4_isWhole_12 (Or.inr rfl) ?_
    exact ⟨congrArg Prod.fst (zsome hf), congrArg Prod.snd (zsome hf), rfl⟩
noncomputable def f_X4_copy (J : zJ) (p0 : Nat) (p1 : Nat) (I : zM) : Option (zM) := some (zu (zcp I (zR p1 0) (zR p0 0) 5) p0 1 ((zcp I (zR p1 0) (zR p0 0) 5) p1 1))
noncomputable abbrev rmX4_copy : Room := { frames := 1, cells := 0, slots := 0, locals := 26 }
theorem zyX4_copy : zY yX4_copy wsX4_copy cX4_copy 2 none 1 := ⟨⟨_, rfl⟩, by decide +kernel⟩
set_option maxHeartbeats 1000000 in
set_option maxRecDepth 100000 in
theorem c_X4_copy (B : zB) (I : zM) (J : zJ) (hJ : zJok J) (p0 : Nat) (k0 : zKW[p0]? = some (.inr 4)) (p1 : Nat) (k1 : zKW[p1]? = some (.inr 4)) (I' : zM) (hf : f_X4_copy J p0 p1 I = some I') : zCv B zKW I J yX4_copy wsX4_copy rmX4_copy [.ref (za B p0), .ref (za B p1)] (fun I2 J2 => I2 = I' ∧ J2 = J) := by
  refine z_start (own := RX4) (cc := cX4_copy) (nL := 2) (ret := none) rfl (by decide) rfl (Nat.le_of_ble_eq_true rfl) (L := [(0, .ref (za B p0)), (1, .ref (za B p1))]) rfl (fun G h hr => ?_)
  rw [f_X4_copy] at hf
  refine z_aload_n h 1 dX4_copy_0 rfl (rfl : 0 + 1 = 1) ?_
  refine z_getr (ci := 4) (C := RX4) (T := TX4) (N := 2) h 0 (zR p1 0) (zf_4_0 hJ k1).1 k1 rfl (fun _ hq => List.mem_cons_of_mem _ (List.mem_append_right _ hq)) (by decide) (List.mem_of_getElem? (i := 1) rfl) rfl dX4_copy_1 (rfl : 1 + 3 = 4) ?_
  refine z_iconst h 0 dX4_copy_4 (by decide) (rfl : 4 + 1 = 5) ?_
  refine z_aload_n h 0 dX4_copy_5 rfl (rfl : 5 + 1 = 6) ?_
  refine z_getr (ci := 4) (C := RX4) (T := TX4) (N := 2) h 0 (zR p0 0) (zf_4_0 hJ k0).1 k0 rfl (fun _ hq => List.mem_cons_of_mem _ (List.mem_append_right _ hq)) (by decide) (List.mem_of_getElem? (i := 1) rfl) rfl dX4_copy_6 (rfl : 6 + 3 = 9) ?_
  refine z_iconst h 0 dX4_copy_9 (by decide) (rfl : 9 + 1 = 10) ?_
  refine z_aload_n h 0 dX4_copy_10 rfl (rfl : 10 + 1 = 11) ?_
  refine z_getr (ci := 4) (C := RX4) (T := TX4) (N := 2) h 0 (zR p0 0) (zf_4_0 hJ k0).1 k0 rfl (fun _ hq => List.mem_cons_of_mem _ (List.mem_append_right _ hq)) (by decide) (List.mem_of_getElem? (i := 1) rfl) rfl dX4_copy_11 (rfl : 11 + 3 = 14) ?_
  refine z_alen h 5 (zf_4_0 hJ k0).2 (by decide) (by decide) dX4_copy_14 (rfl : 14 + 1 = 15) ?_
  refine z_copy (n := 5) h (zf_4_0 hJ k1).2 (zf_4_0 hJ k0).2 (by decide) (by decide) (by decide) (by decide) (by decide) (fun _ _ => rfl) (List.mem_of_getElem? (i := 2) rfl) (List.mem_of_getElem? (i := 3) rfl) (List.mem_of_getElem? (i := 4) rfl) (List.mem_of_getElem? (i := 5) rfl) (by decide) dX4_copy_15 (rfl : 15 + 3 = 18) ?_
  refine z_aload_n h 0 dX4_copy_18 rfl (rfl : 18 + 1 = 19) ?_
  refine z_aload_n h 1 dX4_copy_19 rfl (rfl : 19 + 1 = 20) ?_
  refine z_get (ci := 4) (C := RX4) (T := TX4) (N := 2) h 1 k1 rfl (fun _ hq => List.mem_cons_of_mem _ (List.mem_append_right _ hq)) (by decide) (List.mem_of_getElem? (i := 6) rfl) rfl dX4_copy_20 (rfl : 20 + 3 = 23) ?_
  refine z_put (ci := 4) (C := RX4) (T := TX4) (N := 2) h 1 tyX4 tyX4_ok nmX4 k0 rfl (fun _ hq => List.mem_cons_of_mem _ (List.mem_append_right _ hq)) (by decide) (List.mem_of_getElem? (i := 6) rfl) rfl rfl rfl dX4_copy_23 (rfl : 23 + 3 = 26) ?_
  refine z_vret h hr dX4_copy_26 ?_
  exact ⟨(zsome hf), rfl⟩
noncomputable def f_X4_swap (J : zJ) (p0 : Nat) (v1 : Int32) (I : zM) : Option (zM) := (if v1 < 0 then some (I) else (if I p0 1 ≤ v1 + (1 : Int32) then some (I) else (if zin v1 5 = true then (if zin (v1 + (1 : Int32)) 5 = true then (if zin v1 5 = true then (if zin (v1 + (1 : Int32)) 5 = true then some (zu (zu I (zR p0 0) (Int32.toNatClampNeg v1) (I (zR p0 0) (Int32.toNatClampNeg (v1 + (1 : Int32))))) (zR p0 0) (Int32.toNatClampNeg (v1 + (1 : Int32))) (I (zR p0 0) (Int32.toNatClampNeg v1))) else none) else none) else none) else none)))
noncomputable abbrev rmX4_swap : Room := { frames := 0, cells := 0, slots := 0, locals := 0 }
theorem zyX4_swap : zY yX4_swap wsX4_swap cX4_swap 3 none 1 := ⟨⟨_, rfl⟩, by decide +kernel⟩
set_option maxHeartbeats 1000000 in
set_option maxRecDepth 100000 in
theorem c_X4_swap (B : zB) (I : zM) (J : zJ) (hJ : zJok J) (p0 : Nat) (k0 : zKW[p0]? = some (.inr 4)) (v1 : Int32) (I' : zM) (hf : f_X4_swap J p0 v1 I = some I') : zCv B zKW I J yX4_swap wsX4_swap rmX4_swap [.ref (za B p0), .int v1] (fun I2 J2 => I2 = I' ∧ J2 = J) := by
  refine z_start (own := RX4) (cc := cX4_swap) (nL := 3) (ret := none) rfl (by decide) rfl (Nat.le_of_ble_eq_true rfl) (L := [(0, .ref (za B p0)), (1, .int v1)]) rfl (fun G h hr => ?_)
  rw [f_X4_swap] at hf
  refine z_iload_n h 1 dX4_swap_0 rfl (rfl : 0 + 1 = 1) ?_
  refine z_if_lt (pc' := 4) h 44 dX4_swap_1 (by decide) rfl (fun c1 => ?_) (fun c1 => ?_)
  · have hf := zitt c1 hf
    refine z_vret h hr dX4_swap_44 ?_
    exact ⟨(zsome hf), rfl⟩
  · have hf := zitf c1 hf
    refine z_iload_n h 1 dX4_swap_4 rfl (rfl : 4 + 1 = 5) ?_
    refine z_iconst h 1 dX4_swap_5 (by decide) (rfl : 5 + 1 = 6) ?_
    refine z_iadd h dX4_swap_6 (rfl : 6 + 1 = 7) ?_
    refine z_aload_n h 0 dX4_swap_7 rfl (rfl : 7 + 1 = 8) ?_
    refine z_get (ci := 4) (C := RX4) (T := TX4) (N := 2) h 1 k0 rfl (fun _ hq => List.mem_cons_of_mem _ (List.mem_append_right _ hq)) (by decide) (List.mem_of_getElem? (i := 1) rfl) rfl dX4_swap_8 (rfl : 8 + 3 = 11) ?_
    refine z_icmp_ge (pc' := 14) h 44 dX4_swap_11 (by decide) rfl (fun c2 => ?_) (fun c2 => ?_)
    · have hf := zitt c2 hf
      refine z_vret h hr dX4_swap_44 ?_
      exact ⟨(zsome hf), rfl⟩
    · have hf := zitf c2 hf
      refine z_aload_n h 0 dX4_swap_14 rfl (rfl : 14 + 1 = 15) ?_
      refine z_getr (ci := 4) (C := RX4) (T := TX4) (N := 2) h 0 (zR p0 0) (zf_4_0 hJ k0).1 k0 rfl (fun _ hq => List.mem_cons_of_mem _ (List.mem_append_right _ hq)) (by decide) (List.mem_of_getElem? (i := 2) rfl) rfl dX4_swap_15 (rfl : 15 + 3 = 18) ?_
      refine z_iload_n h 1 dX4_swap_18 rfl (rfl : 18 + 1 = 19) ?_
      obtain ⟨b3, hf⟩ := zchk hf
      refine z_iald h (zf_4_0 hJ k0).2 b3 dX4_swap_19 (rfl : 19 + 1 = 20) ?_
      refine z_istore_n h [(2, .int (I (zR p0 0) (Int32.toNatClampNeg v1))), (0, .ref (za B p0)), (1, .int v1)] dX4_swap_20 (by decide) rfl (rfl : 20 + 1 = 21) ?_
      refine z_aload_n h 1 dX4_swap_21 rfl (rfl : 21 + 1 = 22) ?_
      refine z_getr (ci := 4) (C := RX4) (T := TX4) (N := 2) h 0 (zR p0 0) (zf_4_0 hJ k0).1 k0 rfl (fun _ hq => List.mem_cons_of_mem _ (List.mem_append_right _ hq)) (by decide) (List.mem_of_getElem? (i := 2) rfl) rfl dX4_swap_22 (rfl : 22 + 3 = 25) ?_
      refine z_iload_n h 2 dX4_swap_25 rfl (rfl : 25 + 1 = 26) ?_
      refine z_aload_n h 1 dX4_swap_26 rfl (rfl : 26 + 1 = 27) ?_
      refine z_getr (ci := 4) (C := RX4) (T := TX4) (N := 2) h 0 (zR p0 0) (zf_4_0 hJ k0).1 k0 rfl (fun _ hq => List.mem_cons_of_mem _ (List.mem_append_right _ hq)) (by decide) (List.mem_of_getElem? (i := 2) rfl) rfl dX4_swap_27 (rfl : 27 + 3 = 30) ?_
      refine z_iload_n h 2 dX4_swap_30 rfl (rfl : 30 + 1 = 31) ?_
      refine z_iconst h 1 dX4_swap_31 (by decide) (rfl : 31 + 1 = 32) ?_
      refine z_iadd h dX4_swap_32 (rfl : 32 + 1 = 33) ?_
      obtain ⟨b4, hf⟩ := zchk hf
      refine z_iald h (zf_4_0 hJ k0).2 b4 dX4_swap_33 (rfl : 33 + 1 = 34) ?_
      obtain ⟨b5, hf⟩ := zchk hf
      refine z_iast h b5 (zf_4_0 hJ k0).2 dX4_swap_34 (rfl : 34 + 1 = 35) ?_
      refine z_aload_n h 1 dX4_swap_35 rfl (rfl : 35 + 1 = 36) ?_
      refine z_getr (ci := 4) (C := RX4) (T := TX4) (N := 2) h 0 (zR p0 0) (zf_4_0 hJ k0).1 k0 rfl (fun _ hq => List.mem_cons_of_mem _ (List.mem_append_right _ hq)) (by decide) (List.mem_of_getElem? (i := 2) rfl) rfl dX4_swap_36 (rfl : 36 + 3 = 39) ?_
      refine z_iload_n h 2 dX4_swap_39 rfl (rfl : 39 + 1 = 40) ?_
      refine z_iconst h 1 dX4_swap_40 (by decide) (rfl : 40 + 1 = 41) ?_
      refine z_iadd h dX4_swap_41 (rfl : 41 + 1 = 42) ?_
      refine z_iload_n h 0 dX4_swap_42 rfl (rfl : 42 + 1 = 43) ?_
      obtain ⟨b6, hf⟩ := zchk hf
      refine z_iast h b6 (zf_4_0 hJ k0).2 dX4_swap_43 (rfl : 43 + 1 = 44) ?_
      refine z_vret h hr dX4_swap_44 ?_
      exact ⟨(zsome hf), rfl⟩
noncomputable def f_X5_take_58 (J : zJ) (r1 : Nat) (r2 : Nat) (u3 : Int32) : Nat → Int32 → zM → Option ((zM) ⊕ (Int32 × zM))
  | 0, _, _ => none
  | n + 1, x4_58, I58 => (if 6 ≤ x4_58 then some (.inr (x4_58, I58)) else (if zin x4_58 6 = true then (if zin x4_58 6 = true then ((f_X1_valueBefore J r2 ((zu I58 40 (Int32.toNatClampNeg x4_58) (I58 (zR (zR r1 3) 0) (Int32.toNatClampNeg x4_58))) r1 0) ((zu I58 40 (Int32.toNatClampNeg x4_58) (I58 (zR (zR r1 3) 0) (Int32.toNatClampNeg x4_58))) r1 1) x4_58 ((zu I58 40 (Int32.toNatClampNeg x4_58) (I58 (zR (zR r1 3) 0) (Int32.toNatClampNeg x4_58))) 5 0) (zu I58 40 (Int32.toNatClampNeg x4_58) (I58 (zR (zR r1 3) 0) (Int32.toNatClampNeg x4_58)))).bind fun q7 => (if zin x4_58 6 = true then (if u3 = 0 then (if zin x4_58 6 = true then f_X5_take_58 J r1 r2 u3 n (x4_58 + 1) (zu (zu q7.2 41 (Int32.toNatClampNeg x4_58) q7.1) 42 (Int32.toNatClampNeg x4_58) 0) else none) else ((f_X1_customOf J r2 ((zu q7.2 41 (Int32.toNatClampNeg x4_58) q7.1) 39 5) x4_58 (zu q7.2 41 (Int32.toNatClampNeg x4_58) q7.1)).bind fun q12 => (if zin x4_58 6 = true then f_X5_take_58 J r1 r2 u3 n (x4_58 + 1) (zu q12.2 42 (Int32.toNatClampNeg x4_58) q12.1) else none))) else none)) else none) else none))
noncomputable def f_X5_take (J : zJ) (p1 : Nat) (p2 : Nat) (I : zM) : Option (zM) := ((f_X1_isKnown J p2 ((zu (zu I 39 5 (I p1 2)) 39 6 ((zu I 39 5 (I p1 2)) (zR p1 3) 1)) p1 0) ((zu (zu I 39 5 (I p1 2)) 39 6 ((zu I 39 5 (I p1 2)) (zR p1 3) 1)) 39 5) (zu (zu I 39 5 (I p1 2)) 39 6 ((zu I 39 5 (I p1 2)) (zR p1 3) 1))).bind fun q1 => (if q1.1 = 0 then ((f_X5_take_58 J p1 p2 0 zF 0 q1.2).bind fun q => Sum.elim (fun a => some a) (fun a6 => some (a6.2)) q) else ((f_X1_isKnown J p2 (q1.2 p1 1) (q1.2 39 5) q1.2).bind fun q7 => (if q7.1 = 0 then ((f_X5_take_58 J p1 p2 0 zF 0 q7.2).bind fun q => Sum.elim (fun a => some a) (fun a12 => some (a12.2)) q) else ((f_X5_take_58 J p1 p2 1 zF 0 q7.2).bind fun q => Sum.elim (fun a => some a) (fun a15 => some (a15.2)) q)))))
noncomputable abbrev rmX5_take : Room := { frames := 2, cells := 0, slots := 0, locals := 50 }
theorem zyX5_take : zY yX5_take wsX5_take cX5_take 5 none 2 := ⟨⟨_, rfl⟩, by decide +kernel⟩
theorem zrX5_take_X1_customOf : zRm rmX1_customOf rmX5_take 6 := ⟨rfl, rfl, by decide, by decide⟩
theorem zrX5_take_X1_isKnown : zRm rmX1_isKnown rmX5_take 4 := ⟨rfl, rfl, by decide, by decide⟩
theorem zrX5_take_X1_valueBefore : zRm rmX1_valueBefore rmX5_take 8 := ⟨rfl, rfl, by decide, by decide⟩
set_option maxHeartbeats 1000000 in
set_option maxRecDepth 100000 in
theorem c_X5_take (B : zB) (I : zM) (J : zJ) (hJ : zJok J) (p1 : Nat) (k1 : zKW[p1]? = some (.inr 0)) (p2 : Nat) (k2 : zKW[p2]? = some (.inr 1)) (I' : zM) (hf : f_X5_take J p1 p2 I = some I') : zCv B zKW I J yX5_take wsX5_take rmX5_take [.ref (za B 39), .ref (za B p1), .ref (za B p2)] (fun I2 J2 => I2 = I' ∧ J2 = J) := by
  refine z_start (own := RX5) (cc := cX5_take) (nL := 5) (ret := none) rfl (by decide) rfl (Nat.le_of_ble_eq_true rfl) (L := [(0, .ref (za B 39)), (1, .ref (za B p1)), (2, .ref (za B p2))]) rfl (fun G h hr => ?_)
  rw [f_X5_take] at hf
  refine z_aload_n h 0 dX5_take_0 rfl (rfl : 0 + 1 = 1) ?_
  refine z_aload_n h 1 dX5_take_1 rfl (rfl : 1 + 1 = 2) ?_
  refine z_get (ci := 0) (C := RX0) (T := TX0) (N := 5) h 2 k1 rfl (fun _ hq => List.mem_cons_of_mem _ (List.mem_append_left _ (List.mem_append_left _ (List.mem_append_left _ (List.mem_append_right _ hq))))) (by decide) (List.mem_of_getElem? (i := 1) rfl) rfl dX5_take_2 (rfl : 2 + 3 = 5) ?_
  refine z_put (ci := 5) (C := RX5) (T := TX5) (N := 17) h 5 tyX5 tyX5_ok nmX5 rfl rfl (fun _ hq => List.mem_cons_of_mem _ (List.mem_append_left _ (List.mem_append_left _ (List.mem_append_right _ hq)))) (by decide) (List.mem_of_getElem? (i := 2) rfl) rfl rfl rfl dX5_take_5 (rfl : 5 + 3 = 8) ?_
  refine z_aload_n h 0 dX5_take_8 rfl (rfl : 8 + 1 = 9) ?_
  refine z_aload_n h 1 dX5_take_9 rfl (rfl : 9 + 1 = 10) ?_
  refine z_getr (ci := 0) (C := RX0) (T := TX0) (N := 5) h 3 (zR p1 3) (zf_0_3 hJ k1).1 k1 rfl (fun _ hq => List.mem_cons_of_mem _ (List.mem_append_left _ (List.mem_append_left _ (List.mem_append_left _ (List.mem_append_right _ hq))))) (by decide) (List.mem_of_getElem? (i := 3) rfl) rfl dX5_take_10 (rfl : 10 + 3 = 13) ?_
  refine z_get (ci := 8) (C := RX8) (T := TX8) (N := 3) h 1 (zf_0_3 hJ k1).2 rfl (fun _ hq => List.mem_cons_of_mem _ (List.mem_append_left _ (List.mem_append_right _ hq))) (by decide) (List.mem_of_getElem? (i := 4) rfl) rfl dX5_take_13 (rfl : 13 + 3 = 16) ?_
  refine z_put (ci := 5) (C := RX5) (T := TX5) (N := 17) h 6 tyX5 tyX5_ok nmX5 rfl rfl (fun _ hq => List.mem_cons_of_mem _ (List.mem_append_left _ (List.mem_append_left _ (List.mem_append_right _ hq)))) (by decide) (List.mem_of_getElem? (i := 5) rfl) rfl rfl rfl dX5_take_16 (rfl : 16 + 3 = 19) ?_
  refine z_aload_n h 2 dX5_take_19 rfl (rfl : 19 + 1 = 20) ?_
  refine z_aload_n h 1 dX5_take_20 rfl (rfl : 20 + 1 = 21) ?_
  refine z_get (ci := 0) (C := RX0) (T := TX0) (N := 5) h 0 k1 rfl (fun _ hq => List.mem_cons_of_mem _ (List.mem_append_left _ (List.mem_append_left _ (List.mem_append_left _ (List.mem_append_right _ hq))))) (by decide) (List.mem_of_getElem? (i := 6) rfl) rfl dX5_take_21 (rfl : 21 + 3 = 24) ?_
  refine z_aload_n h 0 dX5_take_24 rfl (rfl : 24 + 1 = 25) ?_
  refine z_get (ci := 5) (C := RX5) (T := TX5) (N := 17) h 5 rfl rfl (fun _ hq => List.mem_cons_of_mem _ (List.mem_append_left _ (List.mem_append_left _ (List.mem_append_right _ hq)))) (by decide) (List.mem_of_getElem? (i := 2) rfl) rfl dX5_take_25 (rfl : 25 + 3 = 28) ?_
  obtain ⟨q1, e2, hf⟩ := zbind hf
  refine z_goF (z_runV (C := RX1) (T := TX1) (N := 9) (ci := 1) h [.int ((zu (zu I 39 5 (I p1 2)) 39 6 ((zu I 39 5 (I p1 2)) (zR p1 3) 1)) p1 0), .int ((zu (zu I 39 5 (I p1 2)) 39 6 ((zu I 39 5 (I p1 2)) (zR p1 3) 1)) 39 5)] [] zyX1_isKnown (c_X1_isKnown B (zu (zu I 39 5 (I p1 2)) 39 6 ((zu I 39 5 (I p1 2)) (zR p1 3) 1)) J hJ p2 k2 ((zu (zu I 39 5 (I p1 2)) 39 6 ((zu I 39 5 (I p1 2)) (zR p1 3) 1)) p1 0) ((zu (zu I 39 5 (I p1 2)) 39 6 ((zu I 39 5 (I p1 2)) (zR p1 3) 1)) 39 5) _ _ e2) gX5_take_X1_isKnown rfl k2 rfl zrX5_take_X1_isKnown rfl (Nat.le_of_ble_eq_true rfl) ⟨Nat.zero_le _, Nat.zero_le _⟩ rfl dX5_take_28) rfl ?_
  refine z_if_eq (pc' := 34) h 53 dX5_take_31 (by decide) rfl (fun c3 => ?_) (fun c3 => ?_)
  · have hf := zitt c3 hf
    refine z_iconst h 0 dX5_take_53 (by decide) (rfl : 53 + 1 = 54) ?_
    refine z_istore_n h [(3, .int 0), (0, .ref (za B 39)), (1, .ref (za B p1)), (2, .ref (za B p2))] dX5_take_54 (by decide) rfl (rfl : 54 + 1 = 55) ?_
    refine z_iconst h 0 dX5_take_55 (by decide) (rfl : 55 + 1 = 56) ?_
    refine z_istore h [(4, .int 0), (3, .int 0), (0, .ref (za B 39)), (1, .ref (za B p1)), (2, .ref (za B p2))] dX5_take_56 (by decide) rfl (rfl : 56 + 2 = 58) ?_
    have loop_58_5 : ∀ (n : Nat) (x4_58 : Int32) (I58 : zM) (q : (zM) ⊕ (Int32 × zM)), f_X5_take_58 J p1 p2 0 n x4_58 I58 = some q → (∀ a, q = .inl a → a = I') → (∀ a : Int32 × zM, q = .inr a → Z B G zKW (a.2) (J) (0, 0) 144 [(0, .ref (za B 39)), (1, .ref (za B p1)), (2, .ref (za B p2)), (3, .int 0), (4, .int a.1)] []) → Z B G zKW I58 J (0, 0) 58 [(0, .ref (za B 39)), (1, .ref (za B p1)), (2, .ref (za B p2)), (3, .int 0), (4, .int x4_58)] [] := by
      intro n; induction n with
      | zero => intro x4_58 I58 q hf; exact absurd hf (by rw [f_X5_take_58]; exact fun z => by cases z)
      | succ n ih =>
        intro x4_58 I58 q hf hP hE; rw [f_X5_take_58] at hf
        refine z_iload h 4 dX5_take_58 rfl (rfl : 58 + 2 = 60) ?_
        refine z_bipush h 6 dX5_take_60 (by decide) (rfl : 60 + 2 = 62) ?_
        refine z_icmp_ge (pc' := 65) h 144 dX5_take_62 (by decide) rfl (fun c6 => ?_) (fun c6 => ?_)
        · have hf := zitt c6 hf
          exact hE (x4_58, I58) (zsome hf).symm
        · have hf := zitf c6 hf
          refine z_aload_n h 0 dX5_take_65 rfl (rfl : 65 + 1 = 66) ?_
          refine z_getr (ci := 5) (C := RX5) (T := TX5) (N := 17) h 7 40 ((hJ.1 39 7 (by decide)).trans rfl) rfl rfl (fun _ hq => List.mem_cons_of_mem _ (List.mem_append_left _ (List.mem_append_left _ (List.mem_append_right _ hq)))) (by decide) (List.mem_of_getElem? (i := 8) rfl) rfl dX5_take_66 (rfl : 66 + 3 = 69) ?_
          refine z_iload h 4 dX5_take_69 rfl (rfl : 69 + 2 = 71) ?_
          refine z_aload_n h 1 dX5_take_71 rfl (rfl : 71 + 1 = 72) ?_
          refine z_getr (ci := 0) (C := RX0) (T := TX0) (N := 5) h 3 (zR p1 3) (zf_0_3 hJ k1).1 k1 rfl (fun _ hq => List.mem_cons_of_mem _ (List.mem_append_left _ (List.mem_append_left _ (List.mem_append_left _ (List.mem_append_right _ hq))))) (by decide) (List.mem_of_getElem? (i := 3) rfl) rfl dX5_take_72 (rfl : 72 + 3 = 75) ?_
          refine z_getr (ci := 8) (C := RX8) (T := TX8) (N := 3) h 0 (zR (zR p1 3) 0) (zf_8_0 hJ (zf_0_3 hJ k1).2).1 (zf_0_3 hJ k1).2 rfl (fun _ hq => List.mem_cons_of_mem _ (List.mem_append_left _ (List.mem_append_right _ hq))) (by decide) (List.mem_of_getElem? (i := 9) rfl) rfl dX5_take_75 (rfl : 75 + 3 = 78) ?_
          refine z_iload h 4 dX5_take_78 rfl (rfl : 78 + 2 = 80) ?_
          obtain ⟨b7, hf⟩ := zchk hf
          refine z_iald h (zf_8_0 hJ (zf_0_3 hJ k1).2).2 b7 dX5_take_80 (rfl : 80 + 1 = 81) ?_
          obtain ⟨b8, hf⟩ := zchk hf
          refine z_iast h b8 rfl dX5_take_81 (rfl : 81 + 1 = 82) ?_
          refine z_aload_n h 0 dX5_take_82 rfl (rfl : 82 + 1 = 83) ?_
          refine z_getr (ci := 5) (C := RX5) (T := TX5) (N := 17) h 8 41 ((hJ.1 39 8 (by decide)).trans rfl) rfl rfl (fun _ hq => List.mem_cons_of_mem _ (List.mem_append_left _ (List.mem_append_left _ (List.mem_append_right _ hq)))) (by decide) (List.mem_of_getElem? (i := 10) rfl) rfl dX5_take_83 (rfl : 83 + 3 = 86) ?_
          refine z_iload h 4 dX5_take_86 rfl (rfl : 86 + 2 = 88) ?_
          refine z_aload_n h 2 dX5_take_88 rfl (rfl : 88 + 1 = 89) ?_
          refine z_aload_n h 1 dX5_take_89 rfl (rfl : 89 + 1 = 90) ?_
          refine z_get (ci := 0) (C := RX0) (T := TX0) (N := 5) h 0 k1 rfl (fun _ hq => List.mem_cons_of_mem _ (List.mem_append_left _ (List.mem_append_left _ (List.mem_append_left _ (List.mem_append_right _ hq))))) (by decide) (List.mem_of_getElem? (i := 6) rfl) rfl dX5_take_90 (rfl : 90 + 3 = 93) ?_
          refine z_aload_n h 1 dX5_take_93 rfl (rfl : 93 + 1 = 94) ?_
          refine z_get (ci := 0) (C := RX0) (T := TX0) (N := 5) h 1 k1 rfl (fun _ hq => List.mem_cons_of_mem _ (List.mem_append_left _ (List.mem_append_left _ (List.mem_append_left _ (List.mem_append_right _ hq))))) (by decide) (List.mem_of_getElem? (i := 7) rfl) rfl dX5_take_94 (rfl : 94 + 3 = 97) ?_
          refine z_iload h 4 dX5_take_97 rfl (rfl : 97 + 2 = 99) ?_
          refine z_aload_n h 0 dX5_take_99 rfl (rfl : 99 + 1 = 100) ?_
          refine z_getr (ci := 5) (C := RX5) (T := TX5) (N := 17) h 1 5 ((hJ.1 39 1 (by decide)).trans rfl) rfl rfl (fun _ hq => List.mem_cons_of_mem _ (List.mem_append_left _ (List.mem_append_left _ (List.mem_append_right _ hq)))) (by decide) (List.mem_of_getElem? (i := 11) rfl) rfl dX5_take_100 (rfl : 100 + 3 = 103) ?_
          refine z_iconst h 0 dX5_take_103 (by decide) (rfl : 103 + 1 = 104) ?_
          refine z_iald h rfl (by decide) dX5_take_104 (rfl : 104 + 1 = 105) ?_
          obtain ⟨q9, e10, hf⟩ := zbind hf
          refine z_goF (z_runV (C := RX1) (T := TX1) (N := 9) (ci := 1) h [.int ((zu I58 40 (Int32.toNatClampNeg x4_58) (I58 (zR (zR p1 3) 0) (Int32.toNatClampNeg x4_58))) p1 0), .int ((zu I58 40 (Int32.toNatClampNeg x4_58) (I58 (zR (zR p1 3) 0) (Int32.toNatClampNeg x4_58))) p1 1), .int x4_58, .int ((zu I58 40 (Int32.toNatClampNeg x4_58) (I58 (zR (zR p1 3) 0) (Int32.toNatClampNeg x4_58))) 5 0)] [.int x4_58, .ref (za B 41)] zyX1_valueBefore (c_X1_valueBefore B (zu I58 40 (Int32.toNatClampNeg x4_58) (I58 (zR (zR p1 3) 0) (Int32.toNatClampNeg x4_58))) J hJ p2 k2 ((zu I58 40 (Int32.toNatClampNeg x4_58) (I58 (zR (zR p1 3) 0) (Int32.toNatClampNeg x4_58))) p1 0) ((zu I58 40 (Int32.toNatClampNeg x4_58) (I58 (zR (zR p1 3) 0) (Int32.toNatClampNeg x4_58))) p1 1) x4_58 ((zu I58 40 (Int32.toNatClampNeg x4_58) (I58 (zR (zR p1 3) 0) (Int32.toNatClampNeg x4_58))) 5 0) _ _ e10) gX5_take_X1_valueBefore rfl k2 rfl zrX5_take_X1_valueBefore rfl (Nat.le_of_ble_eq_true rfl) ⟨Nat.zero_le _, Nat.zero_le _⟩ rfl dX5_take_105) rfl ?_
          obtain ⟨b11, hf⟩ := zchk hf
          refine z_iast h b11 rfl dX5_take_108 (rfl : 108 + 1 = 109) ?_
          refine z_aload_n h 0 dX5_take_109 rfl (rfl : 109 + 1 = 110) ?_
          refine z_getr (ci := 5) (C := RX5) (T := TX5) (N := 17) h 9 42 ((hJ.1 39 9 (by decide)).trans rfl) rfl rfl (fun _ hq => List.mem_cons_of_mem _ (List.mem_append_left _ (List.mem_append_left _ (List.mem_append_right _ hq)))) (by decide) (List.mem_of_getElem? (i := 12) rfl) rfl dX5_take_110 (rfl : 110 + 3 = 113) ?_
          refine z_iload h 4 dX5_take_113 rfl (rfl : 113 + 2 = 115) ?_
          refine z_iload_n h 3 dX5_take_115 rfl (rfl : 115 + 1 = 116) ?_
          refine z_if_eq (pc' := 119) h 136 dX5_take_116 (by decide) rfl (fun c12 => ?_) (fun c12 => ?_)
          · have hf := zitt c12 hf
            refine z_iconst h 0 dX5_take_136 (by decide) (rfl : 136 + 1 = 137) ?_
            obtain ⟨b13, hf⟩ := zchk hf
            refine z_iast h b13 rfl dX5_take_137 (rfl : 137 + 1 = 138) ?_
            refine z_iinc h 4 (x4_58 + 1) [(4, .int (x4_58 + 1)), (0, .ref (za B 39)), (1, .ref (za B p1)), (2, .ref (za B p2)), (3, .int 0)] dX5_take_138 rfl rfl (by decide) rfl (rfl : 138 + 3 = 141) ?_
            refine z_goto (pc' := 58) h dX5_take_141 (by decide) ?_
            refine z_sub (L' := [(0, .ref (za B 39)), (1, .ref (za B p1)), (2, .ref (za B p2)), (3, .int 0), (4, .int (x4_58 + 1))]) [1, 2, 3, 4, 0] rfl ?_
            exact ih (x4_58 + 1) (zu (zu q9.2 41 (Int32.toNatClampNeg x4_58) q9.1) 42 (Int32.toNatClampNeg x4_58) 0) _ hf hP hE
          · have hf := zitf c12 hf
            refine z_aload_n h 2 dX5_take_119 rfl (rfl : 119 + 1 = 120) ?_
            refine z_aload_n h 0 dX5_take_120 rfl (rfl : 120 + 1 = 121) ?_
            refine z_get (ci := 5) (C := RX5) (T := TX5) (N := 17) h 5 rfl rfl (fun _ hq => List.mem_cons_of_mem _ (List.mem_append_left _ (List.mem_append_left _ (List.mem_append_right _ hq)))) (by decide) (List.mem_of_getElem? (i := 2) rfl) rfl dX5_take_121 (rfl : 121 + 3 = 124) ?_
            refine z_iload h 4 dX5_take_124 rfl (rfl : 124 + 2 = 126) ?_
            refine z_aload_n h 0 dX5_take_126 rfl (rfl : 126 + 1 = 127) ?_
            refine z_getr (ci := 5) (C := RX5) (T := TX5) (N := 17) h 1 5 ((hJ.1 39 1 (by decide)).trans rfl) rfl rfl (fun _ hq => List.mem_cons_of_mem _ (List.mem_append_left _ (List.mem_append_left _ (List.mem_append_right _ hq)))) (by decide) (List.mem_of_getElem? (i := 11) rfl) rfl dX5_take_127 (rfl : 127 + 3 = 130) ?_
            obtain ⟨q14, e15, hf⟩ := zbind hf
            refine z_goF (z_runV (C := RX1) (T := TX1) (N := 9) (ci := 1) h [.int ((zu q9.2 41 (Int32.toNatClampNeg x4_58) q9.1) 39 5), .int x4_58, .ref (za B 5)] [.int x4_58, .ref (za B 42)] zyX1_customOf (c_X1_customOf B (zu q9.2 41 (Int32.toNatClampNeg x4_58) q9.1) J hJ p2 k2 ((zu q9.2 41 (Int32.toNatClampNeg x4_58) q9.1) 39 5) x4_58 _ _ e15) gX5_take_X1_customOf rfl k2 rfl zrX5_take_X1_customOf rfl (Nat.le_of_ble_eq_true rfl) ⟨Nat.zero_le _, Nat.zero_le _⟩ rfl dX5_take_130) rfl ?_
            refine z_goto (pc' := 137) h dX5_take_133 (by decide) ?_
            obtain ⟨b16, hf⟩ := zchk hf
            refine z_iast h b16 rfl dX5_take_137 (rfl : 137 + 1 = 138) ?_
            refine z_iinc h 4 (x4_58 + 1) [(4, .int (x4_58 + 1)), (0, .ref (za B 39)), (1, .ref (za B p1)), (2, .ref (za B p2)), (3, .int 0)] dX5_take_138 rfl rfl (by decide) rfl (rfl : 138 + 3 = 141) ?_
            refine z_goto (pc' := 58) h dX5_take_141 (by decide) ?_
            refine z_sub (L' := [(0, .ref (za B 39)), (1, .ref (za B p1)), (2, .ref (za B p2)), (3, .int 0), (4, .int (x4_58 + 1))]) [1, 2, 3, 4, 0] rfl ?_
            exact ih (x4_58 + 1) (zu q14.2 42 (Int32.toNatClampNeg x4_58) q14.1) _ hf hP hE
    refine z_sub (L' := [(0, .ref (za B 39)), (1, .ref (za B p1)), (2, .ref (za B p2)), (3, .int 0), (4, .int 0)]) [2, 3, 4, 1, 0] rfl ?_
    obtain ⟨q4, e5, hf⟩ := zbind hf
    refine loop_58_5 _ 0 q1.2 q4 e5 (fun a ha => ?_) (fun a17 ha  => ?_)
    · have hf := zell ha hf
      exact zsome hf
    have hf := zelr ha hf
    clear ha loop_58_5
    refine z_vret h hr dX5_take_144 ?_
    exact ⟨(zsome hf), rfl⟩
  · have hf := zitf c3 hf
    refine z_aload_n h 2 dX5_take_34 rfl (rfl : 34 + 1 = 35) ?_
    refine z_aload_n h 1 dX5_take_35 rfl (rfl : 35 + 1 = 36) ?_
    refine z_get (ci := 0) (C := RX0) (T := TX0) (N := 5) h 1 k1 rfl (fun _ hq => List.mem_cons_of_mem _ (List.mem_append_left _ (List.mem_append_left _ (List.mem_append_left _ (List.mem_append_right _ hq))))) (by decide) (List.mem_of_getElem? (i := 7) rfl) rfl dX5_take_36 (rfl : 36 + 3 = 39) ?_
    refine z_aload_n h 0 dX5_take_39 rfl (rfl : 39 + 1 = 40) ?_
    refine z_get (ci := 5) (C := RX5) (T := TX5) (N := 17) h 5 rfl rfl (fun _ hq => List.mem_cons_of_mem _ (List.mem_append_left _ (List.mem_append_left _ (List.mem_append_right _ hq)))) (by decide) (List.mem_of_getElem? (i := 2) rfl) rfl dX5_take_40 (rfl : 40 + 3 = 43) ?_
    obtain ⟨q18, e19, hf⟩ := zbind hf
    refine z_goF (z_runV (C := RX1) (T := TX1) (N := 9) (ci := 1) h [.int (q1.2 p1 1), .int (q1.2 39 5)] [] zyX1_isKnown (c_X1_isKnown B q1.2 J hJ p2 k2 (q1.2 p1 1) (q1.2 39 5) _ _ e19) gX5_take_X1_isKnown rfl k2 rfl zrX5_take_X1_isKnown rfl (Nat.le_of_ble_eq_true rfl) ⟨Nat.zero_le _, Nat.zero_le _⟩ rfl dX5_take_43) rfl ?_
    refine z_if_eq (pc' := 49) h 53 dX5_take_46 (by decide) rfl (fun c20 => ?_) (fun c20 => ?_)
    · have hf := zitt c20 hf
      refine z_iconst h 0 dX5_take_53 (by decide) (rfl : 53 + 1 = 54) ?_
      refine z_istore_n h [(3, .int 0), (0, .ref (za B 39)), (1, .ref (za B p1)), (2, .ref (za B p2))] dX5_take_54 (by decide) rfl (rfl : 54 + 1 = 55) ?_
      refine z_iconst h 0 dX5_take_55 (by decide) (rfl : 55 + 1 = 56) ?_
      refine z_istore h [(4, .int 0), (3, .int 0), (0, .ref (za B 39)), (1, .ref (za B p1)), (2, .ref (za B p2))] dX5_take_56 (by decide) rfl (rfl : 56 + 2 = 58) ?_
      have loop_58_22 : ∀ (n : Nat) (x4_58 : Int32) (I58 : zM) (q : (zM) ⊕ (Int32 × zM)), f_X5_take_58 J p1 p2 0 n x4_58 I58 = some q → (∀ a, q = .inl a → a = I') → (∀ a : Int32 × zM, q = .inr a → Z B G zKW (a.2) (J) (0, 0) 144 [(0, .ref (za B 39)), (1, .ref (za B p1)), (2, .ref (za B p2)), (3, .int 0), (4, .int a.1)] []) → Z B G zKW I58 J (0, 0) 58 [(0, .ref (za B 39)), (1, .ref (za B p1)), (2, .ref (za B p2)), (3, .int 0), (4, .int x4_58)] [] := by
        intro n; induction n with
        | zero => intro x4_58 I58 q hf; exact absurd hf (by rw [f_X5_take_58]; exact fun z => by cases z)
        | succ n ih =>
          intro x4_58 I58 q hf hP hE; rw [f_X5_take_58] at hf
          refine z_iload h 4 dX5_take_58 rfl (rfl : 58 + 2 = 60) ?_
          refine z_bipush h 6 dX5_take_60 (by decide) (rfl : 60 + 2 = 62) ?_
          refine z_icmp_ge (pc' := 65) h 144 dX5_take_62 (by decide) rfl (fun c23 => ?_) (fun c23 => ?_)
          · have hf := zitt c23 hf
            exact hE (x4_58, I58) (zsome hf).symm
          · have hf := zitf c23 hf
            refine z_aload_n h 0 dX5_take_65 rfl (rfl : 65 + 1 = 66) ?_
            refine z_getr (ci := 5) (C := RX5) (T := TX5) (N := 17) h 7 40 ((hJ.1 39 7 (by decide)).trans rfl) rfl rfl (fun _ hq => List.mem_cons_of_mem _ (List.mem_append_left _ (List.mem_append_left _ (List.mem_append_right _ hq)))) (by decide) (List.mem_of_getElem? (i := 8) rfl) rfl dX5_take_66 (rfl : 66 + 3 = 69) ?_
            refine z_iload h 4 dX5_take_69 rfl (rfl : 69 + 2 = 71) ?_
            refine z_aload_n h 1 dX5_take_71 rfl (rfl : 71 + 1 = 72) ?_
            refine z_getr (ci := 0) (C := RX0) (T := TX0) (N := 5) h 3 (zR p1 3) (zf_0_3 hJ k1).1 k1 rfl (fun _ hq => List.mem_cons_of_mem _ (List.mem_append_left _ (List.mem_append_left _ (List.mem_append_left _ (List.mem_append_right _ hq))))) (by decide) (List.mem_of_getElem? (i := 3) rfl) rfl dX5_take_72 (rfl : 72 + 3 = 75) ?_
            refine z_getr (ci := 8) (C := RX8) (T := TX8) (N := 3) h 0 (zR (zR p1 3) 0) (zf_8_0 hJ (zf_0_3 hJ k1).2).1 (zf_0_3 hJ k1).2 rfl (fun _ hq => List.mem_cons_of_mem _ (List.mem_append_left _ (List.mem_append_right _ hq))) (by decide) (List.mem_of_getElem? (i := 9) rfl) rfl dX5_take_75 (rfl : 75 + 3 = 78) ?_
            refine z_iload h 4 dX5_take_78 rfl (rfl : 78 + 2 = 80) ?_
            obtain ⟨b24, hf⟩ := zchk hf
            refine z_iald h (zf_8_0 hJ (zf_0_3 hJ k1).2).2 b24 dX5_take_80 (rfl : 80 + 1 = 81) ?_
            obtain ⟨b25, hf⟩ := zchk hf
            refine z_iast h b25 rfl dX5_take_81 (rfl : 81 + 1 = 82) ?_
            refine z_aload_n h 0 dX5_take_82 rfl (rfl : 82 + 1 = 83) ?_
            refine z_getr (ci := 5) (C := RX5) (T := TX5) (N := 17) h 8 41 ((hJ.1 39 8 (by decide)).trans rfl) rfl rfl (fun _ hq => List.mem_cons_of_mem _ (List.mem_append_left _ (List.mem_append_left _ (List.mem_append_right _ hq)))) (by decide) (List.mem_of_getElem? (i := 10) rfl) rfl dX5_take_83 (rfl : 83 + 3 = 86) ?_
            refine z_iload h 4 dX5_take_86 rfl (rfl : 86 + 2 = 88) ?_
            refine z_aload_n h 2 dX5_take_88 rfl (rfl : 88 + 1 = 89) ?_
            refine z_aload_n h 1 dX5_take_89 rfl (rfl : 89 + 1 = 90) ?_
            refine z_get (ci := 0) (C := RX0) (T := TX0) (N := 5) h 0 k1 rfl (fun _ hq => List.mem_cons_of_mem _ (List.mem_append_left _ (List.mem_append_left _ (List.mem_append_left _ (List.mem_append_right _ hq))))) (by decide) (List.mem_of_getElem? (i := 6) rfl) rfl dX5_take_90 (rfl : 90 + 3 = 93) ?_
            refine z_aload_n h 1 dX5_take_93 rfl (rfl : 93 + 1 = 94) ?_
            refine z_get (ci := 0) (C := RX0) (T := TX0) (N := 5) h 1 k1 rfl (fun _ hq => List.mem_cons_of_mem _ (List.mem_append_left _ (List.mem_append_left _ (List.mem_append_left _ (List.mem_append_right _ hq))))) (by decide) (List.mem_of_getElem? (i := 7) rfl) rfl dX5_take_94 (rfl : 94 + 3 = 97) ?_
            refine z_iload h 4 dX5_take_97 rfl (rfl : 97 + 2 = 99) ?_
            refine z_aload_n h 0 dX5_take_99 rfl (rfl : 99 + 1 = 100) ?_
            refine z_getr (ci := 5) (C := RX5) (T := TX5) (N := 17) h 1 5 ((hJ.1 39 1 (by decide)).trans rfl) rfl rfl (fun _ hq => List.mem_cons_of_mem _ (List.mem_append_left _ (List.mem_append_left _ (List.mem_append_right _ hq)))) (by decide) (List.mem_of_getElem? (i := 11) rfl) rfl dX5_take_100 (rfl : 100 + 3 = 103) ?_
            refine z_iconst h 0 dX5_take_103 (by decide) (rfl : 103 + 1 = 104) ?_
            refine z_iald h rfl (by decide) dX5_take_104 (rfl : 104 + 1 = 105) ?_
            obtain ⟨q26, e27, hf⟩ := zbind hf
            refine z_goF (z_runV (C := RX1) (T := TX1) (N := 9) (ci := 1) h [.int ((zu I58 40 (Int32.toNatClampNeg x4_58) (I58 (zR (zR p1 3) 0) (Int32.toNatClampNeg x4_58))) p1 0), .int ((zu I58 40 (Int32.toNatClampNeg x4_58) (I58 (zR (zR p1 3) 0) (Int32.toNatClampNeg x4_58))) p1 1), .int x4_58, .int ((zu I58 40 (Int32.toNatClampNeg x4_58) (I58 (zR (zR p1 3) 0) (Int32.toNatClampNeg x4_58))) 5 0)] [.int x4_58, .ref (za B 41)] zyX1_valueBefore (c_X1_valueBefore B (zu I58 40 (Int32.toNatClampNeg x4_58) (I58 (zR (zR p1 3) 0) (Int32.toNatClampNeg x4_58))) J hJ p2 k2 ((zu I58 40 (Int32.toNatClampNeg x4_58) (I58 (zR (zR p1 3) 0) (Int32.toNatClampNeg x4_58))) p1 0) ((zu I58 40 (Int32.toNatClampNeg x4_58) (I58 (zR (zR p1 3) 0) (Int32.toNatClampNeg x4_58))) p1 1) x4_58 ((zu I58 40 (Int32.toNatClampNeg x4_58) (I58 (zR (zR p1 3) 0) (Int32.toNatClampNeg x4_58))) 5 0) _ _ e27) gX5_take_X1_valueBefore rfl k2 rfl zrX5_take_X1_valueBefore rfl (Nat.le_of_ble_eq_true rfl) ⟨Nat.zero_le _, Nat.zero_le _⟩ rfl dX5_take_105) rfl ?_
            obtain ⟨b28, hf⟩ := zchk hf
            refine z_iast h b28 rfl dX5_take_108 (rfl : 108 + 1 = 109) ?_
            refine z_aload_n h 0 dX5_take_109 rfl (rfl : 109 + 1 = 110) ?_
            refine z_getr (ci := 5) (C := RX5) (T := TX5) (N := 17) h 9 42 ((hJ.1 39 9 (by decide)).trans rfl) rfl rfl (fun _ hq => List.mem_cons_of_mem _ (List.mem_append_left _ (List.mem_append_left _ (List.mem_append_right _ hq)))) (by decide) (List.mem_of_getElem? (i := 12) rfl) rfl dX5_take_110 (rfl : 110 + 3 = 113) ?_
            refine z_iload h 4 dX5_take_113 rfl (rfl : 113 + 2 = 115) ?_
            refine z_iload_n h 3 dX5_take_115 rfl (rfl : 115 + 1 = 116) ?_
            refine z_if_eq (pc' := 119) h 136 dX5_take_116 (by decide) rfl (fun c29 => ?_) (fun c29 => ?_)
            · have hf := zitt c29 hf
              refine z_iconst h 0 dX5_take_136 (by decide) (rfl : 136 + 1 = 137) ?_
              obtain ⟨b30, hf⟩ := zchk hf
              refine z_iast h b30 rfl dX5_take_137 (rfl : 137 + 1 = 138) ?_
              refine z_iinc h 4 (x4_58 + 1) [(4, .int (x4_58 + 1)), (0, .ref (za B 39)), (1, .ref (za B p1)), (2, .ref (za B p2)), (3, .int 0)] dX5_take_138 rfl rfl (by decide) rfl (rfl : 138 + 3 = 141) ?_
              refine z_goto (pc' := 58) h dX5_take_141 (by decide) ?_
              refine z_sub (L' := [(0, .ref (za B 39)), (1, .ref (za B p1)), (2, .ref (za B p2)), (3, .int 0), (4, .int (x4_58 + 1))]) [1, 2, 3, 4, 0] rfl ?_
              exact ih (x4_58 + 1) (zu (zu q26.2 41 (Int32.toNatClampNeg x4_58) q26.1) 42 (Int32.toNatClampNeg x4_58) 0) _ hf hP hE
            · have hf := zitf c29 hf
              refine z_aload_n h 2 dX5_take_119 rfl (rfl : 119 + 1 = 120) ?_
              refine z_aload_n h 0 dX5_take_120 rfl (rfl : 120 + 1 = 121) ?_
              refine z_get (ci := 5) (C := RX5) (T := TX5) (N := 17) h 5 rfl rfl (fun _ hq => List.mem_cons_of_mem _ (List.mem_append_left _ (List.mem_append_left _ (List.mem_append_right _ hq)))) (by decide) (List.mem_of_getElem? (i := 2) rfl) rfl dX5_take_121 (rfl : 121 + 3 = 124) ?_
              refine z_iload h 4 dX5_take_124 rfl (rfl : 124 + 2 = 126) ?_
              refine z_aload_n h 0 dX5_take_126 rfl (rfl : 126 + 1 = 127) ?_
              refine z_getr (ci := 5) (C := RX5) (T := TX5) (N := 17) h 1 5 ((hJ.1 39 1 (by decide)).trans rfl) rfl rfl (fun _ hq => List.mem_cons_of_mem _ (List.mem_append_left _ (List.mem_append_left _ (List.mem_append_right _ hq)))) (by decide) (List.mem_of_getElem? (i := 11) rfl) rfl dX5_take_127 (rfl : 127 + 3 = 130) ?_
              obtain ⟨q31, e32, hf⟩ := zbind hf
              refine z_goF (z_runV (C := RX1) (T := TX1) (N := 9) (ci := 1) h [.int ((zu q26.2 41 (Int32.toNatClampNeg x4_58) q26.1) 39 5), .int x4_58, .ref (za B 5)] [.int x4_58, .ref (za B 42)] zyX1_customOf (c_X1_customOf B (zu q26.2 41 (Int32.toNatClampNeg x4_58) q26.1) J hJ p2 k2 ((zu q26.2 41 (Int32.toNatClampNeg x4_58) q26.1) 39 5) x4_58 _ _ e32) gX5_take_X1_customOf rfl k2 rfl zrX5_take_X1_customOf rfl (Nat.le_of_ble_eq_true rfl) ⟨Nat.zero_le _, Nat.zero_le _⟩ rfl dX5_take_130) rfl ?_
              refine z_goto (pc' := 137) h dX5_take_133 (by decide) ?_
              obtain ⟨b33, hf⟩ := zchk hf
              refine z_iast h b33 rfl dX5_take_137 (rfl : 137 + 1 = 138) ?_
              refine z_iinc h 4 (x4_58 + 1) [(4, .int (x4_58 + 1)), (0, .ref (za B 39)), (1, .ref (za B p1)), (2, .ref (za B p2)), (3, .int 0)] dX5_take_138 rfl rfl (by decide) rfl (rfl : 138 + 3 = 141) ?_
              refine z_goto (pc' := 58) h dX5_take_141 (by decide) ?_
              refine z_sub (L' := [(0, .ref (za B 39)), (1, .ref (za B p1)), (2, .ref (za B p2)), (3, .int 0), (4, .int (x4_58 + 1))]) [1, 2, 3, 4, 0] rfl ?_
              exact ih (x4_58 + 1) (zu q31.2 42 (Int32.toNatClampNeg x4_58) q31.1) _ hf hP hE
      refine z_sub (L' := [(0, .ref (za B 39)), (1, .ref (za B p1)), (2, .ref (za B p2)), (3, .int 0), (4, .int 0)]) [2, 3, 4, 1, 0] rfl ?_
      obtain ⟨q21, e22, hf⟩ := zbind hf
      refine loop_58_22 _ 0 q18.2 q21 e22 (fun a ha => ?_) (fun a34 ha  => ?_)
      · have hf := zell ha hf
        exact zsome hf
      have hf := zelr ha hf
      clear ha loop_58_22
      refine z_vret h hr dX5_take_144 ?_
      exact ⟨(zsome hf), rfl⟩
    · have hf := zitf c20 hf
      refine z_iconst h 1 dX5_take_49 (by decide) (rfl : 49 + 1 = 50) ?_
      refine z_goto (pc' := 54) h dX5_take_50 (by decide) ?_
      refine z_istore_n h [(3, .int 1), (0, .ref (za B 39)), (1, .ref (za B p1)), (2, .ref (za B p2))] dX5_take_54 (by decide) rfl (rfl : 54 + 1 = 55) ?_
      refine z_iconst h 0 dX5_take_55 (by decide) (rfl : 55 + 1 = 56) ?_
      refine z_istore h [(4, .int 0), (3, .int 1), (0, .ref (za B 39)), (1, .ref (za B p1)), (2, .ref (za B p2))] dX5_take_56 (by decide) rfl (rfl : 56 + 2 = 58) ?_
      have loop_58_36 : ∀ (n : Nat) (x4_58 : Int32) (I58 : zM) (q : (zM) ⊕ (Int32 × zM)), f_X5_take_58 J p1 p2 1 n x4_58 I58 = some q → (∀ a, q = .inl a → a = I') → (∀ a : Int32 × zM, q = .inr a → Z B G zKW (a.2) (J) (0, 0) 144 [(0, .ref (za B 39)), (1, .ref (za B p1)), (2, .ref (za B p2)), (3, .int 1), (4, .int a.1)] []) → Z B G zKW I58 J (0, 0) 58 [(0, .ref (za B 39)), (1, .ref (za B p1)), (2, .ref (za B p2)), (3, .int 1), (4, .int x4_58)] [] := by
        intro n; induction n with
        | zero => intro x4_58 I58 q hf; exact absurd hf (by rw [f_X5_take_58]; exact fun z => by cases z)
        | succ n ih =>
          intro x4_58 I58 q hf hP hE; rw [f_X5_take_58] at hf
          refine z_iload h 4 dX5_take_58 rfl (rfl : 58 + 2 = 60) ?_
          refine z_bipush h 6 dX5_take_60 (by decide) (rfl : 60 + 2 = 62) ?_
          refine z_icmp_ge (pc' := 65) h 144 dX5_take_62 (by decide) rfl (fun c37 => ?_) (fun c37 => ?_)
          · have hf := zitt c37 hf
            exact hE (x4_58, I58) (zsome hf).symm
          · have hf := zitf c37 hf
            refine z_aload_n h 0 dX5_take_65 rfl (rfl : 65 + 1 = 66) ?_
            refine z_getr (ci := 5) (C := RX5) (T := TX5) (N := 17) h 7 40 ((hJ.1 39 7 (by decide)).trans rfl) rfl rfl (fun _ hq => List.mem_cons_of_mem _ (List.mem_append_left _ (List.mem_append_left _ (List.mem_append_right _ hq)))) (by decide) (List.mem_of_getElem? (i := 8) rfl) rfl dX5_take_66 (rfl : 66 + 3 = 69) ?_
            refine z_iload h 4 dX5_take_69 rfl (rfl : 69 + 2 = 71) ?_
            refine z_aload_n h 1 dX5_take_71 rfl (rfl : 71 + 1 = 72) ?_
            refine z_getr (ci := 0) (C := RX0) (T := TX0) (N := 5) h 3 (zR p1 3) (zf_0_3 hJ k1).1 k1 rfl (fun _ hq => List.mem_cons_of_mem _ (List.mem_append_left _ (List.mem_append_left _ (List.mem_append_left _ (List.mem_append_right _ hq))))) (by decide) (List.mem_of_getElem? (i := 3) rfl) rfl dX5_take_72 (rfl : 72 + 3 = 75) ?_
            refine z_getr (ci := 8) (C := RX8) (T := TX8) (N := 3) h 0 (zR (zR p1 3) 0) (zf_8_0 hJ (zf_0_3 hJ k1).2).1 (zf_0_3 hJ k1).2 rfl (fun _ hq => List.mem_cons_of_mem _ (List.mem_append_left _ (List.mem_append_right _ hq))) (by decide) (List.mem_of_getElem? (i := 9) rfl) rfl dX5_take_75 (rfl : 75 + 3 = 78) ?_
            refine z_iload h 4 dX5_take_78 rfl (rfl : 78 + 2 = 80) ?_
            obtain ⟨b38, hf⟩ := zchk hf
            refine z_iald h (zf_8_0 hJ (zf_0_3 hJ k1).2).2 b38 dX5_take_80 (rfl : 80 + 1 = 81) ?_
            obtain ⟨b39, hf⟩ := zchk hf
            refine z_iast h b39 rfl dX5_take_81 (rfl : 81 + 1 = 82) ?_
            refine z_aload_n h 0 dX5_take_82 rfl (rfl : 82 + 1 = 83) ?_
            refine z_getr (ci := 5) (C := RX5) (T := TX5) (N := 17) h 8 41 ((hJ.1 39 8 (by decide)).trans rfl) rfl rfl (fun _ hq => List.mem_cons_of_mem _ (List.mem_append_left _ (List.mem_append_left _ (List.mem_append_right _ hq)))) (by decide) (List.mem_of_getElem? (i := 10) rfl) rfl dX5_take_83 (rfl : 83 + 3 = 86) ?_
            refine z_iload h 4 dX5_take_86 rfl (rfl : 86 + 2 = 88) ?_
            refine z_aload_n h 2 dX5_take_88 rfl (rfl : 88 + 1 = 89) ?_
            refine z_aload_n h 1 dX5_take_89 rfl (rfl : 89 + 1 = 90) ?_
            refine z_get (ci := 0) (C := RX0) (T := TX0) (N := 5) h 0 k1 rfl (fun _ hq => List.mem_cons_of_mem _ (List.mem_append_left _ (List.mem_append_left _ (List.mem_append_left _ (List.mem_append_right _ hq))))) (by decide) (List.mem_of_getElem? (i := 6) rfl) rfl dX5_take_90 (rfl : 90 + 3 = 93) ?_
            refine z_aload_n h 1 dX5_take_93 rfl (rfl : 93 + 1 = 94) ?_
            refine z_get (ci := 0) (C := RX0) (T := TX0) (N := 5) h 1 k1 rfl (fun _ hq => List.mem_cons_of_mem _ (List.mem_append_left _ (List.mem_append_left _ (List.mem_append_left _ (List.mem_append_right _ hq))))) (by decide) (List.mem_of_getElem? (i := 7) rfl) rfl dX5_take_94 (rfl : 94 + 3 = 97) ?_
            refine z_iload h 4 dX5_take_97 rfl (rfl : 97 + 2 = 99) ?_
            refine z_aload_n h 0 dX5_take_99 rfl (rfl : 99 + 1 = 100) ?_
            refine z_getr (ci := 5) (C := RX5) (T := TX5) (N := 17) h 1 5 ((hJ.1 39 1 (by decide)).trans rfl) rfl rfl (fun _ hq => List.mem_cons_of_mem _ (List.mem_append_left _ (List.mem_append_left _ (List.mem_append_right _ hq)))) (by decide) (List.mem_of_getElem? (i := 11) rfl) rfl dX5_take_100 (rfl : 100 + 3 = 103) ?_
            refine z_iconst h 0 dX5_take_103 (by decide) (rfl : 103 + 1 = 104) ?_
            refine z_iald h rfl (by decide) dX5_take_104 (rfl : 104 + 1 = 105) ?_
            obtain ⟨q40, e41, hf⟩ := zbind hf
            refine z_goF (z_runV (C := RX1) (T := TX1) (N := 9) (ci := 1) h [.int ((zu I58 40 (Int32.toNatClampNeg x4_58) (I58 (zR (zR p1 3) 0) (Int32.toNatClampNeg x4_58))) p1 0), .int ((zu I58 40 (Int32.toNatClampNeg x4_58) (I58 (zR (zR p1 3) 0) (Int32.toNatClampNeg x4_58))) p1 1), .int x4_58, .int ((zu I58 40 (Int32.toNatClampNeg x4_58) (I58 (zR (zR p1 3) 0) (Int32.toNatClampNeg x4_58))) 5 0)] [.int x4_58, .ref (za B 41)] zyX1_valueBefore (c_X1_valueBefore B (zu I58 40 (Int32.toNatClampNeg x4_58) (I58 (zR (zR p1 3) 0) (Int32.toNatClampNeg x4_58))) J hJ p2 k2 ((zu I58 40 (Int32.toNatClampNeg x4_58) (I58 (zR (zR p1 3) 0) (Int32.toNatClampNeg x4_58))) p1 0) ((zu I58 40 (Int32.toNatClampNeg x4_58) (I58 (zR (zR p1 3) 0) (Int32.toNatClampNeg x4_58))) p1 1) x4_58 ((zu I58 40 (Int32.toNatClampNeg x4_58) (I58 (zR (zR p1 3) 0) (Int32.toNatClampNeg x4_58))) 5 0) _ _ e41) gX5_take_X1_valueBefore rfl k2 rfl zrX5_take_X1_valueBefore rfl (Nat.le_of_ble_eq_true rfl) ⟨Nat.zero_le _, Nat.zero_le _⟩ rfl dX5_take_105) rfl ?_
            obtain ⟨b42, hf⟩ := zchk hf
            refine z_iast h b42 rfl dX5_take_108 (rfl : 108 + 1 = 109) ?_
            refine z_aload_n h 0 dX5_take_109 rfl (rfl : 109 + 1 = 110) ?_
            refine z_getr (ci := 5) (C := RX5) (T := TX5) (N := 17) h 9 42 ((hJ.1 39 9 (by decide)).trans rfl) rfl rfl (fun _ hq => List.mem_cons_of_mem _ (List.mem_append_left _ (List.mem_append_left _ (List.mem_append_right _ hq)))) (by decide) (List.mem_of_getElem? (i := 12) rfl) rfl dX5_take_110 (rfl : 110 + 3 = 113) ?_
            refine z_iload h 4 dX5_take_113 rfl (rfl : 113 + 2 = 115) ?_
            refine z_iload_n h 3 dX5_take_115 rfl (rfl : 115 + 1 = 116) ?_
            refine z_if_eq (pc' := 119) h 136 dX5_take_116 (by decide) rfl (fun c43 => ?_) (fun c43 => ?_)
            · have hf := zitt c43 hf
              refine z_iconst h 0 dX5_take_136 (by decide) (rfl : 136 + 1 = 137) ?_
              obtain ⟨b44, hf⟩ := zchk hf
              refine z_iast h b44 rfl dX5_take_137 (rfl : 137 + 1 = 138) ?_
              refine z_iinc h 4 (x4_58 + 1) [(4, .int (x4_58 + 1)), (0, .ref (za B 39)), (1, .ref (za B p1)), (2, .ref (za B p2)), (3, .int 1)] dX5_take_138 rfl rfl (by decide) rfl (rfl : 138 + 3 = 141) ?_
              refine z_goto (pc' := 58) h dX5_take_141 (by decide) ?_
              refine z_sub (L' := [(0, .ref (za B 39)), (1, .ref (za B p1)), (2, .ref (za B p2)), (3, .int 1), (4, .int (x4_58 + 1))]) [1, 2, 3, 4, 0] rfl ?_
              exact ih (x4_58 + 1) (zu (zu q40.2 41 (Int32.toNatClampNeg x4_58) q40.1) 42 (Int32.toNatClampNeg x4_58) 0) _ hf hP hE
            · have hf := zitf c43 hf
              refine z_aload_n h 2 dX5_take_119 rfl (rfl : 119 + 1 = 120) ?_
              refine z_aload_n h 0 dX5_take_120 rfl (rfl : 120 + 1 = 121) ?_
              refine z_get (ci := 5) (C := RX5) (T := TX5) (N := 17) h 5 rfl rfl (fun _ hq => List.mem_cons_of_mem _ (List.mem_append_left _ (List.mem_append_left _ (List.mem_append_right _ hq)))) (by decide) (List.mem_of_getElem? (i := 2) rfl) rfl dX5_take_121 (rfl : 121 + 3 = 124) ?_
              refine z_iload h 4 dX5_take_124 rfl (rfl : 124 + 2 = 126) ?_
              refine z_aload_n h 0 dX5_take_126 rfl (rfl : 126 + 1 = 127) ?_
              refine z_getr (ci := 5) (C := RX5) (T := TX5) (N := 17) h 1 5 ((hJ.1 39 1 (by decide)).trans rfl) rfl rfl (fun _ hq => List.mem_cons_of_mem _ (List.mem_append_left _ (List.mem_append_left _ (List.mem_append_right _ hq)))) (by decide) (List.mem_of_getElem? (i := 11) rfl) rfl dX5_take_127 (rfl : 127 + 3 = 130) ?_
              obtain ⟨q45, e46, hf⟩ := zbind hf
              refine z_goF (z_runV (C := RX1) (T := TX1) (N := 9) (ci := 1) h [.int ((zu q40.2 41 (Int32.toNatClampNeg x4_58) q40.1) 39 5), .int x4_58, .ref (za B 5)] [.int x4_58, .ref (za B 42)] zyX1_customOf (c_X1_customOf B (zu q40.2 41 (Int32.toNatClampNeg x4_58) q40.1) J hJ p2 k2 ((zu q40.2 41 (Int32.toNatClampNeg x4_58) q40.1) 39 5) x4_58 _ _ e46) gX5_take_X1_customOf rfl k2 rfl zrX5_take_X1_customOf rfl (Nat.le_of_ble_eq_true rfl) ⟨Nat.zero_le _, Nat.zero_le _⟩ rfl dX5_take_130) rfl ?_
              refine z_goto (pc' := 137) h dX5_take_133 (by decide) ?_
              obtain ⟨b47, hf⟩ := zchk hf
              refine z_iast h b47 rfl dX5_take_137 (rfl : 137 + 1 = 138) ?_
              refine z_iinc h 4 (x4_58 + 1) [(4, .int (x4_58 + 1)), (0, .ref (za B 39)), (1, .ref (za B p1)), (2, .ref (za B p2)), (3, .int 1)] dX5_take_138 rfl rfl (by decide) rfl (rfl : 138 + 3 = 141) ?_
              refine z_goto (pc' := 58) h dX5_take_141 (by decide) ?_
              refine z_sub (L' := [(0, .ref (za B 39)), (1, .ref (za B p1)), (2, .ref (za B p2)), (3, .int 1), (4, .int (x4_58 + 1))]) [1, 2, 3, 4, 0] rfl ?_
              exact ih (x4_58 + 1) (zu q45.2 42 (Int32.toNatClampNeg x4_58) q45.1) _ hf hP hE
      refine z_sub (L' := [(0, .ref (za B 39)), (1, .ref (za B p1)), (2, .ref (za B p2)), (3, .int 1), (4, .int 0)]) [2, 3, 4, 1, 0] rfl ?_
      obtain ⟨q35, e36, hf⟩ := zbind hf
      refine loop_58_36 _ 0 q18.2 q35 e36 (fun a ha => ?_) (fun a48 ha  => ?_)
      · have hf := zell ha hf
        exact zsome hf
      have hf := zelr ha hf
      clear ha loop_58_36
      refine z_vret h hr dX5_take_144 ?_
      exact ⟨(zsome hf), rfl⟩
noncomputable def f_X5_sayToo_2 (J : zJ) (r1 : Nat) (u2 : Int32) : Nat → Int32 → zM → Option ((zM) ⊕ (Int32 × zM))
  | 0, _, _ => none
  | n + 1, x3_2, I2 => (if 6 ≤ x3_2 then some (.inr (x3_2, I2)) else ((f_X11_bit J u2 x3_2 I2).bind fun q2 => (if q2.1 = 1 then ((f_X0_commonThought J r1 x3_2 q2.2).bind fun q7 => (if zin x3_2 6 = true then f_X5_sayToo_2 J r1 u2 n (x3_2 + 1) (zu q7.2 40 (Int32.toNatClampNeg x3_2) q7.1) else none)) else (if zin x3_2 6 = true then (if zin x3_2 6 = true then f_X5_sayToo_2 J r1 u2 n (x3_2 + 1) (zu q2.2 40 (Int32.toNatClampNeg x3_2) (q2.2 (zR (zR r1 3) 0) (Int32.toNatClampNeg x3_2))) else none) else none))))
noncomputable def f_X5_sayToo (J : zJ) (p1 : Nat) (v2 : Int32) (I : zM) : Option (zM) := ((f_X5_sayToo_2 J p1 v2 zF 0 I).bind fun q => Sum.elim (fun a => some a) (fun a3 => some (a3.2)) q)
noncomputable abbrev rmX5_sayToo : Room := { frames := 1, cells := 0, slots := 0, locals := 21 }
theorem zyX5_sayToo : zY yX5_sayToo wsX5_sayToo cX5_sayToo 4 none 2 := ⟨⟨_, rfl⟩, by decide +kernel⟩
theorem zrX5_sayToo_X0_commonThought : zRm rmX0_commonThought rmX5_sayToo 2 := ⟨rfl, rfl, by decide, by decide⟩
theorem zrX5_sayToo_X11_bit : zRm rmX11_bit rmX5_sayToo 2 := ⟨rfl, rfl, by decide, by decide⟩
set_option maxHeartbeats 1000000 in
set_option maxRecDepth 100000 in
theorem c_X5_sayToo (B : zB) (I : zM) (J : zJ) (hJ : zJok J) (p1 : Nat) (k1 : zKW[p1]? = some (.inr 0)) (v2 : Int32) (I' : zM) (hf : f_X5_sayToo J p1 v2 I = some I') : zCv B zKW I J yX5_sayToo wsX5_sayToo rmX5_sayToo [.ref (za B 39), .ref (za B p1), .int v2] (fun I2 J2 => I2 = I' ∧ J2 = J) := by
  refine z_start (own := RX5) (cc := cX5_sayToo) (nL := 4) (ret := none) rfl (by decide) rfl (Nat.le_of_ble_eq_true rfl) (L := [(0, .ref (za B 39)), (1, .ref (za B p1)), (2, .int v2)]) rfl (fun G h hr => ?_)
  rw [f_X5_sayToo] at hf
  refine z_iconst h 0 dX5_sayToo_0 (by decide) (rfl : 0 + 1 = 1) ?_
  refine z_istore_n h [(3, .int 0), (0, .ref (za B 39)), (1, .ref (za B p1)), (2, .int v2)] dX5_sayToo_1 (by decide) rfl (rfl : 1 + 1 = 2) ?_
  have loop_2_2 : ∀ (n : Nat) (x3_2 : Int32) (I2 : zM) (q : (zM) ⊕ (Int32 × zM)), f_X5_sayToo_2 J p1 v2 n x3_2 I2 = some q → (∀ a, q = .inl a → a = I') → (∀ a : Int32 × zM, q = .inr a → Z B G zKW (a.2) (J) (0, 0) 46 [(0, .ref (za B 39)), (1, .ref (za B p1)), (2, .int v2), (3, .int a.1)] []) → Z B G zKW I2 J (0, 0) 2 [(0, .ref (za B 39)), (1, .ref (za B p1)), (2, .int v2), (3, .int x3_2)] [] := by
    intro n; induction n with
    | zero => intro x3_2 I2 q hf; exact absurd hf (by rw [f_X5_sayToo_2]; exact fun z => by cases z)
    | succ n ih =>
      intro x3_2 I2 q hf hP hE; rw [f_X5_sayToo_2] at hf
      refine z_iload_n h 3 dX5_sayToo_2 rfl (rfl : 2 + 1 = 3) ?_
      refine z_bipush h 6 dX5_sayToo_3 (by decide) (rfl : 3 + 2 = 5) ?_
      refine z_icmp_ge (pc' := 8) h 46 dX5_sayToo_5 (by decide) rfl (fun c3 => ?_) (fun c3 => ?_)
      · have hf := zitt c3 hf
        exact hE (x3_2, I2) (zsome hf).symm
      · have hf := zitf c3 hf
        refine z_aload_n h 0 dX5_sayToo_8 rfl (rfl : 8 + 1 = 9) ?_
        refine z_getr (ci := 5) (C := RX5) (T := TX5) (N := 17) h 7 40 ((hJ.1 39 7 (by decide)).trans rfl) rfl rfl (fun _ hq => List.mem_cons_of_mem _ (List.mem_append_left _ (List.mem_append_left _ (List.mem_append_right _ hq)))) (by decide) (List.mem_of_getElem? (i := 1) rfl) rfl dX5_sayToo_9 (rfl : 9 + 3 = 12) ?_
        refine z_iload_n h 3 dX5_sayToo_12 rfl (rfl : 12 + 1 = 13) ?_
        refine z_iload_n h 2 dX5_sayToo_13 rfl (rfl : 13 + 1 = 14) ?_
        refine z_iload_n h 3 dX5_sayToo_14 rfl (rfl : 14 + 1 = 15) ?_
        obtain ⟨q4, e5, hf⟩ := zbind hf
        refine z_goF (z_runSN (host := "LeftOut") h [.int v2, .int x3_2] [.int x3_2, .ref (za B 40)] zyX11_bit (c_X11_bit B I2 J hJ v2 x3_2 _ _ e5) gX5_sayToo_X11_bit_n103 (List.mem_of_getElem? (i := 14) rfl) (List.mem_of_getElem? (i := 4) rfl) (List.mem_of_getElem? (i := 5) rfl) zrX5_sayToo_X11_bit rfl (Nat.le_of_ble_eq_true rfl) ⟨Nat.zero_le _, Nat.zero_le _⟩ rfl dX5_sayToo_15) rfl ?_
        refine z_iconst h 1 dX5_sayToo_18 (by decide) (rfl : 18 + 1 = 19) ?_
        refine z_icmp_ne (pc' := 22) h 30 dX5_sayToo_19 (by decide) rfl (fun c6 => ?_) (fun c6 => ?_)
        · have hf := zitf c6 hf
          refine z_aload_n h 1 dX5_sayToo_30 rfl (rfl : 30 + 1 = 31) ?_
          refine z_getr (ci := 0) (C := RX0) (T := TX0) (N := 5) h 3 (zR p1 3) (zf_0_3 hJ k1).1 k1 rfl (fun _ hq => List.mem_cons_of_mem _ (List.mem_append_left _ (List.mem_append_right _ hq))) (by decide) (List.mem_of_getElem? (i := 2) rfl) rfl dX5_sayToo_31 (rfl : 31 + 3 = 34) ?_
          refine z_getr (ci := 8) (C := RX8) (T := TX8) (N := 3) h 0 (zR (zR p1 3) 0) (zf_8_0 hJ (zf_0_3 hJ k1).2).1 (zf_0_3 hJ k1).2 rfl (fun _ hq => List.mem_cons_of_mem _ (List.mem_append_right _ hq)) (by decide) (List.mem_of_getElem? (i := 3) rfl) rfl dX5_sayToo_34 (rfl : 34 + 3 = 37) ?_
          refine z_iload_n h 3 dX5_sayToo_37 rfl (rfl : 37 + 1 = 38) ?_
          obtain ⟨b7, hf⟩ := zchk hf
          refine z_iald h (zf_8_0 hJ (zf_0_3 hJ k1).2).2 b7 dX5_sayToo_38 (rfl : 38 + 1 = 39) ?_
          obtain ⟨b8, hf⟩ := zchk hf
          refine z_iast h b8 rfl dX5_sayToo_39 (rfl : 39 + 1 = 40) ?_
          refine z_iinc h 3 (x3_2 + 1) [(3, .int (x3_2 + 1)), (0, .ref (za B 39)), (1, .ref (za B p1)), (2, .int v2)] dX5_sayToo_40 rfl rfl (by decide) rfl (rfl : 40 + 3 = 43) ?_
          refine z_goto (pc' := 2) h dX5_sayToo_43 (by decide) ?_
          refine z_sub (L' := [(0, .ref (za B 39)), (1, .ref (za B p1)), (2, .int v2), (3, .int (x3_2 + 1))]) [1, 2, 3, 0] rfl ?_
          exact ih (x3_2 + 1) (zu q4.2 40 (Int32.toNatClampNeg x3_2) (q4.2 (zR (zR p1 3) 0) (Int32.toNatClampNeg x3_2))) _ hf hP hE
        · have hf := zitt c6 hf
          refine z_aload_n h 1 dX5_sayToo_22 rfl (rfl : 22 + 1 = 23) ?_
          refine z_iload_n h 3 dX5_sayToo_23 rfl (rfl : 23 + 1 = 24) ?_
          obtain ⟨q9, e10, hf⟩ := zbind hf
          refine z_goF (z_runV (C := RX0) (T := TX0) (N := 5) (ci := 0) h [.int x3_2] [.int x3_2, .ref (za B 40)] zyX0_commonThought (c_X0_commonThought B q4.2 J hJ p1 k1 x3_2 _ _ e10) gX5_sayToo_X0_commonThought rfl k1 rfl zrX5_sayToo_X0_commonThought rfl (Nat.le_of_ble_eq_true rfl) ⟨Nat.zero_le _, Nat.zero_le _⟩ rfl dX5_sayToo_24) rfl ?_
          refine z_goto (pc' := 39) h dX5_sayToo_27 (by decide) ?_
          obtain ⟨b11, hf⟩ := zchk hf
          refine z_iast h b11 rfl dX5_sayToo_39 (rfl : 39 + 1 = 40) ?_
          refine z_iinc h 3 (x3_2 + 1) [(3, .int (x3_2 + 1)), (0, .ref (za B 39)), (1, .ref (za B p1)), (2, .int v2)] dX5_sayToo_40 rfl rfl (by decide) rfl (rfl : 40 + 3 = 43) ?_
          refine z_goto (pc' := 2) h dX5_sayToo_43 (by decide) ?_
          refine z_sub (L' := [(0, .ref (za B 39)), (1, .ref (za B p1)), (2, .int v2), (3, .int (x3_2 + 1))]) [1, 2, 3, 0] rfl ?_
          exact ih (x3_2 + 1) (zu q9.2 40 (Int32.toNatClampNeg x3_2) q9.1) _ hf hP hE
  refine z_sub (L' := [(0, .ref (za B 39)), (1, .ref (za B p1)), (2, .int v2), (3, .int 0)]) [1, 2, 3, 0] rfl ?_
  obtain ⟨q1, e2, hf⟩ := zbind hf
  refine loop_2_2 _ 0 I q1 e2 (fun a ha => ?_) (fun a12 ha  => ?_)
  · have hf := zell ha hf
    exact zsome hf
  have hf := zelr ha hf
  clear ha loop_2_2
  refine z_vret h hr dX5_sayToo_46 ?_
  exact ⟨(zsome hf), rfl⟩
noncomputable def f_X5_isThere (J : zJ) (v1 : Int32) (v2 : Int32) (I : zM) : Option (Int32 × zM) := (if v2 < 1 then some ((0, I)) else (if zin v1 6 = true then (if I 2 (Int32.toNatClampNeg v1) < v2 then some ((0, I)) else some ((1, I))) else none))
noncomputable abbrev rmX5_isThere : Room := { frames := 0, cells := 0, slots := 0, locals := 0 }
theorem zyX5_isThere : zY yX5_isThere wsX5_isThere cX5_isThere 3 (some .boolean) 2 := ⟨⟨_, rfl⟩, by decide +kernel⟩
set_option maxHeartbeats 1000000 in
set_option maxRecDepth 100000 in
theorem c_X5_isThere (B : zB) (I : zM) (J : zJ) (hJ : zJok J) (v1 : Int32) (v2 : Int32) (r : Int32) (I' : zM) (hf : f_X5_isThere J v1 v2 I = some (r, I')) : zCi B zKW I J yX5_isThere wsX5_isThere rmX5_isThere [.ref (za B 39), .int v1, .int v2] (fun r2 I2 J2 => r2 = r ∧ I2 = I' ∧ J2 = J) := by
  refine z_start (own := RX5) (cc := cX5_isThere) (nL := 3) (ret := (some .boolean)) rfl (by decide) rfl (Nat.le_of_ble_eq_true rfl) (L := [(0, .ref (za B 39)), (1, .int v1), (2, .int v2)]) rfl (fun G h hr => ?_)
  rw [f_X5_isThere] at hf
  refine z_iload_n h 2 dX5_isThere_0 rfl (rfl : 0 + 1 = 1) ?_
  refine z_iconst h 1 dX5_isThere_1 (by decide) (rfl : 1 + 1 = 2) ?_
  refine z_icmp_lt (pc' := 5) h 22 dX5_isThere_2 (by decide) rfl (fun c1 => ?_) (fun c1 => ?_)
  · have hf := zitt c1 hf
    refine z_iconst h 0 dX5_isThere_22 (by decide) (rfl : 22 + 1 = 23) ?_
    refine z_zret h hr dX5_isThere_23 (Or.inl rfl) ?_
    exact ⟨congrArg Prod.fst (zsome hf), congrArg Prod.snd (zsome hf), rfl⟩
  · have hf := zitf c1 hf
    refine z_iload_n h 2 dX5_isThere_5 rfl (rfl : 5 + 1 = 6) ?_
    refine z_aload_n h 0 dX5_isThere_6 rfl (rfl : 6 + 1 = 7) ?_
    refine z_getr (ci := 5) (C := RX5) (T := TX5) (N := 17) h 0 1 ((hJ.1 39 0 (by decide)).trans rfl) rfl rfl (fun _ hq => List.mem_cons_of_mem _ (List.mem_append_left _ (List.mem_append_right _ hq))) (by decide) (List.mem_of_getElem? (i := 1) rfl) rfl dX5_isThere_7 (rfl : 7 + 3 = 10) ?_
    refine z_getr (ci := 3) (C := RX3) (T := TX3) (N := 4) h 0 2 ((hJ.1 1 0 (by decide)).trans rfl) rfl rfl (fun _ hq => List.mem_cons_of_mem _ (List.mem_append_right _ hq)) (by decide) (List.mem_of_getElem? (i := 2) rfl) rfl dX5_isThere_10 (rfl : 10 + 3 = 13) ?_
    refine z_iload_n h 1 dX5_isThere_13 rfl (rfl : 13 + 1 = 14) ?_
    obtain ⟨b2, hf⟩ := zchk hf
    refine z_iald h rfl b2 dX5_isThere_14 (rfl : 14 + 1 = 15) ?_
    refine z_icmp_gt (pc' := 18) h 22 dX5_isThere_15 (by decide) rfl (fun c3 => ?_) (fun c3 => ?_)
    · have hf := zitt c3 hf
      refine z_iconst h 0 dX5_isThere_22 (by decide) (rfl : 22 + 1 = 23) ?_
      refine z_zret h hr dX5_isThere_23 (Or.inl rfl) ?_
      exact ⟨congrArg Prod.fst (zsome hf), congrArg Prod.snd (zsome hf), rfl⟩
    · have hf := zitf c3 hf
      refine z_iconst h 1 dX5_isThere_18 (by decide) (rfl : 18 + 1 = 19) ?_
      refine z_goto (pc' := 23) h dX5_isThere_19 (by decide) ?_
      refine z_zret h hr dX5_isThere_23 (Or.inr rfl) ?_
      exact ⟨congrArg Prod.fst (zsome hf), congrArg Prod.snd (zsome hf), rfl⟩
noncomputable def f_X5_planRules_2 (J : zJ) (u1 : Int32) : Nat → Int32 → zM → Option ((zM) ⊕ (Int32 × zM))
  | 0, _, _ => none
  | n + 1, x2_2, I2 => (if I2 18 1 ≤ x2_2 then some (.inr (x2_2, I2)) else (if zin x2_2 13 = true then (if I2 (zrp J (Int32.toNatClampNeg x2_2)) 0 = u1 then (if I2 (zrp J (Int32.toNatClampNeg x2_2)) 5 = (-9) then ((f_X5_isThere J (I2 (zrp J (Int32.toNatClampNeg x2_2)) 1) (I2 (zrp J (Int32.toNatClampNeg x2_2)) 2) I2).bind fun q5 => (if q5.1 = 0 then f_X5_planRules_2 J u1 n (x2_2 + 1) q5.2 else (if zin (q5.2 (zrp J (Int32.toNatClampNeg x2_2)) 1) 6 = true then ((f_X2_add J (zR 43 (Int32.toNatClampNeg (q5.2 (zrp J (Int32.toNatClampNeg x2_2)) 1))) (q5.2 (zrp J (Int32.toNatClampNeg x2_2)) 2) ((10 : Int32) + x2_2) (q5.2 (zrp J (Int32.toNatClampNeg x2_2)) 3) (q5.2 (zrp J (Int32.toNatClampNeg x2_2)) 4) q5.2).bind fun q9 => f_X5_planRules_2 J u1 n (x2_2 + 1) q9) else none))) else (if I2 (zrp J (Int32.toNatClampNeg x2_2)) 5 = I2 39 5 then ((f_X5_isThere J (I2 (zrp J (Int32.toNatClampNeg x2_2)) 1) (I2 (zrp J (Int32.toNatClampNeg x2_2)) 2) I2).bind fun q12 => (if q12.1 = 0 then f_X5_planRules_2 J u1 n (x2_2 + 1) q12.2 else (if zin (q12.2 (zrp J (Int32.toNatClampNeg x2_2)) 1) 6 = true then ((f_X2_add J (zR 43 (Int32.toNatClampNeg (q12.2 (zrp J (Int32.toNatClampNeg x2_2)) 1))) (q12.2 (zrp J (Int32.toNatClampNeg x2_2)) 2) ((10 : Int32) + x2_2) (q12.2 (zrp J (Int32.toNatClampNeg x2_2)) 3) (q12.2 (zrp J (Int32.toNatClampNeg x2_2)) 4) q12.2).bind fun q16 => f_X5_planRules_2 J u1 n (x2_2 + 1) q16) else none))) else f_X5_planRules_2 J u1 n (x2_2 + 1) I2)) else f_X5_planRules_2 J u1 n (x2_2 + 1) I2) else none))
noncomputable def f_X5_planRules (J : zJ) (v1 : Int32) (I : zM) : Option (zM) := ((f_X5_planRules_2 J v1 zF 0 I).bind fun q => Sum.elim (fun a => some a) (fun a3 => some (a3.2)) q)
noncomputable abbrev rmX5_planRules : Room := { frames := 1, cells := 0, slots := 0, locals := 24 }
theorem zyX5_planRules : zY yX5_planRules wsX5_planRules cX5_planRules 5 none 1 := ⟨⟨_, rfl⟩, by decide +kernel⟩
theorem zrX5_planRules_X2_add : zRm rmX2_add rmX5_planRules 5 := ⟨rfl, rfl, by decide, by decide⟩
theorem zrX5_planRules_X5_isThere : zRm rmX5_isThere rmX5_planRules 3 := ⟨rfl, rfl, by decide, by decide⟩
set_option maxHeartbeats 1000000 in
set_option maxRecDepth 100000 in
theorem c_X5_planRules (B : zB) (I : zM) (J : zJ) (hJ : zJok J) (v1 : Int32) (I' : zM) (hf : f_X5_planRules J v1 I = some I') : zCv B zKW I J yX5_planRules wsX5_planRules rmX5_planRules [.ref (za B 39), .int v1] (fun I2 J2 => I2 = I' ∧ J2 = J) := by
  refine z_start (own := RX5) (cc := cX5_planRules) (nL := 5) (ret := none) rfl (by decide) rfl (Nat.le_of_ble_eq_true rfl) (L := [(0, .ref (za B 39)), (1, .int v1)]) rfl (fun G h hr => ?_)
  rw [f_X5_planRules] at hf
  refine z_iconst h 0 dX5_planRules_0 (by decide) (rfl : 0 + 1 = 1) ?_
  refine z_istore_n h [(2, .int 0), (0, .ref (za B 39)), (1, .int v1)] dX5_planRules_1 (by decide) rfl (rfl : 1 + 1 = 2) ?_
  have loop_2_2 : ∀ (n : Nat) (x2_2 : Int32) (I2 : zM) (q : (zM) ⊕ (Int32 × zM)), f_X5_planRules_2 J v1 n x2_2 I2 = some q → (∀ a, q = .inl a → a = I') → (∀ a : Int32 × zM, q = .inr a → Z B G zKW (a.2) (J) (0, 0) 112 [(0, .ref (za B 39)), (1, .int v1), (2, .int a.1)] []) → Z B G zKW I2 J (0, 0) 2 [(0, .ref (za B 39)), (1, .int v1), (2, .int x2_2)] [] := by
    intro n; induction n with
    | zero => intro x2_2 I2 q hf; exact absurd hf (by rw [f_X5_planRules_2]; exact fun z => by cases z)
    | succ n ih =>
      intro x2_2 I2 q hf hP hE; rw [f_X5_planRules_2] at hf
      refine z_iload_n h 2 dX5_planRules_2 rfl (rfl : 2 + 1 = 3) ?_
      refine z_aload_n h 0 dX5_planRules_3 rfl (rfl : 3 + 1 = 4) ?_
      refine z_getr (ci := 5) (C := RX5) (T := TX5) (N := 17) h 2 18 ((hJ.1 39 2 (by decide)).trans rfl) rfl rfl (fun _ hq => List.mem_cons_of_mem _ (List.mem_append_left _ (List.mem_append_left _ (List.mem_append_left _ (List.mem_append_left _ (List.mem_append_right _ hq)))))) (by decide) (List.mem_of_getElem? (i := 1) rfl) rfl dX5_planRules_4 (rfl : 4 + 3 = 7) ?_
      refine z_get (ci := 7) (C := RX7) (T := TX7) (N := 2) h 1 rfl rfl (fun _ hq => List.mem_cons_of_mem _ (List.mem_append_left _ (List.mem_append_left _ (List.mem_append_left _ (List.mem_append_right _ hq))))) (by decide) (List.mem_of_getElem? (i := 2) rfl) rfl dX5_planRules_7 (rfl : 7 + 3 = 10) ?_
      refine z_icmp_ge (pc' := 13) h 112 dX5_planRules_10 (by decide) rfl (fun c3 => ?_) (fun c3 => ?_)
      · have hf := zitt c3 hf
        exact hE (x2_2, I2) (zsome hf).symm
      · have hf := zitf c3 hf
        refine z_aload_n h 0 dX5_planRules_13 rfl (rfl : 13 + 1 = 14) ?_
        refine z_getr (ci := 5) (C := RX5) (T := TX5) (N := 17) h 2 18 ((hJ.1 39 2 (by decide)).trans rfl) rfl rfl (fun _ hq => List.mem_cons_of_mem _ (List.mem_append_left _ (List.mem_append_left _ (List.mem_append_left _ (List.mem_append_left _ (List.mem_append_right _ hq)))))) (by decide) (List.mem_of_getElem? (i := 1) rfl) rfl dX5_planRules_14 (rfl : 14 + 3 = 17) ?_
        refine z_getr (ci := 7) (C := RX7) (T := TX7) (N := 2) h 0 19 ((hJ.1 18 0 (by decide)).trans rfl) rfl rfl (fun _ hq => List.mem_cons_of_mem _ (List.mem_append_left _ (List.mem_append_left _ (List.mem_append_left _ (List.mem_append_right _ hq))))) (by decide) (List.mem_of_getElem? (i := 3) rfl) rfl dX5_planRules_17 (rfl : 17 + 3 = 20) ?_
        refine z_iload_n h 2 dX5_planRules_20 rfl (rfl : 20 + 1 = 21) ?_
        obtain ⟨b4, hf⟩ := zchk hf
        refine z_aldq h (zrp J (Int32.toNatClampNeg x2_2)) (zf_rows hJ (zin_lt b4)).1 rfl (by decide) rfl b4 dX5_planRules_21 (rfl : 21 + 1 = 22) ?_
        refine z_astore_n h [(3, .ref (za B (zrp J (Int32.toNatClampNeg x2_2)))), (0, .ref (za B 39)), (1, .int v1), (2, .int x2_2)] dX5_planRules_22 (by decide) rfl (rfl : 22 + 1 = 23) ?_
        refine z_aload_n h 0 dX5_planRules_23 rfl (rfl : 23 + 1 = 24) ?_
        refine z_get (ci := 6) (C := RX6) (T := TX6) (N := 6) h 0 (zf_rows hJ (zin_lt b4)).2 rfl (fun _ hq => List.mem_cons_of_mem _ (List.mem_append_left _ (List.mem_append_left _ (List.mem_append_right _ hq)))) (by decide) (List.mem_of_getElem? (i := 4) rfl) rfl dX5_planRules_24 (rfl : 24 + 3 = 27) ?_
        refine z_iload_n h 2 dX5_planRules_27 rfl (rfl : 27 + 1 = 28) ?_
        refine z_icmp_ne (pc' := 31) h 55 dX5_planRules_28 (by decide) rfl (fun c5 => ?_) (fun c5 => ?_)
        · have hf := zitf c5 hf
          refine z_iconst h 0 dX5_planRules_55 (by decide) (rfl : 55 + 1 = 56) ?_
          refine z_istore h [(4, .int 0), (3, .ref (za B (zrp J (Int32.toNatClampNeg x2_2)))), (0, .ref (za B 39)), (1, .int v1), (2, .int x2_2)] dX5_planRules_56 (by decide) rfl (rfl : 56 + 2 = 58) ?_
          refine z_iload h 0 dX5_planRules_58 rfl (rfl : 58 + 2 = 60) ?_
          refine z_if_eq (pc' := 63) h 106 dX5_planRules_60 (by decide) rfl (fun _ => ?_) (fun q => absurd q (by decide))
          refine z_iinc h 4 (x2_2 + 1) [(2, .int (x2_2 + 1)), (4, .int 0), (3, .ref (za B (zrp J (Int32.toNatClampNeg x2_2)))), (0, .ref (za B 39)), (1, .int v1)] dX5_planRules_106 rfl rfl (by decide) rfl (rfl : 106 + 3 = 109) ?_
          refine z_goto (pc' := 2) h dX5_planRules_109 (by decide) ?_
          refine z_sub (L' := [(0, .ref (za B 39)), (1, .int v1), (2, .int (x2_2 + 1))]) [3, 4, 0] rfl ?_
          exact ih (x2_2 + 1) I2 _ hf hP hE
        · have hf := zitt c5 hf
          refine z_aload_n h 0 dX5_planRules_31 rfl (rfl : 31 + 1 = 32) ?_
          refine z_get (ci := 6) (C := RX6) (T := TX6) (N := 6) h 5 (zf_rows hJ (zin_lt b4)).2 rfl (fun _ hq => List.mem_cons_of_mem _ (List.mem_append_left _ (List.mem_append_left _ (List.mem_append_right _ hq)))) (by decide) (List.mem_of_getElem? (i := 5) rfl) rfl dX5_planRules_32 (rfl : 32 + 3 = 35) ?_
          refine z_bipush h (-9) dX5_planRules_35 (by decide) (rfl : 35 + 2 = 37) ?_
          refine z_icmp_eq (pc' := 40) h 51 dX5_planRules_37 (by decide) rfl (fun c6 => ?_) (fun c6 => ?_)
          · have hf := zitt c6 hf
            refine z_iconst h 1 dX5_planRules_51 (by decide) (rfl : 51 + 1 = 52) ?_
            refine z_goto (pc' := 56) h dX5_planRules_52 (by decide) ?_
            refine z_istore h [(4, .int 1), (3, .ref (za B (zrp J (Int32.toNatClampNeg x2_2)))), (0, .ref (za B 39)), (1, .int v1), (2, .int x2_2)] dX5_planRules_56 (by decide) rfl (rfl : 56 + 2 = 58) ?_
            refine z_iload h 0 dX5_planRules_58 rfl (rfl : 58 + 2 = 60) ?_
            refine z_if_eq (pc' := 63) h 106 dX5_planRules_60 (by decide) rfl (fun q => absurd q (by decide)) (fun _ => ?_)
            refine z_aload_n h 2 dX5_planRules_63 rfl (rfl : 63 + 1 = 64) ?_
            refine z_aload_n h 1 dX5_planRules_64 rfl (rfl : 64 + 1 = 65) ?_
            refine z_get (ci := 6) (C := RX6) (T := TX6) (N := 6) h 1 (zf_rows hJ (zin_lt b4)).2 rfl (fun _ hq => List.mem_cons_of_mem _ (List.mem_append_left _ (List.mem_append_left _ (List.mem_append_right _ hq)))) (by decide) (List.mem_of_getElem? (i := 7) rfl) rfl dX5_planRules_65 (rfl : 65 + 3 = 68) ?_
            refine z_aload_n h 1 dX5_planRules_68 rfl (rfl : 68 + 1 = 69) ?_
            refine z_get (ci := 6) (C := RX6) (T := TX6) (N := 6) h 2 (zf_rows hJ (zin_lt b4)).2 rfl (fun _ hq => List.mem_cons_of_mem _ (List.mem_append_left _ (List.mem_append_left _ (List.mem_append_right _ hq)))) (by decide) (List.mem_of_getElem? (i := 8) rfl) rfl dX5_planRules_69 (rfl : 69 + 3 = 72) ?_
            obtain ⟨q7, e8, hf⟩ := zbind hf
            refine z_goF (z_runV (C := RX5) (T := TX5) (N := 17) (ci := 5) h [.int (I2 (zrp J (Int32.toNatClampNeg x2_2)) 1), .int (I2 (zrp J (Int32.toNatClampNeg x2_2)) 2)] [] zyX5_isThere (c_X5_isThere B I2 J hJ (I2 (zrp J (Int32.toNatClampNeg x2_2)) 1) (I2 (zrp J (Int32.toNatClampNeg x2_2)) 2) _ _ e8) gX5_planRules_X5_isThere rfl rfl rfl zrX5_planRules_X5_isThere rfl (Nat.le_of_ble_eq_true rfl) ⟨Nat.zero_le _, Nat.zero_le _⟩ rfl dX5_planRules_72) rfl ?_
            refine z_if_eq (pc' := 78) h 106 dX5_planRules_75 (by decide) rfl (fun c9 => ?_) (fun c9 => ?_)
            · have hf := zitt c9 hf
              refine z_iinc h 4 (x2_2 + 1) [(2, .int (x2_2 + 1)), (4, .int 1), (3, .ref (za B (zrp J (Int32.toNatClampNeg x2_2)))), (0, .ref (za B 39)), (1, .int v1)] dX5_planRules_106 rfl rfl (by decide) rfl (rfl : 106 + 3 = 109) ?_
              refine z_goto (pc' := 2) h dX5_planRules_109 (by decide) ?_
              refine z_sub (L' := [(0, .ref (za B 39)), (1, .int v1), (2, .int (x2_2 + 1))]) [3, 4, 0] rfl ?_
              exact ih (x2_2 + 1) q7.2 _ hf hP hE
            · have hf := zitf c9 hf
              refine z_aload_n h 2 dX5_planRules_78 rfl (rfl : 78 + 1 = 79) ?_
              refine z_getr (ci := 5) (C := RX5) (T := TX5) (N := 17) h 10 43 ((hJ.1 39 10 (by decide)).trans rfl) rfl rfl (fun _ hq => List.mem_cons_of_mem _ (List.mem_append_left _ (List.mem_append_left _ (List.mem_append_left _ (List.mem_append_left _ (List.mem_append_right _ hq)))))) (by decide) (List.mem_of_getElem? (i := 9) rfl) rfl dX5_planRules_79 (rfl : 79 + 3 = 82) ?_
              refine z_aload_n h 1 dX5_planRules_82 rfl (rfl : 82 + 1 = 83) ?_
              refine z_get (ci := 6) (C := RX6) (T := TX6) (N := 6) h 1 (zf_rows hJ (zin_lt b4)).2 rfl (fun _ hq => List.mem_cons_of_mem _ (List.mem_append_left _ (List.mem_append_left _ (List.mem_append_right _ hq)))) (by decide) (List.mem_of_getElem? (i := 7) rfl) rfl dX5_planRules_83 (rfl : 83 + 3 = 86) ?_
              obtain ⟨b10, hf⟩ := zchk hf
              refine z_aldq h (zR 43 (Int32.toNatClampNeg (q7.2 (zrp J (Int32.toNatClampNeg x2_2)) 1))) (ze_5 hJ rfl (zin_lt b10)).1 rfl (by decide) rfl b10 dX5_planRules_86 (rfl : 86 + 1 = 87) ?_
              refine z_aload_n h 1 dX5_planRules_87 rfl (rfl : 87 + 1 = 88) ?_
              refine z_get (ci := 6) (C := RX6) (T := TX6) (N := 6) h 2 (zf_rows hJ (zin_lt b4)).2 rfl (fun _ hq => List.mem_cons_of_mem _ (List.mem_append_left _ (List.mem_append_left _ (List.mem_append_right _ hq)))) (by decide) (List.mem_of_getElem? (i := 8) rfl) rfl dX5_planRules_88 (rfl : 88 + 3 = 91) ?_
              refine z_bipush h 10 dX5_planRules_91 (by decide) (rfl : 91 + 2 = 93) ?_
              refine z_iload_n h 4 dX5_planRules_93 rfl (rfl : 93 + 1 = 94) ?_
              refine z_iadd h dX5_planRules_94 (rfl : 94 + 1 = 95) ?_
              refine z_aload_n h 1 dX5_planRules_95 rfl (rfl : 95 + 1 = 96) ?_
              refine z_get (ci := 6) (C := RX6) (T := TX6) (N := 6) h 3 (zf_rows hJ (zin_lt b4)).2 rfl (fun _ hq => List.mem_cons_of_mem _ (List.mem_append_left _ (List.mem_append_left _ (List.mem_append_right _ hq)))) (by decide) (List.mem_of_getElem? (i := 10) rfl) rfl dX5_planRules_96 (rfl : 96 + 3 = 99) ?_
              refine z_aload_n h 1 dX5_planRules_99 rfl (rfl : 99 + 1 = 100) ?_
              refine z_get (ci := 6) (C := RX6) (T := TX6) (N := 6) h 4 (zf_rows hJ (zin_lt b4)).2 rfl (fun _ hq => List.mem_cons_of_mem _ (List.mem_append_left _ (List.mem_append_left _ (List.mem_append_right _ hq)))) (by decide) (List.mem_of_getElem? (i := 11) rfl) rfl dX5_planRules_100 (rfl : 100 + 3 = 103) ?_
              obtain ⟨q11, e12, hf⟩ := zbind hf
              refine z_goFv (z_runV (C := RX2) (T := TX2) (N := 5) (ci := 2) h [.int (q7.2 (zrp J (Int32.toNatClampNeg x2_2)) 2), .int ((10 : Int32) + x2_2), .int (q7.2 (zrp J (Int32.toNatClampNeg x2_2)) 3), .int (q7.2 (zrp J (Int32.toNatClampNeg x2_2)) 4)] [] zyX2_add (c_X2_add B q7.2 J hJ (zR 43 (Int32.toNatClampNeg (q7.2 (zrp J (Int32.toNatClampNeg x2_2)) 1))) ((ze_5 hJ rfl (zin_lt b10)).2) (q7.2 (zrp J (Int32.toNatClampNeg x2_2)) 2) ((10 : Int32) + x2_2) (q7.2 (zrp J (Int32.toNatClampNeg x2_2)) 3) (q7.2 (zrp J (Int32.toNatClampNeg x2_2)) 4) _ e12) gX5_planRules_X2_add rfl (ze_5 hJ rfl (zin_lt b10)).2 rfl zrX5_planRules_X2_add rfl (Nat.le_of_ble_eq_true rfl) ⟨Nat.zero_le _, Nat.zero_le _⟩ rfl dX5_planRules_103) rfl ?_
              refine z_iinc h 4 (x2_2 + 1) [(2, .int (x2_2 + 1)), (4, .int 1), (3, .ref (za B (zrp J (Int32.toNatClampNeg x2_2)))), (0, .ref (za B 39)), (1, .int v1)] dX5_planRules_106 rfl rfl (by decide) rfl (rfl : 106 + 3 = 109) ?_
              refine z_goto (pc' := 2) h dX5_planRules_109 (by decide) ?_
              refine z_sub (L' := [(0, .ref (za B 39)), (1, .int v1), (2, .int (x2_2 + 1))]) [3, 4, 0] rfl ?_
              exact ih (x2_2 + 1) q11 _ hf hP hE
          · have hf := zitf c6 hf
            refine z_aload_n h 0 dX5_planRules_40 rfl (rfl : 40 + 1 = 41) ?_
            refine z_get (ci := 6) (C := RX6) (T := TX6) (N := 6) h 5 (zf_rows hJ (zin_lt b4)).2 rfl (fun _ hq => List.mem_cons_of_mem _ (List.mem_append_left _ (List.mem_append_left _ (List.mem_append_right _ hq)))) (by decide) (List.mem_of_getElem? (i := 5) rfl) rfl dX5_planRules_41 (rfl : 41 + 3 = 44) ?_
            refine z_aload_n h 1 dX5_planRules_44 rfl (rfl : 44 + 1 = 45) ?_
            refine z_get (ci := 5) (C := RX5) (T := TX5) (N := 17) h 5 rfl rfl (fun _ hq => List.mem_cons_of_mem _ (List.mem_append_left _ (List.mem_append_left _ (List.mem_append_left _ (List.mem_append_left _ (List.mem_append_right _ hq)))))) (by decide) (List.mem_of_getElem? (i := 6) rfl) rfl dX5_planRules_45 (rfl : 45 + 3 = 48) ?_
            refine z_icmp_ne (pc' := 51) h 55 dX5_planRules_48 (by decide) rfl (fun c13 => ?_) (fun c13 => ?_)
            · have hf := zitf c13 hf
              refine z_iconst h 0 dX5_planRules_55 (by decide) (rfl : 55 + 1 = 56) ?_
              refine z_istore h [(4, .int 0), (3, .ref (za B (zrp J (Int32.toNatClampNeg x2_2)))), (0, .ref (za B 39)), (1, .int v1), (2, .int x2_2)] dX5_planRules_56 (by decide) rfl (rfl : 56 + 2 = 58) ?_
              refine z_iload h 0 dX5_planRules_58 rfl (rfl : 58 + 2 = 60) ?_
              refine z_if_eq (pc' := 63) h 106 dX5_planRules_60 (by decide) rfl (fun _ => ?_) (fun q => absurd q (by decide))
              refine z_iinc h 4 (x2_2 + 1) [(2, .int (x2_2 + 1)), (4, .int 0), (3, .ref (za B (zrp J (Int32.toNatClampNeg x2_2)))), (0, .ref (za B 39)), (1, .int v1)] dX5_planRules_106 rfl rfl (by decide) rfl (rfl : 106 + 3 = 109) ?_
              refine z_goto (pc' := 2) h dX5_planRules_109 (by decide) ?_
              refine z_sub (L' := [(0, .ref (za B 39)), (1, .int v1), (2, .int (x2_2 + 1))]) [3, 4, 0] rfl ?_
              exact ih (x2_2 + 1) I2 _ hf hP hE
            · have hf := zitt c13 hf
              refine z_iconst h 1 dX5_planRules_51 (by decide) (rfl : 51 + 1 = 52) ?_
              refine z_goto (pc' := 56) h dX5_planRules_52 (by decide) ?_
              refine z_istore h [(4, .int 1), (3, .ref (za B (zrp J (Int32.toNatClampNeg x2_2)))), (0, .ref (za B 39)), (1, .int v1), (2, .int x2_2)] dX5_planRules_56 (by decide) rfl (rfl : 56 + 2 = 58) ?_
              refine z_iload h 0 dX5_planRules_58 rfl (rfl : 58 + 2 = 60) ?_
              refine z_if_eq (pc' := 63) h 106 dX5_planRules_60 (by decide) rfl (fun q => absurd q (by decide)) (fun _ => ?_)
              refine z_aload_n h 2 dX5_planRules_63 rfl (rfl : 63 + 1 = 64) ?_
              refine z_aload_n h 1 dX5_planRules_64 rfl (rfl : 64 + 1 = 65) ?_
              refine z_get (ci := 6) (C := RX6) (T := TX6) (N := 6) h 1 (zf_rows hJ (zin_lt b4)).2 rfl (fun _ hq => List.mem_cons_of_mem _ (List.mem_append_left _ (List.mem_append_left _ (List.mem_append_right _ hq)))) (by decide) (List.mem_of_getElem? (i := 7) rfl) rfl dX5_planRules_65 (rfl : 65 + 3 = 68) ?_
              refine z_aload_n h 1 dX5_planRules_68 rfl (rfl : 68 + 1 = 69) ?_
              refine z_get (ci := 6) (C := RX6) (T := TX6) (N := 6) h 2 (zf_rows hJ (zin_lt b4)).2 rfl (fun _ hq => List.mem_cons_of_mem _ (List.mem_append_left _ (List.mem_append_left _ (List.mem_append_right _ hq)))) (by decide) (List.mem_of_getElem? (i := 8) rfl) rfl dX5_planRules_69 (rfl : 69 + 3 = 72) ?_
              obtain ⟨q14, e15, hf⟩ := zbind hf
              refine z_goF (z_runV (C := RX5) (T := TX5) (N := 17) (ci := 5) h [.int (I2 (zrp J (Int32.toNatClampNeg x2_2)) 1), .int (I2 (zrp J (Int32.toNatClampNeg x2_2)) 2)] [] zyX5_isThere (c_X5_isThere B I2 J hJ (I2 (zrp J (Int32.toNatClampNeg x2_2)) 1) (I2 (zrp J (Int32.toNatClampNeg x2_2)) 2) _ _ e15) gX5_planRules_X5_isThere rfl rfl rfl zrX5_planRules_X5_isThere rfl (Nat.le_of_ble_eq_true rfl) ⟨Nat.zero_le _, Nat.zero_le _⟩ rfl dX5_planRules_72) rfl ?_
              refine z_if_eq (pc' := 78) h 106 dX5_planRules_75 (by decide) rfl (fun c16 => ?_) (fun c16 => ?_)
              · have hf := zitt c16 hf
                refine z_iinc h 4 (x2_2 + 1) [(2, .int (x2_2 + 1)), (4, .int 1), (3, .ref (za B (zrp J (Int32.toNatClampNeg x2_2)))), (0, .ref (za B 39)), (1, .int v1)] dX5_planRules_106 rfl rfl (by decide) rfl (rfl : 106 + 3 = 109) ?_
                refine z_goto (pc' := 2) h dX5_planRules_109 (by decide) ?_
                refine z_sub (L' := [(0, .ref (za B 39)), (1, .int v1), (2, .int (x2_2 + 1))]) [3, 4, 0] rfl ?_
                exact ih (x2_2 + 1) q14.2 _ hf hP hE
              · have hf := zitf c16 hf
                refine z_aload_n h 2 dX5_planRules_78 rfl (rfl : 78 + 1 = 79) ?_
                refine z_getr (ci := 5) (C := RX5) (T := TX5) (N := 17) h 10 43 ((hJ.1 39 10 (by decide)).trans rfl) rfl rfl (fun _ hq => List.mem_cons_of_mem _ (List.mem_append_left _ (List.mem_append_left _ (List.mem_append_left _ (List.mem_append_left _ (List.mem_append_right _ hq)))))) (by decide) (List.mem_of_getElem? (i := 9) rfl) rfl dX5_planRules_79 (rfl : 79 + 3 = 82) ?_
                refine z_aload_n h 1 dX5_planRules_82 rfl (rfl : 82 + 1 = 83) ?_
                refine z_get (ci := 6) (C := RX6) (T := TX6) (N := 6) h 1 (zf_rows hJ (zin_lt b4)).2 rfl (fun _ hq => List.mem_cons_of_mem _ (List.mem_append_left _ (List.mem_append_left _ (List.mem_append_right _ hq)))) (by decide) (List.mem_of_getElem? (i := 7) rfl) rfl dX5_planRules_83 (rfl : 83 + 3 = 86) ?_
                obtain ⟨b17, hf⟩ := zchk hf
                refine z_aldq h (zR 43 (Int32.toNatClampNeg (q14.2 (zrp J (Int32.toNatClampNeg x2_2)) 1))) (ze_5 hJ rfl (zin_lt b17)).1 rfl (by decide) rfl b17 dX5_planRules_86 (rfl : 86 + 1 = 87) ?_
                refine z_aload_n h 1 dX5_planRules_87 rfl (rfl : 87 + 1 = 88) ?_
                refine z_get (ci := 6) (C := RX6) (T := TX6) (N := 6) h 2 (zf_rows hJ (zin_lt b4)).2 rfl (fun _ hq => List.mem_cons_of_mem _ (List.mem_append_left _ (List.mem_append_left _ (List.mem_append_right _ hq)))) (by decide) (List.mem_of_getElem? (i := 8) rfl) rfl dX5_planRules_88 (rfl : 88 + 3 = 91) ?_
                refine z_bipush h 10 dX5_planRules_91 (by decide) (rfl : 91 + 2 = 93) ?_
                refine z_iload_n h 4 dX5_planRules_93 rfl (rfl : 93 + 1 = 94) ?_
                refine z_iadd h dX5_planRules_94 (rfl : 94 + 1 = 95) ?_
                refine z_aload_n h 1 dX5_planRules_95 rfl (rfl : 95 + 1 = 96) ?_
                refine z_get (ci := 6) (C := RX6) (T := TX6) (N := 6) h 3 (zf_rows hJ (zin_lt b4)).2 rfl (fun _ hq => List.mem_cons_of_mem _ (List.mem_append_left _ (List.mem_append_left _ (List.mem_append_right _ hq)))) (by decide) (List.mem_of_getElem? (i := 10) rfl) rfl dX5_planRules_96 (rfl : 96 + 3 = 99) ?_
                refine z_aload_n h 1 dX5_planRules_99 rfl (rfl : 99 + 1 = 100) ?_
                refine z_get (ci := 6) (C := RX6) (T := TX6) (N := 6) h 4 (zf_rows hJ (zin_lt b4)).2 rfl (fun _ hq => List.mem_cons_of_mem _ (List.mem_append_left _ (List.mem_append_left _ (List.mem_append_right _ hq)))) (by decide) (List.mem_of_getElem? (i := 11) rfl) rfl dX5_planRules_100 (rfl : 100 + 3 = 103) ?_
                obtain ⟨q18, e19, hf⟩ := zbind hf
                refine z_goFv (z_runV (C := RX2) (T := TX2) (N := 5) (ci := 2) h [.int (q14.2 (zrp J (Int32.toNatClampNeg x2_2)) 2), .int ((10 : Int32) + x2_2), .int (q14.2 (zrp J (Int32.toNatClampNeg x2_2)) 3), .int (q14.2 (zrp J (Int32.toNatClampNeg x2_2)) 4)] [] zyX2_add (c_X2_add B q14.2 J hJ (zR 43 (Int32.toNatClampNeg (q14.2 (zrp J (Int32.toNatClampNeg x2_2)) 1))) ((ze_5 hJ rfl (zin_lt b17)).2) (q14.2 (zrp J (Int32.toNatClampNeg x2_2)) 2) ((10 : Int32) + x2_2) (q14.2 (zrp J (Int32.toNatClampNeg x2_2)) 3) (q14.2 (zrp J (Int32.toNatClampNeg x2_2)) 4) _ e19) gX5_planRules_X2_add rfl (ze_5 hJ rfl (zin_lt b17)).2 rfl zrX5_planRules_X2_add rfl (Nat.le_of_ble_eq_true rfl) ⟨Nat.zero_le _, Nat.zero_le _⟩ rfl dX5_planRules_103) rfl ?_
                refine z_iinc h 4 (x2_2 + 1) [(2, .int (x2_2 + 1)), (4, .int 1), (3, .ref (za B (zrp J (Int32.toNatClampNeg x2_2)))), (0, .ref (za B 39)), (1, .int v1)] dX5_planRules_106 rfl rfl (by decide) rfl (rfl : 106 + 3 = 109) ?_
                refine z_goto (pc' := 2) h dX5_planRules_109 (by decide) ?_
                refine z_sub (L' := [(0, .ref (za B 39)), (1, .int v1), (2, .int (x2_2 + 1))]) [3, 4, 0] rfl ?_
                exact ih (x2_2 + 1) q18 _ hf hP hE
  refine z_sub (L' := [(0, .ref (za B 39)), (1, .int v1), (2, .int 0)]) [1, 2, 0] rfl ?_
  obtain ⟨q1, e2, hf⟩ := zbind hf
  refine loop_2_2 _ 0 I q1 e2 (fun a ha => ?_) (fun a20 ha  => ?_)
  · have hf := zell ha hf
    exact zsome hf
  have hf := zelr ha hf
  clear ha loop_2_2
  refine z_vret h hr dX5_planRules_112 ?_
  exact ⟨(zsome hf), rfl⟩
noncomputable def f_X5_planRow_2 (J : zJ) (r1 : Nat) (u2 : Int32) : Nat → Int32 → zM → Option ((zM) ⊕ (Int32 × zM))
  | 0, _, _ => none
  | n + 1, x3_2, I2 => (if 6 ≤ x3_2 then some (.inr (x3_2, I2)) else (if zin x3_2 6 = true then ((f_X5_isThere J x3_2 (I2 r1 (Int32.toNatClampNeg x3_2)) I2).bind fun q3 => (if q3.1 = 0 then f_X5_planRow_2 J r1 u2 n (x3_2 + 1) q3.2 else (if zin x3_2 6 = true then (if zin x3_2 6 = true then ((f_X2_add J (zR 43 (Int32.toNatClampNeg x3_2)) (q3.2 r1 (Int32.toNatClampNeg x3_2)) u2 (-9) 0 q3.2).bind fun q8 => f_X5_planRow_2 J r1 u2 n (x3_2 + 1) q8) else none) else none))) else none))
noncomputable def f_X5_planRow (J : zJ) (p1 : Nat) (v2 : Int32) (I : zM) : Option (zM) := ((f_X5_planRow_2 J p1 v2 zF 0 I).bind fun q => Sum.elim (fun a => some a) (fun a3 => some (a3.2)) q)
noncomputable abbrev rmX5_planRow : Room := { frames := 1, cells := 0, slots := 0, locals := 24 }
theorem zyX5_planRow : zY yX5_planRow wsX5_planRow cX5_planRow 4 none 2 := ⟨⟨_, rfl⟩, by decide +kernel⟩
theorem zrX5_planRow_X2_add : zRm rmX2_add rmX5_planRow 5 := ⟨rfl, rfl, by decide, by decide⟩
theorem zrX5_planRow_X5_isThere : zRm rmX5_isThere rmX5_planRow 3 := ⟨rfl, rfl, by decide, by decide⟩
set_option maxHeartbeats 1000000 in
set_option maxRecDepth 100000 in
theorem c_X5_planRow (B : zB) (I : zM) (J : zJ) (hJ : zJok J) (p1 : Nat) (k1 : zKW[p1]? = some (.inl (0, 6, false))) (v2 : Int32) (I' : zM) (hf : f_X5_planRow J p1 v2 I = some I') : zCv B zKW I J yX5_planRow wsX5_planRow rmX5_planRow [.ref (za B 39), .ref (za B p1), .int v2] (fun I2 J2 => I2 = I' ∧ J2 = J) := by
  refine z_start (own := RX5) (cc := cX5_planRow) (nL := 4) (ret := none) rfl (by decide) rfl (Nat.le_of_ble_eq_true rfl) (L := [(0, .ref (za B 39)), (1, .ref (za B p1)), (2, .int v2)]) rfl (fun G h hr => ?_)
  rw [f_X5_planRow] at hf
  refine z_iconst h 0 dX5_planRow_0 (by decide) (rfl : 0 + 1 = 1) ?_
  refine z_istore_n h [(3, .int 0), (0, .ref (za B 39)), (1, .ref (za B p1)), (2, .int v2)] dX5_planRow_1 (by decide) rfl (rfl : 1 + 1 = 2) ?_
  have loop_2_2 : ∀ (n : Nat) (x3_2 : Int32) (I2 : zM) (q : (zM) ⊕ (Int32 × zM)), f_X5_planRow_2 J p1 v2 n x3_2 I2 = some q → (∀ a, q = .inl a → a = I') → (∀ a : Int32 × zM, q = .inr a → Z B G zKW (a.2) (J) (0, 0) 41 [(0, .ref (za B 39)), (1, .ref (za B p1)), (2, .int v2), (3, .int a.1)] []) → Z B G zKW I2 J (0, 0) 2 [(0, .ref (za B 39)), (1, .ref (za B p1)), (2, .int v2), (3, .int x3_2)] [] := by
    intro n; induction n with
    | zero => intro x3_2 I2 q hf; exact absurd hf (by rw [f_X5_planRow_2]; exact fun z => by cases z)
    | succ n ih =>
      intro x3_2 I2 q hf hP hE; rw [f_X5_planRow_2] at hf
      refine z_iload_n h 3 dX5_planRow_2 rfl (rfl : 2 + 1 = 3) ?_
      refine z_bipush h 6 dX5_planRow_3 (by decide) (rfl : 3 + 2 = 5) ?_
      refine z_icmp_ge (pc' := 8) h 41 dX5_planRow_5 (by decide) rfl (fun c3 => ?_) (fun c3 => ?_)
      · have hf := zitt c3 hf
        exact hE (x3_2, I2) (zsome hf).symm
      · have hf := zitf c3 hf
        refine z_aload_n h 0 dX5_planRow_8 rfl (rfl : 8 + 1 = 9) ?_
        refine z_iload_n h 3 dX5_planRow_9 rfl (rfl : 9 + 1 = 10) ?_
        refine z_aload_n h 1 dX5_planRow_10 rfl (rfl : 10 + 1 = 11) ?_
        refine z_iload_n h 3 dX5_planRow_11 rfl (rfl : 11 + 1 = 12) ?_
        obtain ⟨b4, hf⟩ := zchk hf
        refine z_iald h k1 b4 dX5_planRow_12 (rfl : 12 + 1 = 13) ?_
        obtain ⟨q5, e6, hf⟩ := zbind hf
        refine z_goF (z_runV (C := RX5) (T := TX5) (N := 17) (ci := 5) h [.int x3_2, .int (I2 p1 (Int32.toNatClampNeg x3_2))] [] zyX5_isThere (c_X5_isThere B I2 J hJ x3_2 (I2 p1 (Int32.toNatClampNeg x3_2)) _ _ e6) gX5_planRow_X5_isThere rfl rfl rfl zrX5_planRow_X5_isThere rfl (Nat.le_of_ble_eq_true rfl) ⟨Nat.zero_le _, Nat.zero_le _⟩ rfl dX5_planRow_13) rfl ?_
        refine z_if_eq (pc' := 19) h 35 dX5_planRow_16 (by decide) rfl (fun c7 => ?_) (fun c7 => ?_)
        · have hf := zitt c7 hf
          refine z_iinc h 3 (x3_2 + 1) [(3, .int (x3_2 + 1)), (0, .ref (za B 39)), (1, .ref (za B p1)), (2, .int v2)] dX5_planRow_35 rfl rfl (by decide) rfl (rfl : 35 + 3 = 38) ?_
          refine z_goto (pc' := 2) h dX5_planRow_38 (by decide) ?_
          refine z_sub (L' := [(0, .ref (za B 39)), (1, .ref (za B p1)), (2, .int v2), (3, .int (x3_2 + 1))]) [1, 2, 3, 0] rfl ?_
          exact ih (x3_2 + 1) q5.2 _ hf hP hE
        · have hf := zitf c7 hf
          refine z_aload_n h 0 dX5_planRow_19 rfl (rfl : 19 + 1 = 20) ?_
          refine z_getr (ci := 5) (C := RX5) (T := TX5) (N := 17) h 10 43 ((hJ.1 39 10 (by decide)).trans rfl) rfl rfl (fun _ hq => List.mem_cons_of_mem _ (List.mem_append_left _ (List.mem_append_left _ (List.mem_append_right _ hq)))) (by decide) (List.mem_of_getElem? (i := 1) rfl) rfl dX5_planRow_20 (rfl : 20 + 3 = 23) ?_
          refine z_iload_n h 3 dX5_planRow_23 rfl (rfl : 23 + 1 = 24) ?_
          obtain ⟨b8, hf⟩ := zchk hf
          refine z_aldq h (zR 43 (Int32.toNatClampNeg x3_2)) (ze_5 hJ rfl (zin_lt b8)).1 rfl (by decide) rfl b8 dX5_planRow_24 (rfl : 24 + 1 = 25) ?_
          refine z_aload_n h 1 dX5_planRow_25 rfl (rfl : 25 + 1 = 26) ?_
          refine z_iload_n h 3 dX5_planRow_26 rfl (rfl : 26 + 1 = 27) ?_
          obtain ⟨b9, hf⟩ := zchk hf
          refine z_iald h k1 b9 dX5_planRow_27 (rfl : 27 + 1 = 28) ?_
          refine z_iload_n h 2 dX5_planRow_28 rfl (rfl : 28 + 1 = 29) ?_
          refine z_bipush h (-9) dX5_planRow_29 (by decide) (rfl : 29 + 2 = 31) ?_
          refine z_iconst h 0 dX5_planRow_31 (by decide) (rfl : 31 + 1 = 32) ?_
          obtain ⟨q10, e11, hf⟩ := zbind hf
          refine z_goFv (z_runV (C := RX2) (T := TX2) (N := 5) (ci := 2) h [.int (q5.2 p1 (Int32.toNatClampNeg x3_2)), .int v2, .int (-9), .int 0] [] zyX2_add (c_X2_add B q5.2 J hJ (zR 43 (Int32.toNatClampNeg x3_2)) ((ze_5 hJ rfl (zin_lt b8)).2) (q5.2 p1 (Int32.toNatClampNeg x3_2)) v2 (-9) 0 _ e11) gX5_planRow_X2_add rfl (ze_5 hJ rfl (zin_lt b8)).2 rfl zrX5_planRow_X2_add rfl (Nat.le_of_ble_eq_true rfl) ⟨Nat.zero_le _, Nat.zero_le _⟩ rfl dX5_planRow_32) rfl ?_
          refine z_iinc h 3 (x3_2 + 1) [(3, .int (x3_2 + 1)), (0, .ref (za B 39)), (1, .ref (za B p1)), (2, .int v2)] dX5_planRow_35 rfl rfl (by decide) rfl (rfl : 35 + 3 = 38) ?_
          refine z_goto (pc' := 2) h dX5_planRow_38 (by decide) ?_
          refine z_sub (L' := [(0, .ref (za B 39)), (1, .ref (za B p1)), (2, .int v2), (3, .int (x3_2 + 1))]) [1, 2, 3, 0] rfl ?_
          exact ih (x3_2 + 1) q10 _ hf hP hE
  refine z_sub (L' := [(0, .ref (za B 39)), (1, .ref (za B p1)), (2, .int v2), (3, .int 0)]) [1, 2, 3, 0] rfl ?_
  obtain ⟨q1, e2, hf⟩ := zbind hf
  refine loop_2_2 _ 0 I q1 e2 (fun a ha => ?_) (fun a12 ha  => ?_)
  · have hf := zell ha hf
    exact zsome hf
  have hf := zelr ha hf
  clear ha loop_2_2
  refine z_vret h hr dX5_planRow_41 ?_
  exact ⟨(zsome hf), rfl⟩
noncomputable def f_X5_planLawAhead (J : zJ)  (I : zM) : Option (zM) := ((f_X11_isGap J (I 39 3) I).bind fun q1 => (if q1.1 = 0 then some (q1.2) else ((f_X5_isThere J (q1.2 39 3) (q1.2 39 4) q1.2).bind fun q4 => (if q4.1 = 0 then some (q4.2) else (if zin (q4.2 39 3) 6 = true then ((f_X2_add J (zR 43 (Int32.toNatClampNeg (q4.2 39 3))) (q4.2 39 4) 0 (-9) 0 q4.2).bind fun q8 => some (q8)) else none)))))
noncomputable abbrev rmX5_planLawAhead : Room := { frames := 1, cells := 0, slots := 0, locals := 24 }
theorem zyX5_planLawAhead : zY yX5_planLawAhead wsX5_planLawAhead cX5_planLawAhead 1 none 0 := ⟨⟨_, rfl⟩, by decide +kernel⟩
theorem zrX5_planLawAhead_X11_isGap : zRm rmX11_isGap rmX5_planLawAhead 1 := ⟨rfl, rfl, by decide, by decide⟩
theorem zrX5_planLawAhead_X2_add : zRm rmX2_add rmX5_planLawAhead 5 := ⟨rfl, rfl, by decide, by decide⟩
theorem zrX5_planLawAhead_X5_isThere : zRm rmX5_isThere rmX5_planLawAhead 3 := ⟨rfl, rfl, by decide, by decide⟩
set_option maxHeartbeats 1000000 in
set_option maxRecDepth 100000 in
theorem c_X5_planLawAhead (B : zB) (I : zM) (J : zJ) (hJ : zJok J)  (I' : zM) (hf : f_X5_planLawAhead J  I = some I') : zCv B zKW I J yX5_planLawAhead wsX5_planLawAhead rmX5_planLawAhead [.ref (za B 39)] (fun I2 J2 => I2 = I' ∧ J2 = J) := by
  refine z_start (own := RX5) (cc := cX5_planLawAhead) (nL := 1) (ret := none) rfl (by decide) rfl (Nat.le_of_ble_eq_true rfl) (L := [(0, .ref (za B 39))]) rfl (fun G h hr => ?_)
  rw [f_X5_planLawAhead] at hf
  refine z_aload_n h 0 dX5_planLawAhead_0 rfl (rfl : 0 + 1 = 1) ?_
  refine z_get (ci := 5) (C := RX5) (T := TX5) (N := 17) h 3 rfl rfl (fun _ hq => List.mem_cons_of_mem _ (List.mem_append_left _ (List.mem_append_left _ (List.mem_append_right _ hq)))) (by decide) (List.mem_of_getElem? (i := 1) rfl) rfl dX5_planLawAhead_1 (rfl : 1 + 3 = 4) ?_
  obtain ⟨q1, e2, hf⟩ := zbind hf
  refine z_goF (z_runSN (host := "LeftOut") h [.int (I 39 3)] [] zyX11_isGap (c_X11_isGap B I J hJ (I 39 3) _ _ e2) gX5_planLawAhead_X11_isGap_n143 (List.mem_of_getElem? (i := 15) rfl) (List.mem_of_getElem? (i := 4) rfl) (List.mem_of_getElem? (i := 5) rfl) zrX5_planLawAhead_X11_isGap rfl (Nat.le_of_ble_eq_true rfl) ⟨Nat.zero_le _, Nat.zero_le _⟩ rfl dX5_planLawAhead_4) rfl ?_
  refine z_if_eq (pc' := 10) h 45 dX5_planLawAhead_7 (by decide) rfl (fun c3 => ?_) (fun c3 => ?_)
  · have hf := zitt c3 hf
    refine z_vret h hr dX5_planLawAhead_45 ?_
    exact ⟨(zsome hf), rfl⟩
  · have hf := zitf c3 hf
    refine z_aload_n h 0 dX5_planLawAhead_10 rfl (rfl : 10 + 1 = 11) ?_
    refine z_aload_n h 0 dX5_planLawAhead_11 rfl (rfl : 11 + 1 = 12) ?_
    refine z_get (ci := 5) (C := RX5) (T := TX5) (N := 17) h 3 rfl rfl (fun _ hq => List.mem_cons_of_mem _ (List.mem_append_left _ (List.mem_append_left _ (List.mem_append_right _ hq)))) (by decide) (List.mem_of_getElem? (i := 1) rfl) rfl dX5_planLawAhead_12 (rfl : 12 + 3 = 15) ?_
    refine z_aload_n h 0 dX5_planLawAhead_15 rfl (rfl : 15 + 1 = 16) ?_
    refine z_get (ci := 5) (C := RX5) (T := TX5) (N := 17) h 4 rfl rfl (fun _ hq => List.mem_cons_of_mem _ (List.mem_append_left _ (List.mem_append_left _ (List.mem_append_right _ hq)))) (by decide) (List.mem_of_getElem? (i := 2) rfl) rfl dX5_planLawAhead_16 (rfl : 16 + 3 = 19) ?_
    obtain ⟨q4, e5, hf⟩ := zbind hf
    refine z_goF (z_runV (C := RX5) (T := TX5) (N := 17) (ci := 5) h [.int (q1.2 39 3), .int (q1.2 39 4)] [] zyX5_isThere (c_X5_isThere B q1.2 J hJ (q1.2 39 3) (q1.2 39 4) _ _ e5) gX5_planLawAhead_X5_isThere rfl rfl rfl zrX5_planLawAhead_X5_isThere rfl (Nat.le_of_ble_eq_true rfl) ⟨Nat.zero_le _, Nat.zero_le _⟩ rfl dX5_planLawAhead_19) rfl ?_
    refine z_if_eq (pc' := 25) h 45 dX5_planLawAhead_22 (by decide) rfl (fun c6 => ?_) (fun c6 => ?_)
    · have hf := zitt c6 hf
      refine z_vret h hr dX5_planLawAhead_45 ?_
      exact ⟨(zsome hf), rfl⟩
    · have hf := zitf c6 hf
      refine z_aload_n h 0 dX5_planLawAhead_25 rfl (rfl : 25 + 1 = 26) ?_
      refine z_getr (ci := 5) (C := RX5) (T := TX5) (N := 17) h 10 43 ((hJ.1 39 10 (by decide)).trans rfl) rfl rfl (fun _ hq => List.mem_cons_of_mem _ (List.mem_append_left _ (List.mem_append_left _ (List.mem_append_right _ hq)))) (by decide) (List.mem_of_getElem? (i := 3) rfl) rfl dX5_planLawAhead_26 (rfl : 26 + 3 = 29) ?_
      refine z_aload_n h 0 dX5_planLawAhead_29 rfl (rfl : 29 + 1 = 30) ?_
      refine z_get (ci := 5) (C := RX5) (T := TX5) (N := 17) h 3 rfl rfl (fun _ hq => List.mem_cons_of_mem _ (List.mem_append_left _ (List.mem_append_left _ (List.mem_append_right _ hq)))) (by decide) (List.mem_of_getElem? (i := 1) rfl) rfl dX5_planLawAhead_30 (rfl : 30 + 3 = 33) ?_
      obtain ⟨b7, hf⟩ := zchk hf
      refine z_aldq h (zR 43 (Int32.toNatClampNeg (q4.2 39 3))) (ze_5 hJ rfl (zin_lt b7)).1 rfl (by decide) rfl b7 dX5_planLawAhead_33 (rfl : 33 + 1 = 34) ?_
      refine z_aload_n h 0 dX5_planLawAhead_34 rfl (rfl : 34 + 1 = 35) ?_
      refine z_get (ci := 5) (C := RX5) (T := TX5) (N := 17) h 4 rfl rfl (fun _ hq => List.mem_cons_of_mem _ (List.mem_append_left _ (List.mem_append_left _ (List.mem_append_right _ hq)))) (by decide) (List.mem_of_getElem? (i := 2) rfl) rfl dX5_planLawAhead_35 (rfl : 35 + 3 = 38) ?_
      refine z_iconst h 0 dX5_planLawAhead_38 (by decide) (rfl : 38 + 1 = 39) ?_
      refine z_bipush h (-9) dX5_planLawAhead_39 (by decide) (rfl : 39 + 2 = 41) ?_
      refine z_iconst h 0 dX5_planLawAhead_41 (by decide) (rfl : 41 + 1 = 42) ?_
      obtain ⟨q8, e9, hf⟩ := zbind hf
      refine z_goFv (z_runV (C := RX2) (T := TX2) (N := 5) (ci := 2) h [.int (q4.2 39 4), .int 0, .int (-9), .int 0] [] zyX2_add (c_X2_add B q4.2 J hJ (zR 43 (Int32.toNatClampNeg (q4.2 39 3))) ((ze_5 hJ rfl (zin_lt b7)).2) (q4.2 39 4) 0 (-9) 0 _ e9) gX5_planLawAhead_X2_add rfl (ze_5 hJ rfl (zin_lt b7)).2 rfl zrX5_planLawAhead_X2_add rfl (Nat.le_of_ble_eq_true rfl) ⟨Nat.zero_le _, Nat.zero_le _⟩ rfl dX5_planLawAhead_42) rfl ?_
      refine z_vret h hr dX5_planLawAhead_45 ?_
      exact ⟨(zsome hf), rfl⟩
noncomputable def f_X5_planLetter (J : zJ) (v1 : Int32) (I : zM) : Option (zM) := ((f_X11_bit J (I 39 6) v1 I).bind fun q1 => (if q1.1 = 1 then some (q1.2) else (if v1 = 0 then ((f_X5_planRow J 40 1 q1.2).bind fun q5 => some (q5)) else (if v1 = 1 then ((f_X5_planRow J 41 2 q1.2).bind fun q8 => some (q8)) else (if v1 = 2 then ((f_X5_planRow J 42 3 q1.2).bind fun q11 => some (q11)) else (if v1 = 3 then ((f_X5_planLawAhead J  q1.2).bind fun q14 => ((f_X5_planRules J 0 q14).bind fun q16 => some (q16))) else ((f_X5_planRules J 2 q1.2).bind fun q18 => some (q18))))))))
noncomputable abbrev rmX5_planLetter : Room := { frames := 2, cells := 0, slots := 0, locals := 48 }
theorem zyX5_planLetter : zY yX5_planLetter wsX5_planLetter cX5_planLetter 2 none 1 := ⟨⟨_, rfl⟩, by decide +kernel⟩
theorem zrX5_planLetter_X11_bit : zRm rmX11_bit rmX5_planLetter 2 := ⟨rfl, rfl, by decide, by decide⟩
theorem zrX5_planLetter_X5_planLawAhead : zRm rmX5_planLawAhead rmX5_planLetter 1 := ⟨rfl, rfl, by decide, by decide⟩
theorem zrX5_planLetter_X5_planRow : zRm rmX5_planRow rmX5_planLetter 4 := ⟨rfl, rfl, by decide, by decide⟩
theorem zrX5_planLetter_X5_planRules : zRm rmX5_planRules rmX5_planLetter 5 := ⟨rfl, rfl, by decide, by decide⟩
set_option maxHeartbeats 1000000 in
set_option maxRecDepth 100000 in
theorem c_X5_planLetter (B : zB) (I : zM) (J : zJ) (hJ : zJok J) (v1 : Int32) (I' : zM) (hf : f_X5_planLetter J v1 I = some I') : zCv B zKW I J yX5_planLetter wsX5_planLetter rmX5_planLetter [.ref (za B 39), .int v1] (fun I2 J2 => I2 = I' ∧ J2 = J) := by
  refine z_start (own := RX5) (cc := cX5_planLetter) (nL := 2) (ret := none) rfl (by decide) rfl (Nat.le_of_ble_eq_true rfl) (L := [(0, .ref (za B 39)), (1, .int v1)]) rfl (fun G h hr => ?_)
  rw [f_X5_planLetter] at hf
  refine z_aload_n h 0 dX5_planLetter_0 rfl (rfl : 0 + 1 = 1) ?_
  refine z_get (ci := 5) (C := RX5) (T := TX5) (N := 17) h 6 rfl rfl (fun _ hq => List.mem_cons_of_mem _ (List.mem_append_left _ (List.mem_append_left _ (List.mem_append_left _ (List.mem_append_left _ (List.mem_append_right _ hq)))))) (by decide) (List.mem_of_getElem? (i := 1) rfl) rfl dX5_planLetter_1 (rfl : 1 + 3 = 4) ?_
  refine z_iload_n h 1 dX5_planLetter_4 rfl (rfl : 4 + 1 = 5) ?_
  obtain ⟨q1, e2, hf⟩ := zbind hf
  refine z_goF (z_runSN (host := "LeftOut") h [.int (I 39 6), .int v1] [] zyX11_bit (c_X11_bit B I J hJ (I 39 6) v1 _ _ e2) gX5_planLetter_X11_bit_n103 (List.mem_of_getElem? (i := 14) rfl) (List.mem_of_getElem? (i := 5) rfl) (List.mem_of_getElem? (i := 6) rfl) zrX5_planLetter_X11_bit rfl (Nat.le_of_ble_eq_true rfl) ⟨Nat.zero_le _, Nat.zero_le _⟩ rfl dX5_planLetter_5) rfl ?_
  refine z_iconst h 1 dX5_planLetter_8 (by decide) (rfl : 8 + 1 = 9) ?_
  refine z_icmp_ne (pc' := 12) h 13 dX5_planLetter_9 (by decide) rfl (fun c3 => ?_) (fun c3 => ?_)
  · have hf := zitf c3 hf
    refine z_iload_n h 1 dX5_planLetter_13 rfl (rfl : 13 + 1 = 14) ?_
    by_cases c4 : v1 = 0
    · have hf := zitt c4 hf
      refine z_tabIn h 44 dX5_planLetter_14 (by rw [c4]; decide) (by rw [c4]; decide) (by rw [c4]; rfl) (by decide) ?_
      refine z_aload_n h 0 dX5_planLetter_44 rfl (rfl : 44 + 1 = 45) ?_
      refine z_aload_n h 0 dX5_planLetter_45 rfl (rfl : 45 + 1 = 46) ?_
      refine z_getr (ci := 5) (C := RX5) (T := TX5) (N := 17) h 7 40 ((hJ.1 39 7 (by decide)).trans rfl) rfl rfl (fun _ hq => List.mem_cons_of_mem _ (List.mem_append_left _ (List.mem_append_left _ (List.mem_append_left _ (List.mem_append_left _ (List.mem_append_right _ hq)))))) (by decide) (List.mem_of_getElem? (i := 2) rfl) rfl dX5_planLetter_46 (rfl : 46 + 3 = 49) ?_
      refine z_iconst h 1 dX5_planLetter_49 (by decide) (rfl : 49 + 1 = 50) ?_
      obtain ⟨q5, e6, hf⟩ := zbind hf
      refine z_goFv (z_runV (C := RX5) (T := TX5) (N := 17) (ci := 5) h [.ref (za B 40), .int 1] [] zyX5_planRow (c_X5_planRow B q1.2 J hJ 40 rfl 1 _ e6) gX5_planLetter_X5_planRow rfl rfl rfl zrX5_planLetter_X5_planRow rfl (Nat.le_of_ble_eq_true rfl) ⟨Nat.zero_le _, Nat.zero_le _⟩ rfl dX5_planLetter_50) rfl ?_
      refine z_goto (pc' := 97) h dX5_planLetter_53 (by decide) ?_
      refine z_vret h hr dX5_planLetter_97 ?_
      exact ⟨(zsome hf), rfl⟩
    have hf := zitf c4 hf
    by_cases c7 : v1 = 1
    · have hf := zitt c7 hf
      refine z_tabIn h 56 dX5_planLetter_14 (by rw [c7]; decide) (by rw [c7]; decide) (by rw [c7]; rfl) (by decide) ?_
      refine z_aload_n h 0 dX5_planLetter_56 rfl (rfl : 56 + 1 = 57) ?_
      refine z_aload_n h 0 dX5_planLetter_57 rfl (rfl : 57 + 1 = 58) ?_
      refine z_getr (ci := 5) (C := RX5) (T := TX5) (N := 17) h 8 41 ((hJ.1 39 8 (by decide)).trans rfl) rfl rfl (fun _ hq => List.mem_cons_of_mem _ (List.mem_append_left _ (List.mem_append_left _ (List.mem_append_left _ (List.mem_append_left _ (List.mem_append_right _ hq)))))) (by decide) (List.mem_of_getElem? (i := 3) rfl) rfl dX5_planLetter_58 (rfl : 58 + 3 = 61) ?_
      refine z_iconst h 2 dX5_planLetter_61 (by decide) (rfl : 61 + 1 = 62) ?_
      obtain ⟨q8, e9, hf⟩ := zbind hf
      refine z_goFv (z_runV (C := RX5) (T := TX5) (N := 17) (ci := 5) h [.ref (za B 41), .int 2] [] zyX5_planRow (c_X5_planRow B q1.2 J hJ 41 rfl 2 _ e9) gX5_planLetter_X5_planRow rfl rfl rfl zrX5_planLetter_X5_planRow rfl (Nat.le_of_ble_eq_true rfl) ⟨Nat.zero_le _, Nat.zero_le _⟩ rfl dX5_planLetter_62) rfl ?_
      refine z_goto (pc' := 97) h dX5_planLetter_65 (by decide) ?_
      refine z_vret h hr dX5_planLetter_97 ?_
      exact ⟨(zsome hf), rfl⟩
    have hf := zitf c7 hf
    by_cases c10 : v1 = 2
    · have hf := zitt c10 hf
      refine z_tabIn h 68 dX5_planLetter_14 (by rw [c10]; decide) (by rw [c10]; decide) (by rw [c10]; rfl) (by decide) ?_
      refine z_aload_n h 0 dX5_planLetter_68 rfl (rfl : 68 + 1 = 69) ?_
      refine z_aload_n h 0 dX5_planLetter_69 rfl (rfl : 69 + 1 = 70) ?_
      refine z_getr (ci := 5) (C := RX5) (T := TX5) (N := 17) h 9 42 ((hJ.1 39 9 (by decide)).trans rfl) rfl rfl (fun _ hq => List.mem_cons_of_mem _ (List.mem_append_left _ (List.mem_append_left _ (List.mem_append_left _ (List.mem_append_left _ (List.mem_append_right _ hq)))))) (by decide) (List.mem_of_getElem? (i := 4) rfl) rfl dX5_planLetter_70 (rfl : 70 + 3 = 73) ?_
      refine z_iconst h 3 dX5_planLetter_73 (by decide) (rfl : 73 + 1 = 74) ?_
      obtain ⟨q11, e12, hf⟩ := zbind hf
      refine z_goFv (z_runV (C := RX5) (T := TX5) (N := 17) (ci := 5) h [.ref (za B 42), .int 3] [] zyX5_planRow (c_X5_planRow B q1.2 J hJ 42 rfl 3 _ e12) gX5_planLetter_X5_planRow rfl rfl rfl zrX5_planLetter_X5_planRow rfl (Nat.le_of_ble_eq_true rfl) ⟨Nat.zero_le _, Nat.zero_le _⟩ rfl dX5_planLetter_74) rfl ?_
      refine z_goto (pc' := 97) h dX5_planLetter_77 (by decide) ?_
      refine z_vret h hr dX5_planLetter_97 ?_
      exact ⟨(zsome hf), rfl⟩
    have hf := zitf c10 hf
    by_cases c13 : v1 = 3
    · have hf := zitt c13 hf
      refine z_tabIn h 80 dX5_planLetter_14 (by rw [c13]; decide) (by rw [c13]; decide) (by rw [c13]; rfl) (by decide) ?_
      refine z_aload_n h 0 dX5_planLetter_80 rfl (rfl : 80 + 1 = 81) ?_
      obtain ⟨q14, e15, hf⟩ := zbind hf
      refine z_goFv (z_runV (C := RX5) (T := TX5) (N := 17) (ci := 5) h [] [] zyX5_planLawAhead (c_X5_planLawAhead B q1.2 J hJ  _ e15) gX5_planLetter_X5_planLawAhead rfl rfl rfl zrX5_planLetter_X5_planLawAhead rfl (Nat.le_of_ble_eq_true rfl) ⟨Nat.zero_le _, Nat.zero_le _⟩ rfl dX5_planLetter_81) rfl ?_
      refine z_aload_n h 0 dX5_planLetter_84 rfl (rfl : 84 + 1 = 85) ?_
      refine z_iconst h 0 dX5_planLetter_85 (by decide) (rfl : 85 + 1 = 86) ?_
      obtain ⟨q16, e17, hf⟩ := zbind hf
      refine z_goFv (z_runV (C := RX5) (T := TX5) (N := 17) (ci := 5) h [.int 0] [] zyX5_planRules (c_X5_planRules B q14 J hJ 0 _ e17) gX5_planLetter_X5_planRules rfl rfl rfl zrX5_planLetter_X5_planRules rfl (Nat.le_of_ble_eq_true rfl) ⟨Nat.zero_le _, Nat.zero_le _⟩ rfl dX5_planLetter_86) rfl ?_
      refine z_goto (pc' := 97) h dX5_planLetter_89 (by decide) ?_
      refine z_vret h hr dX5_planLetter_97 ?_
      exact ⟨(zsome hf), rfl⟩
    have hf := zitf c13 hf
    refine z_tabOut h 92 dX5_planLetter_14 (zt_4 c4 c7 c10 c13) (by decide) ?_
    refine z_aload_n h 0 dX5_planLetter_92 rfl (rfl : 92 + 1 = 93) ?_
    refine z_iconst h 2 dX5_planLetter_93 (by decide) (rfl : 93 + 1 = 94) ?_
    obtain ⟨q18, e19, hf⟩ := zbind hf
    refine z_goFv (z_runV (C := RX5) (T := TX5) (N := 17) (ci := 5) h [.int 2] [] zyX5_planRules (c_X5_planRules B q1.2 J hJ 2 _ e19) gX5_planLetter_X5_planRules rfl rfl rfl zrX5_planLetter_X5_planRules rfl (Nat.le_of_ble_eq_true rfl) ⟨Nat.zero_le _, Nat.zero_le _⟩ rfl dX5_planLetter_94) rfl ?_
    refine z_vret h hr dX5_planLetter_97 ?_
    exact ⟨(zsome hf), rfl⟩
  · have hf := zitt c3 hf
    refine z_vret h hr dX5_planLetter_12 ?_
    exact ⟨(zsome hf), rfl⟩
noncomputable def f_X5_plan_11 (J : zJ) (r1 : Nat) (u3 : Int32) : Nat → Int32 → zM → Option ((zM) ⊕ (Int32 × zM))
  | 0, _, _ => none
  | n + 1, x4_11, I11 => (if u3 ≤ x4_11 then some (.inr (x4_11, I11)) else (if zin x4_11 6 = true then ((f_X2_clear J (zR 43 (Int32.toNatClampNeg x4_11)) I11).bind fun q3 => f_X5_plan_11 J r1 u3 n (x4_11 + 1) q3) else none))
noncomputable def f_X5_plan_41 (J : zJ) (r1 : Nat) (u3 : Int32) (u4 : Int32) : Nat → Int32 → zM → Option ((zM) ⊕ (Int32 × zM))
  | 0, _, _ => none
  | n + 1, x2_41, I41 => (if I41 r1 1 ≤ x2_41 then some (.inr (x2_41, I41)) else (if zin x2_41 5 = true then ((f_X5_planLetter J (I41 (zR r1 0) (Int32.toNatClampNeg x2_41)) I41).bind fun q8 => f_X5_plan_41 J r1 u3 u4 n (x2_41 + 1) q8) else none))
noncomputable def f_X5_plan (J : zJ) (p1 : Nat) (I : zM) : Option (zM) := ((f_X5_plan_11 J p1 6 zF 0 I).bind fun q => Sum.elim (fun a => some a) (fun a3 => ((f_X5_planRules J 1 a3.2).bind fun q4 => ((f_X5_plan_41 J p1 6 a3.1 zF 0 q4).bind fun q => Sum.elim (fun a => some a) (fun a8 => some (a8.2)) q))) q)
noncomputable abbrev rmX5_plan : Room := { frames := 3, cells := 0, slots := 0, locals := 69 }
theorem zyX5_plan : zY yX5_plan wsX5_plan cX5_plan 6 none 1 := ⟨⟨_, rfl⟩, by decide +kernel⟩
theorem zrX5_plan_X2_clear : zRm rmX2_clear rmX5_plan 1 := ⟨rfl, rfl, by decide, by decide⟩
theorem zrX5_plan_X5_planLetter : zRm rmX5_planLetter rmX5_plan 2 := ⟨rfl, rfl, by decide, by decide⟩
theorem zrX5_plan_X5_planRules : zRm rmX5_planRules rmX5_plan 5 := ⟨rfl, rfl, by decide, by decide⟩
set_option maxHeartbeats 1000000 in
set_option maxRecDepth 100000 in
theorem c_X5_plan (B : zB) (I : zM) (J : zJ) (hJ : zJok J) (p1 : Nat) (k1 : zKW[p1]? = some (.inr 4)) (I' : zM) (hf : f_X5_plan J p1 I = some I') : zCv B zKW I J yX5_plan wsX5_plan rmX5_plan [.ref (za B 39), .ref (za B p1)] (fun I2 J2 => I2 = I' ∧ J2 = J) := by
  refine z_start (own := RX5) (cc := cX5_plan) (nL := 6) (ret := none) rfl (by decide) rfl (Nat.le_of_ble_eq_true rfl) (L := [(0, .ref (za B 39)), (1, .ref (za B p1))]) rfl (fun G h hr => ?_)
  rw [f_X5_plan] at hf
  refine z_aload_n h 0 dX5_plan_0 rfl (rfl : 0 + 1 = 1) ?_
  refine z_getr (ci := 5) (C := RX5) (T := TX5) (N := 17) h 10 43 ((hJ.1 39 10 (by decide)).trans rfl) rfl rfl (fun _ hq => List.mem_cons_of_mem _ (List.mem_append_left _ (List.mem_append_left _ (List.mem_append_left _ (List.mem_append_left _ (List.mem_append_left _ (List.mem_append_right _ hq))))))) (by decide) (List.mem_of_getElem? (i := 1) rfl) rfl dX5_plan_1 (rfl : 1 + 3 = 4) ?_
  refine z_astore_n h [(2, .ref (za B 43)), (0, .ref (za B 39)), (1, .ref (za B p1))] dX5_plan_4 (by decide) rfl (rfl : 4 + 1 = 5) ?_
  refine z_aload_n h 0 dX5_plan_5 rfl (rfl : 5 + 1 = 6) ?_
  refine z_alenr h 6 rfl (by decide) (by decide) dX5_plan_6 (rfl : 6 + 1 = 7) ?_
  refine z_istore_n h [(3, .int 6), (2, .ref (za B 43)), (0, .ref (za B 39)), (1, .ref (za B p1))] dX5_plan_7 (by decide) rfl (rfl : 7 + 1 = 8) ?_
  refine z_iconst h 0 dX5_plan_8 (by decide) (rfl : 8 + 1 = 9) ?_
  refine z_istore h [(4, .int 0), (3, .int 6), (2, .ref (za B 43)), (0, .ref (za B 39)), (1, .ref (za B p1))] dX5_plan_9 (by decide) rfl (rfl : 9 + 2 = 11) ?_
  have loop_11_2 : ∀ (n : Nat) (x4_11 : Int32) (I11 : zM) (q : (zM) ⊕ (Int32 × zM)), f_X5_plan_11 J p1 6 n x4_11 I11 = some q → (∀ a, q = .inl a → a = I') → (∀ a : Int32 × zM, q = .inr a → Z B G zKW (a.2) (J) (0, 0) 34 [(0, .ref (za B 39)), (1, .ref (za B p1)), (2, .ref (za B 43)), (3, .int 6), (4, .int a.1)] []) → Z B G zKW I11 J (0, 0) 11 [(0, .ref (za B 39)), (1, .ref (za B p1)), (2, .ref (za B 43)), (3, .int 6), (4, .int x4_11)] [] := by
    intro n; induction n with
    | zero => intro x4_11 I11 q hf; exact absurd hf (by rw [f_X5_plan_11]; exact fun z => by cases z)
    | succ n ih =>
      intro x4_11 I11 q hf hP hE; rw [f_X5_plan_11] at hf
      refine z_iload h 4 dX5_plan_11 rfl (rfl : 11 + 2 = 13) ?_
      refine z_iload_n h 3 dX5_plan_13 rfl (rfl : 13 + 1 = 14) ?_
      refine z_icmp_ge (pc' := 17) h 34 dX5_plan_14 (by decide) rfl (fun c3 => ?_) (fun c3 => ?_)
      · have hf := zitt c3 hf
        exact hE (x4_11, I11) (zsome hf).symm
      · have hf := zitf c3 hf
        refine z_aload_n h 2 dX5_plan_17 rfl (rfl : 17 + 1 = 18) ?_
        refine z_iload h 4 dX5_plan_18 rfl (rfl : 18 + 2 = 20) ?_
        obtain ⟨b4, hf⟩ := zchk hf
        refine z_aldq h (zR 43 (Int32.toNatClampNeg x4_11)) (ze_5 hJ rfl (zin_lt b4)).1 rfl (by decide) rfl b4 dX5_plan_20 (rfl : 20 + 1 = 21) ?_
        refine z_astore h [(5, .ref (za B (zR 43 (Int32.toNatClampNeg x4_11)))), (0, .ref (za B 39)), (1, .ref (za B p1)), (2, .ref (za B 43)), (3, .int 6), (4, .int x4_11)] dX5_plan_21 (by decide) rfl (rfl : 21 + 2 = 23) ?_
        refine z_aload h 0 dX5_plan_23 rfl (rfl : 23 + 2 = 25) ?_
        obtain ⟨q5, e6, hf⟩ := zbind hf
        refine z_goFv (z_runV (C := RX2) (T := TX2) (N := 5) (ci := 2) h [] [] zyX2_clear (c_X2_clear B I11 J hJ (zR 43 (Int32.toNatClampNeg x4_11)) ((ze_5 hJ rfl (zin_lt b4)).2) _ e6) gX5_plan_X2_clear rfl (ze_5 hJ rfl (zin_lt b4)).2 rfl zrX5_plan_X2_clear rfl (Nat.le_of_ble_eq_true rfl) ⟨Nat.zero_le _, Nat.zero_le _⟩ rfl dX5_plan_25) rfl ?_
        refine z_iinc h 5 (x4_11 + 1) [(4, .int (x4_11 + 1)), (5, .ref (za B (zR 43 (Int32.toNatClampNeg x4_11)))), (0, .ref (za B 39)), (1, .ref (za B p1)), (2, .ref (za B 43)), (3, .int 6)] dX5_plan_28 rfl rfl (by decide) rfl (rfl : 28 + 3 = 31) ?_
        refine z_goto (pc' := 11) h dX5_plan_31 (by decide) ?_
        refine z_sub (L' := [(0, .ref (za B 39)), (1, .ref (za B p1)), (2, .ref (za B 43)), (3, .int 6), (4, .int (x4_11 + 1))]) [2, 3, 4, 5, 0] rfl ?_
        exact ih (x4_11 + 1) q5 _ hf hP hE
  refine z_sub (L' := [(0, .ref (za B 39)), (1, .ref (za B p1)), (2, .ref (za B 43)), (3, .int 6), (4, .int 0)]) [3, 4, 2, 1, 0] rfl ?_
  obtain ⟨q1, e2, hf⟩ := zbind hf
  refine loop_11_2 _ 0 I q1 e2 (fun a ha => ?_) (fun a7 ha  => ?_)
  · have hf := zell ha hf
    exact zsome hf
  have hf := zelr ha hf
  clear ha loop_11_2
  refine z_aload_n h 0 dX5_plan_34 rfl (rfl : 34 + 1 = 35) ?_
  refine z_iconst h 1 dX5_plan_35 (by decide) (rfl : 35 + 1 = 36) ?_
  obtain ⟨q8, e9, hf⟩ := zbind hf
  refine z_goFv (z_runV (C := RX5) (T := TX5) (N := 17) (ci := 5) h [.int 1] [] zyX5_planRules (c_X5_planRules B a7.2 J hJ 1 _ e9) gX5_plan_X5_planRules rfl rfl rfl zrX5_plan_X5_planRules rfl (Nat.le_of_ble_eq_true rfl) ⟨Nat.zero_le _, Nat.zero_le _⟩ rfl dX5_plan_36) rfl ?_
  refine z_iconst h 0 dX5_plan_39 (by decide) (rfl : 39 + 1 = 40) ?_
  refine z_istore_n h [(2, .int 0), (0, .ref (za B 39)), (1, .ref (za B p1)), (3, .int 6), (4, .int a7.1)] dX5_plan_40 (by decide) rfl (rfl : 40 + 1 = 41) ?_
  have loop_41_11 : ∀ (n : Nat) (x2_41 : Int32) (I41 : zM) (q : (zM) ⊕ (Int32 × zM)), f_X5_plan_41 J p1 6 a7.1 n x2_41 I41 = some q → (∀ a, q = .inl a → a = I') → (∀ a : Int32 × zM, q = .inr a → Z B G zKW (a.2) (J) (0, 0) 65 [(0, .ref (za B 39)), (1, .ref (za B p1)), (2, .int a.1), (3, .int 6), (4, .int a7.1)] []) → Z B G zKW I41 J (0, 0) 41 [(0, .ref (za B 39)), (1, .ref (za B p1)), (2, .int x2_41), (3, .int 6), (4, .int a7.1)] [] := by
    intro n; induction n with
    | zero => intro x2_41 I41 q hf; exact absurd hf (by rw [f_X5_plan_41]; exact fun z => by cases z)
    | succ n ih =>
      intro x2_41 I41 q hf hP hE; rw [f_X5_plan_41] at hf
      refine z_iload_n h 2 dX5_plan_41 rfl (rfl : 41 + 1 = 42) ?_
      refine z_aload_n h 1 dX5_plan_42 rfl (rfl : 42 + 1 = 43) ?_
      refine z_get (ci := 4) (C := RX4) (T := TX4) (N := 2) h 1 k1 rfl (fun _ hq => List.mem_cons_of_mem _ (List.mem_append_left _ (List.mem_append_left _ (List.mem_append_left _ (List.mem_append_left _ (List.mem_append_right _ hq)))))) (by decide) (List.mem_of_getElem? (i := 2) rfl) rfl dX5_plan_43 (rfl : 43 + 3 = 46) ?_
      refine z_icmp_ge (pc' := 49) h 65 dX5_plan_46 (by decide) rfl (fun c12 => ?_) (fun c12 => ?_)
      · have hf := zitt c12 hf
        exact hE (x2_41, I41) (zsome hf).symm
      · have hf := zitf c12 hf
        refine z_aload_n h 0 dX5_plan_49 rfl (rfl : 49 + 1 = 50) ?_
        refine z_aload_n h 1 dX5_plan_50 rfl (rfl : 50 + 1 = 51) ?_
        refine z_getr (ci := 4) (C := RX4) (T := TX4) (N := 2) h 0 (zR p1 0) (zf_4_0 hJ k1).1 k1 rfl (fun _ hq => List.mem_cons_of_mem _ (List.mem_append_left _ (List.mem_append_left _ (List.mem_append_left _ (List.mem_append_left _ (List.mem_append_right _ hq)))))) (by decide) (List.mem_of_getElem? (i := 3) rfl) rfl dX5_plan_51 (rfl : 51 + 3 = 54) ?_
        refine z_iload_n h 2 dX5_plan_54 rfl (rfl : 54 + 1 = 55) ?_
        obtain ⟨b13, hf⟩ := zchk hf
        refine z_iald h (zf_4_0 hJ k1).2 b13 dX5_plan_55 (rfl : 55 + 1 = 56) ?_
        obtain ⟨q14, e15, hf⟩ := zbind hf
        refine z_goFv (z_runV (C := RX5) (T := TX5) (N := 17) (ci := 5) h [.int (I41 (zR p1 0) (Int32.toNatClampNeg x2_41))] [] zyX5_planLetter (c_X5_planLetter B I41 J hJ (I41 (zR p1 0) (Int32.toNatClampNeg x2_41)) _ e15) gX5_plan_X5_planLetter rfl rfl rfl zrX5_plan_X5_planLetter rfl (Nat.le_of_ble_eq_true rfl) ⟨Nat.zero_le _, Nat.zero_le _⟩ rfl dX5_plan_56) rfl ?_
        refine z_iinc h 2 (x2_41 + 1) [(2, .int (x2_41 + 1)), (0, .ref (za B 39)), (1, .ref (za B p1)), (3, .int 6), (4, .int a7.1)] dX5_plan_59 rfl rfl (by decide) rfl (rfl : 59 + 3 = 62) ?_
        refine z_goto (pc' := 41) h dX5_plan_62 (by decide) ?_
        refine z_sub (L' := [(0, .ref (za B 39)), (1, .ref (za B p1)), (2, .int (x2_41 + 1)), (3, .int 6), (4, .int a7.1)]) [1, 2, 0, 3, 4] rfl ?_
        exact ih (x2_41 + 1) q14 _ hf hP hE
  refine z_sub (L' := [(0, .ref (za B 39)), (1, .ref (za B p1)), (2, .int 0), (3, .int 6), (4, .int a7.1)]) [1, 2, 0, 3, 4] rfl ?_
  obtain ⟨q10, e11, hf⟩ := zbind hf
  refine loop_41_11 _ 0 q8 q10 e11 (fun a ha => ?_) (fun a16 ha  => ?_)
  · have hf := zell ha hf
    exact zsome hf
  have hf := zelr ha hf
  clear ha loop_41_11
  refine z_vret h hr dX5_plan_65 ?_
  exact ⟨(zsome hf), rfl⟩
noncomputable def f_X11_spread_7 (J : zJ) (u0 : Int32) : Nat → Int32 → Int32 → zM → Option ((zM) ⊕ (Int32 × Int32 × zM))
  | 0, _, _, _ => none
  | n + 1, x2_7, x3_7, I7 => (if x3_7 < 0 then some (.inr (x2_7, x3_7, I7)) else (if zin x3_7 6 = true then f_X11_spread_7 J u0 n (x2_7 / (6 : Int32)) (x3_7 + (-1)) (zu I7 44 (Int32.toNatClampNeg x3_7) (x2_7 - x2_7 / (6 : Int32) * (6 : Int32))) else none))
noncomputable def f_X11_spread (J : zJ) (v0 : Int32) (I : zM) : Option (zM) := ((f_X11_spread_7 J v0 zF v0 ((6 : Int32) - (1 : Int32)) I).bind fun q => Sum.elim (fun a => some a) (fun a3 => some (a3.2.2)) q)
noncomputable abbrev rmX11_spread : Room := { frames := 0, cells := 0, slots := 0, locals := 0 }
theorem zyX11_spread : zY yX11_spread wsX11_spread cX11_spread 4 none 2 := ⟨⟨_, rfl⟩, by decide +kernel⟩
set_option maxHeartbeats 1000000 in
set_option maxRecDepth 100000 in
theorem c_X11_spread (B : zB) (I : zM) (J : zJ) (hJ : zJok J) (v0 : Int32) (I' : zM) (hf : f_X11_spread J v0 I = some I') : zCv B zKW I J yX11_spread wsX11_spread rmX11_spread [.int v0, .ref (za B 44)] (fun I2 J2 => I2 = I' ∧ J2 = J) := by
  refine z_start (own := RX11) (cc := cX11_spread) (nL := 4) (ret := none) rfl (by decide) rfl (Nat.le_of_ble_eq_true rfl) (L := [(0, .int v0), (1, .ref (za B 44))]) rfl (fun G h hr => ?_)
  rw [f_X11_spread] at hf
  refine z_iload_n h 0 dX11_spread_0 rfl (rfl : 0 + 1 = 1) ?_
  refine z_istore_n h [(2, .int v0), (0, .int v0), (1, .ref (za B 44))] dX11_spread_1 (by decide) rfl (rfl : 1 + 1 = 2) ?_
  refine z_aload_n h 2 dX11_spread_2 rfl (rfl : 2 + 1 = 3) ?_
  refine z_alen h 6 rfl (by decide) (by decide) dX11_spread_3 (rfl : 3 + 1 = 4) ?_
  refine z_iconst h 1 dX11_spread_4 (by decide) (rfl : 4 + 1 = 5) ?_
  refine z_isub h dX11_spread_5 (rfl : 5 + 1 = 6) ?_
  refine z_istore_n h [(3, .int ((6 : Int32) - (1 : Int32))), (2, .int v0), (0, .int v0), (1, .ref (za B 44))] dX11_spread_6 (by decide) rfl (rfl : 6 + 1 = 7) ?_
  have loop_7_2 : ∀ (n : Nat) (x2_7 : Int32) (x3_7 : Int32) (I7 : zM) (q : (zM) ⊕ (Int32 × Int32 × zM)), f_X11_spread_7 J v0 n x2_7 x3_7 I7 = some q → (∀ a, q = .inl a → a = I') → (∀ a : Int32 × Int32 × zM, q = .inr a → Z B G zKW (a.2.2) (J) (0, 0) 29 [(0, .int v0), (1, .ref (za B 44)), (2, .int a.1), (3, .int a.2.1)] []) → Z B G zKW I7 J (0, 0) 7 [(0, .int v0), (1, .ref (za B 44)), (2, .int x2_7), (3, .int x3_7)] [] := by
    intro n; induction n with
    | zero => intro x2_7 x3_7 I7 q hf; exact absurd hf (by rw [f_X11_spread_7]; exact fun z => by cases z)
    | succ n ih =>
      intro x2_7 x3_7 I7 q hf hP hE; rw [f_X11_spread_7] at hf
      refine z_iload_n h 3 dX11_spread_7 rfl (rfl : 7 + 1 = 8) ?_
      refine z_if_lt (pc' := 11) h 29 dX11_spread_8 (by decide) rfl (fun c3 => ?_) (fun c3 => ?_)
      · have hf := zitt c3 hf
        exact hE (x2_7, x3_7, I7) (zsome hf).symm
      · have hf := zitf c3 hf
        refine z_aload_n h 1 dX11_spread_11 rfl (rfl : 11 + 1 = 12) ?_
        refine z_iload_n h 3 dX11_spread_12 rfl (rfl : 12 + 1 = 13) ?_
        refine z_iload_n h 2 dX11_spread_13 rfl (rfl : 13 + 1 = 14) ?_
        refine z_bipush h 6 dX11_spread_14 (by decide) (rfl : 14 + 2 = 16) ?_
        refine z_irem h dX11_spread_16 (by decide) (rfl : 16 + 1 = 17) ?_
        obtain ⟨b4, hf⟩ := zchk hf
        refine z_iast h b4 rfl dX11_spread_17 (rfl : 17 + 1 = 18) ?_
        refine z_iload_n h 2 dX11_spread_18 rfl (rfl : 18 + 1 = 19) ?_
        refine z_bipush h 6 dX11_spread_19 (by decide) (rfl : 19 + 2 = 21) ?_
        refine z_idiv h dX11_spread_21 (by decide) (rfl : 21 + 1 = 22) ?_
        refine z_istore_n h [(2, .int (x2_7 / (6 : Int32))), (0, .int v0), (1, .ref (za B 44)), (3, .int x3_7)] dX11_spread_22 (by decide) rfl (rfl : 22 + 1 = 23) ?_
        refine z_iinc h 3 (x3_7 + (-1)) [(3, .int (x3_7 + (-1))), (2, .int (x2_7 / (6 : Int32))), (0, .int v0), (1, .ref (za B 44))] dX11_spread_23 rfl rfl (by decide) rfl (rfl : 23 + 3 = 26) ?_
        refine z_goto (pc' := 7) h dX11_spread_26 (by decide) ?_
        refine z_sub (L' := [(0, .int v0), (1, .ref (za B 44)), (2, .int (x2_7 / (6 : Int32))), (3, .int (x3_7 + (-1)))]) [2, 3, 1, 0] rfl ?_
        exact ih (x2_7 / (6 : Int32)) (x3_7 + (-1)) (zu I7 44 (Int32.toNatClampNeg x3_7) (x2_7 - x2_7 / (6 : Int32) * (6 : Int32))) _ hf hP hE
  refine z_sub (L' := [(0, .int v0), (1, .ref (za B 44)), (2, .int v0), (3, .int ((6 : Int32) - (1 : Int32)))]) [2, 3, 1, 0] rfl ?_
  obtain ⟨q1, e2, hf⟩ := zbind hf
  refine loop_7_2 _ v0 ((6 : Int32) - (1 : Int32)) I q1 e2 (fun a ha => ?_) (fun a5 ha  => ?_)
  · have hf := zell ha hf
    exact zsome hf
  have hf := zelr ha hf
  clear ha loop_7_2
  refine z_vret h hr dX11_spread_29 ?_
  exact ⟨(zsome hf), rfl⟩
noncomputable def f_X5_follow_12 (J : zJ) (u1 : Int32) : Nat → Int32 → Int32 → zM → Option ((Int32 × zM) ⊕ (Int32 × Int32 × zM))
  | 0, _, _, _ => none
  | n + 1, x2_12, x3_12, I12 => (if 6 ≤ x3_12 then some (.inr (x2_12, x3_12, I12)) else ((f_X3_isAsked J x3_12 I12).bind fun q4 => (if q4.1 = 0 then (if zin x3_12 6 = true then ((f_X2_valueOf J (zR 43 (Int32.toNatClampNeg x3_12)) (-9) q4.2).bind fun q8 => f_X5_follow_12 J u1 n ((x2_12 * (6 : Int32)) + q8.1) (x3_12 + 1) q8.2) else none) else (if zin x3_12 6 = true then ((f_X2_first J (zR 43 (Int32.toNatClampNeg x3_12)) q4.2).bind fun q11 => (if zin x3_12 6 = true then ((f_X2_valueOf J (zR 43 (Int32.toNatClampNeg x3_12)) q11.1 q11.2).bind fun q14 => f_X5_follow_12 J u1 n ((x2_12 * (6 : Int32)) + q14.1) (x3_12 + 1) q14.2) else none)) else none))))
noncomputable def f_X5_follow (J : zJ) (v1 : Int32) (I : zM) : Option (Int32 × zM) := ((f_X11_spread J v1 I).bind fun q1 => ((f_X5_follow_12 J v1 zF 0 0 q1).bind fun q => Sum.elim (fun a => some a) (fun a5 => some ((a5.1, a5.2.2))) q))
noncomputable abbrev rmX5_follow : Room := { frames := 2, cells := 0, slots := 0, locals := 43 }
theorem zyX5_follow : zY yX5_follow wsX5_follow cX5_follow 5 (some .int) 1 := ⟨⟨_, rfl⟩, by decide +kernel⟩
theorem zrX5_follow_X11_spread : zRm rmX11_spread rmX5_follow 4 := ⟨rfl, rfl, by decide, by decide⟩
theorem zrX5_follow_X2_first : zRm rmX2_first rmX5_follow 4 := ⟨rfl, rfl, by decide, by decide⟩
theorem zrX5_follow_X2_valueOf : zRm rmX2_valueOf rmX5_follow 2 := ⟨rfl, rfl, by decide, by decide⟩
theorem zrX5_follow_X3_isAsked : zRm rmX3_isAsked rmX5_follow 4 := ⟨rfl, rfl, by decide, by decide⟩
set_option maxHeartbeats 1000000 in
set_option maxRecDepth 100000 in
theorem c_X5_follow (B : zB) (I : zM) (J : zJ) (hJ : zJok J) (v1 : Int32) (r : Int32) (I' : zM) (hf : f_X5_follow J v1 I = some (r, I')) : zCi B zKW I J yX5_follow wsX5_follow rmX5_follow [.ref (za B 39), .int v1] (fun r2 I2 J2 => r2 = r ∧ I2 = I' ∧ J2 = J) := by
  refine z_start (own := RX5) (cc := cX5_follow) (nL := 5) (ret := (some .int)) rfl (by decide) rfl (Nat.le_of_ble_eq_true rfl) (L := [(0, .ref (za B 39)), (1, .int v1)]) rfl (fun G h hr => ?_)
  rw [f_X5_follow] at hf
  refine z_iload_n h 1 dX5_follow_0 rfl (rfl : 0 + 1 = 1) ?_
  refine z_aload_n h 0 dX5_follow_1 rfl (rfl : 1 + 1 = 2) ?_
  refine z_getr (ci := 5) (C := RX5) (T := TX5) (N := 17) h 11 44 ((hJ.1 39 11 (by decide)).trans rfl) rfl rfl (fun _ hq => List.mem_cons_of_mem _ (List.mem_append_left _ (List.mem_append_left _ (List.mem_append_right _ hq)))) (by decide) (List.mem_of_getElem? (i := 1) rfl) rfl dX5_follow_2 (rfl : 2 + 3 = 5) ?_
  obtain ⟨q1, e2, hf⟩ := zbind hf
  refine z_goFv (z_runSN (host := "LeftOut") h [.int v1, .ref (za B 44)] [] zyX11_spread (c_X11_spread B I J hJ v1 _ e2) gX5_follow_X11_spread_n175 (List.mem_of_getElem? (i := 16) rfl) (List.mem_of_getElem? (i := 4) rfl) (List.mem_of_getElem? (i := 5) rfl) zrX5_follow_X11_spread rfl (Nat.le_of_ble_eq_true rfl) ⟨Nat.zero_le _, Nat.zero_le _⟩ rfl dX5_follow_5) rfl ?_
  refine z_iconst h 0 dX5_follow_8 (by decide) (rfl : 8 + 1 = 9) ?_
  refine z_istore_n h [(2, .int 0), (0, .ref (za B 39)), (1, .int v1)] dX5_follow_9 (by decide) rfl (rfl : 9 + 1 = 10) ?_
  refine z_iconst h 0 dX5_follow_10 (by decide) (rfl : 10 + 1 = 11) ?_
  refine z_istore_n h [(3, .int 0), (2, .int 0), (0, .ref (za B 39)), (1, .int v1)] dX5_follow_11 (by decide) rfl (rfl : 11 + 1 = 12) ?_
  have loop_12_4 : ∀ (n : Nat) (x2_12 : Int32) (x3_12 : Int32) (I12 : zM) (q : (Int32 × zM) ⊕ (Int32 × Int32 × zM)), f_X5_follow_12 J v1 n x2_12 x3_12 I12 = some q → (∀ a, q = .inl a → a = (r, I')) → (∀ a : Int32 × Int32 × zM, q = .inr a → Z B G zKW (a.2.2) (J) (0, 0) 76 [(0, .ref (za B 39)), (1, .int v1), (2, .int a.1), (3, .int a.2.1)] []) → Z B G zKW I12 J (0, 0) 12 [(0, .ref (za B 39)), (1, .int v1), (2, .int x2_12), (3, .int x3_12)] [] := by
    intro n; induction n with
    | zero => intro x2_12 x3_12 I12 q hf; exact absurd hf (by rw [f_X5_follow_12]; exact fun z => by cases z)
    | succ n ih =>
      intro x2_12 x3_12 I12 q hf hP hE; rw [f_X5_follow_12] at hf
      refine z_iload_n h 3 dX5_follow_12 rfl (rfl : 12 + 1 = 13) ?_
      refine z_bipush h 6 dX5_follow_13 (by decide) (rfl : 13 + 2 = 15) ?_
      refine z_icmp_ge (pc' := 18) h 76 dX5_follow_15 (by decide) rfl (fun c5 => ?_) (fun c5 => ?_)
      · have hf := zitt c5 hf
        exact hE (x2_12, x3_12, I12) (zsome hf).symm
      · have hf := zitf c5 hf
        refine z_aload_n h 0 dX5_follow_18 rfl (rfl : 18 + 1 = 19) ?_
        refine z_getr (ci := 5) (C := RX5) (T := TX5) (N := 17) h 0 1 ((hJ.1 39 0 (by decide)).trans rfl) rfl rfl (fun _ hq => List.mem_cons_of_mem _ (List.mem_append_left _ (List.mem_append_left _ (List.mem_append_right _ hq)))) (by decide) (List.mem_of_getElem? (i := 2) rfl) rfl dX5_follow_19 (rfl : 19 + 3 = 22) ?_
        refine z_iload_n h 3 dX5_follow_22 rfl (rfl : 22 + 1 = 23) ?_
        refine z_aload_n h 0 dX5_follow_23 rfl (rfl : 23 + 1 = 24) ?_
        refine z_getr (ci := 5) (C := RX5) (T := TX5) (N := 17) h 11 44 ((hJ.1 39 11 (by decide)).trans rfl) rfl rfl (fun _ hq => List.mem_cons_of_mem _ (List.mem_append_left _ (List.mem_append_left _ (List.mem_append_right _ hq)))) (by decide) (List.mem_of_getElem? (i := 1) rfl) rfl dX5_follow_24 (rfl : 24 + 3 = 27) ?_
        obtain ⟨q6, e7, hf⟩ := zbind hf
        refine z_goF (z_runV (C := RX3) (T := TX3) (N := 4) (ci := 3) h [.int x3_12, .ref (za B 44)] [] zyX3_isAsked (c_X3_isAsked B I12 J hJ x3_12 _ _ e7) gX5_follow_X3_isAsked rfl rfl rfl zrX5_follow_X3_isAsked rfl (Nat.le_of_ble_eq_true rfl) ⟨Nat.zero_le _, Nat.zero_le _⟩ rfl dX5_follow_27) rfl ?_
        refine z_if_eq (pc' := 33) h 49 dX5_follow_30 (by decide) rfl (fun c8 => ?_) (fun c8 => ?_)
        · have hf := zitt c8 hf
          refine z_bipush h (-9) dX5_follow_49 (by decide) (rfl : 49 + 2 = 51) ?_
          refine z_istore h [(4, .int (-9)), (0, .ref (za B 39)), (1, .int v1), (2, .int x2_12), (3, .int x3_12)] dX5_follow_51 (by decide) rfl (rfl : 51 + 2 = 53) ?_
          refine z_iload_n h 3 dX5_follow_53 rfl (rfl : 53 + 1 = 54) ?_
          refine z_bipush h 6 dX5_follow_54 (by decide) (rfl : 54 + 2 = 56) ?_
          refine z_imul h dX5_follow_56 (rfl : 56 + 1 = 57) ?_
          refine z_aload_n h 1 dX5_follow_57 rfl (rfl : 57 + 1 = 58) ?_
          refine z_getr (ci := 5) (C := RX5) (T := TX5) (N := 17) h 10 43 ((hJ.1 39 10 (by decide)).trans rfl) rfl rfl (fun _ hq => List.mem_cons_of_mem _ (List.mem_append_left _ (List.mem_append_left _ (List.mem_append_right _ hq)))) (by decide) (List.mem_of_getElem? (i := 3) rfl) rfl dX5_follow_58 (rfl : 58 + 3 = 61) ?_
          refine z_iload_n h 4 dX5_follow_61 rfl (rfl : 61 + 1 = 62) ?_
          obtain ⟨b9, hf⟩ := zchk hf
          refine z_aldq h (zR 43 (Int32.toNatClampNeg x3_12)) (ze_5 hJ rfl (zin_lt b9)).1 rfl (by decide) rfl b9 dX5_follow_62 (rfl : 62 + 1 = 63) ?_
          refine z_iload h 0 dX5_follow_63 rfl (rfl : 63 + 2 = 65) ?_
          obtain ⟨q10, e11, hf⟩ := zbind hf
          refine z_goF (z_runV (C := RX2) (T := TX2) (N := 5) (ci := 2) h [.int (-9)] [.int (x2_12 * (6 : Int32))] zyX2_valueOf (c_X2_valueOf B q6.2 J hJ (zR 43 (Int32.toNatClampNeg x3_12)) ((ze_5 hJ rfl (zin_lt b9)).2) (-9) _ _ e11) gX5_follow_X2_valueOf rfl (ze_5 hJ rfl (zin_lt b9)).2 rfl zrX5_follow_X2_valueOf rfl (Nat.le_of_ble_eq_true rfl) ⟨Nat.zero_le _, Nat.zero_le _⟩ rfl dX5_follow_65) rfl ?_
          refine z_iadd h dX5_follow_68 (rfl : 68 + 1 = 69) ?_
          refine z_istore_n h [(2, .int ((x2_12 * (6 : Int32)) + q10.1)), (4, .int (-9)), (0, .ref (za B 39)), (1, .int v1), (3, .int x3_12)] dX5_follow_69 (by decide) rfl (rfl : 69 + 1 = 70) ?_
          refine z_iinc h 4 (x3_12 + 1) [(3, .int (x3_12 + 1)), (2, .int ((x2_12 * (6 : Int32)) + q10.1)), (4, .int (-9)), (0, .ref (za B 39)), (1, .int v1)] dX5_follow_70 rfl rfl (by decide) rfl (rfl : 70 + 3 = 73) ?_
          refine z_goto (pc' := 12) h dX5_follow_73 (by decide) ?_
          refine z_sub (L' := [(0, .ref (za B 39)), (1, .int v1), (2, .int ((x2_12 * (6 : Int32)) + q10.1)), (3, .int (x3_12 + 1))]) [3, 4, 1, 0] rfl ?_
          exact ih ((x2_12 * (6 : Int32)) + q10.1) (x3_12 + 1) q10.2 _ hf hP hE
        · have hf := zitf c8 hf
          refine z_aload_n h 0 dX5_follow_33 rfl (rfl : 33 + 1 = 34) ?_
          refine z_getr (ci := 5) (C := RX5) (T := TX5) (N := 17) h 10 43 ((hJ.1 39 10 (by decide)).trans rfl) rfl rfl (fun _ hq => List.mem_cons_of_mem _ (List.mem_append_left _ (List.mem_append_left _ (List.mem_append_right _ hq)))) (by decide) (List.mem_of_getElem? (i := 3) rfl) rfl dX5_follow_34 (rfl : 34 + 3 = 37) ?_
          refine z_iload_n h 3 dX5_follow_37 rfl (rfl : 37 + 1 = 38) ?_
          obtain ⟨b12, hf⟩ := zchk hf
          refine z_aldq h (zR 43 (Int32.toNatClampNeg x3_12)) (ze_5 hJ rfl (zin_lt b12)).1 rfl (by decide) rfl b12 dX5_follow_38 (rfl : 38 + 1 = 39) ?_
          refine z_aload_n h 0 dX5_follow_39 rfl (rfl : 39 + 1 = 40) ?_
          refine z_getr (ci := 5) (C := RX5) (T := TX5) (N := 17) h 11 44 ((hJ.1 39 11 (by decide)).trans rfl) rfl rfl (fun _ hq => List.mem_cons_of_mem _ (List.mem_append_left _ (List.mem_append_left _ (List.mem_append_right _ hq)))) (by decide) (List.mem_of_getElem? (i := 1) rfl) rfl dX5_follow_40 (rfl : 40 + 3 = 43) ?_
          obtain ⟨q13, e14, hf⟩ := zbind hf
          refine z_goF (z_runV (C := RX2) (T := TX2) (N := 5) (ci := 2) h [.ref (za B 44)] [] zyX2_first (c_X2_first B q6.2 J hJ (zR 43 (Int32.toNatClampNeg x3_12)) ((ze_5 hJ rfl (zin_lt b12)).2) _ _ e14) gX5_follow_X2_first rfl (ze_5 hJ rfl (zin_lt b12)).2 rfl zrX5_follow_X2_first rfl (Nat.le_of_ble_eq_true rfl) ⟨Nat.zero_le _, Nat.zero_le _⟩ rfl dX5_follow_43) rfl ?_
          refine z_goto (pc' := 51) h dX5_follow_46 (by decide) ?_
          refine z_istore h [(4, .int q13.1), (0, .ref (za B 39)), (1, .int v1), (2, .int x2_12), (3, .int x3_12)] dX5_follow_51 (by decide) rfl (rfl : 51 + 2 = 53) ?_
          refine z_iload_n h 3 dX5_follow_53 rfl (rfl : 53 + 1 = 54) ?_
          refine z_bipush h 6 dX5_follow_54 (by decide) (rfl : 54 + 2 = 56) ?_
          refine z_imul h dX5_follow_56 (rfl : 56 + 1 = 57) ?_
          refine z_aload_n h 1 dX5_follow_57 rfl (rfl : 57 + 1 = 58) ?_
          refine z_getr (ci := 5) (C := RX5) (T := TX5) (N := 17) h 10 43 ((hJ.1 39 10 (by decide)).trans rfl) rfl rfl (fun _ hq => List.mem_cons_of_mem _ (List.mem_append_left _ (List.mem_append_left _ (List.mem_append_right _ hq)))) (by decide) (List.mem_of_getElem? (i := 3) rfl) rfl dX5_follow_58 (rfl : 58 + 3 = 61) ?_
          refine z_iload_n h 4 dX5_follow_61 rfl (rfl : 61 + 1 = 62) ?_
          obtain ⟨b15, hf⟩ := zchk hf
          refine z_aldq h (zR 43 (Int32.toNatClampNeg x3_12)) (ze_5 hJ rfl (zin_lt b15)).1 rfl (by decide) rfl b15 dX5_follow_62 (rfl : 62 + 1 = 63) ?_
          refine z_iload h 0 dX5_follow_63 rfl (rfl : 63 + 2 = 65) ?_
          obtain ⟨q16, e17, hf⟩ := zbind hf
          refine z_goF (z_runV (C := RX2) (T := TX2) (N := 5) (ci := 2) h [.int q13.1] [.int (x2_12 * (6 : Int32))] zyX2_valueOf (c_X2_valueOf B q13.2 J hJ (zR 43 (Int32.toNatClampNeg x3_12)) ((ze_5 hJ rfl (zin_lt b15)).2) q13.1 _ _ e17) gX5_follow_X2_valueOf rfl (ze_5 hJ rfl (zin_lt b15)).2 rfl zrX5_follow_X2_valueOf rfl (Nat.le_of_ble_eq_true rfl) ⟨Nat.zero_le _, Nat.zero_le _⟩ rfl dX5_follow_65) rfl ?_
          refine z_iadd h dX5_follow_68 (rfl : 68 + 1 = 69) ?_
          refine z_istore_n h [(2, .int ((x2_12 * (6 : Int32)) + q16.1)), (4, .int q13.1), (0, .ref (za B 39)), (1, .int v1), (3, .int x3_12)] dX5_follow_69 (by decide) rfl (rfl : 69 + 1 = 70) ?_
          refine z_iinc h 4 (x3_12 + 1) [(3, .int (x3_12 + 1)), (2, .int ((x2_12 * (6 : Int32)) + q16.1)), (4, .int q13.1), (0, .ref (za B 39)), (1, .int v1)] dX5_follow_70 rfl rfl (by decide) rfl (rfl : 70 + 3 = 73) ?_
          refine z_goto (pc' := 12) h dX5_follow_73 (by decide) ?_
          refine z_sub (L' := [(0, .ref (za B 39)), (1, .int v1), (2, .int ((x2_12 * (6 : Int32)) + q16.1)), (3, .int (x3_12 + 1))]) [3, 4, 1, 0] rfl ?_
          exact ih ((x2_12 * (6 : Int32)) + q16.1) (x3_12 + 1) q16.2 _ hf hP hE
  refine z_sub (L' := [(0, .ref (za B 39)), (1, .int v1), (2, .int 0), (3, .int 0)]) [2, 3, 1, 0] rfl ?_
  obtain ⟨q3, e4, hf⟩ := zbind hf
  refine loop_12_4 _ 0 0 q1 q3 e4 (fun a ha => ?_) (fun a18 ha  => ?_)
  · have hf := zell ha hf
    exact zsome hf
  have hf := zelr ha hf
  clear ha loop_12_4
  refine z_iload_n h 2 dX5_follow_76 rfl (rfl : 76 + 1 = 77) ?_
  refine z_iret h hr dX5_follow_77 ?_
  exact ⟨congrArg Prod.fst (zsome hf), congrArg Prod.snd (zsome hf), rfl⟩
noncomputable def f_X5_findRing_18 (J : zJ)  : Nat → Int32 → Int32 → Int32 → Int32 → zM → Option ((zM) ⊕ (Int32 × Int32 × Int32 × Int32 × zM))
  | 0, _, _, _, _, _ => none
  | n + 1, x1_18, x2_18, x3_18, x4_18, I18 => (if 1000000 ≤ x4_18 then some (.inr (x1_18, x2_18, x3_18, x4_18, I18)) else (if x2_18 = x1_18 then some (.inr (x1_18, x2_18, x3_18, x4_18, I18)) else (if I18 39 13 = x3_18 then ((f_X5_follow J x2_18 (zu I18 39 13 0)).bind fun q8 => f_X5_findRing_18 J  n x2_18 q8.1 (x3_18 * (2 : Int32)) (x4_18 + 1) (zu q8.2 39 13 ((q8.2 39 13) + (1 : Int32)))) else ((f_X5_follow J x2_18 I18).bind fun q6 => f_X5_findRing_18 J  n x1_18 q6.1 x3_18 (x4_18 + 1) (zu q6.2 39 13 ((q6.2 39 13) + (1 : Int32)))))))
noncomputable def f_X5_findRing (J : zJ)  (I : zM) : Option (zM) := ((f_X5_follow J 0 I).bind fun q1 => ((f_X5_findRing_18 J  zF 0 q1.1 1 0 (zu q1.2 39 13 1)).bind fun q => Sum.elim (fun a => some a) (fun a5 => some (a5.2.2.2.2)) q))
noncomputable abbrev rmX5_findRing : Room := { frames := 3, cells := 0, slots := 0, locals := 67 }
theorem zyX5_findRing : zY yX5_findRing wsX5_findRing cX5_findRing 5 none 0 := ⟨⟨_, rfl⟩, by decide +kernel⟩
theorem zrX5_findRing_X5_follow : zRm rmX5_follow rmX5_findRing 5 := ⟨rfl, rfl, by decide, by decide⟩
set_option maxHeartbeats 1000000 in
set_option maxRecDepth 100000 in
theorem c_X5_findRing (B : zB) (I : zM) (J : zJ) (hJ : zJok J)  (I' : zM) (hf : f_X5_findRing J  I = some I') : zCv B zKW I J yX5_findRing wsX5_findRing rmX5_findRing [.ref (za B 39)] (fun I2 J2 => I2 = I' ∧ J2 = J) := by
  refine z_start (own := RX5) (cc := cX5_findRing) (nL := 5) (ret := none) rfl (by decide) rfl (Nat.le_of_ble_eq_true rfl) (L := [(0, .ref (za B 39))]) rfl (fun G h hr => ?_)
  rw [f_X5_findRing] at hf
  refine z_iconst h 0 dX5_findRing_0 (by decide) (rfl : 0 + 1 = 1) ?_
  refine z_istore_n h [(1, .int 0), (0, .ref (za B 39))] dX5_findRing_1 (by decide) rfl (rfl : 1 + 1 = 2) ?_
  refine z_aload_n h 1 dX5_findRing_2 rfl (rfl : 2 + 1 = 3) ?_
  refine z_iload_n h 0 dX5_findRing_3 rfl (rfl : 3 + 1 = 4) ?_
  obtain ⟨q1, e2, hf⟩ := zbind hf
  refine z_goF (z_runV (C := RX5) (T := TX5) (N := 17) (ci := 5) h [.int 0] [] zyX5_follow (c_X5_follow B I J hJ 0 _ _ e2) gX5_findRing_X5_follow rfl rfl rfl zrX5_findRing_X5_follow rfl (Nat.le_of_ble_eq_true rfl) ⟨Nat.zero_le _, Nat.zero_le _⟩ rfl dX5_findRing_4) rfl ?_
  refine z_istore_n h [(2, .int q1.1), (1, .int 0), (0, .ref (za B 39))] dX5_findRing_7 (by decide) rfl (rfl : 7 + 1 = 8) ?_
  refine z_iconst h 1 dX5_findRing_8 (by decide) (rfl : 8 + 1 = 9) ?_
  refine z_istore_n h [(3, .int 1), (2, .int q1.1), (1, .int 0), (0, .ref (za B 39))] dX5_findRing_9 (by decide) rfl (rfl : 9 + 1 = 10) ?_
  refine z_aload_n h 3 dX5_findRing_10 rfl (rfl : 10 + 1 = 11) ?_
  refine z_iconst h 1 dX5_findRing_11 (by decide) (rfl : 11 + 1 = 12) ?_
  refine z_put (ci := 5) (C := RX5) (T := TX5) (N := 17) h 13 tyX5 tyX5_ok nmX5 rfl rfl (fun _ hq => List.mem_cons_of_mem _ (List.mem_append_left _ (List.mem_append_left _ (List.mem_append_right _ hq)))) (by decide) (List.mem_of_getElem? (i := 1) rfl) rfl rfl rfl dX5_findRing_12 (rfl : 12 + 3 = 15) ?_
  refine z_iconst h 0 dX5_findRing_15 (by decide) (rfl : 15 + 1 = 16) ?_
  refine z_istore h [(4, .int 0), (3, .int 1), (2, .int q1.1), (1, .int 0), (0, .ref (za B 39))] dX5_findRing_16 (by decide) rfl (rfl : 16 + 2 = 18) ?_
  have loop_18_4 : ∀ (n : Nat) (x1_18 : Int32) (x2_18 : Int32) (x3_18 : Int32) (x4_18 : Int32) (I18 : zM) (q : (zM) ⊕ (Int32 × Int32 × Int32 × Int32 × zM)), f_X5_findRing_18 J  n x1_18 x2_18 x3_18 x4_18 I18 = some q → (∀ a, q = .inl a → a = I') → (∀ a : Int32 × Int32 × Int32 × Int32 × zM, q = .inr a → Z B G zKW (a.2.2.2.2) (J) (0, 0) 71 [(0, .ref (za B 39)), (1, .int a.1), (2, .int a.2.1), (3, .int a.2.2.1), (4, .int a.2.2.2.1)] []) → Z B G zKW I18 J (0, 0) 18 [(0, .ref (za B 39)), (1, .int x1_18), (2, .int x2_18), (3, .int x3_18), (4, .int x4_18)] [] := by
    intro n; induction n with
    | zero => intro x1_18 x2_18 x3_18 x4_18 I18 q hf; exact absurd hf (by rw [f_X5_findRing_18]; exact fun z => by cases z)
    | succ n ih =>
      intro x1_18 x2_18 x3_18 x4_18 I18 q hf hP hE; rw [f_X5_findRing_18] at hf
      refine z_iload h 4 dX5_findRing_18 rfl (rfl : 18 + 2 = 20) ?_
      refine z_ldc h 1000000 (List.mem_of_getElem? (i := 2) rfl) dX5_findRing_20 (rfl : 20 + 2 = 22) ?_
      refine z_icmp_ge (pc' := 25) h 71 dX5_findRing_22 (by decide) rfl (fun c5 => ?_) (fun c5 => ?_)
      · have hf := zitt c5 hf
        exact hE (x1_18, x2_18, x3_18, x4_18, I18) (zsome hf).symm
      · have hf := zitf c5 hf
        refine z_iload_n h 2 dX5_findRing_25 rfl (rfl : 25 + 1 = 26) ?_
        refine z_iload_n h 1 dX5_findRing_26 rfl (rfl : 26 + 1 = 27) ?_
        refine z_icmp_eq (pc' := 30) h 71 dX5_findRing_27 (by decide) rfl (fun c6 => ?_) (fun c6 => ?_)
        · have hf := zitt c6 hf
          exact hE (x1_18, x2_18, x3_18, x4_18, I18) (zsome hf).symm
        · have hf := zitf c6 hf
          refine z_aload_n h 0 dX5_findRing_30 rfl (rfl : 30 + 1 = 31) ?_
          refine z_get (ci := 5) (C := RX5) (T := TX5) (N := 17) h 13 rfl rfl (fun _ hq => List.mem_cons_of_mem _ (List.mem_append_left _ (List.mem_append_left _ (List.mem_append_right _ hq)))) (by decide) (List.mem_of_getElem? (i := 1) rfl) rfl dX5_findRing_31 (rfl : 31 + 3 = 34) ?_
          refine z_iload_n h 3 dX5_findRing_34 rfl (rfl : 34 + 1 = 35) ?_
          refine z_icmp_ne (pc' := 38) h 49 dX5_findRing_35 (by decide) rfl (fun c7 => ?_) (fun c7 => ?_)
          · have hf := zitf c7 hf
            refine z_aload_n h 0 dX5_findRing_49 rfl (rfl : 49 + 1 = 50) ?_
            refine z_iload_n h 2 dX5_findRing_50 rfl (rfl : 50 + 1 = 51) ?_
            obtain ⟨q8, e9, hf⟩ := zbind hf
            refine z_goF (z_runV (C := RX5) (T := TX5) (N := 17) (ci := 5) h [.int x2_18] [] zyX5_follow (c_X5_follow B I18 J hJ x2_18 _ _ e9) gX5_findRing_X5_follow rfl rfl rfl zrX5_findRing_X5_follow rfl (Nat.le_of_ble_eq_true rfl) ⟨Nat.zero_le _, Nat.zero_le _⟩ rfl dX5_findRing_51) rfl ?_
            refine z_istore_n h [(2, .int q8.1), (0, .ref (za B 39)), (1, .int x1_18), (3, .int x3_18), (4, .int x4_18)] dX5_findRing_54 (by decide) rfl (rfl : 54 + 1 = 55) ?_
            refine z_aload_n h 1 dX5_findRing_55 rfl (rfl : 55 + 1 = 56) ?_
            refine z_dup h rfl dX5_findRing_56 (rfl : 56 + 1 = 57) ?_
            refine z_get (ci := 5) (C := RX5) (T := TX5) (N := 17) h 13 rfl rfl (fun _ hq => List.mem_cons_of_mem _ (List.mem_append_left _ (List.mem_append_left _ (List.mem_append_right _ hq)))) (by decide) (List.mem_of_getElem? (i := 1) rfl) rfl dX5_findRing_57 (rfl : 57 + 3 = 60) ?_
            refine z_iconst h 1 dX5_findRing_60 (by decide) (rfl : 60 + 1 = 61) ?_
            refine z_iadd h dX5_findRing_61 (rfl : 61 + 1 = 62) ?_
            refine z_put (ci := 5) (C := RX5) (T := TX5) (N := 17) h 13 tyX5 tyX5_ok nmX5 rfl rfl (fun _ hq => List.mem_cons_of_mem _ (List.mem_append_left _ (List.mem_append_left _ (List.mem_append_right _ hq)))) (by decide) (List.mem_of_getElem? (i := 1) rfl) rfl rfl rfl dX5_findRing_62 (rfl : 62 + 3 = 65) ?_
            refine z_iinc h 4 (x4_18 + 1) [(4, .int (x4_18 + 1)), (2, .int q8.1), (0, .ref (za B 39)), (1, .int x1_18), (3, .int x3_18)] dX5_findRing_65 rfl rfl (by decide) rfl (rfl : 65 + 3 = 68) ?_
            refine z_goto (pc' := 18) h dX5_findRing_68 (by decide) ?_
            refine z_sub (L' := [(0, .ref (za B 39)), (1, .int x1_18), (2, .int q8.1), (3, .int x3_18), (4, .int (x4_18 + 1))]) [2, 3, 1, 4, 0] rfl ?_
            exact ih x1_18 q8.1 x3_18 (x4_18 + 1) (zu q8.2 39 13 ((q8.2 39 13) + (1 : Int32))) _ hf hP hE
          · have hf := zitt c7 hf
            refine z_iload_n h 2 dX5_findRing_38 rfl (rfl : 38 + 1 = 39) ?_
            refine z_istore_n h [(1, .int x2_18), (0, .ref (za B 39)), (2, .int x2_18), (3, .int x3_18), (4, .int x4_18)] dX5_findRing_39 (by decide) rfl (rfl : 39 + 1 = 40) ?_
            refine z_iload_n h 3 dX5_findRing_40 rfl (rfl : 40 + 1 = 41) ?_
            refine z_iconst h 2 dX5_findRing_41 (by decide) (rfl : 41 + 1 = 42) ?_
            refine z_imul h dX5_findRing_42 (rfl : 42 + 1 = 43) ?_
            refine z_istore_n h [(3, .int (x3_18 * (2 : Int32))), (1, .int x2_18), (0, .ref (za B 39)), (2, .int x2_18), (4, .int x4_18)] dX5_findRing_43 (by decide) rfl (rfl : 43 + 1 = 44) ?_
            refine z_aload_n h 2 dX5_findRing_44 rfl (rfl : 44 + 1 = 45) ?_
            refine z_iconst h 0 dX5_findRing_45 (by decide) (rfl : 45 + 1 = 46) ?_
            refine z_put (ci := 5) (C := RX5) (T := TX5) (N := 17) h 13 tyX5 tyX5_ok nmX5 rfl rfl (fun _ hq => List.mem_cons_of_mem _ (List.mem_append_left _ (List.mem_append_left _ (List.mem_append_right _ hq)))) (by decide) (List.mem_of_getElem? (i := 1) rfl) rfl rfl rfl dX5_findRing_46 (rfl : 46 + 3 = 49) ?_
            refine z_aload_n h 2 dX5_findRing_49 rfl (rfl : 49 + 1 = 50) ?_
            refine z_iload_n h 3 dX5_findRing_50 rfl (rfl : 50 + 1 = 51) ?_
            obtain ⟨q10, e11, hf⟩ := zbind hf
            refine z_goF (z_runV (C := RX5) (T := TX5) (N := 17) (ci := 5) h [.int x2_18] [] zyX5_follow (c_X5_follow B (zu I18 39 13 0) J hJ x2_18 _ _ e11) gX5_findRing_X5_follow rfl rfl rfl zrX5_findRing_X5_follow rfl (Nat.le_of_ble_eq_true rfl) ⟨Nat.zero_le _, Nat.zero_le _⟩ rfl dX5_findRing_51) rfl ?_
            refine z_istore_n h [(2, .int q10.1), (3, .int (x3_18 * (2 : Int32))), (1, .int x2_18), (0, .ref (za B 39)), (4, .int x4_18)] dX5_findRing_54 (by decide) rfl (rfl : 54 + 1 = 55) ?_
            refine z_aload_n h 3 dX5_findRing_55 rfl (rfl : 55 + 1 = 56) ?_
            refine z_dup h rfl dX5_findRing_56 (rfl : 56 + 1 = 57) ?_
            refine z_get (ci := 5) (C := RX5) (T := TX5) (N := 17) h 13 rfl rfl (fun _ hq => List.mem_cons_of_mem _ (List.mem_append_left _ (List.mem_append_left _ (List.mem_append_right _ hq)))) (by decide) (List.mem_of_getElem? (i := 1) rfl) rfl dX5_findRing_57 (rfl : 57 + 3 = 60) ?_
            refine z_iconst h 1 dX5_findRing_60 (by decide) (rfl : 60 + 1 = 61) ?_
            refine z_iadd h dX5_findRing_61 (rfl : 61 + 1 = 62) ?_
            refine z_put (ci := 5) (C := RX5) (T := TX5) (N := 17) h 13 tyX5 tyX5_ok nmX5 rfl rfl (fun _ hq => List.mem_cons_of_mem _ (List.mem_append_left _ (List.mem_append_left _ (List.mem_append_right _ hq)))) (by decide) (List.mem_of_getElem? (i := 1) rfl) rfl rfl rfl dX5_findRing_62 (rfl : 62 + 3 = 65) ?_
            refine z_iinc h 4 (x4_18 + 1) [(4, .int (x4_18 + 1)), (2, .int q10.1), (3, .int (x3_18 * (2 : Int32))), (1, .int x2_18), (0, .ref (za B 39))] dX5_findRing_65 rfl rfl (by decide) rfl (rfl : 65 + 3 = 68) ?_
            refine z_goto (pc' := 18) h dX5_findRing_68 (by decide) ?_
            refine z_sub (L' := [(0, .ref (za B 39)), (1, .int x2_18), (2, .int q10.1), (3, .int (x3_18 * (2 : Int32))), (4, .int (x4_18 + 1))]) [4, 3, 1, 2, 0] rfl ?_
            exact ih x2_18 q10.1 (x3_18 * (2 : Int32)) (x4_18 + 1) (zu q10.2 39 13 ((q10.2 39 13) + (1 : Int32))) _ hf hP hE
  refine z_sub (L' := [(0, .ref (za B 39)), (1, .int 0), (2, .int q1.1), (3, .int 1), (4, .int 0)]) [4, 3, 2, 1, 0] rfl ?_
  obtain ⟨q3, e4, hf⟩ := zbind hf
  refine loop_18_4 _ 0 q1.1 1 0 (zu q1.2 39 13 1) q3 e4 (fun a ha => ?_) (fun a12 ha  => ?_)
  · have hf := zell ha hf
    exact zsome hf
  have hf := zelr ha hf
  clear ha loop_18_4
  refine z_vret h hr dX5_findRing_71 ?_
  exact ⟨(zsome hf), rfl⟩
noncomputable def f_X5_findRounds_4 (J : zJ)  : Nat → Int32 → Int32 → zM → Option ((Int32 × zM) ⊕ (Int32 × Int32 × zM))
  | 0, _, _, _ => none
  | n + 1, x1_4, x2_4, I4 => (if I4 39 13 ≤ x2_4 then some (.inr (x1_4, x2_4, I4)) else ((f_X5_follow J x1_4 I4).bind fun q2 => f_X5_findRounds_4 J  n q2.1 (x2_4 + 1) q2.2))
noncomputable def f_X5_findRounds_33 (J : zJ)  : Nat → Int32 → Int32 → Int32 → zM → Option ((Int32 × zM) ⊕ (Int32 × Int32 × Int32 × zM))
  | 0, _, _, _, _ => none
  | n + 1, x1_33, x2_33, x3_33, I33 => (if 1000000 ≤ x3_33 then some (.inr (x1_33, x2_33, x3_33, I33)) else (if x2_33 = x1_33 then some (.inr (x1_33, x2_33, x3_33, I33)) else ((f_X5_follow J x2_33 I33).bind fun q6 => ((f_X5_follow J x1_33 q6.2).bind fun q8 => f_X5_findRounds_33 J  n q8.1 q6.1 (x3_33 + 1) (zu q8.2 39 12 ((q8.2 39 12) + (1 : Int32)))))))
noncomputable def f_X5_findRounds (J : zJ)  (I : zM) : Option (Int32 × zM) := ((f_X5_findRounds_4 J  zF 0 0 I).bind fun q => Sum.elim (fun a => some a) (fun a3 => ((f_X5_findRounds_33 J  zF a3.1 0 0 (zu a3.2.2 39 12 0)).bind fun q => Sum.elim (fun a => some a) (fun a6 => some ((a6.2.1, a6.2.2.2))) q)) q)
noncomputable abbrev rmX5_findRounds : Room := { frames := 3, cells := 0, slots := 0, locals := 67 }
theorem zyX5_findRounds : zY yX5_findRounds wsX5_findRounds cX5_findRounds 4 (some .int) 0 := ⟨⟨_, rfl⟩, by decide +kernel⟩
theorem zrX5_findRounds_X5_follow : zRm rmX5_follow rmX5_findRounds 5 := ⟨rfl, rfl, by decide, by decide⟩
set_option maxHeartbeats 1000000 in
set_option maxRecDepth 100000 in
theorem c_X5_findRounds (B : zB) (I : zM) (J : zJ) (hJ : zJok J)  (r : Int32) (I' : zM) (hf : f_X5_findRounds J  I = some (r, I')) : zCi B zKW I J yX5_findRounds wsX5_findRounds rmX5_findRounds [.ref (za B 39)] (fun r2 I2 J2 => r2 = r ∧ I2 = I' ∧ J2 = J) := by
  refine z_start (own := RX5) (cc := cX5_findRounds) (nL := 4) (ret := (some .int)) rfl (by decide) rfl (Nat.le_of_ble_eq_true rfl) (L := [(0, .ref (za B 39))]) rfl (fun G h hr => ?_)
  rw [f_X5_findRounds] at hf
  refine z_iconst h 0 dX5_findRounds_0 (by decide) (rfl : 0 + 1 = 1) ?_
  refine z_istore_n h [(1, .int 0), (0, .ref (za B 39))] dX5_findRounds_1 (by decide) rfl (rfl : 1 + 1 = 2) ?_
  refine z_iconst h 0 dX5_findRounds_2 (by decide) (rfl : 2 + 1 = 3) ?_
  refine z_istore_n h [(2, .int 0), (1, .int 0), (0, .ref (za B 39))] dX5_findRounds_3 (by decide) rfl (rfl : 3 + 1 = 4) ?_
  have loop_4_2 : ∀ (n : Nat) (x1_4 : Int32) (x2_4 : Int32) (I4 : zM) (q : (Int32 × zM) ⊕ (Int32 × Int32 × zM)), f_X5_findRounds_4 J  n x1_4 x2_4 I4 = some q → (∀ a, q = .inl a → a = (r, I')) → (∀ a : Int32 × Int32 × zM, q = .inr a → Z B G zKW (a.2.2) (J) (0, 0) 24 [(0, .ref (za B 39)), (1, .int a.1), (2, .int a.2.1)] []) → Z B G zKW I4 J (0, 0) 4 [(0, .ref (za B 39)), (1, .int x1_4), (2, .int x2_4)] [] := by
    intro n; induction n with
    | zero => intro x1_4 x2_4 I4 q hf; exact absurd hf (by rw [f_X5_findRounds_4]; exact fun z => by cases z)
    | succ n ih =>
      intro x1_4 x2_4 I4 q hf hP hE; rw [f_X5_findRounds_4] at hf
      refine z_iload_n h 2 dX5_findRounds_4 rfl (rfl : 4 + 1 = 5) ?_
      refine z_aload_n h 0 dX5_findRounds_5 rfl (rfl : 5 + 1 = 6) ?_
      refine z_get (ci := 5) (C := RX5) (T := TX5) (N := 17) h 13 rfl rfl (fun _ hq => List.mem_cons_of_mem _ (List.mem_append_left _ (List.mem_append_left _ (List.mem_append_right _ hq)))) (by decide) (List.mem_of_getElem? (i := 1) rfl) rfl dX5_findRounds_6 (rfl : 6 + 3 = 9) ?_
      refine z_icmp_ge (pc' := 12) h 24 dX5_findRounds_9 (by decide) rfl (fun c3 => ?_) (fun c3 => ?_)
      · have hf := zitt c3 hf
        exact hE (x1_4, x2_4, I4) (zsome hf).symm
      · have hf := zitf c3 hf
        refine z_aload_n h 0 dX5_findRounds_12 rfl (rfl : 12 + 1 = 13) ?_
        refine z_iload_n h 1 dX5_findRounds_13 rfl (rfl : 13 + 1 = 14) ?_
        obtain ⟨q4, e5, hf⟩ := zbind hf
        refine z_goF (z_runV (C := RX5) (T := TX5) (N := 17) (ci := 5) h [.int x1_4] [] zyX5_follow (c_X5_follow B I4 J hJ x1_4 _ _ e5) gX5_findRounds_X5_follow rfl rfl rfl zrX5_findRounds_X5_follow rfl (Nat.le_of_ble_eq_true rfl) ⟨Nat.zero_le _, Nat.zero_le _⟩ rfl dX5_findRounds_14) rfl ?_
        refine z_istore_n h [(1, .int q4.1), (0, .ref (za B 39)), (2, .int x2_4)] dX5_findRounds_17 (by decide) rfl (rfl : 17 + 1 = 18) ?_
        refine z_iinc h 2 (x2_4 + 1) [(2, .int (x2_4 + 1)), (1, .int q4.1), (0, .ref (za B 39))] dX5_findRounds_18 rfl rfl (by decide) rfl (rfl : 18 + 3 = 21) ?_
        refine z_goto (pc' := 4) h dX5_findRounds_21 (by decide) ?_
        refine z_sub (L' := [(0, .ref (za B 39)), (1, .int q4.1), (2, .int (x2_4 + 1))]) [2, 1, 0] rfl ?_
        exact ih q4.1 (x2_4 + 1) q4.2 _ hf hP hE
  refine z_sub (L' := [(0, .ref (za B 39)), (1, .int 0), (2, .int 0)]) [2, 1, 0] rfl ?_
  obtain ⟨q1, e2, hf⟩ := zbind hf
  refine loop_4_2 _ 0 0 I q1 e2 (fun a ha => ?_) (fun a6 ha  => ?_)
  · have hf := zell ha hf
    exact zsome hf
  have hf := zelr ha hf
  clear ha loop_4_2
  refine z_iconst h 0 dX5_findRounds_24 (by decide) (rfl : 24 + 1 = 25) ?_
  refine z_istore_n h [(2, .int 0), (0, .ref (za B 39)), (1, .int a6.1)] dX5_findRounds_25 (by decide) rfl (rfl : 25 + 1 = 26) ?_
  refine z_aload_n h 1 dX5_findRounds_26 rfl (rfl : 26 + 1 = 27) ?_
  refine z_iconst h 0 dX5_findRounds_27 (by decide) (rfl : 27 + 1 = 28) ?_
  refine z_put (ci := 5) (C := RX5) (T := TX5) (N := 17) h 12 tyX5 tyX5_ok nmX5 rfl rfl (fun _ hq => List.mem_cons_of_mem _ (List.mem_append_left _ (List.mem_append_left _ (List.mem_append_right _ hq)))) (by decide) (List.mem_of_getElem? (i := 2) rfl) rfl rfl rfl dX5_findRounds_28 (rfl : 28 + 3 = 31) ?_
  refine z_iconst h 0 dX5_findRounds_31 (by decide) (rfl : 31 + 1 = 32) ?_
  refine z_istore_n h [(3, .int 0), (2, .int 0), (0, .ref (za B 39)), (1, .int a6.1)] dX5_findRounds_32 (by decide) rfl (rfl : 32 + 1 = 33) ?_
  have loop_33_8 : ∀ (n : Nat) (x1_33 : Int32) (x2_33 : Int32) (x3_33 : Int32) (I33 : zM) (q : (Int32 × zM) ⊕ (Int32 × Int32 × Int32 × zM)), f_X5_findRounds_33 J  n x1_33 x2_33 x3_33 I33 = some q → (∀ a, q = .inl a → a = (r, I')) → (∀ a : Int32 × Int32 × Int32 × zM, q = .inr a → Z B G zKW (a.2.2.2) (J) (0, 0) 72 [(0, .ref (za B 39)), (1, .int a.1), (2, .int a.2.1), (3, .int a.2.2.1)] []) → Z B G zKW I33 J (0, 0) 33 [(0, .ref (za B 39)), (1, .int x1_33), (2, .int x2_33), (3, .int x3_33)] [] := by
    intro n; induction n with
    | zero => intro x1_33 x2_33 x3_33 I33 q hf; exact absurd hf (by rw [f_X5_findRounds_33]; exact fun z => by cases z)
    | succ n ih =>
      intro x1_33 x2_33 x3_33 I33 q hf hP hE; rw [f_X5_findRounds_33] at hf
      refine z_iload_n h 3 dX5_findRounds_33 rfl (rfl : 33 + 1 = 34) ?_
      refine z_ldc h 1000000 (List.mem_of_getElem? (i := 3) rfl) dX5_findRounds_34 (rfl : 34 + 2 = 36) ?_
      refine z_icmp_ge (pc' := 39) h 72 dX5_findRounds_36 (by decide) rfl (fun c9 => ?_) (fun c9 => ?_)
      · have hf := zitt c9 hf
        exact hE (x1_33, x2_33, x3_33, I33) (zsome hf).symm
      · have hf := zitf c9 hf
        refine z_iload_n h 2 dX5_findRounds_39 rfl (rfl : 39 + 1 = 40) ?_
        refine z_iload_n h 1 dX5_findRounds_40 rfl (rfl : 40 + 1 = 41) ?_
        refine z_icmp_eq (pc' := 44) h 72 dX5_findRounds_41 (by decide) rfl (fun c10 => ?_) (fun c10 => ?_)
        · have hf := zitt c10 hf
          exact hE (x1_33, x2_33, x3_33, I33) (zsome hf).symm
        · have hf := zitf c10 hf
          refine z_aload_n h 0 dX5_findRounds_44 rfl (rfl : 44 + 1 = 45) ?_
          refine z_iload_n h 2 dX5_findRounds_45 rfl (rfl : 45 + 1 = 46) ?_
          obtain ⟨q11, e12, hf⟩ := zbind hf
          refine z_goF (z_runV (C := RX5) (T := TX5) (N := 17) (ci := 5) h [.int x2_33] [] zyX5_follow (c_X5_follow B I33 J hJ x2_33 _ _ e12) gX5_findRounds_X5_follow rfl rfl rfl zrX5_findRounds_X5_follow rfl (Nat.le_of_ble_eq_true rfl) ⟨Nat.zero_le _, Nat.zero_le _⟩ rfl dX5_findRounds_46) rfl ?_
          refine z_istore_n h [(2, .int q11.1), (0, .ref (za B 39)), (1, .int x1_33), (3, .int x3_33)] dX5_findRounds_49 (by decide) rfl (rfl : 49 + 1 = 50) ?_
          refine z_aload_n h 1 dX5_findRounds_50 rfl (rfl : 50 + 1 = 51) ?_
          refine z_iload_n h 2 dX5_findRounds_51 rfl (rfl : 51 + 1 = 52) ?_
          obtain ⟨q13, e14, hf⟩ := zbind hf
          refine z_goF (z_runV (C := RX5) (T := TX5) (N := 17) (ci := 5) h [.int x1_33] [] zyX5_follow (c_X5_follow B q11.2 J hJ x1_33 _ _ e14) gX5_findRounds_X5_follow rfl rfl rfl zrX5_findRounds_X5_follow rfl (Nat.le_of_ble_eq_true rfl) ⟨Nat.zero_le _, Nat.zero_le _⟩ rfl dX5_findRounds_52) rfl ?_
          refine z_istore_n h [(1, .int q13.1), (2, .int q11.1), (0, .ref (za B 39)), (3, .int x3_33)] dX5_findRounds_55 (by decide) rfl (rfl : 55 + 1 = 56) ?_
          refine z_aload_n h 2 dX5_findRounds_56 rfl (rfl : 56 + 1 = 57) ?_
          refine z_dup h rfl dX5_findRounds_57 (rfl : 57 + 1 = 58) ?_
          refine z_get (ci := 5) (C := RX5) (T := TX5) (N := 17) h 12 rfl rfl (fun _ hq => List.mem_cons_of_mem _ (List.mem_append_left _ (List.mem_append_left _ (List.mem_append_right _ hq)))) (by decide) (List.mem_of_getElem? (i := 2) rfl) rfl dX5_findRounds_58 (rfl : 58 + 3 = 61) ?_
          refine z_iconst h 1 dX5_findRounds_61 (by decide) (rfl : 61 + 1 = 62) ?_
          refine z_iadd h dX5_findRounds_62 (rfl : 62 + 1 = 63) ?_
          refine z_put (ci := 5) (C := RX5) (T := TX5) (N := 17) h 12 tyX5 tyX5_ok nmX5 rfl rfl (fun _ hq => List.mem_cons_of_mem _ (List.mem_append_left _ (List.mem_append_left _ (List.mem_append_right _ hq)))) (by decide) (List.mem_of_getElem? (i := 2) rfl) rfl rfl rfl dX5_findRounds_63 (rfl : 63 + 3 = 66) ?_
          refine z_iinc h 3 (x3_33 + 1) [(3, .int (x3_33 + 1)), (1, .int q13.1), (2, .int q11.1), (0, .ref (za B 39))] dX5_findRounds_66 rfl rfl (by decide) rfl (rfl : 66 + 3 = 69) ?_
          refine z_goto (pc' := 33) h dX5_findRounds_69 (by decide) ?_
          refine z_sub (L' := [(0, .ref (za B 39)), (1, .int q13.1), (2, .int q11.1), (3, .int (x3_33 + 1))]) [3, 1, 2, 0] rfl ?_
          exact ih q13.1 q11.1 (x3_33 + 1) (zu q13.2 39 12 ((q13.2 39 12) + (1 : Int32))) _ hf hP hE
  refine z_sub (L' := [(0, .ref (za B 39)), (1, .int a6.1), (2, .int 0), (3, .int 0)]) [2, 3, 1, 0] rfl ?_
  obtain ⟨q7, e8, hf⟩ := zbind hf
  refine loop_33_8 _ a6.1 0 0 (zu a6.2.2 39 12 0) q7 e8 (fun a ha => ?_) (fun a15 ha  => ?_)
  · have hf := zell ha hf
    exact zsome hf
  have hf := zelr ha hf
  clear ha loop_33_8
  refine z_iload_n h 2 dX5_findRounds_72 rfl (rfl : 72 + 1 = 73) ?_
  refine z_iret h hr dX5_findRounds_73 ?_
  exact ⟨congrArg Prod.fst (zsome hf), congrArg Prod.snd (zsome hf), rfl⟩
noncomputable def f_X11_unlike_10 (J : zJ) (u0 : Int32) (u1 : Int32) : Nat → Int32 → Int32 → Int32 → Int32 → zM → Option ((Int32 × zM) ⊕ (Int32 × Int32 × Int32 × Int32 × zM))
  | 0, _, _, _, _, _ => none
  | n + 1, x2_10, x3_10, x4_10, x5_10, I10 => (if x5_10 < 0 then some (.inr (x2_10, x3_10, x4_10, x5_10, I10)) else (if x3_10 - x3_10 / (6 : Int32) * (6 : Int32) = x4_10 - x4_10 / (6 : Int32) * (6 : Int32) then f_X11_unlike_10 J u0 u1 n x2_10 (x3_10 / (6 : Int32)) (x4_10 / (6 : Int32)) (x5_10 + (-1)) I10 else f_X11_unlike_10 J u0 u1 n (x2_10 ||| ((1 : Int32) <<< (x5_10 &&& 31))) (x3_10 / (6 : Int32)) (x4_10 / (6 : Int32)) (x5_10 + (-1)) I10))
noncomputable def f_X11_unlike (J : zJ) (v0 : Int32) (v1 : Int32) (I : zM) : Option (Int32 × zM) := ((f_X11_unlike_10 J v0 v1 zF 0 v0 v1 5 I).bind fun q => Sum.elim (fun a => some a) (fun a3 => some ((a3.1, a3.2.2.2.2))) q)
noncomputable abbrev rmX11_unlike : Room := { frames := 0, cells := 0, slots := 0, locals := 0 }
theorem zyX11_unlike : zY yX11_unlike wsX11_unlike cX11_unlike 6 (some .int) 2 := ⟨⟨_, rfl⟩, by decide +kernel⟩
set_option maxHeartbeats 1000000 in
set_option maxRecDepth 100000 in
theorem c_X11_unlike (B : zB) (I : zM) (J : zJ) (hJ : zJok J) (v0 : Int32) (v1 : Int32) (r : Int32) (I' : zM) (hf : f_X11_unlike J v0 v1 I = some (r, I')) : zCi B zKW I J yX11_unlike wsX11_unlike rmX11_unlike [.int v0, .int v1] (fun r2 I2 J2 => r2 = r ∧ I2 = I' ∧ J2 = J) := by
  refine z_start (own := RX11) (cc := cX11_unlike) (nL := 6) (ret := (some .int)) rfl (by decide) rfl (Nat.le_of_ble_eq_true rfl) (L := [(0, .int v0), (1, .int v1)]) rfl (fun G h hr => ?_)
  rw [f_X11_unlike] at hf
  refine z_iconst h 0 dX11_unlike_0 (by decide) (rfl : 0 + 1 = 1) ?_
  refine z_istore_n h [(2, .int 0), (0, .int v0), (1, .int v1)] dX11_unlike_1 (by decide) rfl (rfl : 1 + 1 = 2) ?_
  refine z_iload_n h 1 dX11_unlike_2 rfl (rfl : 2 + 1 = 3) ?_
  refine z_istore_n h [(3, .int v0), (2, .int 0), (0, .int v0), (1, .int v1)] dX11_unlike_3 (by decide) rfl (rfl : 3 + 1 = 4) ?_
  refine z_iload_n h 3 dX11_unlike_4 rfl (rfl : 4 + 1 = 5) ?_
  refine z_istore h [(4, .int v1), (3, .int v0), (2, .int 0), (0, .int v0), (1, .int v1)] dX11_unlike_5 (by decide) rfl (rfl : 5 + 2 = 7) ?_
  refine z_iconst h 5 dX11_unlike_7 (by decide) (rfl : 7 + 1 = 8) ?_
  refine z_istore h [(5, .int 5), (4, .int v1), (3, .int v0), (2, .int 0), (0, .int v0), (1, .int v1)] dX11_unlike_8 (by decide) rfl (rfl : 8 + 2 = 10) ?_
  have loop_10_2 : ∀ (n : Nat) (x2_10 : Int32) (x3_10 : Int32) (x4_10 : Int32) (x5_10 : Int32) (I10 : zM) (q : (Int32 × zM) ⊕ (Int32 × Int32 × Int32 × Int32 × zM)), f_X11_unlike_10 J v0 v1 n x2_10 x3_10 x4_10 x5_10 I10 = some q → (∀ a, q = .inl a → a = (r, I')) → (∀ a : Int32 × Int32 × Int32 × Int32 × zM, q = .inr a → Z B G zKW (a.2.2.2.2) (J) (0, 0) 52 [(0, .int v0), (1, .int v1), (2, .int a.1), (3, .int a.2.1), (4, .int a.2.2.1), (5, .int a.2.2.2.1)] []) → Z B G zKW I10 J (0, 0) 10 [(0, .int v0), (1, .int v1), (2, .int x2_10), (3, .int x3_10), (4, .int x4_10), (5, .int x5_10)] [] := by
    intro n; induction n with
    | zero => intro x2_10 x3_10 x4_10 x5_10 I10 q hf; exact absurd hf (by rw [f_X11_unlike_10]; exact fun z => by cases z)
    | succ n ih =>
      intro x2_10 x3_10 x4_10 x5_10 I10 q hf hP hE; rw [f_X11_unlike_10] at hf
      refine z_iload h 5 dX11_unlike_10 rfl (rfl : 10 + 2 = 12) ?_
      refine z_if_lt (pc' := 15) h 52 dX11_unlike_12 (by decide) rfl (fun c3 => ?_) (fun c3 => ?_)
      · have hf := zitt c3 hf
        exact hE (x2_10, x3_10, x4_10, x5_10, I10) (zsome hf).symm
      · have hf := zitf c3 hf
        refine z_iload_n h 3 dX11_unlike_15 rfl (rfl : 15 + 1 = 16) ?_
        refine z_bipush h 6 dX11_unlike_16 (by decide) (rfl : 16 + 2 = 18) ?_
        refine z_irem h dX11_unlike_18 (by decide) (rfl : 18 + 1 = 19) ?_
        refine z_iload h 4 dX11_unlike_19 rfl (rfl : 19 + 2 = 21) ?_
        refine z_bipush h 6 dX11_unlike_21 (by decide) (rfl : 21 + 2 = 23) ?_
        refine z_irem h dX11_unlike_23 (by decide) (rfl : 23 + 1 = 24) ?_
        refine z_icmp_eq (pc' := 27) h 34 dX11_unlike_24 (by decide) rfl (fun c4 => ?_) (fun c4 => ?_)
        · have hf := zitt c4 hf
          refine z_iload_n h 3 dX11_unlike_34 rfl (rfl : 34 + 1 = 35) ?_
          refine z_bipush h 6 dX11_unlike_35 (by decide) (rfl : 35 + 2 = 37) ?_
          refine z_idiv h dX11_unlike_37 (by decide) (rfl : 37 + 1 = 38) ?_
          refine z_istore_n h [(3, .int (x3_10 / (6 : Int32))), (0, .int v0), (1, .int v1), (2, .int x2_10), (4, .int x4_10), (5, .int x5_10)] dX11_unlike_38 (by decide) rfl (rfl : 38 + 1 = 39) ?_
          refine z_iload h 4 dX11_unlike_39 rfl (rfl : 39 + 2 = 41) ?_
          refine z_bipush h 6 dX11_unlike_41 (by decide) (rfl : 41 + 2 = 43) ?_
          refine z_idiv h dX11_unlike_43 (by decide) (rfl : 43 + 1 = 44) ?_
          refine z_istore h [(4, .int (x4_10 / (6 : Int32))), (3, .int (x3_10 / (6 : Int32))), (0, .int v0), (1, .int v1), (2, .int x2_10), (5, .int x5_10)] dX11_unlike_44 (by decide) rfl (rfl : 44 + 2 = 46) ?_
          refine z_iinc h 5 (x5_10 + (-1)) [(5, .int (x5_10 + (-1))), (4, .int (x4_10 / (6 : Int32))), (3, .int (x3_10 / (6 : Int32))), (0, .int v0), (1, .int v1), (2, .int x2_10)] dX11_unlike_46 rfl rfl (by decide) rfl (rfl : 46 + 3 = 49) ?_
          refine z_goto (pc' := 10) h dX11_unlike_49 (by decide) ?_
          refine z_sub (L' := [(0, .int v0), (1, .int v1), (2, .int x2_10), (3, .int (x3_10 / (6 : Int32))), (4, .int (x4_10 / (6 : Int32))), (5, .int (x5_10 + (-1)))]) [3, 4, 5, 2, 1, 0] rfl ?_
          exact ih x2_10 (x3_10 / (6 : Int32)) (x4_10 / (6 : Int32)) (x5_10 + (-1)) I10 _ hf hP hE
        · have hf := zitf c4 hf
          refine z_iload_n h 2 dX11_unlike_27 rfl (rfl : 27 + 1 = 28) ?_
          refine z_iconst h 1 dX11_unlike_28 (by decide) (rfl : 28 + 1 = 29) ?_
          refine z_iload h 5 dX11_unlike_29 rfl (rfl : 29 + 2 = 31) ?_
          refine z_ishl h dX11_unlike_31 (rfl : 31 + 1 = 32) ?_
          refine z_ior h dX11_unlike_32 (rfl : 32 + 1 = 33) ?_
          refine z_istore_n h [(2, .int (x2_10 ||| ((1 : Int32) <<< (x5_10 &&& 31)))), (0, .int v0), (1, .int v1), (3, .int x3_10), (4, .int x4_10), (5, .int x5_10)] dX11_unlike_33 (by decide) rfl (rfl : 33 + 1 = 34) ?_
          refine z_iload_n h 3 dX11_unlike_34 rfl (rfl : 34 + 1 = 35) ?_
          refine z_bipush h 6 dX11_unlike_35 (by decide) (rfl : 35 + 2 = 37) ?_
          refine z_idiv h dX11_unlike_37 (by decide) (rfl : 37 + 1 = 38) ?_
          refine z_istore_n h [(3, .int (x3_10 / (6 : Int32))), (2, .int (x2_10 ||| ((1 : Int32) <<< (x5_10 &&& 31)))), (0, .int v0), (1, .int v1), (4, .int x4_10), (5, .int x5_10)] dX11_unlike_38 (by decide) rfl (rfl : 38 + 1 = 39) ?_
          refine z_iload h 4 dX11_unlike_39 rfl (rfl : 39 + 2 = 41) ?_
          refine z_bipush h 6 dX11_unlike_41 (by decide) (rfl : 41 + 2 = 43) ?_
          refine z_idiv h dX11_unlike_43 (by decide) (rfl : 43 + 1 = 44) ?_
          refine z_istore h [(4, .int (x4_10 / (6 : Int32))), (3, .int (x3_10 / (6 : Int32))), (2, .int (x2_10 ||| ((1 : Int32) <<< (x5_10 &&& 31)))), (0, .int v0), (1, .int v1), (5, .int x5_10)] dX11_unlike_44 (by decide) rfl (rfl : 44 + 2 = 46) ?_
          refine z_iinc h 5 (x5_10 + (-1)) [(5, .int (x5_10 + (-1))), (4, .int (x4_10 / (6 : Int32))), (3, .int (x3_10 / (6 : Int32))), (2, .int (x2_10 ||| ((1 : Int32) <<< (x5_10 &&& 31)))), (0, .int v0), (1, .int v1)] dX11_unlike_46 rfl rfl (by decide) rfl (rfl : 46 + 3 = 49) ?_
          refine z_goto (pc' := 10) h dX11_unlike_49 (by decide) ?_
          refine z_sub (L' := [(0, .int v0), (1, .int v1), (2, .int (x2_10 ||| ((1 : Int32) <<< (x5_10 &&& 31)))), (3, .int (x3_10 / (6 : Int32))), (4, .int (x4_10 / (6 : Int32))), (5, .int (x5_10 + (-1)))]) [4, 5, 3, 2, 1, 0] rfl ?_
          exact ih (x2_10 ||| ((1 : Int32) <<< (x5_10 &&& 31))) (x3_10 / (6 : Int32)) (x4_10 / (6 : Int32)) (x5_10 + (-1)) I10 _ hf hP hE
  refine z_sub (L' := [(0, .int v0), (1, .int v1), (2, .int 0), (3, .int v0), (4, .int v1), (5, .int 5)]) [4, 5, 3, 2, 1, 0] rfl ?_
  obtain ⟨q1, e2, hf⟩ := zbind hf
  refine loop_10_2 _ 0 v0 v1 5 I q1 e2 (fun a ha => ?_) (fun a5 ha  => ?_)
  · have hf := zell ha hf
    exact zsome hf
  have hf := zelr ha hf
  clear ha loop_10_2
  refine z_iload_n h 2 dX11_unlike_52 rfl (rfl : 52 + 1 = 53) ?_
  refine z_iret h hr dX11_unlike_53 ?_
  exact ⟨congrArg Prod.fst (zsome hf), congrArg Prod.snd (zsome hf), rfl⟩
noncomputable def f_X5_without_13 (J : zJ) (u1 : Int32) (u2 : Int32) : Nat → Int32 → Int32 → zM → Option ((Int32 × zM) ⊕ (Int32 × Int32 × zM))
  | 0, _, _, _ => none
  | n + 1, x3_13, x4_13, I13 => (if 6 ≤ x4_13 then some (.inr (x3_13, x4_13, I13)) else ((f_X11_bit J u2 x4_13 I13).bind fun q4 => (if q4.1 = 1 then f_X5_without_13 J u1 u2 n ((x3_13 * (6 : Int32)) + (0 : Int32)) (x4_13 + 1) q4.2 else (if zin x4_13 6 = true then f_X5_without_13 J u1 u2 n ((x3_13 * (6 : Int32)) + (q4.2 44 (Int32.toNatClampNeg x4_13))) (x4_13 + 1) q4.2 else none))))
noncomputable def f_X5_without (J : zJ) (v1 : Int32) (v2 : Int32) (I : zM) : Option (Int32 × zM) := ((f_X11_spread J v1 I).bind fun q1 => ((f_X5_without_13 J v1 v2 zF 0 0 q1).bind fun q => Sum.elim (fun a => some a) (fun a5 => some ((a5.1, a5.2.2))) q))
noncomputable abbrev rmX5_without : Room := { frames := 1, cells := 0, slots := 0, locals := 23 }
theorem zyX5_without : zY yX5_without wsX5_without cX5_without 5 (some .int) 2 := ⟨⟨_, rfl⟩, by decide +kernel⟩
theorem zrX5_without_X11_bit : zRm rmX11_bit rmX5_without 2 := ⟨rfl, rfl, by decide, by decide⟩
theorem zrX5_without_X11_spread : zRm rmX11_spread rmX5_without 4 := ⟨rfl, rfl, by decide, by decide⟩
set_option maxHeartbeats 1000000 in
set_option maxRecDepth 100000 in
theorem c_X5_without (B : zB) (I : zM) (J : zJ) (hJ : zJok J) (v1 : Int32) (v2 : Int32) (r : Int32) (I' : zM) (hf : f_X5_without J v1 v2 I = some (r, I')) : zCi B zKW I J yX5_without wsX5_without rmX5_without [.ref (za B 39), .int v1, .int v2] (fun r2 I2 J2 => r2 = r ∧ I2 = I' ∧ J2 = J) := by
  refine z_start (own := RX5) (cc := cX5_without) (nL := 5) (ret := (some .int)) rfl (by decide) rfl (Nat.le_of_ble_eq_true rfl) (L := [(0, .ref (za B 39)), (1, .int v1), (2, .int v2)]) rfl (fun G h hr => ?_)
  rw [f_X5_without] at hf
  refine z_iload_n h 1 dX5_without_0 rfl (rfl : 0 + 1 = 1) ?_
  refine z_aload_n h 0 dX5_without_1 rfl (rfl : 1 + 1 = 2) ?_
  refine z_getr (ci := 5) (C := RX5) (T := TX5) (N := 17) h 11 44 ((hJ.1 39 11 (by decide)).trans rfl) rfl rfl (fun _ hq => List.mem_cons_of_mem _ (List.mem_append_right _ hq)) (by decide) (List.mem_of_getElem? (i := 1) rfl) rfl dX5_without_2 (rfl : 2 + 3 = 5) ?_
  obtain ⟨q1, e2, hf⟩ := zbind hf
  refine z_goFv (z_runSN (host := "LeftOut") h [.int v1, .ref (za B 44)] [] zyX11_spread (c_X11_spread B I J hJ v1 _ e2) gX5_without_X11_spread_n175 (List.mem_of_getElem? (i := 16) rfl) (List.mem_of_getElem? (i := 2) rfl) (List.mem_of_getElem? (i := 3) rfl) zrX5_without_X11_spread rfl (Nat.le_of_ble_eq_true rfl) ⟨Nat.zero_le _, Nat.zero_le _⟩ rfl dX5_without_5) rfl ?_
  refine z_iconst h 0 dX5_without_8 (by decide) (rfl : 8 + 1 = 9) ?_
  refine z_istore_n h [(3, .int 0), (0, .ref (za B 39)), (1, .int v1), (2, .int v2)] dX5_without_9 (by decide) rfl (rfl : 9 + 1 = 10) ?_
  refine z_iconst h 0 dX5_without_10 (by decide) (rfl : 10 + 1 = 11) ?_
  refine z_istore h [(4, .int 0), (3, .int 0), (0, .ref (za B 39)), (1, .int v1), (2, .int v2)] dX5_without_11 (by decide) rfl (rfl : 11 + 2 = 13) ?_
  have loop_13_4 : ∀ (n : Nat) (x3_13 : Int32) (x4_13 : Int32) (I13 : zM) (q : (Int32 × zM) ⊕ (Int32 × Int32 × zM)), f_X5_without_13 J v1 v2 n x3_13 x4_13 I13 = some q → (∀ a, q = .inl a → a = (r, I')) → (∀ a : Int32 × Int32 × zM, q = .inr a → Z B G zKW (a.2.2) (J) (0, 0) 53 [(0, .ref (za B 39)), (1, .int v1), (2, .int v2), (3, .int a.1), (4, .int a.2.1)] []) → Z B G zKW I13 J (0, 0) 13 [(0, .ref (za B 39)), (1, .int v1), (2, .int v2), (3, .int x3_13), (4, .int x4_13)] [] := by
    intro n; induction n with
    | zero => intro x3_13 x4_13 I13 q hf; exact absurd hf (by rw [f_X5_without_13]; exact fun z => by cases z)
    | succ n ih =>
      intro x3_13 x4_13 I13 q hf hP hE; rw [f_X5_without_13] at hf
      refine z_iload h 4 dX5_without_13 rfl (rfl : 13 + 2 = 15) ?_
      refine z_bipush h 6 dX5_without_15 (by decide) (rfl : 15 + 2 = 17) ?_
      refine z_icmp_ge (pc' := 20) h 53 dX5_without_17 (by decide) rfl (fun c5 => ?_) (fun c5 => ?_)
      · have hf := zitt c5 hf
        exact hE (x3_13, x4_13, I13) (zsome hf).symm
      · have hf := zitf c5 hf
        refine z_iload_n h 3 dX5_without_20 rfl (rfl : 20 + 1 = 21) ?_
        refine z_bipush h 6 dX5_without_21 (by decide) (rfl : 21 + 2 = 23) ?_
        refine z_imul h dX5_without_23 (rfl : 23 + 1 = 24) ?_
        refine z_iload_n h 2 dX5_without_24 rfl (rfl : 24 + 1 = 25) ?_
        refine z_iload h 4 dX5_without_25 rfl (rfl : 25 + 2 = 27) ?_
        obtain ⟨q6, e7, hf⟩ := zbind hf
        refine z_goF (z_runSN (host := "LeftOut") h [.int v2, .int x4_13] [.int (x3_13 * (6 : Int32))] zyX11_bit (c_X11_bit B I13 J hJ v2 x4_13 _ _ e7) gX5_without_X11_bit_n103 (List.mem_of_getElem? (i := 14) rfl) (List.mem_of_getElem? (i := 5) rfl) (List.mem_of_getElem? (i := 3) rfl) zrX5_without_X11_bit rfl (Nat.le_of_ble_eq_true rfl) ⟨Nat.zero_le _, Nat.zero_le _⟩ rfl dX5_without_27) rfl ?_
        refine z_iconst h 1 dX5_without_30 (by decide) (rfl : 30 + 1 = 31) ?_
        refine z_icmp_ne (pc' := 34) h 38 dX5_without_31 (by decide) rfl (fun c8 => ?_) (fun c8 => ?_)
        · have hf := zitf c8 hf
          refine z_aload_n h 0 dX5_without_38 rfl (rfl : 38 + 1 = 39) ?_
          refine z_getr (ci := 5) (C := RX5) (T := TX5) (N := 17) h 11 44 ((hJ.1 39 11 (by decide)).trans rfl) rfl rfl (fun _ hq => List.mem_cons_of_mem _ (List.mem_append_right _ hq)) (by decide) (List.mem_of_getElem? (i := 1) rfl) rfl dX5_without_39 (rfl : 39 + 3 = 42) ?_
          refine z_iload h 4 dX5_without_42 rfl (rfl : 42 + 2 = 44) ?_
          obtain ⟨b9, hf⟩ := zchk hf
          refine z_iald h rfl b9 dX5_without_44 (rfl : 44 + 1 = 45) ?_
          refine z_iadd h dX5_without_45 (rfl : 45 + 1 = 46) ?_
          refine z_istore_n h [(3, .int ((x3_13 * (6 : Int32)) + (q6.2 44 (Int32.toNatClampNeg x4_13)))), (0, .ref (za B 39)), (1, .int v1), (2, .int v2), (4, .int x4_13)] dX5_without_46 (by decide) rfl (rfl : 46 + 1 = 47) ?_
          refine z_iinc h 4 (x4_13 + 1) [(4, .int (x4_13 + 1)), (3, .int ((x3_13 * (6 : Int32)) + (q6.2 44 (Int32.toNatClampNeg x4_13)))), (0, .ref (za B 39)), (1, .int v1), (2, .int v2)] dX5_without_47 rfl rfl (by decide) rfl (rfl : 47 + 3 = 50) ?_
          refine z_goto (pc' := 13) h dX5_without_50 (by decide) ?_
          refine z_sub (L' := [(0, .ref (za B 39)), (1, .int v1), (2, .int v2), (3, .int ((x3_13 * (6 : Int32)) + (q6.2 44 (Int32.toNatClampNeg x4_13)))), (4, .int (x4_13 + 1))]) [2, 3, 4, 1, 0] rfl ?_
          exact ih ((x3_13 * (6 : Int32)) + (q6.2 44 (Int32.toNatClampNeg x4_13))) (x4_13 + 1) q6.2 _ hf hP hE
        · have hf := zitt c8 hf
          refine z_iconst h 0 dX5_without_34 (by decide) (rfl : 34 + 1 = 35) ?_
          refine z_goto (pc' := 45) h dX5_without_35 (by decide) ?_
          refine z_iadd h dX5_without_45 (rfl : 45 + 1 = 46) ?_
          refine z_istore_n h [(3, .int ((x3_13 * (6 : Int32)) + (0 : Int32))), (0, .ref (za B 39)), (1, .int v1), (2, .int v2), (4, .int x4_13)] dX5_without_46 (by decide) rfl (rfl : 46 + 1 = 47) ?_
          refine z_iinc h 4 (x4_13 + 1) [(4, .int (x4_13 + 1)), (3, .int ((x3_13 * (6 : Int32)) + (0 : Int32))), (0, .ref (za B 39)), (1, .int v1), (2, .int v2)] dX5_without_47 rfl rfl (by decide) rfl (rfl : 47 + 3 = 50) ?_
          refine z_goto (pc' := 13) h dX5_without_50 (by decide) ?_
          refine z_sub (L' := [(0, .ref (za B 39)), (1, .int v1), (2, .int v2), (3, .int ((x3_13 * (6 : Int32)) + (0 : Int32))), (4, .int (x4_13 + 1))]) [2, 3, 4, 1, 0] rfl ?_
          exact ih ((x3_13 * (6 : Int32)) + (0 : Int32)) (x4_13 + 1) q6.2 _ hf hP hE
  refine z_sub (L' := [(0, .ref (za B 39)), (1, .int v1), (2, .int v2), (3, .int 0), (4, .int 0)]) [2, 3, 4, 1, 0] rfl ?_
  obtain ⟨q3, e4, hf⟩ := zbind hf
  refine loop_13_4 _ 0 0 q1 q3 e4 (fun a ha => ?_) (fun a10 ha  => ?_)
  · have hf := zell ha hf
    exact zsome hf
  have hf := zelr ha hf
  clear ha loop_13_4
  refine z_iload_n h 3 dX5_without_53 rfl (rfl : 53 + 1 = 54) ?_
  refine z_iret h hr dX5_without_54 ?_
  exact ⟨congrArg Prod.fst (zsome hf), congrArg Prod.snd (zsome hf), rfl⟩
noncomputable def f_X5_read_26 (J : zJ) (r1 : Nat) (u2 : Int32) : Nat → Int32 → zM → Option ((zM) ⊕ (Int32 × zM))
  | 0, _, _ => none
  | n + 1, x3_26, I26 => (if I26 39 13 ≤ x3_26 then some (.inr (x3_26, I26)) else ((f_X5_follow J (I26 39 16) I26).bind fun q8 => ((f_X11_unlike J u2 ((zu q8.2 39 16 q8.1) 39 16) (zu q8.2 39 16 q8.1)).bind fun q10 => f_X5_read_26 J r1 u2 n (x3_26 + 1) (zu q10.2 39 15 (((zu q8.2 39 16 q8.1) 39 15) ||| q10.1)))))
noncomputable def f_X5_read (J : zJ) (p1 : Nat) (I : zM) : Option (zM) := ((f_X5_plan J p1 I).bind fun q1 => ((f_X5_findRing J  q1).bind fun q3 => ((f_X5_findRounds J  q3).bind fun q5 => ((f_X5_read_26 J p1 q5.1 zF 1 (zu (zu q5.2 39 15 0) 39 16 q5.1)).bind fun q => Sum.elim (fun a => some a) (fun a9 => ((f_X5_without J q5.1 (a9.2 39 15) a9.2).bind fun q10 => some (zu q10.2 39 14 q10.1))) q))))
noncomputable abbrev rmX5_read : Room := { frames := 4, cells := 0, slots := 0, locals := 94 }
theorem zyX5_read : zY yX5_read wsX5_read cX5_read 4 none 1 := ⟨⟨_, rfl⟩, by decide +kernel⟩
theorem zrX5_read_X11_unlike : zRm rmX11_unlike rmX5_read 6 := ⟨rfl, rfl, by decide, by decide⟩
theorem zrX5_read_X5_findRing : zRm rmX5_findRing rmX5_read 5 := ⟨rfl, rfl, by decide, by decide⟩
theorem zrX5_read_X5_findRounds : zRm rmX5_findRounds rmX5_read 4 := ⟨rfl, rfl, by decide, by decide⟩
theorem zrX5_read_X5_follow : zRm rmX5_follow rmX5_read 5 := ⟨rfl, rfl, by decide, by decide⟩
theorem zrX5_read_X5_plan : zRm rmX5_plan rmX5_read 6 := ⟨rfl, rfl, by decide, by decide⟩
theorem zrX5_read_X5_without : zRm rmX5_without rmX5_read 5 := ⟨rfl, rfl, by decide, by decide⟩
set_option maxHeartbeats 1000000 in
set_option maxRecDepth 100000 in
theorem c_X5_read (B : zB) (I : zM) (J : zJ) (hJ : zJok J) (p1 : Nat) (k1 : zKW[p1]? = some (.inr 4)) (I' : zM) (hf : f_X5_read J p1 I = some I') : zCv B zKW I J yX5_read wsX5_read rmX5_read [.ref (za B 39), .ref (za B p1)] (fun I2 J2 => I2 = I' ∧ J2 = J) := by
  refine z_start (own := RX5) (cc := cX5_read) (nL := 4) (ret := none) rfl (by decide) rfl (Nat.le_of_ble_eq_true rfl) (L := [(0, .ref (za B 39)), (1, .ref (za B p1))]) rfl (fun G h hr => ?_)
  rw [f_X5_read] at hf
  refine z_aload_n h 0 dX5_read_0 rfl (rfl : 0 + 1 = 1) ?_
  refine z_aload_n h 1 dX5_read_1 rfl (rfl : 1 + 1 = 2) ?_
  obtain ⟨q1, e2, hf⟩ := zbind hf
  refine z_goFv (z_runV (C := RX5) (T := TX5) (N := 17) (ci := 5) h [.ref (za B p1)] [] zyX5_plan (c_X5_plan B I J hJ p1 k1 _ e2) gX5_read_X5_plan rfl rfl rfl zrX5_read_X5_plan rfl (Nat.le_of_ble_eq_true rfl) ⟨Nat.zero_le _, Nat.zero_le _⟩ rfl dX5_read_2) rfl ?_
  refine z_aload_n h 0 dX5_read_5 rfl (rfl : 5 + 1 = 6) ?_
  obtain ⟨q3, e4, hf⟩ := zbind hf
  refine z_goFv (z_runV (C := RX5) (T := TX5) (N := 17) (ci := 5) h [] [] zyX5_findRing (c_X5_findRing B q1 J hJ  _ e4) gX5_read_X5_findRing rfl rfl rfl zrX5_read_X5_findRing rfl (Nat.le_of_ble_eq_true rfl) ⟨Nat.zero_le _, Nat.zero_le _⟩ rfl dX5_read_6) rfl ?_
  refine z_aload_n h 0 dX5_read_9 rfl (rfl : 9 + 1 = 10) ?_
  obtain ⟨q5, e6, hf⟩ := zbind hf
  refine z_goF (z_runV (C := RX5) (T := TX5) (N := 17) (ci := 5) h [] [] zyX5_findRounds (c_X5_findRounds B q3 J hJ  _ _ e6) gX5_read_X5_findRounds rfl rfl rfl zrX5_read_X5_findRounds rfl (Nat.le_of_ble_eq_true rfl) ⟨Nat.zero_le _, Nat.zero_le _⟩ rfl dX5_read_10) rfl ?_
  refine z_istore_n h [(2, .int q5.1), (0, .ref (za B 39)), (1, .ref (za B p1))] dX5_read_13 (by decide) rfl (rfl : 13 + 1 = 14) ?_
  refine z_aload_n h 1 dX5_read_14 rfl (rfl : 14 + 1 = 15) ?_
  refine z_iconst h 0 dX5_read_15 (by decide) (rfl : 15 + 1 = 16) ?_
  refine z_put (ci := 5) (C := RX5) (T := TX5) (N := 17) h 15 tyX5 tyX5_ok nmX5 rfl rfl (fun _ hq => List.mem_cons_of_mem _ (List.mem_append_left _ (List.mem_append_left _ (List.mem_append_left _ (List.mem_append_left _ (List.mem_append_left _ (List.mem_append_right _ hq))))))) (by decide) (List.mem_of_getElem? (i := 1) rfl) rfl rfl rfl dX5_read_16 (rfl : 16 + 3 = 19) ?_
  refine z_aload_n h 1 dX5_read_19 rfl (rfl : 19 + 1 = 20) ?_
  refine z_iload_n h 0 dX5_read_20 rfl (rfl : 20 + 1 = 21) ?_
  refine z_put (ci := 5) (C := RX5) (T := TX5) (N := 17) h 16 tyX5 tyX5_ok nmX5 rfl rfl (fun _ hq => List.mem_cons_of_mem _ (List.mem_append_left _ (List.mem_append_left _ (List.mem_append_left _ (List.mem_append_left _ (List.mem_append_left _ (List.mem_append_right _ hq))))))) (by decide) (List.mem_of_getElem? (i := 2) rfl) rfl rfl rfl dX5_read_21 (rfl : 21 + 3 = 24) ?_
  refine z_iconst h 1 dX5_read_24 (by decide) (rfl : 24 + 1 = 25) ?_
  refine z_istore_n h [(3, .int 1), (2, .int q5.1), (0, .ref (za B 39)), (1, .ref (za B p1))] dX5_read_25 (by decide) rfl (rfl : 25 + 1 = 26) ?_
  have loop_26_8 : ∀ (n : Nat) (x3_26 : Int32) (I26 : zM) (q : (zM) ⊕ (Int32 × zM)), f_X5_read_26 J p1 q5.1 n x3_26 I26 = some q → (∀ a, q = .inl a → a = I') → (∀ a : Int32 × zM, q = .inr a → Z B G zKW (a.2) (J) (0, 0) 69 [(0, .ref (za B 39)), (1, .ref (za B p1)), (2, .int q5.1), (3, .int a.1)] []) → Z B G zKW I26 J (0, 0) 26 [(0, .ref (za B 39)), (1, .ref (za B p1)), (2, .int q5.1), (3, .int x3_26)] [] := by
    intro n; induction n with
    | zero => intro x3_26 I26 q hf; exact absurd hf (by rw [f_X5_read_26]; exact fun z => by cases z)
    | succ n ih =>
      intro x3_26 I26 q hf hP hE; rw [f_X5_read_26] at hf
      refine z_iload_n h 3 dX5_read_26 rfl (rfl : 26 + 1 = 27) ?_
      refine z_aload_n h 0 dX5_read_27 rfl (rfl : 27 + 1 = 28) ?_
      refine z_get (ci := 5) (C := RX5) (T := TX5) (N := 17) h 13 rfl rfl (fun _ hq => List.mem_cons_of_mem _ (List.mem_append_left _ (List.mem_append_left _ (List.mem_append_left _ (List.mem_append_left _ (List.mem_append_left _ (List.mem_append_right _ hq))))))) (by decide) (List.mem_of_getElem? (i := 3) rfl) rfl dX5_read_28 (rfl : 28 + 3 = 31) ?_
      refine z_icmp_ge (pc' := 34) h 69 dX5_read_31 (by decide) rfl (fun c9 => ?_) (fun c9 => ?_)
      · have hf := zitt c9 hf
        exact hE (x3_26, I26) (zsome hf).symm
      · have hf := zitf c9 hf
        refine z_aload_n h 0 dX5_read_34 rfl (rfl : 34 + 1 = 35) ?_
        refine z_aload_n h 0 dX5_read_35 rfl (rfl : 35 + 1 = 36) ?_
        refine z_aload_n h 0 dX5_read_36 rfl (rfl : 36 + 1 = 37) ?_
        refine z_get (ci := 5) (C := RX5) (T := TX5) (N := 17) h 16 rfl rfl (fun _ hq => List.mem_cons_of_mem _ (List.mem_append_left _ (List.mem_append_left _ (List.mem_append_left _ (List.mem_append_left _ (List.mem_append_left _ (List.mem_append_right _ hq))))))) (by decide) (List.mem_of_getElem? (i := 2) rfl) rfl dX5_read_37 (rfl : 37 + 3 = 40) ?_
        obtain ⟨q10, e11, hf⟩ := zbind hf
        refine z_goF (z_runV (C := RX5) (T := TX5) (N := 17) (ci := 5) h [.int (I26 39 16)] [.ref (za B 39)] zyX5_follow (c_X5_follow B I26 J hJ (I26 39 16) _ _ e11) gX5_read_X5_follow rfl rfl rfl zrX5_read_X5_follow rfl (Nat.le_of_ble_eq_true rfl) ⟨Nat.zero_le _, Nat.zero_le _⟩ rfl dX5_read_40) rfl ?_
        refine z_put (ci := 5) (C := RX5) (T := TX5) (N := 17) h 16 tyX5 tyX5_ok nmX5 rfl rfl (fun _ hq => List.mem_cons_of_mem _ (List.mem_append_left _ (List.mem_append_left _ (List.mem_append_left _ (List.mem_append_left _ (List.mem_append_left _ (List.mem_append_right _ hq))))))) (by decide) (List.mem_of_getElem? (i := 2) rfl) rfl rfl rfl dX5_read_43 (rfl : 43 + 3 = 46) ?_
        refine z_aload_n h 0 dX5_read_46 rfl (rfl : 46 + 1 = 47) ?_
        refine z_dup h rfl dX5_read_47 (rfl : 47 + 1 = 48) ?_
        refine z_get (ci := 5) (C := RX5) (T := TX5) (N := 17) h 15 rfl rfl (fun _ hq => List.mem_cons_of_mem _ (List.mem_append_left _ (List.mem_append_left _ (List.mem_append_left _ (List.mem_append_left _ (List.mem_append_left _ (List.mem_append_right _ hq))))))) (by decide) (List.mem_of_getElem? (i := 1) rfl) rfl dX5_read_48 (rfl : 48 + 3 = 51) ?_
        refine z_iload_n h 2 dX5_read_51 rfl (rfl : 51 + 1 = 52) ?_
        refine z_aload_n h 0 dX5_read_52 rfl (rfl : 52 + 1 = 53) ?_
        refine z_get (ci := 5) (C := RX5) (T := TX5) (N := 17) h 16 rfl rfl (fun _ hq => List.mem_cons_of_mem _ (List.mem_append_left _ (List.mem_append_left _ (List.mem_append_left _ (List.mem_append_left _ (List.mem_append_left _ (List.mem_append_right _ hq))))))) (by decide) (List.mem_of_getElem? (i := 2) rfl) rfl dX5_read_53 (rfl : 53 + 3 = 56) ?_
        obtain ⟨q12, e13, hf⟩ := zbind hf
        refine z_goF (z_runSN (host := "LeftOut") h [.int q5.1, .int ((zu q10.2 39 16 q10.1) 39 16)] [.int ((zu q10.2 39 16 q10.1) 39 15), .ref (za B 39)] zyX11_unlike (c_X11_unlike B (zu q10.2 39 16 q10.1) J hJ q5.1 ((zu q10.2 39 16 q10.1) 39 16) _ _ e13) gX5_read_X11_unlike_n204 (List.mem_of_getElem? (i := 19) rfl) (List.mem_of_getElem? (i := 103) rfl) (List.mem_of_getElem? (i := 56) rfl) zrX5_read_X11_unlike rfl (Nat.le_of_ble_eq_true rfl) ⟨Nat.zero_le _, Nat.zero_le _⟩ rfl dX5_read_56) rfl ?_
        refine z_ior h dX5_read_59 (rfl : 59 + 1 = 60) ?_
        refine z_put (ci := 5) (C := RX5) (T := TX5) (N := 17) h 15 tyX5 tyX5_ok nmX5 rfl rfl (fun _ hq => List.mem_cons_of_mem _ (List.mem_append_left _ (List.mem_append_left _ (List.mem_append_left _ (List.mem_append_left _ (List.mem_append_left _ (List.mem_append_right _ hq))))))) (by decide) (List.mem_of_getElem? (i := 1) rfl) rfl rfl rfl dX5_read_60 (rfl : 60 + 3 = 63) ?_
        refine z_iinc h 3 (x3_26 + 1) [(3, .int (x3_26 + 1)), (0, .ref (za B 39)), (1, .ref (za B p1)), (2, .int q5.1)] dX5_read_63 rfl rfl (by decide) rfl (rfl : 63 + 3 = 66) ?_
        refine z_goto (pc' := 26) h dX5_read_66 (by decide) ?_
        refine z_sub (L' := [(0, .ref (za B 39)), (1, .ref (za B p1)), (2, .int q5.1), (3, .int (x3_26 + 1))]) [1, 2, 3, 0] rfl ?_
        exact ih (x3_26 + 1) (zu q12.2 39 15 (((zu q10.2 39 16 q10.1) 39 15) ||| q12.1)) _ hf hP hE
  refine z_sub (L' := [(0, .ref (za B 39)), (1, .ref (za B p1)), (2, .int q5.1), (3, .int 1)]) [2, 3, 1, 0] rfl ?_
  obtain ⟨q7, e8, hf⟩ := zbind hf
  refine loop_26_8 _ 1 (zu (zu q5.2 39 15 0) 39 16 q5.1) q7 e8 (fun a ha => ?_) (fun a14 ha  => ?_)
  · have hf := zell ha hf
    exact zsome hf
  have hf := zelr ha hf
  clear ha loop_26_8
  refine z_aload_n h 0 dX5_read_69 rfl (rfl : 69 + 1 = 70) ?_
  refine z_aload_n h 0 dX5_read_70 rfl (rfl : 70 + 1 = 71) ?_
  refine z_iload_n h 2 dX5_read_71 rfl (rfl : 71 + 1 = 72) ?_
  refine z_aload_n h 0 dX5_read_72 rfl (rfl : 72 + 1 = 73) ?_
  refine z_get (ci := 5) (C := RX5) (T := TX5) (N := 17) h 15 rfl rfl (fun _ hq => List.mem_cons_of_mem _ (List.mem_append_left _ (List.mem_append_left _ (List.mem_append_left _ (List.mem_append_left _ (List.mem_append_left _ (List.mem_append_right _ hq))))))) (by decide) (List.mem_of_getElem? (i := 1) rfl) rfl dX5_read_73 (rfl : 73 + 3 = 76) ?_
  obtain ⟨q15, e16, hf⟩ := zbind hf
  refine z_goF (z_runV (C := RX5) (T := TX5) (N := 17) (ci := 5) h [.int q5.1, .int (a14.2 39 15)] [.ref (za B 39)] zyX5_without (c_X5_without B a14.2 J hJ q5.1 (a14.2 39 15) _ _ e16) gX5_read_X5_without rfl rfl rfl zrX5_read_X5_without rfl (Nat.le_of_ble_eq_true rfl) ⟨Nat.zero_le _, Nat.zero_le _⟩ rfl dX5_read_76) rfl ?_
  refine z_put (ci := 5) (C := RX5) (T := TX5) (N := 17) h 14 tyX5 tyX5_ok nmX5 rfl rfl (fun _ hq => List.mem_cons_of_mem _ (List.mem_append_left _ (List.mem_append_left _ (List.mem_append_left _ (List.mem_append_left _ (List.mem_append_left _ (List.mem_append_right _ hq))))))) (by decide) (List.mem_of_getElem? (i := 4) rfl) rfl rfl rfl dX5_read_79 (rfl : 79 + 3 = 82) ?_
  refine z_vret h hr dX5_read_82 ?_
  exact ⟨(zsome hf), rfl⟩
noncomputable def f_X5_reasonOf (J : zJ) (v1 : Int32) (I : zM) : Option (Int32 × zM) := ((f_X11_bit J (I 39 15) v1 I).bind fun q1 => (if q1.1 = 1 then some ((4, q1.2)) else ((f_X11_spread J (q1.2 39 16) q1.2).bind fun q4 => ((f_X3_isAsked J v1 q4).bind fun q6 => (if q6.1 = 0 then (if zin v1 6 = true then ((f_X2_reasonOf J (zR 43 (Int32.toNatClampNeg v1)) (-9) q6.2).bind fun q10 => some ((q10.1, q10.2))) else none) else (if zin v1 6 = true then ((f_X2_first J (zR 43 (Int32.toNatClampNeg v1)) q6.2).bind fun q13 => (if zin v1 6 = true then ((f_X2_reasonOf J (zR 43 (Int32.toNatClampNeg v1)) q13.1 q13.2).bind fun q16 => some ((q16.1, q16.2))) else none)) else none))))))
noncomputable abbrev rmX5_reasonOf : Room := { frames := 2, cells := 0, slots := 0, locals := 43 }
theorem zyX5_reasonOf : zY yX5_reasonOf wsX5_reasonOf cX5_reasonOf 3 (some .int) 1 := ⟨⟨_, rfl⟩, by decide +kernel⟩
theorem zrX5_reasonOf_X11_bit : zRm rmX11_bit rmX5_reasonOf 2 := ⟨rfl, rfl, by decide, by decide⟩
theorem zrX5_reasonOf_X11_spread : zRm rmX11_spread rmX5_reasonOf 4 := ⟨rfl, rfl, by decide, by decide⟩
theorem zrX5_reasonOf_X2_first : zRm rmX2_first rmX5_reasonOf 4 := ⟨rfl, rfl, by decide, by decide⟩
theorem zrX5_reasonOf_X2_reasonOf : zRm rmX2_reasonOf rmX5_reasonOf 2 := ⟨rfl, rfl, by decide, by decide⟩
theorem zrX5_reasonOf_X3_isAsked : zRm rmX3_isAsked rmX5_reasonOf 4 := ⟨rfl, rfl, by decide, by decide⟩
set_option maxHeartbeats 1000000 in
set_option maxRecDepth 100000 in
theorem c_X5_reasonOf (B : zB) (I : zM) (J : zJ) (hJ : zJok J) (v1 : Int32) (r : Int32) (I' : zM) (hf : f_X5_reasonOf J v1 I = some (r, I')) : zCi B zKW I J yX5_reasonOf wsX5_reasonOf rmX5_reasonOf [.ref (za B 39), .int v1] (fun r2 I2 J2 => r2 = r ∧ I2 = I' ∧ J2 = J) := by
  refine z_start (own := RX5) (cc := cX5_reasonOf) (nL := 3) (ret := (some .int)) rfl (by decide) rfl (Nat.le_of_ble_eq_true rfl) (L := [(0, .ref (za B 39)), (1, .int v1)]) rfl (fun G h hr => ?_)
  rw [f_X5_reasonOf] at hf
  refine z_aload_n h 0 dX5_reasonOf_0 rfl (rfl : 0 + 1 = 1) ?_
  refine z_get (ci := 5) (C := RX5) (T := TX5) (N := 17) h 15 rfl rfl (fun _ hq => List.mem_cons_of_mem _ (List.mem_append_left _ (List.mem_append_left _ (List.mem_append_right _ hq)))) (by decide) (List.mem_of_getElem? (i := 1) rfl) rfl dX5_reasonOf_1 (rfl : 1 + 3 = 4) ?_
  refine z_iload_n h 1 dX5_reasonOf_4 rfl (rfl : 4 + 1 = 5) ?_
  obtain ⟨q1, e2, hf⟩ := zbind hf
  refine z_goF (z_runSN (host := "LeftOut") h [.int (I 39 15), .int v1] [] zyX11_bit (c_X11_bit B I J hJ (I 39 15) v1 _ _ e2) gX5_reasonOf_X11_bit_n103 (List.mem_of_getElem? (i := 14) rfl) (List.mem_of_getElem? (i := 6) rfl) (List.mem_of_getElem? (i := 7) rfl) zrX5_reasonOf_X11_bit rfl (Nat.le_of_ble_eq_true rfl) ⟨Nat.zero_le _, Nat.zero_le _⟩ rfl dX5_reasonOf_5) rfl ?_
  refine z_iconst h 1 dX5_reasonOf_8 (by decide) (rfl : 8 + 1 = 9) ?_
  refine z_icmp_ne (pc' := 12) h 14 dX5_reasonOf_9 (by decide) rfl (fun c3 => ?_) (fun c3 => ?_)
  · have hf := zitf c3 hf
    refine z_aload_n h 0 dX5_reasonOf_14 rfl (rfl : 14 + 1 = 15) ?_
    refine z_get (ci := 5) (C := RX5) (T := TX5) (N := 17) h 16 rfl rfl (fun _ hq => List.mem_cons_of_mem _ (List.mem_append_left _ (List.mem_append_left _ (List.mem_append_right _ hq)))) (by decide) (List.mem_of_getElem? (i := 2) rfl) rfl dX5_reasonOf_15 (rfl : 15 + 3 = 18) ?_
    refine z_aload_n h 0 dX5_reasonOf_18 rfl (rfl : 18 + 1 = 19) ?_
    refine z_getr (ci := 5) (C := RX5) (T := TX5) (N := 17) h 11 44 ((hJ.1 39 11 (by decide)).trans rfl) rfl rfl (fun _ hq => List.mem_cons_of_mem _ (List.mem_append_left _ (List.mem_append_left _ (List.mem_append_right _ hq)))) (by decide) (List.mem_of_getElem? (i := 3) rfl) rfl dX5_reasonOf_19 (rfl : 19 + 3 = 22) ?_
    obtain ⟨q4, e5, hf⟩ := zbind hf
    refine z_goFv (z_runSN (host := "LeftOut") h [.int (q1.2 39 16), .ref (za B 44)] [] zyX11_spread (c_X11_spread B q1.2 J hJ (q1.2 39 16) _ e5) gX5_reasonOf_X11_spread_n175 (List.mem_of_getElem? (i := 16) rfl) (List.mem_of_getElem? (i := 9) rfl) (List.mem_of_getElem? (i := 7) rfl) zrX5_reasonOf_X11_spread rfl (Nat.le_of_ble_eq_true rfl) ⟨Nat.zero_le _, Nat.zero_le _⟩ rfl dX5_reasonOf_22) rfl ?_
    refine z_aload_n h 0 dX5_reasonOf_25 rfl (rfl : 25 + 1 = 26) ?_
    refine z_getr (ci := 5) (C := RX5) (T := TX5) (N := 17) h 0 1 ((hJ.1 39 0 (by decide)).trans rfl) rfl rfl (fun _ hq => List.mem_cons_of_mem _ (List.mem_append_left _ (List.mem_append_left _ (List.mem_append_right _ hq)))) (by decide) (List.mem_of_getElem? (i := 4) rfl) rfl dX5_reasonOf_26 (rfl : 26 + 3 = 29) ?_
    refine z_iload_n h 1 dX5_reasonOf_29 rfl (rfl : 29 + 1 = 30) ?_
    refine z_aload_n h 0 dX5_reasonOf_30 rfl (rfl : 30 + 1 = 31) ?_
    refine z_getr (ci := 5) (C := RX5) (T := TX5) (N := 17) h 11 44 ((hJ.1 39 11 (by decide)).trans rfl) rfl rfl (fun _ hq => List.mem_cons_of_mem _ (List.mem_append_left _ (List.mem_append_left _ (List.mem_append_right _ hq)))) (by decide) (List.mem_of_getElem? (i := 3) rfl) rfl dX5_reasonOf_31 (rfl : 31 + 3 = 34) ?_
    obtain ⟨q6, e7, hf⟩ := zbind hf
    refine z_goF (z_runV (C := RX3) (T := TX3) (N := 4) (ci := 3) h [.int v1, .ref (za B 44)] [] zyX3_isAsked (c_X3_isAsked B q4 J hJ v1 _ _ e7) gX5_reasonOf_X3_isAsked rfl rfl rfl zrX5_reasonOf_X3_isAsked rfl (Nat.le_of_ble_eq_true rfl) ⟨Nat.zero_le _, Nat.zero_le _⟩ rfl dX5_reasonOf_34) rfl ?_
    refine z_if_eq (pc' := 40) h 56 dX5_reasonOf_37 (by decide) rfl (fun c8 => ?_) (fun c8 => ?_)
    · have hf := zitt c8 hf
      refine z_bipush h (-9) dX5_reasonOf_56 (by decide) (rfl : 56 + 2 = 58) ?_
      refine z_istore_n h [(2, .int (-9)), (0, .ref (za B 39)), (1, .int v1)] dX5_reasonOf_58 (by decide) rfl (rfl : 58 + 1 = 59) ?_
      refine z_aload_n h 1 dX5_reasonOf_59 rfl (rfl : 59 + 1 = 60) ?_
      refine z_getr (ci := 5) (C := RX5) (T := TX5) (N := 17) h 10 43 ((hJ.1 39 10 (by decide)).trans rfl) rfl rfl (fun _ hq => List.mem_cons_of_mem _ (List.mem_append_left _ (List.mem_append_left _ (List.mem_append_right _ hq)))) (by decide) (List.mem_of_getElem? (i := 5) rfl) rfl dX5_reasonOf_60 (rfl : 60 + 3 = 63) ?_
      refine z_iload_n h 2 dX5_reasonOf_63 rfl (rfl : 63 + 1 = 64) ?_
      obtain ⟨b9, hf⟩ := zchk hf
      refine z_aldq h (zR 43 (Int32.toNatClampNeg v1)) (ze_5 hJ rfl (zin_lt b9)).1 rfl (by decide) rfl b9 dX5_reasonOf_64 (rfl : 64 + 1 = 65) ?_
      refine z_iload_n h 0 dX5_reasonOf_65 rfl (rfl : 65 + 1 = 66) ?_
      obtain ⟨q10, e11, hf⟩ := zbind hf
      refine z_goF (z_runV (C := RX2) (T := TX2) (N := 5) (ci := 2) h [.int (-9)] [] zyX2_reasonOf (c_X2_reasonOf B q6.2 J hJ (zR 43 (Int32.toNatClampNeg v1)) ((ze_5 hJ rfl (zin_lt b9)).2) (-9) _ _ e11) gX5_reasonOf_X2_reasonOf rfl (ze_5 hJ rfl (zin_lt b9)).2 rfl zrX5_reasonOf_X2_reasonOf rfl (Nat.le_of_ble_eq_true rfl) ⟨Nat.zero_le _, Nat.zero_le _⟩ rfl dX5_reasonOf_66) rfl ?_
      refine z_iret h hr dX5_reasonOf_69 ?_
      exact ⟨congrArg Prod.fst (zsome hf), congrArg Prod.snd (zsome hf), rfl⟩
    · have hf := zitf c8 hf
      refine z_aload_n h 0 dX5_reasonOf_40 rfl (rfl : 40 + 1 = 41) ?_
      refine z_getr (ci := 5) (C := RX5) (T := TX5) (N := 17) h 10 43 ((hJ.1 39 10 (by decide)).trans rfl) rfl rfl (fun _ hq => List.mem_cons_of_mem _ (List.mem_append_left _ (List.mem_append_left _ (List.mem_append_right _ hq)))) (by decide) (List.mem_of_getElem? (i := 5) rfl) rfl dX5_reasonOf_41 (rfl : 41 + 3 = 44) ?_
      refine z_iload_n h 1 dX5_reasonOf_44 rfl (rfl : 44 + 1 = 45) ?_
      obtain ⟨b12, hf⟩ := zchk hf
      refine z_aldq h (zR 43 (Int32.toNatClampNeg v1)) (ze_5 hJ rfl (zin_lt b12)).1 rfl (by decide) rfl b12 dX5_reasonOf_45 (rfl : 45 + 1 = 46) ?_
      refine z_aload_n h 0 dX5_reasonOf_46 rfl (rfl : 46 + 1 = 47) ?_
      refine z_getr (ci := 5) (C := RX5) (T := TX5) (N := 17) h 11 44 ((hJ.1 39 11 (by decide)).trans rfl) rfl rfl (fun _ hq => List.mem_cons_of_mem _ (List.mem_append_left _ (List.mem_append_left _ (List.mem_append_right _ hq)))) (by decide) (List.mem_of_getElem? (i := 3) rfl) rfl dX5_reasonOf_47 (rfl : 47 + 3 = 50) ?_
      obtain ⟨q13, e14, hf⟩ := zbind hf
      refine z_goF (z_runV (C := RX2) (T := TX2) (N := 5) (ci := 2) h [.ref (za B 44)] [] zyX2_first (c_X2_first B q6.2 J hJ (zR 43 (Int32.toNatClampNeg v1)) ((ze_5 hJ rfl (zin_lt b12)).2) _ _ e14) gX5_reasonOf_X2_first rfl (ze_5 hJ rfl (zin_lt b12)).2 rfl zrX5_reasonOf_X2_first rfl (Nat.le_of_ble_eq_true rfl) ⟨Nat.zero_le _, Nat.zero_le _⟩ rfl dX5_reasonOf_50) rfl ?_
      refine z_goto (pc' := 58) h dX5_reasonOf_53 (by decide) ?_
      refine z_istore_n h [(2, .int q13.1), (0, .ref (za B 39)), (1, .int v1)] dX5_reasonOf_58 (by decide) rfl (rfl : 58 + 1 = 59) ?_
      refine z_aload_n h 1 dX5_reasonOf_59 rfl (rfl : 59 + 1 = 60) ?_
      refine z_getr (ci := 5) (C := RX5) (T := TX5) (N := 17) h 10 43 ((hJ.1 39 10 (by decide)).trans rfl) rfl rfl (fun _ hq => List.mem_cons_of_mem _ (List.mem_append_left _ (List.mem_append_left _ (List.mem_append_right _ hq)))) (by decide) (List.mem_of_getElem? (i := 5) rfl) rfl dX5_reasonOf_60 (rfl : 60 + 3 = 63) ?_
      refine z_iload_n h 2 dX5_reasonOf_63 rfl (rfl : 63 + 1 = 64) ?_
      obtain ⟨b15, hf⟩ := zchk hf
      refine z_aldq h (zR 43 (Int32.toNatClampNeg v1)) (ze_5 hJ rfl (zin_lt b15)).1 rfl (by decide) rfl b15 dX5_reasonOf_64 (rfl : 64 + 1 = 65) ?_
      refine z_iload_n h 0 dX5_reasonOf_65 rfl (rfl : 65 + 1 = 66) ?_
      obtain ⟨q16, e17, hf⟩ := zbind hf
      refine z_goF (z_runV (C := RX2) (T := TX2) (N := 5) (ci := 2) h [.int q13.1] [] zyX2_reasonOf (c_X2_reasonOf B q13.2 J hJ (zR 43 (Int32.toNatClampNeg v1)) ((ze_5 hJ rfl (zin_lt b15)).2) q13.1 _ _ e17) gX5_reasonOf_X2_reasonOf rfl (ze_5 hJ rfl (zin_lt b15)).2 rfl zrX5_reasonOf_X2_reasonOf rfl (Nat.le_of_ble_eq_true rfl) ⟨Nat.zero_le _, Nat.zero_le _⟩ rfl dX5_reasonOf_66) rfl ?_
      refine z_iret h hr dX5_reasonOf_69 ?_
      exact ⟨congrArg Prod.fst (zsome hf), congrArg Prod.snd (zsome hf), rfl⟩
  · have hf := zitt c3 hf
    refine z_iconst h 4 dX5_reasonOf_12 (by decide) (rfl : 12 + 1 = 13) ?_
    refine z_iret h hr dX5_reasonOf_13 ?_
    exact ⟨congrArg Prod.fst (zsome hf), congrArg Prod.snd (zsome hf), rfl⟩
noncomputable def f_X5_stillOpen_15 (J : zJ)  : Nat → Int32 → Int32 → zM → Option ((Int32 × zM) ⊕ (Int32 × Int32 × zM))
  | 0, _, _, _ => none
  | n + 1, x1_15, x2_15, I15 => (if 6 ≤ x2_15 then some (.inr (x1_15, x2_15, I15)) else (if zin x2_15 6 = true then (if I15 44 (Int32.toNatClampNeg x2_15) = 0 then ((f_X3_isAsked J x2_15 I15).bind fun q6 => (if q6.1 = 0 then f_X5_stillOpen_15 J  n x1_15 (x2_15 + 1) q6.2 else f_X5_stillOpen_15 J  n (x1_15 ||| ((1 : Int32) <<< (x2_15 &&& 31))) (x2_15 + 1) q6.2)) else f_X5_stillOpen_15 J  n x1_15 (x2_15 + 1) I15) else none))
noncomputable def f_X5_stillOpen (J : zJ)  (I : zM) : Option (Int32 × zM) := ((f_X11_spread J (I 39 14) I).bind fun q1 => ((f_X5_stillOpen_15 J  zF 0 0 q1).bind fun q => Sum.elim (fun a => some a) (fun a5 => some ((a5.1, a5.2.2))) q))
noncomputable abbrev rmX5_stillOpen : Room := { frames := 2, cells := 0, slots := 0, locals := 43 }
theorem zyX5_stillOpen : zY yX5_stillOpen wsX5_stillOpen cX5_stillOpen 3 (some .int) 0 := ⟨⟨_, rfl⟩, by decide +kernel⟩
theorem zrX5_stillOpen_X11_spread : zRm rmX11_spread rmX5_stillOpen 4 := ⟨rfl, rfl, by decide, by decide⟩
theorem zrX5_stillOpen_X3_isAsked : zRm rmX3_isAsked rmX5_stillOpen 4 := ⟨rfl, rfl, by decide, by decide⟩
set_option maxHeartbeats 1000000 in
set_option maxRecDepth 100000 in
theorem c_X5_stillOpen (B : zB) (I : zM) (J : zJ) (hJ : zJok J)  (r : Int32) (I' : zM) (hf : f_X5_stillOpen J  I = some (r, I')) : zCi B zKW I J yX5_stillOpen wsX5_stillOpen rmX5_stillOpen [.ref (za B 39)] (fun r2 I2 J2 => r2 = r ∧ I2 = I' ∧ J2 = J) := by
  refine z_start (own := RX5) (cc := cX5_stillOpen) (nL := 3) (ret := (some .int)) rfl (by decide) rfl (Nat.le_of_ble_eq_true rfl) (L := [(0, .ref (za B 39))]) rfl (fun G h hr => ?_)
  rw [f_X5_stillOpen] at hf
  refine z_aload_n h 0 dX5_stillOpen_0 rfl (rfl : 0 + 1 = 1) ?_
  refine z_get (ci := 5) (C := RX5) (T := TX5) (N := 17) h 14 rfl rfl (fun _ hq => List.mem_cons_of_mem _ (List.mem_append_left _ (List.mem_append_right _ hq))) (by decide) (List.mem_of_getElem? (i := 1) rfl) rfl dX5_stillOpen_1 (rfl : 1 + 3 = 4) ?_
  refine z_aload_n h 0 dX5_stillOpen_4 rfl (rfl : 4 + 1 = 5) ?_
  refine z_getr (ci := 5) (C := RX5) (T := TX5) (N := 17) h 11 44 ((hJ.1 39 11 (by decide)).trans rfl) rfl rfl (fun _ hq => List.mem_cons_of_mem _ (List.mem_append_left _ (List.mem_append_right _ hq))) (by decide) (List.mem_of_getElem? (i := 2) rfl) rfl dX5_stillOpen_5 (rfl : 5 + 3 = 8) ?_
  obtain ⟨q1, e2, hf⟩ := zbind hf
  refine z_goFv (z_runSN (host := "LeftOut") h [.int (I 39 14), .ref (za B 44)] [] zyX11_spread (c_X11_spread B I J hJ (I 39 14) _ e2) gX5_stillOpen_X11_spread_n175 (List.mem_of_getElem? (i := 16) rfl) (List.mem_of_getElem? (i := 4) rfl) (List.mem_of_getElem? (i := 5) rfl) zrX5_stillOpen_X11_spread rfl (Nat.le_of_ble_eq_true rfl) ⟨Nat.zero_le _, Nat.zero_le _⟩ rfl dX5_stillOpen_8) rfl ?_
  refine z_iconst h 0 dX5_stillOpen_11 (by decide) (rfl : 11 + 1 = 12) ?_
  refine z_istore_n h [(1, .int 0), (0, .ref (za B 39))] dX5_stillOpen_12 (by decide) rfl (rfl : 12 + 1 = 13) ?_
  refine z_iconst h 0 dX5_stillOpen_13 (by decide) (rfl : 13 + 1 = 14) ?_
  refine z_istore_n h [(2, .int 0), (1, .int 0), (0, .ref (za B 39))] dX5_stillOpen_14 (by decide) rfl (rfl : 14 + 1 = 15) ?_
  have loop_15_4 : ∀ (n : Nat) (x1_15 : Int32) (x2_15 : Int32) (I15 : zM) (q : (Int32 × zM) ⊕ (Int32 × Int32 × zM)), f_X5_stillOpen_15 J  n x1_15 x2_15 I15 = some q → (∀ a, q = .inl a → a = (r, I')) → (∀ a : Int32 × Int32 × zM, q = .inr a → Z B G zKW (a.2.2) (J) (0, 0) 57 [(0, .ref (za B 39)), (1, .int a.1), (2, .int a.2.1)] []) → Z B G zKW I15 J (0, 0) 15 [(0, .ref (za B 39)), (1, .int x1_15), (2, .int x2_15)] [] := by
    intro n; induction n with
    | zero => intro x1_15 x2_15 I15 q hf; exact absurd hf (by rw [f_X5_stillOpen_15]; exact fun z => by cases z)
    | succ n ih =>
      intro x1_15 x2_15 I15 q hf hP hE; rw [f_X5_stillOpen_15] at hf
      refine z_iload_n h 2 dX5_stillOpen_15 rfl (rfl : 15 + 1 = 16) ?_
      refine z_bipush h 6 dX5_stillOpen_16 (by decide) (rfl : 16 + 2 = 18) ?_
      refine z_icmp_ge (pc' := 21) h 57 dX5_stillOpen_18 (by decide) rfl (fun c5 => ?_) (fun c5 => ?_)
      · have hf := zitt c5 hf
        exact hE (x1_15, x2_15, I15) (zsome hf).symm
      · have hf := zitf c5 hf
        refine z_aload_n h 0 dX5_stillOpen_21 rfl (rfl : 21 + 1 = 22) ?_
        refine z_getr (ci := 5) (C := RX5) (T := TX5) (N := 17) h 11 44 ((hJ.1 39 11 (by decide)).trans rfl) rfl rfl (fun _ hq => List.mem_cons_of_mem _ (List.mem_append_left _ (List.mem_append_right _ hq))) (by decide) (List.mem_of_getElem? (i := 2) rfl) rfl dX5_stillOpen_22 (rfl : 22 + 3 = 25) ?_
        refine z_iload_n h 2 dX5_stillOpen_25 rfl (rfl : 25 + 1 = 26) ?_
        obtain ⟨b6, hf⟩ := zchk hf
        refine z_iald h rfl b6 dX5_stillOpen_26 (rfl : 26 + 1 = 27) ?_
        refine z_if_ne (pc' := 30) h 51 dX5_stillOpen_27 (by decide) rfl (fun c7 => ?_) (fun c7 => ?_)
        · have hf := zitf c7 hf
          refine z_iinc h 2 (x2_15 + 1) [(2, .int (x2_15 + 1)), (0, .ref (za B 39)), (1, .int x1_15)] dX5_stillOpen_51 rfl rfl (by decide) rfl (rfl : 51 + 3 = 54) ?_
          refine z_goto (pc' := 15) h dX5_stillOpen_54 (by decide) ?_
          refine z_sub (L' := [(0, .ref (za B 39)), (1, .int x1_15), (2, .int (x2_15 + 1))]) [1, 2, 0] rfl ?_
          exact ih x1_15 (x2_15 + 1) I15 _ hf hP hE
        · have hf := zitt c7 hf
          refine z_aload_n h 0 dX5_stillOpen_30 rfl (rfl : 30 + 1 = 31) ?_
          refine z_getr (ci := 5) (C := RX5) (T := TX5) (N := 17) h 0 1 ((hJ.1 39 0 (by decide)).trans rfl) rfl rfl (fun _ hq => List.mem_cons_of_mem _ (List.mem_append_left _ (List.mem_append_right _ hq))) (by decide) (List.mem_of_getElem? (i := 3) rfl) rfl dX5_stillOpen_31 (rfl : 31 + 3 = 34) ?_
          refine z_iload_n h 2 dX5_stillOpen_34 rfl (rfl : 34 + 1 = 35) ?_
          refine z_aload_n h 0 dX5_stillOpen_35 rfl (rfl : 35 + 1 = 36) ?_
          refine z_getr (ci := 5) (C := RX5) (T := TX5) (N := 17) h 11 44 ((hJ.1 39 11 (by decide)).trans rfl) rfl rfl (fun _ hq => List.mem_cons_of_mem _ (List.mem_append_left _ (List.mem_append_right _ hq))) (by decide) (List.mem_of_getElem? (i := 2) rfl) rfl dX5_stillOpen_36 (rfl : 36 + 3 = 39) ?_
          obtain ⟨q8, e9, hf⟩ := zbind hf
          refine z_goF (z_runV (C := RX3) (T := TX3) (N := 4) (ci := 3) h [.int x2_15, .ref (za B 44)] [] zyX3_isAsked (c_X3_isAsked B I15 J hJ x2_15 _ _ e9) gX5_stillOpen_X3_isAsked rfl rfl rfl zrX5_stillOpen_X3_isAsked rfl (Nat.le_of_ble_eq_true rfl) ⟨Nat.zero_le _, Nat.zero_le _⟩ rfl dX5_stillOpen_39) rfl ?_
          refine z_if_eq (pc' := 45) h 51 dX5_stillOpen_42 (by decide) rfl (fun c10 => ?_) (fun c10 => ?_)
          · have hf := zitt c10 hf
            refine z_iinc h 2 (x2_15 + 1) [(2, .int (x2_15 + 1)), (0, .ref (za B 39)), (1, .int x1_15)] dX5_stillOpen_51 rfl rfl (by decide) rfl (rfl : 51 + 3 = 54) ?_
            refine z_goto (pc' := 15) h dX5_stillOpen_54 (by decide) ?_
            refine z_sub (L' := [(0, .ref (za B 39)), (1, .int x1_15), (2, .int (x2_15 + 1))]) [1, 2, 0] rfl ?_
            exact ih x1_15 (x2_15 + 1) q8.2 _ hf hP hE
          · have hf := zitf c10 hf
            refine z_iload_n h 1 dX5_stillOpen_45 rfl (rfl : 45 + 1 = 46) ?_
            refine z_iconst h 1 dX5_stillOpen_46 (by decide) (rfl : 46 + 1 = 47) ?_
            refine z_iload_n h 2 dX5_stillOpen_47 rfl (rfl : 47 + 1 = 48) ?_
            refine z_ishl h dX5_stillOpen_48 (rfl : 48 + 1 = 49) ?_
            refine z_ior h dX5_stillOpen_49 (rfl : 49 + 1 = 50) ?_
            refine z_istore_n h [(1, .int (x1_15 ||| ((1 : Int32) <<< (x2_15 &&& 31)))), (0, .ref (za B 39)), (2, .int x2_15)] dX5_stillOpen_50 (by decide) rfl (rfl : 50 + 1 = 51) ?_
            refine z_iinc h 2 (x2_15 + 1) [(2, .int (x2_15 + 1)), (1, .int (x1_15 ||| ((1 : Int32) <<< (x2_15 &&& 31)))), (0, .ref (za B 39))] dX5_stillOpen_51 rfl rfl (by decide) rfl (rfl : 51 + 3 = 54) ?_
            refine z_goto (pc' := 15) h dX5_stillOpen_54 (by decide) ?_
            refine z_sub (L' := [(0, .ref (za B 39)), (1, .int (x1_15 ||| ((1 : Int32) <<< (x2_15 &&& 31)))), (2, .int (x2_15 + 1))]) [2, 1, 0] rfl ?_
            exact ih (x1_15 ||| ((1 : Int32) <<< (x2_15 &&& 31))) (x2_15 + 1) q8.2 _ hf hP hE
  refine z_sub (L' := [(0, .ref (za B 39)), (1, .int 0), (2, .int 0)]) [2, 1, 0] rfl ?_
  obtain ⟨q3, e4, hf⟩ := zbind hf
  refine loop_15_4 _ 0 0 q1 q3 e4 (fun a ha => ?_) (fun a11 ha  => ?_)
  · have hf := zell ha hf
    exact zsome hf
  have hf := zelr ha hf
  clear ha loop_15_4
  refine z_iload_n h 1 dX5_stillOpen_57 rfl (rfl : 57 + 1 = 58) ?_
  refine z_iret h hr dX5_stillOpen_58 ?_
  exact ⟨congrArg Prod.fst (zsome hf), congrArg Prod.snd (zsome hf), rfl⟩
noncomputable def f_X6_clear (J : zJ) (p0 : Nat) (I : zM) : Option (zM) := some (zu (zu (zu I p0 3 (-9)) p0 4 (-9)) p0 5 (-9))
noncomputable abbrev rmX6_clear : Room := { frames := 0, cells := 0, slots := 0, locals := 0 }
theorem zyX6_clear : zY yX6_clear wsX6_clear cX6_clear 1 none 0 := ⟨⟨_, rfl⟩, by decide +kernel⟩
set_option maxHeartbeats 1000000 in
set_option maxRecDepth 100000 in
theorem c_X6_clear (B : zB) (I : zM) (J : zJ) (hJ : zJok J) (p0 : Nat) (k0 : zKW[p0]? = some (.inr 6)) (I' : zM) (hf : f_X6_clear J p0 I = some I') : zCv B zKW I J yX6_clear wsX6_clear rmX6_clear [.ref (za B p0)] (fun I2 J2 => I2 = I' ∧ J2 = J) := by
  refine z_start (own := RX6) (cc := cX6_clear) (nL := 1) (ret := none) rfl (by decide) rfl (Nat.le_of_ble_eq_true rfl) (L := [(0, .ref (za B p0))]) rfl (fun G h hr => ?_)
  rw [f_X6_clear] at hf
  refine z_aload_n h 0 dX6_clear_0 rfl (rfl : 0 + 1 = 1) ?_
  refine z_bipush h (-9) dX6_clear_1 (by decide) (rfl : 1 + 2 = 3) ?_
  refine z_put (ci := 6) (C := RX6) (T := TX6) (N := 6) h 3 tyX6 tyX6_ok nmX6 k0 rfl (fun _ hq => List.mem_cons_of_mem _ (List.mem_append_right _ hq)) (by decide) (List.mem_of_getElem? (i := 1) rfl) rfl rfl rfl dX6_clear_3 (rfl : 3 + 3 = 6) ?_
  refine z_aload_n h 0 dX6_clear_6 rfl (rfl : 6 + 1 = 7) ?_
  refine z_bipush h (-9) dX6_clear_7 (by decide) (rfl : 7 + 2 = 9) ?_
  refine z_put (ci := 6) (C := RX6) (T := TX6) (N := 6) h 4 tyX6 tyX6_ok nmX6 k0 rfl (fun _ hq => List.mem_cons_of_mem _ (List.mem_append_right _ hq)) (by decide) (List.mem_of_getElem? (i := 2) rfl) rfl rfl rfl dX6_clear_9 (rfl : 9 + 3 = 12) ?_
  refine z_aload_n h 0 dX6_clear_12 rfl (rfl : 12 + 1 = 13) ?_
  refine z_bipush h (-9) dX6_clear_13 (by decide) (rfl : 13 + 2 = 15) ?_
  refine z_put (ci := 6) (C := RX6) (T := TX6) (N := 6) h 5 tyX6 tyX6_ok nmX6 k0 rfl (fun _ hq => List.mem_cons_of_mem _ (List.mem_append_right _ hq)) (by decide) (List.mem_of_getElem? (i := 3) rfl) rfl rfl rfl dX6_clear_15 (rfl : 15 + 3 = 18) ?_
  refine z_vret h hr dX6_clear_18 ?_
  exact ⟨(zsome hf), rfl⟩
