noncomputable def f_X8_copy (J : zJ) (p0 : Nat) (p1 : Nat) (I : zM) : Option (zM) := some (zu (zcp I (zR p1 0) (zR p0 0) 6) p0 1 ((zcp I (zR p1 0) (zR p0 0) 6) p1 1))
noncomputable abbrev rmX8_copy : Room := { frames := 1, cells := 0, slots := 0, locals := 26 }
theorem zyX8_copy : zY yX8_copy wsX8_copy cX8_copy 2 none 1 := ⟨⟨_, rfl⟩, by decide +kernel⟩
set_option maxHeartbeats 1000000 in
set_option maxRecDepth 100000 in
theorem c_X8_copy (B : zB) (I : zM) (J : zJ) (hJ : zJok J) (p0 : Nat) (k0 : zKW[p0]? = some (.inr 8)) (p1 : Nat) (k1 : zKW[p1]? = some (.inr 8)) (I' : zM) (hf : f_X8_copy J p0 p1 I = some I') : zCv B zKW I J yX8_copy wsX8_copy rmX8_copy [.ref (za B p0), .ref (za B p1)] (fun I2 J2 => I2 = I' ∧ J2 = J) := by
  refine z_start (own := RX8) (cc := cX8_copy) (nL := 2) (ret := none) rfl (by decide) rfl (Nat.le_of_ble_eq_true rfl) (L := [(0, .ref (za B p0)), (1, .ref (za B p1))]) rfl (fun G h hr => ?_)
  rw [f_X8_copy] at hf
  refine z_aload_n h 1 dX8_copy_0 rfl (rfl : 0 + 1 = 1) ?_
  refine z_getr (ci := 8) (C := RX8) (T := TX8) (N := 3) h 0 (zR p1 0) (zf_8_0 hJ k1).1 k1 rfl (fun _ hq => List.mem_cons_of_mem _ (List.mem_append_right _ hq)) (by decide) (List.mem_of_getElem? (i := 1) rfl) rfl dX8_copy_1 (rfl : 1 + 3 = 4) ?_
  refine z_iconst h 0 dX8_copy_4 (by decide) (rfl : 4 + 1 = 5) ?_
  refine z_aload_n h 0 dX8_copy_5 rfl (rfl : 5 + 1 = 6) ?_
  refine z_getr (ci := 8) (C := RX8) (T := TX8) (N := 3) h 0 (zR p0 0) (zf_8_0 hJ k0).1 k0 rfl (fun _ hq => List.mem_cons_of_mem _ (List.mem_append_right _ hq)) (by decide) (List.mem_of_getElem? (i := 1) rfl) rfl dX8_copy_6 (rfl : 6 + 3 = 9) ?_
  refine z_iconst h 0 dX8_copy_9 (by decide) (rfl : 9 + 1 = 10) ?_
  refine z_bipush h 6 dX8_copy_10 (by decide) (rfl : 10 + 2 = 12) ?_
  refine z_copy (n := 6) h (zf_8_0 hJ k1).2 (zf_8_0 hJ k0).2 (by decide) (by decide) (by decide) (by decide) (by decide) (fun _ _ => rfl) (List.mem_of_getElem? (i := 2) rfl) (List.mem_of_getElem? (i := 3) rfl) (List.mem_of_getElem? (i := 4) rfl) (List.mem_of_getElem? (i := 5) rfl) (by decide) dX8_copy_12 (rfl : 12 + 3 = 15) ?_
  refine z_aload_n h 0 dX8_copy_15 rfl (rfl : 15 + 1 = 16) ?_
  refine z_aload_n h 1 dX8_copy_16 rfl (rfl : 16 + 1 = 17) ?_
  refine z_get (ci := 8) (C := RX8) (T := TX8) (N := 3) h 1 k1 rfl (fun _ hq => List.mem_cons_of_mem _ (List.mem_append_right _ hq)) (by decide) (List.mem_of_getElem? (i := 6) rfl) rfl dX8_copy_17 (rfl : 17 + 3 = 20) ?_
  refine z_put (ci := 8) (C := RX8) (T := TX8) (N := 3) h 1 tyX8 tyX8_ok nmX8 k0 rfl (fun _ hq => List.mem_cons_of_mem _ (List.mem_append_right _ hq)) (by decide) (List.mem_of_getElem? (i := 6) rfl) rfl rfl rfl dX8_copy_20 (rfl : 20 + 3 = 23) ?_
  refine z_vret h hr dX8_copy_23 ?_
  exact ⟨(zsome hf), rfl⟩
noncomputable def f_X0_strike (J : zJ) (p0 : Nat) (v1 : Int32) (v2 : Int32) (v3 : Int32) (p4 : Nat) (I : zM) : Option (zM) := ((f_X8_copy J (zR p0 3) p4 (zu (zu (zu I p0 0 v1) p0 1 v2) p0 2 v3)).bind fun q1 => some (q1))
noncomputable abbrev rmX0_strike : Room := { frames := 2, cells := 0, slots := 0, locals := 47 }
theorem zyX0_strike : zY yX0_strike wsX0_strike cX0_strike 5 none 4 := ⟨⟨_, rfl⟩, by decide +kernel⟩
theorem zrX0_strike_X8_copy : zRm rmX8_copy rmX0_strike 2 := ⟨rfl, rfl, by decide, by decide⟩
set_option maxHeartbeats 1000000 in
set_option maxRecDepth 100000 in
theorem c_X0_strike (B : zB) (I : zM) (J : zJ) (hJ : zJok J) (p0 : Nat) (k0 : zKW[p0]? = some (.inr 0)) (v1 : Int32) (v2 : Int32) (v3 : Int32) (p4 : Nat) (k4 : zKW[p4]? = some (.inr 8)) (I' : zM) (hf : f_X0_strike J p0 v1 v2 v3 p4 I = some I') : zCv B zKW I J yX0_strike wsX0_strike rmX0_strike [.ref (za B p0), .int v1, .int v2, .int v3, .ref (za B p4)] (fun I2 J2 => I2 = I' ∧ J2 = J) := by
  refine z_start (own := RX0) (cc := cX0_strike) (nL := 5) (ret := none) rfl (by decide) rfl (Nat.le_of_ble_eq_true rfl) (L := [(0, .ref (za B p0)), (1, .int v1), (2, .int v2), (3, .int v3), (4, .ref (za B p4))]) rfl (fun G h hr => ?_)
  rw [f_X0_strike] at hf
  refine z_aload_n h 0 dX0_strike_0 rfl (rfl : 0 + 1 = 1) ?_
  refine z_iload_n h 1 dX0_strike_1 rfl (rfl : 1 + 1 = 2) ?_
  refine z_put (ci := 0) (C := RX0) (T := TX0) (N := 5) h 0 tyX0 tyX0_ok nmX0 k0 rfl (fun _ hq => List.mem_cons_of_mem _ (List.mem_append_left _ (List.mem_append_right _ hq))) (by decide) (List.mem_of_getElem? (i := 1) rfl) rfl rfl rfl dX0_strike_2 (rfl : 2 + 3 = 5) ?_
  refine z_aload_n h 0 dX0_strike_5 rfl (rfl : 5 + 1 = 6) ?_
  refine z_iload_n h 2 dX0_strike_6 rfl (rfl : 6 + 1 = 7) ?_
  refine z_put (ci := 0) (C := RX0) (T := TX0) (N := 5) h 1 tyX0 tyX0_ok nmX0 k0 rfl (fun _ hq => List.mem_cons_of_mem _ (List.mem_append_left _ (List.mem_append_right _ hq))) (by decide) (List.mem_of_getElem? (i := 2) rfl) rfl rfl rfl dX0_strike_7 (rfl : 7 + 3 = 10) ?_
  refine z_aload_n h 0 dX0_strike_10 rfl (rfl : 10 + 1 = 11) ?_
  refine z_iload_n h 3 dX0_strike_11 rfl (rfl : 11 + 1 = 12) ?_
  refine z_put (ci := 0) (C := RX0) (T := TX0) (N := 5) h 2 tyX0 tyX0_ok nmX0 k0 rfl (fun _ hq => List.mem_cons_of_mem _ (List.mem_append_left _ (List.mem_append_right _ hq))) (by decide) (List.mem_of_getElem? (i := 3) rfl) rfl rfl rfl dX0_strike_12 (rfl : 12 + 3 = 15) ?_
  refine z_aload_n h 0 dX0_strike_15 rfl (rfl : 15 + 1 = 16) ?_
  refine z_getr (ci := 0) (C := RX0) (T := TX0) (N := 5) h 3 (zR p0 3) (zf_0_3 hJ k0).1 k0 rfl (fun _ hq => List.mem_cons_of_mem _ (List.mem_append_left _ (List.mem_append_right _ hq))) (by decide) (List.mem_of_getElem? (i := 4) rfl) rfl dX0_strike_16 (rfl : 16 + 3 = 19) ?_
  refine z_aload h 4 dX0_strike_19 rfl (rfl : 19 + 2 = 21) ?_
  obtain ⟨q1, e2, hf⟩ := zbind hf
  refine z_goFv (z_runV (C := RX8) (T := TX8) (N := 3) (ci := 8) h [.ref (za B p4)] [] zyX8_copy (c_X8_copy B (zu (zu (zu I p0 0 v1) p0 1 v2) p0 2 v3) J hJ (zR p0 3) ((zf_0_3 hJ k0).2) p4 k4 _ e2) gX0_strike_X8_copy rfl (zf_0_3 hJ k0).2 rfl zrX0_strike_X8_copy rfl (Nat.le_of_ble_eq_true rfl) ⟨Nat.zero_le _, Nat.zero_le _⟩ rfl dX0_strike_21) rfl ?_
  refine z_vret h hr dX0_strike_24 ?_
  exact ⟨(zsome hf), rfl⟩
noncomputable def f_X0_commonThought (J : zJ) (p0 : Nat) (v1 : Int32) (I : zM) : Option (Int32 × zM) := (if zin v1 6 = true then (if zin v1 6 = true then (if I (zR (zR p0 4) 0) (Int32.toNatClampNeg v1) = I (zR (zR p0 4) 1) (Int32.toNatClampNeg v1) then (if zin v1 6 = true then some ((I (zR (zR p0 4) 0) (Int32.toNatClampNeg v1), I)) else none) else some ((0, I))) else none) else none)
noncomputable abbrev rmX0_commonThought : Room := { frames := 0, cells := 0, slots := 0, locals := 0 }
theorem zyX0_commonThought : zY yX0_commonThought wsX0_commonThought cX0_commonThought 2 (some .int) 1 := ⟨⟨_, rfl⟩, by decide +kernel⟩
set_option maxHeartbeats 1000000 in
set_option maxRecDepth 100000 in
theorem c_X0_commonThought (B : zB) (I : zM) (J : zJ) (hJ : zJok J) (p0 : Nat) (k0 : zKW[p0]? = some (.inr 0)) (v1 : Int32) (r : Int32) (I' : zM) (hf : f_X0_commonThought J p0 v1 I = some (r, I')) : zCi B zKW I J yX0_commonThought wsX0_commonThought rmX0_commonThought [.ref (za B p0), .int v1] (fun r2 I2 J2 => r2 = r ∧ I2 = I' ∧ J2 = J) := by
  refine z_start (own := RX0) (cc := cX0_commonThought) (nL := 2) (ret := (some .int)) rfl (by decide) rfl (Nat.le_of_ble_eq_true rfl) (L := [(0, .ref (za B p0)), (1, .int v1)]) rfl (fun G h hr => ?_)
  rw [f_X0_commonThought] at hf
  refine z_aload_n h 0 dX0_commonThought_0 rfl (rfl : 0 + 1 = 1) ?_
  refine z_getr (ci := 0) (C := RX0) (T := TX0) (N := 5) h 4 (zR p0 4) (zf_0_4 hJ k0).1 k0 rfl (fun _ hq => List.mem_cons_of_mem _ (List.mem_append_right _ hq)) (by decide) (List.mem_of_getElem? (i := 1) rfl) rfl dX0_commonThought_1 (rfl : 1 + 3 = 4) ?_
  refine z_iconst h 0 dX0_commonThought_4 (by decide) (rfl : 4 + 1 = 5) ?_
  refine z_aldqA h (zR (zR p0 4) 0) (ze_8 hJ (zf_0_4 hJ k0).2 (by decide)).1 (zf_0_4 hJ k0).2 (by decide) rfl (by decide) dX0_commonThought_5 (rfl : 5 + 1 = 6) ?_
  refine z_iload_n h 1 dX0_commonThought_6 rfl (rfl : 6 + 1 = 7) ?_
  obtain ⟨b1, hf⟩ := zchk hf
  refine z_iald h (ze_8 hJ (zf_0_4 hJ k0).2 (by decide)).2 b1 dX0_commonThought_7 (rfl : 7 + 1 = 8) ?_
  refine z_aload_n h 0 dX0_commonThought_8 rfl (rfl : 8 + 1 = 9) ?_
  refine z_getr (ci := 0) (C := RX0) (T := TX0) (N := 5) h 4 (zR p0 4) (zf_0_4 hJ k0).1 k0 rfl (fun _ hq => List.mem_cons_of_mem _ (List.mem_append_right _ hq)) (by decide) (List.mem_of_getElem? (i := 1) rfl) rfl dX0_commonThought_9 (rfl : 9 + 3 = 12) ?_
  refine z_iconst h 1 dX0_commonThought_12 (by decide) (rfl : 12 + 1 = 13) ?_
  refine z_aldqA h (zR (zR p0 4) 1) (ze_8 hJ (zf_0_4 hJ k0).2 (by decide)).1 (zf_0_4 hJ k0).2 (by decide) rfl (by decide) dX0_commonThought_13 (rfl : 13 + 1 = 14) ?_
  refine z_iload_n h 1 dX0_commonThought_14 rfl (rfl : 14 + 1 = 15) ?_
  obtain ⟨b2, hf⟩ := zchk hf
  refine z_iald h (ze_8 hJ (zf_0_4 hJ k0).2 (by decide)).2 b2 dX0_commonThought_15 (rfl : 15 + 1 = 16) ?_
  refine z_icmp_ne (pc' := 19) h 30 dX0_commonThought_16 (by decide) rfl (fun c3 => ?_) (fun c3 => ?_)
  · have hf := zitf c3 hf
    refine z_iconst h 0 dX0_commonThought_30 (by decide) (rfl : 30 + 1 = 31) ?_
    refine z_iret h hr dX0_commonThought_31 ?_
    exact ⟨congrArg Prod.fst (zsome hf), congrArg Prod.snd (zsome hf), rfl⟩
  · have hf := zitt c3 hf
    refine z_aload_n h 0 dX0_commonThought_19 rfl (rfl : 19 + 1 = 20) ?_
    refine z_getr (ci := 0) (C := RX0) (T := TX0) (N := 5) h 4 (zR p0 4) (zf_0_4 hJ k0).1 k0 rfl (fun _ hq => List.mem_cons_of_mem _ (List.mem_append_right _ hq)) (by decide) (List.mem_of_getElem? (i := 1) rfl) rfl dX0_commonThought_20 (rfl : 20 + 3 = 23) ?_
    refine z_iconst h 0 dX0_commonThought_23 (by decide) (rfl : 23 + 1 = 24) ?_
    refine z_aldqA h (zR (zR p0 4) 0) (ze_8 hJ (zf_0_4 hJ k0).2 (by decide)).1 (zf_0_4 hJ k0).2 (by decide) rfl (by decide) dX0_commonThought_24 (rfl : 24 + 1 = 25) ?_
    refine z_iload_n h 1 dX0_commonThought_25 rfl (rfl : 25 + 1 = 26) ?_
    obtain ⟨b4, hf⟩ := zchk hf
    refine z_iald h (ze_8 hJ (zf_0_4 hJ k0).2 (by decide)).2 b4 dX0_commonThought_26 (rfl : 26 + 1 = 27) ?_
    refine z_goto (pc' := 31) h dX0_commonThought_27 (by decide) ?_
    refine z_iret h hr dX0_commonThought_31 ?_
    exact ⟨congrArg Prod.fst (zsome hf), congrArg Prod.snd (zsome hf), rfl⟩
noncomputable def f_X0_parted_4 (J : zJ) (r0 : Nat) : Nat → Int32 → Int32 → zM → Option ((Int32 × zM) ⊕ (Int32 × Int32 × zM))
  | 0, _, _, _ => none
  | n + 1, x1_4, x2_4, I4 => (if 6 ≤ x2_4 then some (.inr (x1_4, x2_4, I4)) else (if zin x2_4 6 = true then (if I4 (zR (zR r0 4) 0) (Int32.toNatClampNeg x2_4) = 0 then f_X0_parted_4 J r0 n x1_4 (x2_4 + 1) I4 else (if zin x2_4 6 = true then (if I4 (zR (zR r0 4) 1) (Int32.toNatClampNeg x2_4) = 0 then f_X0_parted_4 J r0 n x1_4 (x2_4 + 1) I4 else (if zin x2_4 6 = true then (if zin x2_4 6 = true then (if I4 (zR (zR r0 4) 0) (Int32.toNatClampNeg x2_4) = I4 (zR (zR r0 4) 1) (Int32.toNatClampNeg x2_4) then f_X0_parted_4 J r0 n x1_4 (x2_4 + 1) I4 else f_X0_parted_4 J r0 n (x1_4 ||| ((1 : Int32) <<< (x2_4 &&& 31))) (x2_4 + 1) I4) else none) else none)) else none)) else none))
noncomputable def f_X0_parted (J : zJ) (p0 : Nat) (I : zM) : Option (Int32 × zM) := ((f_X0_parted_4 J p0 zF 0 0 I).bind fun q => Sum.elim (fun a => some a) (fun a3 => some ((a3.1, a3.2.2))) q)
noncomputable abbrev rmX0_parted : Room := { frames := 0, cells := 0, slots := 0, locals := 0 }
theorem zyX0_parted : zY yX0_parted wsX0_parted cX0_parted 3 (some .int) 0 := ⟨⟨_, rfl⟩, by decide +kernel⟩
set_option maxHeartbeats 1000000 in
set_option maxRecDepth 100000 in
theorem c_X0_parted (B : zB) (I : zM) (J : zJ) (hJ : zJok J) (p0 : Nat) (k0 : zKW[p0]? = some (.inr 0)) (r : Int32) (I' : zM) (hf : f_X0_parted J p0 I = some (r, I')) : zCi B zKW I J yX0_parted wsX0_parted rmX0_parted [.ref (za B p0)] (fun r2 I2 J2 => r2 = r ∧ I2 = I' ∧ J2 = J) := by
  refine z_start (own := RX0) (cc := cX0_parted) (nL := 3) (ret := (some .int)) rfl (by decide) rfl (Nat.le_of_ble_eq_true rfl) (L := [(0, .ref (za B p0))]) rfl (fun G h hr => ?_)
  rw [f_X0_parted] at hf
  refine z_iconst h 0 dX0_parted_0 (by decide) (rfl : 0 + 1 = 1) ?_
  refine z_istore_n h [(1, .int 0), (0, .ref (za B p0))] dX0_parted_1 (by decide) rfl (rfl : 1 + 1 = 2) ?_
  refine z_iconst h 0 dX0_parted_2 (by decide) (rfl : 2 + 1 = 3) ?_
  refine z_istore_n h [(2, .int 0), (1, .int 0), (0, .ref (za B p0))] dX0_parted_3 (by decide) rfl (rfl : 3 + 1 = 4) ?_
  have loop_4_2 : ∀ (n : Nat) (x1_4 : Int32) (x2_4 : Int32) (I4 : zM) (q : (Int32 × zM) ⊕ (Int32 × Int32 × zM)), f_X0_parted_4 J p0 n x1_4 x2_4 I4 = some q → (∀ a, q = .inl a → a = (r, I')) → (∀ a : Int32 × Int32 × zM, q = .inr a → Z B G zKW (a.2.2) (J) (0, 0) 63 [(0, .ref (za B p0)), (1, .int a.1), (2, .int a.2.1)] []) → Z B G zKW I4 J (0, 0) 4 [(0, .ref (za B p0)), (1, .int x1_4), (2, .int x2_4)] [] := by
    intro n; induction n with
    | zero => intro x1_4 x2_4 I4 q hf; exact absurd hf (by rw [f_X0_parted_4]; exact fun z => by cases z)
    | succ n ih =>
      intro x1_4 x2_4 I4 q hf hP hE; rw [f_X0_parted_4] at hf
      refine z_iload_n h 2 dX0_parted_4 rfl (rfl : 4 + 1 = 5) ?_
      refine z_bipush h 6 dX0_parted_5 (by decide) (rfl : 5 + 2 = 7) ?_
      refine z_icmp_ge (pc' := 10) h 63 dX0_parted_7 (by decide) rfl (fun c3 => ?_) (fun c3 => ?_)
      · have hf := zitt c3 hf
        exact hE (x1_4, x2_4, I4) (zsome hf).symm
      · have hf := zitf c3 hf
        refine z_aload_n h 0 dX0_parted_10 rfl (rfl : 10 + 1 = 11) ?_
        refine z_getr (ci := 0) (C := RX0) (T := TX0) (N := 5) h 4 (zR p0 4) (zf_0_4 hJ k0).1 k0 rfl (fun _ hq => List.mem_cons_of_mem _ (List.mem_append_right _ hq)) (by decide) (List.mem_of_getElem? (i := 1) rfl) rfl dX0_parted_11 (rfl : 11 + 3 = 14) ?_
        refine z_iconst h 0 dX0_parted_14 (by decide) (rfl : 14 + 1 = 15) ?_
        refine z_aldqA h (zR (zR p0 4) 0) (ze_8 hJ (zf_0_4 hJ k0).2 (by decide)).1 (zf_0_4 hJ k0).2 (by decide) rfl (by decide) dX0_parted_15 (rfl : 15 + 1 = 16) ?_
        refine z_iload_n h 2 dX0_parted_16 rfl (rfl : 16 + 1 = 17) ?_
        obtain ⟨b4, hf⟩ := zchk hf
        refine z_iald h (ze_8 hJ (zf_0_4 hJ k0).2 (by decide)).2 b4 dX0_parted_17 (rfl : 17 + 1 = 18) ?_
        refine z_if_eq (pc' := 21) h 57 dX0_parted_18 (by decide) rfl (fun c5 => ?_) (fun c5 => ?_)
        · have hf := zitt c5 hf
          refine z_iinc h 2 (x2_4 + 1) [(2, .int (x2_4 + 1)), (0, .ref (za B p0)), (1, .int x1_4)] dX0_parted_57 rfl rfl (by decide) rfl (rfl : 57 + 3 = 60) ?_
          refine z_goto (pc' := 4) h dX0_parted_60 (by decide) ?_
          refine z_sub (L' := [(0, .ref (za B p0)), (1, .int x1_4), (2, .int (x2_4 + 1))]) [1, 2, 0] rfl ?_
          exact ih x1_4 (x2_4 + 1) I4 _ hf hP hE
        · have hf := zitf c5 hf
          refine z_aload_n h 0 dX0_parted_21 rfl (rfl : 21 + 1 = 22) ?_
          refine z_getr (ci := 0) (C := RX0) (T := TX0) (N := 5) h 4 (zR p0 4) (zf_0_4 hJ k0).1 k0 rfl (fun _ hq => List.mem_cons_of_mem _ (List.mem_append_right _ hq)) (by decide) (List.mem_of_getElem? (i := 1) rfl) rfl dX0_parted_22 (rfl : 22 + 3 = 25) ?_
          refine z_iconst h 1 dX0_parted_25 (by decide) (rfl : 25 + 1 = 26) ?_
          refine z_aldqA h (zR (zR p0 4) 1) (ze_8 hJ (zf_0_4 hJ k0).2 (by decide)).1 (zf_0_4 hJ k0).2 (by decide) rfl (by decide) dX0_parted_26 (rfl : 26 + 1 = 27) ?_
          refine z_iload_n h 2 dX0_parted_27 rfl (rfl : 27 + 1 = 28) ?_
          obtain ⟨b6, hf⟩ := zchk hf
          refine z_iald h (ze_8 hJ (zf_0_4 hJ k0).2 (by decide)).2 b6 dX0_parted_28 (rfl : 28 + 1 = 29) ?_
          refine z_if_eq (pc' := 32) h 57 dX0_parted_29 (by decide) rfl (fun c7 => ?_) (fun c7 => ?_)
          · have hf := zitt c7 hf
            refine z_iinc h 2 (x2_4 + 1) [(2, .int (x2_4 + 1)), (0, .ref (za B p0)), (1, .int x1_4)] dX0_parted_57 rfl rfl (by decide) rfl (rfl : 57 + 3 = 60) ?_
            refine z_goto (pc' := 4) h dX0_parted_60 (by decide) ?_
            refine z_sub (L' := [(0, .ref (za B p0)), (1, .int x1_4), (2, .int (x2_4 + 1))]) [1, 2, 0] rfl ?_
            exact ih x1_4 (x2_4 + 1) I4 _ hf hP hE
          · have hf := zitf c7 hf
            refine z_aload_n h 0 dX0_parted_32 rfl (rfl : 32 + 1 = 33) ?_
            refine z_getr (ci := 0) (C := RX0) (T := TX0) (N := 5) h 4 (zR p0 4) (zf_0_4 hJ k0).1 k0 rfl (fun _ hq => List.mem_cons_of_mem _ (List.mem_append_right _ hq)) (by decide) (List.mem_of_getElem? (i := 1) rfl) rfl dX0_parted_33 (rfl : 33 + 3 = 36) ?_
            refine z_iconst h 0 dX0_parted_36 (by decide) (rfl : 36 + 1 = 37) ?_
            refine z_aldqA h (zR (zR p0 4) 0) (ze_8 hJ (zf_0_4 hJ k0).2 (by decide)).1 (zf_0_4 hJ k0).2 (by decide) rfl (by decide) dX0_parted_37 (rfl : 37 + 1 = 38) ?_
            refine z_iload_n h 2 dX0_parted_38 rfl (rfl : 38 + 1 = 39) ?_
            obtain ⟨b8, hf⟩ := zchk hf
            refine z_iald h (ze_8 hJ (zf_0_4 hJ k0).2 (by decide)).2 b8 dX0_parted_39 (rfl : 39 + 1 = 40) ?_
            refine z_aload_n h 0 dX0_parted_40 rfl (rfl : 40 + 1 = 41) ?_
            refine z_getr (ci := 0) (C := RX0) (T := TX0) (N := 5) h 4 (zR p0 4) (zf_0_4 hJ k0).1 k0 rfl (fun _ hq => List.mem_cons_of_mem _ (List.mem_append_right _ hq)) (by decide) (List.mem_of_getElem? (i := 1) rfl) rfl dX0_parted_41 (rfl : 41 + 3 = 44) ?_
            refine z_iconst h 1 dX0_parted_44 (by decide) (rfl : 44 + 1 = 45) ?_
            refine z_aldqA h (zR (zR p0 4) 1) (ze_8 hJ (zf_0_4 hJ k0).2 (by decide)).1 (zf_0_4 hJ k0).2 (by decide) rfl (by decide) dX0_parted_45 (rfl : 45 + 1 = 46) ?_
            refine z_iload_n h 2 dX0_parted_46 rfl (rfl : 46 + 1 = 47) ?_
            obtain ⟨b9, hf⟩ := zchk hf
            refine z_iald h (ze_8 hJ (zf_0_4 hJ k0).2 (by decide)).2 b9 dX0_parted_47 (rfl : 47 + 1 = 48) ?_
            refine z_icmp_eq (pc' := 51) h 57 dX0_parted_48 (by decide) rfl (fun c10 => ?_) (fun c10 => ?_)
            · have hf := zitt c10 hf
              refine z_iinc h 2 (x2_4 + 1) [(2, .int (x2_4 + 1)), (0, .ref (za B p0)), (1, .int x1_4)] dX0_parted_57 rfl rfl (by decide) rfl (rfl : 57 + 3 = 60) ?_
              refine z_goto (pc' := 4) h dX0_parted_60 (by decide) ?_
              refine z_sub (L' := [(0, .ref (za B p0)), (1, .int x1_4), (2, .int (x2_4 + 1))]) [1, 2, 0] rfl ?_
              exact ih x1_4 (x2_4 + 1) I4 _ hf hP hE
            · have hf := zitf c10 hf
              refine z_iload_n h 1 dX0_parted_51 rfl (rfl : 51 + 1 = 52) ?_
              refine z_iconst h 1 dX0_parted_52 (by decide) (rfl : 52 + 1 = 53) ?_
              refine z_iload_n h 2 dX0_parted_53 rfl (rfl : 53 + 1 = 54) ?_
              refine z_ishl h dX0_parted_54 (rfl : 54 + 1 = 55) ?_
              refine z_ior h dX0_parted_55 (rfl : 55 + 1 = 56) ?_
              refine z_istore_n h [(1, .int (x1_4 ||| ((1 : Int32) <<< (x2_4 &&& 31)))), (0, .ref (za B p0)), (2, .int x2_4)] dX0_parted_56 (by decide) rfl (rfl : 56 + 1 = 57) ?_
              refine z_iinc h 2 (x2_4 + 1) [(2, .int (x2_4 + 1)), (1, .int (x1_4 ||| ((1 : Int32) <<< (x2_4 &&& 31)))), (0, .ref (za B p0))] dX0_parted_57 rfl rfl (by decide) rfl (rfl : 57 + 3 = 60) ?_
              refine z_goto (pc' := 4) h dX0_parted_60 (by decide) ?_
              refine z_sub (L' := [(0, .ref (za B p0)), (1, .int (x1_4 ||| ((1 : Int32) <<< (x2_4 &&& 31)))), (2, .int (x2_4 + 1))]) [2, 1, 0] rfl ?_
              exact ih (x1_4 ||| ((1 : Int32) <<< (x2_4 &&& 31))) (x2_4 + 1) I4 _ hf hP hE
  refine z_sub (L' := [(0, .ref (za B p0)), (1, .int 0), (2, .int 0)]) [2, 1, 0] rfl ?_
  obtain ⟨q1, e2, hf⟩ := zbind hf
  refine loop_4_2 _ 0 0 I q1 e2 (fun a ha => ?_) (fun a11 ha  => ?_)
  · have hf := zell ha hf
    exact zsome hf
  have hf := zelr ha hf
  clear ha loop_4_2
  refine z_iload_n h 1 dX0_parted_63 rfl (rfl : 63 + 1 = 64) ?_
  refine z_iret h hr dX0_parted_64 ?_
  exact ⟨congrArg Prod.fst (zsome hf), congrArg Prod.snd (zsome hf), rfl⟩
noncomputable def f_X11_valueAt_4 (J : zJ) (u0 : Int32) (u1 : Int32) : Nat → Int32 → Int32 → zM → Option ((Int32 × zM) ⊕ (Int32 × Int32 × zM))
  | 0, _, _, _ => none
  | n + 1, x2_4, x3_4, I4 => (if x3_4 ≤ u1 then some (.inr (x2_4, x3_4, I4)) else f_X11_valueAt_4 J u0 u1 n (x2_4 / (6 : Int32)) (x3_4 + (-1)) I4)
noncomputable def f_X11_valueAt (J : zJ) (v0 : Int32) (v1 : Int32) (I : zM) : Option (Int32 × zM) := ((f_X11_valueAt_4 J v0 v1 zF v0 5 I).bind fun q => Sum.elim (fun a => some a) (fun a3 => some ((a3.1 - a3.1 / (6 : Int32) * (6 : Int32), a3.2.2))) q)
noncomputable abbrev rmX11_valueAt : Room := { frames := 0, cells := 0, slots := 0, locals := 0 }
theorem zyX11_valueAt : zY yX11_valueAt wsX11_valueAt cX11_valueAt 4 (some .int) 2 := ⟨⟨_, rfl⟩, by decide +kernel⟩
set_option maxHeartbeats 1000000 in
set_option maxRecDepth 100000 in
theorem c_X11_valueAt (B : zB) (I : zM) (J : zJ) (hJ : zJok J) (v0 : Int32) (v1 : Int32) (r : Int32) (I' : zM) (hf : f_X11_valueAt J v0 v1 I = some (r, I')) : zCi B zKW I J yX11_valueAt wsX11_valueAt rmX11_valueAt [.int v0, .int v1] (fun r2 I2 J2 => r2 = r ∧ I2 = I' ∧ J2 = J) := by
  refine z_start (own := RX11) (cc := cX11_valueAt) (nL := 4) (ret := (some .int)) rfl (by decide) rfl (Nat.le_of_ble_eq_true rfl) (L := [(0, .int v0), (1, .int v1)]) rfl (fun G h hr => ?_)
  rw [f_X11_valueAt] at hf
  refine z_iload_n h 0 dX11_valueAt_0 rfl (rfl : 0 + 1 = 1) ?_
  refine z_istore_n h [(2, .int v0), (0, .int v0), (1, .int v1)] dX11_valueAt_1 (by decide) rfl (rfl : 1 + 1 = 2) ?_
  refine z_iconst h 5 dX11_valueAt_2 (by decide) (rfl : 2 + 1 = 3) ?_
  refine z_istore_n h [(3, .int 5), (2, .int v0), (0, .int v0), (1, .int v1)] dX11_valueAt_3 (by decide) rfl (rfl : 3 + 1 = 4) ?_
  have loop_4_2 : ∀ (n : Nat) (x2_4 : Int32) (x3_4 : Int32) (I4 : zM) (q : (Int32 × zM) ⊕ (Int32 × Int32 × zM)), f_X11_valueAt_4 J v0 v1 n x2_4 x3_4 I4 = some q → (∀ a, q = .inl a → a = (r, I')) → (∀ a : Int32 × Int32 × zM, q = .inr a → Z B G zKW (a.2.2) (J) (0, 0) 20 [(0, .int v0), (1, .int v1), (2, .int a.1), (3, .int a.2.1)] []) → Z B G zKW I4 J (0, 0) 4 [(0, .int v0), (1, .int v1), (2, .int x2_4), (3, .int x3_4)] [] := by
    intro n; induction n with
    | zero => intro x2_4 x3_4 I4 q hf; exact absurd hf (by rw [f_X11_valueAt_4]; exact fun z => by cases z)
    | succ n ih =>
      intro x2_4 x3_4 I4 q hf hP hE; rw [f_X11_valueAt_4] at hf
      refine z_iload_n h 3 dX11_valueAt_4 rfl (rfl : 4 + 1 = 5) ?_
      refine z_iload_n h 1 dX11_valueAt_5 rfl (rfl : 5 + 1 = 6) ?_
      refine z_icmp_le (pc' := 9) h 20 dX11_valueAt_6 (by decide) rfl (fun c3 => ?_) (fun c3 => ?_)
      · have hf := zitt c3 hf
        exact hE (x2_4, x3_4, I4) (zsome hf).symm
      · have hf := zitf c3 hf
        refine z_iload_n h 2 dX11_valueAt_9 rfl (rfl : 9 + 1 = 10) ?_
        refine z_bipush h 6 dX11_valueAt_10 (by decide) (rfl : 10 + 2 = 12) ?_
        refine z_idiv h dX11_valueAt_12 (by decide) (rfl : 12 + 1 = 13) ?_
        refine z_istore_n h [(2, .int (x2_4 / (6 : Int32))), (0, .int v0), (1, .int v1), (3, .int x3_4)] dX11_valueAt_13 (by decide) rfl (rfl : 13 + 1 = 14) ?_
        refine z_iinc h 3 (x3_4 + (-1)) [(3, .int (x3_4 + (-1))), (2, .int (x2_4 / (6 : Int32))), (0, .int v0), (1, .int v1)] dX11_valueAt_14 rfl rfl (by decide) rfl (rfl : 14 + 3 = 17) ?_
        refine z_goto (pc' := 4) h dX11_valueAt_17 (by decide) ?_
        refine z_sub (L' := [(0, .int v0), (1, .int v1), (2, .int (x2_4 / (6 : Int32))), (3, .int (x3_4 + (-1)))]) [2, 3, 1, 0] rfl ?_
        exact ih (x2_4 / (6 : Int32)) (x3_4 + (-1)) I4 _ hf hP hE
  refine z_sub (L' := [(0, .int v0), (1, .int v1), (2, .int v0), (3, .int 5)]) [2, 3, 1, 0] rfl ?_
  obtain ⟨q1, e2, hf⟩ := zbind hf
  refine loop_4_2 _ v0 5 I q1 e2 (fun a ha => ?_) (fun a4 ha  => ?_)
  · have hf := zell ha hf
    exact zsome hf
  have hf := zelr ha hf
  clear ha loop_4_2
  refine z_iload_n h 2 dX11_valueAt_20 rfl (rfl : 20 + 1 = 21) ?_
  refine z_bipush h 6 dX11_valueAt_21 (by decide) (rfl : 21 + 2 = 23) ?_
  refine z_irem h dX11_valueAt_23 (by decide) (rfl : 23 + 1 = 24) ?_
  refine z_iret h hr dX11_valueAt_24 ?_
  exact ⟨congrArg Prod.fst (zsome hf), congrArg Prod.snd (zsome hf), rfl⟩
noncomputable def f_X0_farFrom_5 (J : zJ) (r0 : Nat) (u1 : Int32) (u2 : Int32) : Nat → Int32 → Int32 → zM → Option ((Int32 × zM) ⊕ (Int32 × Int32 × zM))
  | 0, _, _, _ => none
  | n + 1, x3_5, x4_5, I5 => (if 6 ≤ x4_5 then some (.inr (x3_5, x4_5, I5)) else (if zin u1 2 = true then (if zin x4_5 6 = true then (if I5 (zR (zR r0 4) (Int32.toNatClampNeg u1)) (Int32.toNatClampNeg x4_5) = 0 then f_X0_farFrom_5 J r0 u1 u2 n x3_5 (x4_5 + 1) I5 else ((f_X11_valueAt J u2 x4_5 I5).bind fun q5 => (if I5 (zR (zR r0 4) (Int32.toNatClampNeg u1)) (Int32.toNatClampNeg x4_5) = q5.1 then f_X0_farFrom_5 J r0 u1 u2 n x3_5 (x4_5 + 1) q5.2 else f_X0_farFrom_5 J r0 u1 u2 n (x3_5 ||| ((1 : Int32) <<< (x4_5 &&& 31))) (x4_5 + 1) q5.2))) else none) else none))
noncomputable def f_X0_farFrom (J : zJ) (p0 : Nat) (v1 : Int32) (v2 : Int32) (I : zM) : Option (Int32 × zM) := ((f_X0_farFrom_5 J p0 v1 v2 zF 0 0 I).bind fun q => Sum.elim (fun a => some a) (fun a3 => some ((a3.1, a3.2.2))) q)
noncomputable abbrev rmX0_farFrom : Room := { frames := 1, cells := 0, slots := 0, locals := 23 }
theorem zyX0_farFrom : zY yX0_farFrom wsX0_farFrom cX0_farFrom 6 (some .int) 2 := ⟨⟨_, rfl⟩, by decide +kernel⟩
theorem zrX0_farFrom_X11_valueAt : zRm rmX11_valueAt rmX0_farFrom 4 := ⟨rfl, rfl, by decide, by decide⟩
set_option maxHeartbeats 1000000 in
set_option maxRecDepth 100000 in
theorem c_X0_farFrom (B : zB) (I : zM) (J : zJ) (hJ : zJok J) (p0 : Nat) (k0 : zKW[p0]? = some (.inr 0)) (v1 : Int32) (v2 : Int32) (r : Int32) (I' : zM) (hf : f_X0_farFrom J p0 v1 v2 I = some (r, I')) : zCi B zKW I J yX0_farFrom wsX0_farFrom rmX0_farFrom [.ref (za B p0), .int v1, .int v2] (fun r2 I2 J2 => r2 = r ∧ I2 = I' ∧ J2 = J) := by
  refine z_start (own := RX0) (cc := cX0_farFrom) (nL := 6) (ret := (some .int)) rfl (by decide) rfl (Nat.le_of_ble_eq_true rfl) (L := [(0, .ref (za B p0)), (1, .int v1), (2, .int v2)]) rfl (fun G h hr => ?_)
  rw [f_X0_farFrom] at hf
  refine z_iconst h 0 dX0_farFrom_0 (by decide) (rfl : 0 + 1 = 1) ?_
  refine z_istore_n h [(3, .int 0), (0, .ref (za B p0)), (1, .int v1), (2, .int v2)] dX0_farFrom_1 (by decide) rfl (rfl : 1 + 1 = 2) ?_
  refine z_iconst h 0 dX0_farFrom_2 (by decide) (rfl : 2 + 1 = 3) ?_
  refine z_istore h [(4, .int 0), (3, .int 0), (0, .ref (za B p0)), (1, .int v1), (2, .int v2)] dX0_farFrom_3 (by decide) rfl (rfl : 3 + 2 = 5) ?_
  have loop_5_2 : ∀ (n : Nat) (x3_5 : Int32) (x4_5 : Int32) (I5 : zM) (q : (Int32 × zM) ⊕ (Int32 × Int32 × zM)), f_X0_farFrom_5 J p0 v1 v2 n x3_5 x4_5 I5 = some q → (∀ a, q = .inl a → a = (r, I')) → (∀ a : Int32 × Int32 × zM, q = .inr a → Z B G zKW (a.2.2) (J) (0, 0) 52 [(0, .ref (za B p0)), (1, .int v1), (2, .int v2), (3, .int a.1), (4, .int a.2.1)] []) → Z B G zKW I5 J (0, 0) 5 [(0, .ref (za B p0)), (1, .int v1), (2, .int v2), (3, .int x3_5), (4, .int x4_5)] [] := by
    intro n; induction n with
    | zero => intro x3_5 x4_5 I5 q hf; exact absurd hf (by rw [f_X0_farFrom_5]; exact fun z => by cases z)
    | succ n ih =>
      intro x3_5 x4_5 I5 q hf hP hE; rw [f_X0_farFrom_5] at hf
      refine z_iload h 4 dX0_farFrom_5 rfl (rfl : 5 + 2 = 7) ?_
      refine z_bipush h 6 dX0_farFrom_7 (by decide) (rfl : 7 + 2 = 9) ?_
      refine z_icmp_ge (pc' := 12) h 52 dX0_farFrom_9 (by decide) rfl (fun c3 => ?_) (fun c3 => ?_)
      · have hf := zitt c3 hf
        exact hE (x3_5, x4_5, I5) (zsome hf).symm
      · have hf := zitf c3 hf
        refine z_aload_n h 0 dX0_farFrom_12 rfl (rfl : 12 + 1 = 13) ?_
        refine z_getr (ci := 0) (C := RX0) (T := TX0) (N := 5) h 4 (zR p0 4) (zf_0_4 hJ k0).1 k0 rfl (fun _ hq => List.mem_cons_of_mem _ (List.mem_append_right _ hq)) (by decide) (List.mem_of_getElem? (i := 1) rfl) rfl dX0_farFrom_13 (rfl : 13 + 3 = 16) ?_
        refine z_iload_n h 1 dX0_farFrom_16 rfl (rfl : 16 + 1 = 17) ?_
        obtain ⟨b4, hf⟩ := zchk hf
        refine z_aldqA h (zR (zR p0 4) (Int32.toNatClampNeg v1)) (ze_8 hJ (zf_0_4 hJ k0).2 (zin_lt b4)).1 (zf_0_4 hJ k0).2 (by decide) rfl b4 dX0_farFrom_17 (rfl : 17 + 1 = 18) ?_
        refine z_iload h 4 dX0_farFrom_18 rfl (rfl : 18 + 2 = 20) ?_
        obtain ⟨b5, hf⟩ := zchk hf
        refine z_iald h (ze_8 hJ (zf_0_4 hJ k0).2 (zin_lt b4)).2 b5 dX0_farFrom_20 (rfl : 20 + 1 = 21) ?_
        refine z_istore h [(5, .int (I5 (zR (zR p0 4) (Int32.toNatClampNeg v1)) (Int32.toNatClampNeg x4_5))), (0, .ref (za B p0)), (1, .int v1), (2, .int v2), (3, .int x3_5), (4, .int x4_5)] dX0_farFrom_21 (by decide) rfl (rfl : 21 + 2 = 23) ?_
        refine z_iload h 0 dX0_farFrom_23 rfl (rfl : 23 + 2 = 25) ?_
        refine z_if_eq (pc' := 28) h 46 dX0_farFrom_25 (by decide) rfl (fun c6 => ?_) (fun c6 => ?_)
        · have hf := zitt c6 hf
          refine z_iinc h 5 (x4_5 + 1) [(4, .int (x4_5 + 1)), (5, .int (I5 (zR (zR p0 4) (Int32.toNatClampNeg v1)) (Int32.toNatClampNeg x4_5))), (0, .ref (za B p0)), (1, .int v1), (2, .int v2), (3, .int x3_5)] dX0_farFrom_46 rfl rfl (by decide) rfl (rfl : 46 + 3 = 49) ?_
          refine z_goto (pc' := 5) h dX0_farFrom_49 (by decide) ?_
          refine z_sub (L' := [(0, .ref (za B p0)), (1, .int v1), (2, .int v2), (3, .int x3_5), (4, .int (x4_5 + 1))]) [2, 3, 4, 5, 0] rfl ?_
          exact ih x3_5 (x4_5 + 1) I5 _ hf hP hE
        · have hf := zitf c6 hf
          refine z_iload h 0 dX0_farFrom_28 rfl (rfl : 28 + 2 = 30) ?_
          refine z_iload_n h 3 dX0_farFrom_30 rfl (rfl : 30 + 1 = 31) ?_
          refine z_iload h 5 dX0_farFrom_31 rfl (rfl : 31 + 2 = 33) ?_
          obtain ⟨q7, e8, hf⟩ := zbind hf
          refine z_goF (z_runSN (host := "LeftOut") h [.int v2, .int x4_5] [.int (I5 (zR (zR p0 4) (Int32.toNatClampNeg v1)) (Int32.toNatClampNeg x4_5))] zyX11_valueAt (c_X11_valueAt B I5 J hJ v2 x4_5 _ _ e8) gX0_farFrom_X11_valueAt_n37 (List.mem_of_getElem? (i := 20) rfl) (List.mem_of_getElem? (i := 2) rfl) (List.mem_of_getElem? (i := 3) rfl) zrX0_farFrom_X11_valueAt rfl (Nat.le_of_ble_eq_true rfl) ⟨Nat.zero_le _, Nat.zero_le _⟩ rfl dX0_farFrom_33) rfl ?_
          refine z_icmp_eq (pc' := 39) h 46 dX0_farFrom_36 (by decide) rfl (fun c9 => ?_) (fun c9 => ?_)
          · have hf := zitt c9 hf
            refine z_iinc h 5 (x4_5 + 1) [(4, .int (x4_5 + 1)), (5, .int (I5 (zR (zR p0 4) (Int32.toNatClampNeg v1)) (Int32.toNatClampNeg x4_5))), (0, .ref (za B p0)), (1, .int v1), (2, .int v2), (3, .int x3_5)] dX0_farFrom_46 rfl rfl (by decide) rfl (rfl : 46 + 3 = 49) ?_
            refine z_goto (pc' := 5) h dX0_farFrom_49 (by decide) ?_
            refine z_sub (L' := [(0, .ref (za B p0)), (1, .int v1), (2, .int v2), (3, .int x3_5), (4, .int (x4_5 + 1))]) [2, 3, 4, 5, 0] rfl ?_
            exact ih x3_5 (x4_5 + 1) q7.2 _ hf hP hE
          · have hf := zitf c9 hf
            refine z_iload_n h 4 dX0_farFrom_39 rfl (rfl : 39 + 1 = 40) ?_
            refine z_iconst h 1 dX0_farFrom_40 (by decide) (rfl : 40 + 1 = 41) ?_
            refine z_iload h 5 dX0_farFrom_41 rfl (rfl : 41 + 2 = 43) ?_
            refine z_ishl h dX0_farFrom_43 (rfl : 43 + 1 = 44) ?_
            refine z_ior h dX0_farFrom_44 (rfl : 44 + 1 = 45) ?_
            refine z_istore_n h [(3, .int (x3_5 ||| ((1 : Int32) <<< (x4_5 &&& 31)))), (5, .int (I5 (zR (zR p0 4) (Int32.toNatClampNeg v1)) (Int32.toNatClampNeg x4_5))), (0, .ref (za B p0)), (1, .int v1), (2, .int v2), (4, .int x4_5)] dX0_farFrom_45 (by decide) rfl (rfl : 45 + 1 = 46) ?_
            refine z_iinc h 5 (x4_5 + 1) [(4, .int (x4_5 + 1)), (3, .int (x3_5 ||| ((1 : Int32) <<< (x4_5 &&& 31)))), (5, .int (I5 (zR (zR p0 4) (Int32.toNatClampNeg v1)) (Int32.toNatClampNeg x4_5))), (0, .ref (za B p0)), (1, .int v1), (2, .int v2)] dX0_farFrom_46 rfl rfl (by decide) rfl (rfl : 46 + 3 = 49) ?_
            refine z_goto (pc' := 5) h dX0_farFrom_49 (by decide) ?_
            refine z_sub (L' := [(0, .ref (za B p0)), (1, .int v1), (2, .int v2), (3, .int (x3_5 ||| ((1 : Int32) <<< (x4_5 &&& 31)))), (4, .int (x4_5 + 1))]) [3, 4, 5, 1, 0] rfl ?_
            exact ih (x3_5 ||| ((1 : Int32) <<< (x4_5 &&& 31))) (x4_5 + 1) q7.2 _ hf hP hE
  refine z_sub (L' := [(0, .ref (za B p0)), (1, .int v1), (2, .int v2), (3, .int 0), (4, .int 0)]) [2, 3, 4, 1, 0] rfl ?_
  obtain ⟨q1, e2, hf⟩ := zbind hf
  refine loop_5_2 _ 0 0 I q1 e2 (fun a ha => ?_) (fun a10 ha  => ?_)
  · have hf := zell ha hf
    exact zsome hf
  have hf := zelr ha hf
  clear ha loop_5_2
  refine z_iload_n h 3 dX0_farFrom_52 rfl (rfl : 52 + 1 = 53) ?_
  refine z_iret h hr dX0_farFrom_53 ?_
  exact ⟨congrArg Prod.fst (zsome hf), congrArg Prod.snd (zsome hf), rfl⟩
noncomputable def f_X0_sayable_4 (J : zJ) (r0 : Nat) : Nat → Int32 → Int32 → zM → Option ((Int32 × zM) ⊕ (Int32 × Int32 × zM))
  | 0, _, _, _ => none
  | n + 1, x1_4, x2_4, I4 => (if 6 ≤ x2_4 then some (.inr (x1_4, x2_4, I4)) else (if zin x2_4 6 = true then (if I4 (zR (zR r0 3) 0) (Int32.toNatClampNeg x2_4) = 0 then ((f_X0_commonThought J r0 x2_4 I4).bind fun q4 => (if q4.1 = 0 then f_X0_sayable_4 J r0 n x1_4 (x2_4 + 1) q4.2 else f_X0_sayable_4 J r0 n (x1_4 ||| ((1 : Int32) <<< (x2_4 &&& 31))) (x2_4 + 1) q4.2)) else f_X0_sayable_4 J r0 n x1_4 (x2_4 + 1) I4) else none))
noncomputable def f_X0_sayable (J : zJ) (p0 : Nat) (I : zM) : Option (Int32 × zM) := ((f_X0_sayable_4 J p0 zF 0 0 I).bind fun q => Sum.elim (fun a => some a) (fun a3 => some ((a3.1, a3.2.2))) q)
noncomputable abbrev rmX0_sayable : Room := { frames := 1, cells := 0, slots := 0, locals := 21 }
theorem zyX0_sayable : zY yX0_sayable wsX0_sayable cX0_sayable 3 (some .int) 0 := ⟨⟨_, rfl⟩, by decide +kernel⟩
theorem zrX0_sayable_X0_commonThought : zRm rmX0_commonThought rmX0_sayable 2 := ⟨rfl, rfl, by decide, by decide⟩
set_option maxHeartbeats 1000000 in
set_option maxRecDepth 100000 in
theorem c_X0_sayable (B : zB) (I : zM) (J : zJ) (hJ : zJok J) (p0 : Nat) (k0 : zKW[p0]? = some (.inr 0)) (r : Int32) (I' : zM) (hf : f_X0_sayable J p0 I = some (r, I')) : zCi B zKW I J yX0_sayable wsX0_sayable rmX0_sayable [.ref (za B p0)] (fun r2 I2 J2 => r2 = r ∧ I2 = I' ∧ J2 = J) := by
  refine z_start (own := RX0) (cc := cX0_sayable) (nL := 3) (ret := (some .int)) rfl (by decide) rfl (Nat.le_of_ble_eq_true rfl) (L := [(0, .ref (za B p0))]) rfl (fun G h hr => ?_)
  rw [f_X0_sayable] at hf
  refine z_iconst h 0 dX0_sayable_0 (by decide) (rfl : 0 + 1 = 1) ?_
  refine z_istore_n h [(1, .int 0), (0, .ref (za B p0))] dX0_sayable_1 (by decide) rfl (rfl : 1 + 1 = 2) ?_
  refine z_iconst h 0 dX0_sayable_2 (by decide) (rfl : 2 + 1 = 3) ?_
  refine z_istore_n h [(2, .int 0), (1, .int 0), (0, .ref (za B p0))] dX0_sayable_3 (by decide) rfl (rfl : 3 + 1 = 4) ?_
  have loop_4_2 : ∀ (n : Nat) (x1_4 : Int32) (x2_4 : Int32) (I4 : zM) (q : (Int32 × zM) ⊕ (Int32 × Int32 × zM)), f_X0_sayable_4 J p0 n x1_4 x2_4 I4 = some q → (∀ a, q = .inl a → a = (r, I')) → (∀ a : Int32 × Int32 × zM, q = .inr a → Z B G zKW (a.2.2) (J) (0, 0) 42 [(0, .ref (za B p0)), (1, .int a.1), (2, .int a.2.1)] []) → Z B G zKW I4 J (0, 0) 4 [(0, .ref (za B p0)), (1, .int x1_4), (2, .int x2_4)] [] := by
    intro n; induction n with
    | zero => intro x1_4 x2_4 I4 q hf; exact absurd hf (by rw [f_X0_sayable_4]; exact fun z => by cases z)
    | succ n ih =>
      intro x1_4 x2_4 I4 q hf hP hE; rw [f_X0_sayable_4] at hf
      refine z_iload_n h 2 dX0_sayable_4 rfl (rfl : 4 + 1 = 5) ?_
      refine z_bipush h 6 dX0_sayable_5 (by decide) (rfl : 5 + 2 = 7) ?_
      refine z_icmp_ge (pc' := 10) h 42 dX0_sayable_7 (by decide) rfl (fun c3 => ?_) (fun c3 => ?_)
      · have hf := zitt c3 hf
        exact hE (x1_4, x2_4, I4) (zsome hf).symm
      · have hf := zitf c3 hf
        refine z_aload_n h 0 dX0_sayable_10 rfl (rfl : 10 + 1 = 11) ?_
        refine z_getr (ci := 0) (C := RX0) (T := TX0) (N := 5) h 3 (zR p0 3) (zf_0_3 hJ k0).1 k0 rfl (fun _ hq => List.mem_cons_of_mem _ (List.mem_append_left _ (List.mem_append_right _ hq))) (by decide) (List.mem_of_getElem? (i := 1) rfl) rfl dX0_sayable_11 (rfl : 11 + 3 = 14) ?_
        refine z_getr (ci := 8) (C := RX8) (T := TX8) (N := 3) h 0 (zR (zR p0 3) 0) (zf_8_0 hJ (zf_0_3 hJ k0).2).1 (zf_0_3 hJ k0).2 rfl (fun _ hq => List.mem_cons_of_mem _ (List.mem_append_right _ hq)) (by decide) (List.mem_of_getElem? (i := 2) rfl) rfl dX0_sayable_14 (rfl : 14 + 3 = 17) ?_
        refine z_iload_n h 2 dX0_sayable_17 rfl (rfl : 17 + 1 = 18) ?_
        obtain ⟨b4, hf⟩ := zchk hf
        refine z_iald h (zf_8_0 hJ (zf_0_3 hJ k0).2).2 b4 dX0_sayable_18 (rfl : 18 + 1 = 19) ?_
        refine z_if_ne (pc' := 22) h 36 dX0_sayable_19 (by decide) rfl (fun c5 => ?_) (fun c5 => ?_)
        · have hf := zitf c5 hf
          refine z_iinc h 2 (x2_4 + 1) [(2, .int (x2_4 + 1)), (0, .ref (za B p0)), (1, .int x1_4)] dX0_sayable_36 rfl rfl (by decide) rfl (rfl : 36 + 3 = 39) ?_
          refine z_goto (pc' := 4) h dX0_sayable_39 (by decide) ?_
          refine z_sub (L' := [(0, .ref (za B p0)), (1, .int x1_4), (2, .int (x2_4 + 1))]) [1, 2, 0] rfl ?_
          exact ih x1_4 (x2_4 + 1) I4 _ hf hP hE
        · have hf := zitt c5 hf
          refine z_aload_n h 0 dX0_sayable_22 rfl (rfl : 22 + 1 = 23) ?_
          refine z_iload_n h 2 dX0_sayable_23 rfl (rfl : 23 + 1 = 24) ?_
          obtain ⟨q6, e7, hf⟩ := zbind hf
          refine z_goF (z_runV (C := RX0) (T := TX0) (N := 5) (ci := 0) h [.int x2_4] [] zyX0_commonThought (c_X0_commonThought B I4 J hJ p0 k0 x2_4 _ _ e7) gX0_sayable_X0_commonThought rfl k0 rfl zrX0_sayable_X0_commonThought rfl (Nat.le_of_ble_eq_true rfl) ⟨Nat.zero_le _, Nat.zero_le _⟩ rfl dX0_sayable_24) rfl ?_
          refine z_if_eq (pc' := 30) h 36 dX0_sayable_27 (by decide) rfl (fun c8 => ?_) (fun c8 => ?_)
          · have hf := zitt c8 hf
            refine z_iinc h 2 (x2_4 + 1) [(2, .int (x2_4 + 1)), (0, .ref (za B p0)), (1, .int x1_4)] dX0_sayable_36 rfl rfl (by decide) rfl (rfl : 36 + 3 = 39) ?_
            refine z_goto (pc' := 4) h dX0_sayable_39 (by decide) ?_
            refine z_sub (L' := [(0, .ref (za B p0)), (1, .int x1_4), (2, .int (x2_4 + 1))]) [1, 2, 0] rfl ?_
            exact ih x1_4 (x2_4 + 1) q6.2 _ hf hP hE
          · have hf := zitf c8 hf
            refine z_iload_n h 1 dX0_sayable_30 rfl (rfl : 30 + 1 = 31) ?_
            refine z_iconst h 1 dX0_sayable_31 (by decide) (rfl : 31 + 1 = 32) ?_
            refine z_iload_n h 2 dX0_sayable_32 rfl (rfl : 32 + 1 = 33) ?_
            refine z_ishl h dX0_sayable_33 (rfl : 33 + 1 = 34) ?_
            refine z_ior h dX0_sayable_34 (rfl : 34 + 1 = 35) ?_
            refine z_istore_n h [(1, .int (x1_4 ||| ((1 : Int32) <<< (x2_4 &&& 31)))), (0, .ref (za B p0)), (2, .int x2_4)] dX0_sayable_35 (by decide) rfl (rfl : 35 + 1 = 36) ?_
            refine z_iinc h 2 (x2_4 + 1) [(2, .int (x2_4 + 1)), (1, .int (x1_4 ||| ((1 : Int32) <<< (x2_4 &&& 31)))), (0, .ref (za B p0))] dX0_sayable_36 rfl rfl (by decide) rfl (rfl : 36 + 3 = 39) ?_
            refine z_goto (pc' := 4) h dX0_sayable_39 (by decide) ?_
            refine z_sub (L' := [(0, .ref (za B p0)), (1, .int (x1_4 ||| ((1 : Int32) <<< (x2_4 &&& 31)))), (2, .int (x2_4 + 1))]) [2, 1, 0] rfl ?_
            exact ih (x1_4 ||| ((1 : Int32) <<< (x2_4 &&& 31))) (x2_4 + 1) q6.2 _ hf hP hE
  refine z_sub (L' := [(0, .ref (za B p0)), (1, .int 0), (2, .int 0)]) [2, 1, 0] rfl ?_
  obtain ⟨q1, e2, hf⟩ := zbind hf
  refine loop_4_2 _ 0 0 I q1 e2 (fun a ha => ?_) (fun a9 ha  => ?_)
  · have hf := zell ha hf
    exact zsome hf
  have hf := zelr ha hf
  clear ha loop_4_2
  refine z_iload_n h 1 dX0_sayable_42 rfl (rfl : 42 + 1 = 43) ?_
  refine z_iret h hr dX0_sayable_43 ?_
  exact ⟨congrArg Prod.fst (zsome hf), congrArg Prod.snd (zsome hf), rfl⟩
noncomputable def f_X1_add (J : zJ) (p0 : Nat) (v1 : Int32) (v2 : Int32) (v3 : Int32) (v4 : Int32) (v5 : Int32) (v6 : Int32) (I : zM) : Option (zM) := (if I p0 6 < 24 then (if zin (I p0 6) 24 = true then (if zin ((zu I (zR p0 0) (Int32.toNatClampNeg (I p0 6)) v1) p0 6) 24 = true then (if zin ((zu (zu I (zR p0 0) (Int32.toNatClampNeg (I p0 6)) v1) (zR p0 1) (Int32.toNatClampNeg ((zu I (zR p0 0) (Int32.toNatClampNeg (I p0 6)) v1) p0 6)) v2) p0 6) 24 = true then (if zin ((zu (zu (zu I (zR p0 0) (Int32.toNatClampNeg (I p0 6)) v1) (zR p0 1) (Int32.toNatClampNeg ((zu I (zR p0 0) (Int32.toNatClampNeg (I p0 6)) v1) p0 6)) v2) (zR p0 2) (Int32.toNatClampNeg ((zu (zu I (zR p0 0) (Int32.toNatClampNeg (I p0 6)) v1) (zR p0 1) (Int32.toNatClampNeg ((zu I (zR p0 0) (Int32.toNatClampNeg (I p0 6)) v1) p0 6)) v2) p0 6)) v3) p0 6) 24 = true then (if zin ((zu (zu (zu (zu I (zR p0 0) (Int32.toNatClampNeg (I p0 6)) v1) (zR p0 1) (Int32.toNatClampNeg ((zu I (zR p0 0) (Int32.toNatClampNeg (I p0 6)) v1) p0 6)) v2) (zR p0 2) (Int32.toNatClampNeg ((zu (zu I (zR p0 0) (Int32.toNatClampNeg (I p0 6)) v1) (zR p0 1) (Int32.toNatClampNeg ((zu I (zR p0 0) (Int32.toNatClampNeg (I p0 6)) v1) p0 6)) v2) p0 6)) v3) (zR p0 3) (Int32.toNatClampNeg ((zu (zu (zu I (zR p0 0) (Int32.toNatClampNeg (I p0 6)) v1) (zR p0 1) (Int32.toNatClampNeg ((zu I (zR p0 0) (Int32.toNatClampNeg (I p0 6)) v1) p0 6)) v2) (zR p0 2) (Int32.toNatClampNeg ((zu (zu I (zR p0 0) (Int32.toNatClampNeg (I p0 6)) v1) (zR p0 1) (Int32.toNatClampNeg ((zu I (zR p0 0) (Int32.toNatClampNeg (I p0 6)) v1) p0 6)) v2) p0 6)) v3) p0 6)) v4) p0 6) 24 = true then (if zin ((zu (zu (zu (zu (zu I (zR p0 0) (Int32.toNatClampNeg (I p0 6)) v1) (zR p0 1) (Int32.toNatClampNeg ((zu I (zR p0 0) (Int32.toNatClampNeg (I p0 6)) v1) p0 6)) v2) (zR p0 2) (Int32.toNatClampNeg ((zu (zu I (zR p0 0) (Int32.toNatClampNeg (I p0 6)) v1) (zR p0 1) (Int32.toNatClampNeg ((zu I (zR p0 0) (Int32.toNatClampNeg (I p0 6)) v1) p0 6)) v2) p0 6)) v3) (zR p0 3) (Int32.toNatClampNeg ((zu (zu (zu I (zR p0 0) (Int32.toNatClampNeg (I p0 6)) v1) (zR p0 1) (Int32.toNatClampNeg ((zu I (zR p0 0) (Int32.toNatClampNeg (I p0 6)) v1) p0 6)) v2) (zR p0 2) (Int32.toNatClampNeg ((zu (zu I (zR p0 0) (Int32.toNatClampNeg (I p0 6)) v1) (zR p0 1) (Int32.toNatClampNeg ((zu I (zR p0 0) (Int32.toNatClampNeg (I p0 6)) v1) p0 6)) v2) p0 6)) v3) p0 6)) v4) (zR p0 4) (Int32.toNatClampNeg ((zu (zu (zu (zu I (zR p0 0) (Int32.toNatClampNeg (I p0 6)) v1) (zR p0 1) (Int32.toNatClampNeg ((zu I (zR p0 0) (Int32.toNatClampNeg (I p0 6)) v1) p0 6)) v2) (zR p0 2) (Int32.toNatClampNeg ((zu (zu I (zR p0 0) (Int32.toNatClampNeg (I p0 6)) v1) (zR p0 1) (Int32.toNatClampNeg ((zu I (zR p0 0) (Int32.toNatClampNeg (I p0 6)) v1) p0 6)) v2) p0 6)) v3) (zR p0 3) (Int32.toNatClampNeg ((zu (zu (zu I (zR p0 0) (Int32.toNatClampNeg (I p0 6)) v1) (zR p0 1) (Int32.toNatClampNeg ((zu I (zR p0 0) (Int32.toNatClampNeg (I p0 6)) v1) p0 6)) v2) (zR p0 2) (Int32.toNatClampNeg ((zu (zu I (zR p0 0) (Int32.toNatClampNeg (I p0 6)) v1) (zR p0 1) (Int32.toNatClampNeg ((zu I (zR p0 0) (Int32.toNatClampNeg (I p0 6)) v1) p0 6)) v2) p0 6)) v3) p0 6)) v4) p0 6)) v5) p0 6) 24 = true then (if vp_nar .boolean v6 = v6 then some (zu (zu (zu (zu (zu (zu (zu I (zR p0 0) (Int32.toNatClampNeg (I p0 6)) v1) (zR p0 1) (Int32.toNatClampNeg ((zu I (zR p0 0) (Int32.toNatClampNeg (I p0 6)) v1) p0 6)) v2) (zR p0 2) (Int32.toNatClampNeg ((zu (zu I (zR p0 0) (Int32.toNatClampNeg (I p0 6)) v1) (zR p0 1) (Int32.toNatClampNeg ((zu I (zR p0 0) (Int32.toNatClampNeg (I p0 6)) v1) p0 6)) v2) p0 6)) v3) (zR p0 3) (Int32.toNatClampNeg ((zu (zu (zu I (zR p0 0) (Int32.toNatClampNeg (I p0 6)) v1) (zR p0 1) (Int32.toNatClampNeg ((zu I (zR p0 0) (Int32.toNatClampNeg (I p0 6)) v1) p0 6)) v2) (zR p0 2) (Int32.toNatClampNeg ((zu (zu I (zR p0 0) (Int32.toNatClampNeg (I p0 6)) v1) (zR p0 1) (Int32.toNatClampNeg ((zu I (zR p0 0) (Int32.toNatClampNeg (I p0 6)) v1) p0 6)) v2) p0 6)) v3) p0 6)) v4) (zR p0 4) (Int32.toNatClampNeg ((zu (zu (zu (zu I (zR p0 0) (Int32.toNatClampNeg (I p0 6)) v1) (zR p0 1) (Int32.toNatClampNeg ((zu I (zR p0 0) (Int32.toNatClampNeg (I p0 6)) v1) p0 6)) v2) (zR p0 2) (Int32.toNatClampNeg ((zu (zu I (zR p0 0) (Int32.toNatClampNeg (I p0 6)) v1) (zR p0 1) (Int32.toNatClampNeg ((zu I (zR p0 0) (Int32.toNatClampNeg (I p0 6)) v1) p0 6)) v2) p0 6)) v3) (zR p0 3) (Int32.toNatClampNeg ((zu (zu (zu I (zR p0 0) (Int32.toNatClampNeg (I p0 6)) v1) (zR p0 1) (Int32.toNatClampNeg ((zu I (zR p0 0) (Int32.toNatClampNeg (I p0 6)) v1) p0 6)) v2) (zR p0 2) (Int32.toNatClampNeg ((zu (zu I (zR p0 0) (Int32.toNatClampNeg (I p0 6)) v1) (zR p0 1) (Int32.toNatClampNeg ((zu I (zR p0 0) (Int32.toNatClampNeg (I p0 6)) v1) p0 6)) v2) p0 6)) v3) p0 6)) v4) p0 6)) v5) (zR p0 5) (Int32.toNatClampNeg ((zu (zu (zu (zu (zu I (zR p0 0) (Int32.toNatClampNeg (I p0 6)) v1) (zR p0 1) (Int32.toNatClampNeg ((zu I (zR p0 0) (Int32.toNatClampNeg (I p0 6)) v1) p0 6)) v2) (zR p0 2) (Int32.toNatClampNeg ((zu (zu I (zR p0 0) (Int32.toNatClampNeg (I p0 6)) v1) (zR p0 1) (Int32.toNatClampNeg ((zu I (zR p0 0) (Int32.toNatClampNeg (I p0 6)) v1) p0 6)) v2) p0 6)) v3) (zR p0 3) (Int32.toNatClampNeg ((zu (zu (zu I (zR p0 0) (Int32.toNatClampNeg (I p0 6)) v1) (zR p0 1) (Int32.toNatClampNeg ((zu I (zR p0 0) (Int32.toNatClampNeg (I p0 6)) v1) p0 6)) v2) (zR p0 2) (Int32.toNatClampNeg ((zu (zu I (zR p0 0) (Int32.toNatClampNeg (I p0 6)) v1) (zR p0 1) (Int32.toNatClampNeg ((zu I (zR p0 0) (Int32.toNatClampNeg (I p0 6)) v1) p0 6)) v2) p0 6)) v3) p0 6)) v4) (zR p0 4) (Int32.toNatClampNeg ((zu (zu (zu (zu I (zR p0 0) (Int32.toNatClampNeg (I p0 6)) v1) (zR p0 1) (Int32.toNatClampNeg ((zu I (zR p0 0) (Int32.toNatClampNeg (I p0 6)) v1) p0 6)) v2) (zR p0 2) (Int32.toNatClampNeg ((zu (zu I (zR p0 0) (Int32.toNatClampNeg (I p0 6)) v1) (zR p0 1) (Int32.toNatClampNeg ((zu I (zR p0 0) (Int32.toNatClampNeg (I p0 6)) v1) p0 6)) v2) p0 6)) v3) (zR p0 3) (Int32.toNatClampNeg ((zu (zu (zu I (zR p0 0) (Int32.toNatClampNeg (I p0 6)) v1) (zR p0 1) (Int32.toNatClampNeg ((zu I (zR p0 0) (Int32.toNatClampNeg (I p0 6)) v1) p0 6)) v2) (zR p0 2) (Int32.toNatClampNeg ((zu (zu I (zR p0 0) (Int32.toNatClampNeg (I p0 6)) v1) (zR p0 1) (Int32.toNatClampNeg ((zu I (zR p0 0) (Int32.toNatClampNeg (I p0 6)) v1) p0 6)) v2) p0 6)) v3) p0 6)) v4) p0 6)) v5) p0 6)) v6) p0 6 (((zu (zu (zu (zu (zu (zu I (zR p0 0) (Int32.toNatClampNeg (I p0 6)) v1) (zR p0 1) (Int32.toNatClampNeg ((zu I (zR p0 0) (Int32.toNatClampNeg (I p0 6)) v1) p0 6)) v2) (zR p0 2) (Int32.toNatClampNeg ((zu (zu I (zR p0 0) (Int32.toNatClampNeg (I p0 6)) v1) (zR p0 1) (Int32.toNatClampNeg ((zu I (zR p0 0) (Int32.toNatClampNeg (I p0 6)) v1) p0 6)) v2) p0 6)) v3) (zR p0 3) (Int32.toNatClampNeg ((zu (zu (zu I (zR p0 0) (Int32.toNatClampNeg (I p0 6)) v1) (zR p0 1) (Int32.toNatClampNeg ((zu I (zR p0 0) (Int32.toNatClampNeg (I p0 6)) v1) p0 6)) v2) (zR p0 2) (Int32.toNatClampNeg ((zu (zu I (zR p0 0) (Int32.toNatClampNeg (I p0 6)) v1) (zR p0 1) (Int32.toNatClampNeg ((zu I (zR p0 0) (Int32.toNatClampNeg (I p0 6)) v1) p0 6)) v2) p0 6)) v3) p0 6)) v4) (zR p0 4) (Int32.toNatClampNeg ((zu (zu (zu (zu I (zR p0 0) (Int32.toNatClampNeg (I p0 6)) v1) (zR p0 1) (Int32.toNatClampNeg ((zu I (zR p0 0) (Int32.toNatClampNeg (I p0 6)) v1) p0 6)) v2) (zR p0 2) (Int32.toNatClampNeg ((zu (zu I (zR p0 0) (Int32.toNatClampNeg (I p0 6)) v1) (zR p0 1) (Int32.toNatClampNeg ((zu I (zR p0 0) (Int32.toNatClampNeg (I p0 6)) v1) p0 6)) v2) p0 6)) v3) (zR p0 3) (Int32.toNatClampNeg ((zu (zu (zu I (zR p0 0) (Int32.toNatClampNeg (I p0 6)) v1) (zR p0 1) (Int32.toNatClampNeg ((zu I (zR p0 0) (Int32.toNatClampNeg (I p0 6)) v1) p0 6)) v2) (zR p0 2) (Int32.toNatClampNeg ((zu (zu I (zR p0 0) (Int32.toNatClampNeg (I p0 6)) v1) (zR p0 1) (Int32.toNatClampNeg ((zu I (zR p0 0) (Int32.toNatClampNeg (I p0 6)) v1) p0 6)) v2) p0 6)) v3) p0 6)) v4) p0 6)) v5) (zR p0 5) (Int32.toNatClampNeg ((zu (zu (zu (zu (zu I (zR p0 0) (Int32.toNatClampNeg (I p0 6)) v1) (zR p0 1) (Int32.toNatClampNeg ((zu I (zR p0 0) (Int32.toNatClampNeg (I p0 6)) v1) p0 6)) v2) (zR p0 2) (Int32.toNatClampNeg ((zu (zu I (zR p0 0) (Int32.toNatClampNeg (I p0 6)) v1) (zR p0 1) (Int32.toNatClampNeg ((zu I (zR p0 0) (Int32.toNatClampNeg (I p0 6)) v1) p0 6)) v2) p0 6)) v3) (zR p0 3) (Int32.toNatClampNeg ((zu (zu (zu I (zR p0 0) (Int32.toNatClampNeg (I p0 6)) v1) (zR p0 1) (Int32.toNatClampNeg ((zu I (zR p0 0) (Int32.toNatClampNeg (I p0 6)) v1) p0 6)) v2) (zR p0 2) (Int32.toNatClampNeg ((zu (zu I (zR p0 0) (Int32.toNatClampNeg (I p0 6)) v1) (zR p0 1) (Int32.toNatClampNeg ((zu I (zR p0 0) (Int32.toNatClampNeg (I p0 6)) v1) p0 6)) v2) p0 6)) v3) p0 6)) v4) (zR p0 4) (Int32.toNatClampNeg ((zu (zu (zu (zu I (zR p0 0) (Int32.toNatClampNeg (I p0 6)) v1) (zR p0 1) (Int32.toNatClampNeg ((zu I (zR p0 0) (Int32.toNatClampNeg (I p0 6)) v1) p0 6)) v2) (zR p0 2) (Int32.toNatClampNeg ((zu (zu I (zR p0 0) (Int32.toNatClampNeg (I p0 6)) v1) (zR p0 1) (Int32.toNatClampNeg ((zu I (zR p0 0) (Int32.toNatClampNeg (I p0 6)) v1) p0 6)) v2) p0 6)) v3) (zR p0 3) (Int32.toNatClampNeg ((zu (zu (zu I (zR p0 0) (Int32.toNatClampNeg (I p0 6)) v1) (zR p0 1) (Int32.toNatClampNeg ((zu I (zR p0 0) (Int32.toNatClampNeg (I p0 6)) v1) p0 6)) v2) (zR p0 2) (Int32.toNatClampNeg ((zu (zu I (zR p0 0) (Int32.toNatClampNeg (I p0 6)) v1) (zR p0 1) (Int32.toNatClampNeg ((zu I (zR p0 0) (Int32.toNatClampNeg (I p0 6)) v1) p0 6)) v2) p0 6)) v3) p0 6)) v4) p0 6)) v5) p0 6)) v6) p0 6) + (1 : Int32))) else none) else none) else none) else none) else none) else none) else none) else some (I))
noncomputable abbrev rmX1_add : Room := { frames := 0, cells := 0, slots := 0, locals := 0 }
theorem zyX1_add : zY yX1_add wsX1_add cX1_add 7 none 6 := ⟨⟨_, rfl⟩, by decide +kernel⟩
set_option maxHeartbeats 1000000 in
set_option maxRecDepth 100000 in
theorem c_X1_add (B : zB) (I : zM) (J : zJ) (hJ : zJok J) (p0 : Nat) (k0 : zKW[p0]? = some (.inr 1)) (v1 : Int32) (v2 : Int32) (v3 : Int32) (v4 : Int32) (v5 : Int32) (v6 : Int32) (I' : zM) (hf : f_X1_add J p0 v1 v2 v3 v4 v5 v6 I = some I') : zCv B zKW I J yX1_add wsX1_add rmX1_add [.ref (za B p0), .int v1, .int v2, .int v3, .int v4, .int v5, .int v6] (fun I2 J2 => I2 = I' ∧ J2 = J) := by
  refine z_start (own := RX1) (cc := cX1_add) (nL := 7) (ret := none) rfl (by decide) rfl (Nat.le_of_ble_eq_true rfl) (L := [(0, .ref (za B p0)), (1, .int v1), (2, .int v2), (3, .int v3), (4, .int v4), (5, .int v5), (6, .int v6)]) rfl (fun G h hr => ?_)
  rw [f_X1_add] at hf
  refine z_aload_n h 0 dX1_add_0 rfl (rfl : 0 + 1 = 1) ?_
  refine z_get (ci := 1) (C := RX1) (T := TX1) (N := 9) h 6 k0 rfl (fun _ hq => List.mem_cons_of_mem _ (List.mem_append_right _ hq)) (by decide) (List.mem_of_getElem? (i := 1) rfl) rfl dX1_add_1 (rfl : 1 + 3 = 4) ?_
  refine z_bipush h 24 dX1_add_4 (by decide) (rfl : 4 + 2 = 6) ?_
  refine z_icmp_lt (pc' := 9) h 10 dX1_add_6 (by decide) rfl (fun c1 => ?_) (fun c1 => ?_)
  · have hf := zitt c1 hf
    refine z_aload_n h 0 dX1_add_10 rfl (rfl : 10 + 1 = 11) ?_
    refine z_getr (ci := 1) (C := RX1) (T := TX1) (N := 9) h 0 (zR p0 0) (zf_1_0 hJ k0).1 k0 rfl (fun _ hq => List.mem_cons_of_mem _ (List.mem_append_right _ hq)) (by decide) (List.mem_of_getElem? (i := 2) rfl) rfl dX1_add_11 (rfl : 11 + 3 = 14) ?_
    refine z_aload_n h 0 dX1_add_14 rfl (rfl : 14 + 1 = 15) ?_
    refine z_get (ci := 1) (C := RX1) (T := TX1) (N := 9) h 6 k0 rfl (fun _ hq => List.mem_cons_of_mem _ (List.mem_append_right _ hq)) (by decide) (List.mem_of_getElem? (i := 1) rfl) rfl dX1_add_15 (rfl : 15 + 3 = 18) ?_
    refine z_iload_n h 1 dX1_add_18 rfl (rfl : 18 + 1 = 19) ?_
    obtain ⟨b2, hf⟩ := zchk hf
    refine z_iast h b2 (zf_1_0 hJ k0).2 dX1_add_19 (rfl : 19 + 1 = 20) ?_
    refine z_aload_n h 0 dX1_add_20 rfl (rfl : 20 + 1 = 21) ?_
    refine z_getr (ci := 1) (C := RX1) (T := TX1) (N := 9) h 1 (zR p0 1) (zf_1_1 hJ k0).1 k0 rfl (fun _ hq => List.mem_cons_of_mem _ (List.mem_append_right _ hq)) (by decide) (List.mem_of_getElem? (i := 3) rfl) rfl dX1_add_21 (rfl : 21 + 3 = 24) ?_
    refine z_aload_n h 0 dX1_add_24 rfl (rfl : 24 + 1 = 25) ?_
    refine z_get (ci := 1) (C := RX1) (T := TX1) (N := 9) h 6 k0 rfl (fun _ hq => List.mem_cons_of_mem _ (List.mem_append_right _ hq)) (by decide) (List.mem_of_getElem? (i := 1) rfl) rfl dX1_add_25 (rfl : 25 + 3 = 28) ?_
    refine z_iload_n h 2 dX1_add_28 rfl (rfl : 28 + 1 = 29) ?_
    obtain ⟨b3, hf⟩ := zchk hf
    refine z_iast h b3 (zf_1_1 hJ k0).2 dX1_add_29 (rfl : 29 + 1 = 30) ?_
    refine z_aload_n h 0 dX1_add_30 rfl (rfl : 30 + 1 = 31) ?_
    refine z_getr (ci := 1) (C := RX1) (T := TX1) (N := 9) h 2 (zR p0 2) (zf_1_2 hJ k0).1 k0 rfl (fun _ hq => List.mem_cons_of_mem _ (List.mem_append_right _ hq)) (by decide) (List.mem_of_getElem? (i := 4) rfl) rfl dX1_add_31 (rfl : 31 + 3 = 34) ?_
    refine z_aload_n h 0 dX1_add_34 rfl (rfl : 34 + 1 = 35) ?_
    refine z_get (ci := 1) (C := RX1) (T := TX1) (N := 9) h 6 k0 rfl (fun _ hq => List.mem_cons_of_mem _ (List.mem_append_right _ hq)) (by decide) (List.mem_of_getElem? (i := 1) rfl) rfl dX1_add_35 (rfl : 35 + 3 = 38) ?_
    refine z_iload_n h 3 dX1_add_38 rfl (rfl : 38 + 1 = 39) ?_
    obtain ⟨b4, hf⟩ := zchk hf
    refine z_iast h b4 (zf_1_2 hJ k0).2 dX1_add_39 (rfl : 39 + 1 = 40) ?_
    refine z_aload_n h 0 dX1_add_40 rfl (rfl : 40 + 1 = 41) ?_
    refine z_getr (ci := 1) (C := RX1) (T := TX1) (N := 9) h 3 (zR p0 3) (zf_1_3 hJ k0).1 k0 rfl (fun _ hq => List.mem_cons_of_mem _ (List.mem_append_right _ hq)) (by decide) (List.mem_of_getElem? (i := 5) rfl) rfl dX1_add_41 (rfl : 41 + 3 = 44) ?_
    refine z_aload_n h 0 dX1_add_44 rfl (rfl : 44 + 1 = 45) ?_
    refine z_get (ci := 1) (C := RX1) (T := TX1) (N := 9) h 6 k0 rfl (fun _ hq => List.mem_cons_of_mem _ (List.mem_append_right _ hq)) (by decide) (List.mem_of_getElem? (i := 1) rfl) rfl dX1_add_45 (rfl : 45 + 3 = 48) ?_
    refine z_iload h 4 dX1_add_48 rfl (rfl : 48 + 2 = 50) ?_
    obtain ⟨b5, hf⟩ := zchk hf
    refine z_iast h b5 (zf_1_3 hJ k0).2 dX1_add_50 (rfl : 50 + 1 = 51) ?_
    refine z_aload_n h 0 dX1_add_51 rfl (rfl : 51 + 1 = 52) ?_
    refine z_getr (ci := 1) (C := RX1) (T := TX1) (N := 9) h 4 (zR p0 4) (zf_1_4 hJ k0).1 k0 rfl (fun _ hq => List.mem_cons_of_mem _ (List.mem_append_right _ hq)) (by decide) (List.mem_of_getElem? (i := 6) rfl) rfl dX1_add_52 (rfl : 52 + 3 = 55) ?_
    refine z_aload_n h 0 dX1_add_55 rfl (rfl : 55 + 1 = 56) ?_
    refine z_get (ci := 1) (C := RX1) (T := TX1) (N := 9) h 6 k0 rfl (fun _ hq => List.mem_cons_of_mem _ (List.mem_append_right _ hq)) (by decide) (List.mem_of_getElem? (i := 1) rfl) rfl dX1_add_56 (rfl : 56 + 3 = 59) ?_
    refine z_iload h 5 dX1_add_59 rfl (rfl : 59 + 2 = 61) ?_
    obtain ⟨b6, hf⟩ := zchk hf
    refine z_iast h b6 (zf_1_4 hJ k0).2 dX1_add_61 (rfl : 61 + 1 = 62) ?_
    refine z_aload_n h 0 dX1_add_62 rfl (rfl : 62 + 1 = 63) ?_
    refine z_getr (ci := 1) (C := RX1) (T := TX1) (N := 9) h 5 (zR p0 5) (zf_1_5 hJ k0).1 k0 rfl (fun _ hq => List.mem_cons_of_mem _ (List.mem_append_right _ hq)) (by decide) (List.mem_of_getElem? (i := 7) rfl) rfl dX1_add_63 (rfl : 63 + 3 = 66) ?_
    refine z_aload_n h 0 dX1_add_66 rfl (rfl : 66 + 1 = 67) ?_
    refine z_get (ci := 1) (C := RX1) (T := TX1) (N := 9) h 6 k0 rfl (fun _ hq => List.mem_cons_of_mem _ (List.mem_append_right _ hq)) (by decide) (List.mem_of_getElem? (i := 1) rfl) rfl dX1_add_67 (rfl : 67 + 3 = 70) ?_
    refine z_iload h 6 dX1_add_70 rfl (rfl : 70 + 2 = 72) ?_
    obtain ⟨b7, hf⟩ := zchk hf
    obtain ⟨b8, hf⟩ := zchk hf
    refine z_zast h b7 b8 (zf_1_5 hJ k0).2 dX1_add_72 (rfl : 72 + 1 = 73) ?_
    refine z_aload_n h 0 dX1_add_73 rfl (rfl : 73 + 1 = 74) ?_
    refine z_dup h rfl dX1_add_74 (rfl : 74 + 1 = 75) ?_
    refine z_get (ci := 1) (C := RX1) (T := TX1) (N := 9) h 6 k0 rfl (fun _ hq => List.mem_cons_of_mem _ (List.mem_append_right _ hq)) (by decide) (List.mem_of_getElem? (i := 1) rfl) rfl dX1_add_75 (rfl : 75 + 3 = 78) ?_
    refine z_iconst h 1 dX1_add_78 (by decide) (rfl : 78 + 1 = 79) ?_
    refine z_iadd h dX1_add_79 (rfl : 79 + 1 = 80) ?_
    refine z_put (ci := 1) (C := RX1) (T := TX1) (N := 9) h 6 tyX1 tyX1_ok nmX1 k0 rfl (fun _ hq => List.mem_cons_of_mem _ (List.mem_append_right _ hq)) (by decide) (List.mem_of_getElem? (i := 1) rfl) rfl rfl rfl dX1_add_80 (rfl : 80 + 3 = 83) ?_
    refine z_vret h hr dX1_add_83 ?_
    exact ⟨(zsome hf), rfl⟩
  · have hf := zitf c1 hf
    refine z_vret h hr dX1_add_9 ?_
    exact ⟨(zsome hf), rfl⟩
noncomputable def f_X1_copy (J : zJ) (p0 : Nat) (p1 : Nat) (I : zM) : Option (zM) := (if zfit ((zcp (zcp (zcp (zcp (zcp I (zR p1 0) (zR p0 0) 24) (zR p1 1) (zR p0 1) 24) (zR p1 2) (zR p0 2) 24) (zR p1 3) (zR p0 3) 24) (zR p1 4) (zR p0 4) 24) (zR p1 5)) 24 = true then some (zu (zu (zcp (zcp (zcp (zcp (zcp (zcp I (zR p1 0) (zR p0 0) 24) (zR p1 1) (zR p0 1) 24) (zR p1 2) (zR p0 2) 24) (zR p1 3) (zR p0 3) 24) (zR p1 4) (zR p0 4) 24) (zR p1 5) (zR p0 5) 24) p0 6 ((zcp (zcp (zcp (zcp (zcp (zcp I (zR p1 0) (zR p0 0) 24) (zR p1 1) (zR p0 1) 24) (zR p1 2) (zR p0 2) 24) (zR p1 3) (zR p0 3) 24) (zR p1 4) (zR p0 4) 24) (zR p1 5) (zR p0 5) 24) p1 6)) p0 7 ((zu (zcp (zcp (zcp (zcp (zcp (zcp I (zR p1 0) (zR p0 0) 24) (zR p1 1) (zR p0 1) 24) (zR p1 2) (zR p0 2) 24) (zR p1 3) (zR p0 3) 24) (zR p1 4) (zR p0 4) 24) (zR p1 5) (zR p0 5) 24) p0 6 ((zcp (zcp (zcp (zcp (zcp (zcp I (zR p1 0) (zR p0 0) 24) (zR p1 1) (zR p0 1) 24) (zR p1 2) (zR p0 2) 24) (zR p1 3) (zR p0 3) 24) (zR p1 4) (zR p0 4) 24) (zR p1 5) (zR p0 5) 24) p1 6)) p1 7)) else none)
noncomputable abbrev rmX1_copy : Room := { frames := 1, cells := 0, slots := 0, locals := 26 }
theorem zyX1_copy : zY yX1_copy wsX1_copy cX1_copy 2 none 1 := ⟨⟨_, rfl⟩, by decide +kernel⟩
set_option maxHeartbeats 1000000 in
set_option maxRecDepth 100000 in
theorem c_X1_copy (B : zB) (I : zM) (J : zJ) (hJ : zJok J) (p0 : Nat) (k0 : zKW[p0]? = some (.inr 1)) (p1 : Nat) (k1 : zKW[p1]? = some (.inr 1)) (I' : zM) (hf : f_X1_copy J p0 p1 I = some I') : zCv B zKW I J yX1_copy wsX1_copy rmX1_copy [.ref (za B p0), .ref (za B p1)] (fun I2 J2 => I2 = I' ∧ J2 = J) := by
  refine z_start (own := RX1) (cc := cX1_copy) (nL := 2) (ret := none) rfl (by decide) rfl (Nat.le_of_ble_eq_true rfl) (L := [(0, .ref (za B p0)), (1, .ref (za B p1))]) rfl (fun G h hr => ?_)
  rw [f_X1_copy] at hf
  refine z_aload_n h 1 dX1_copy_0 rfl (rfl : 0 + 1 = 1) ?_
  refine z_getr (ci := 1) (C := RX1) (T := TX1) (N := 9) h 0 (zR p1 0) (zf_1_0 hJ k1).1 k1 rfl (fun _ hq => List.mem_cons_of_mem _ (List.mem_append_right _ hq)) (by decide) (List.mem_of_getElem? (i := 1) rfl) rfl dX1_copy_1 (rfl : 1 + 3 = 4) ?_
  refine z_iconst h 0 dX1_copy_4 (by decide) (rfl : 4 + 1 = 5) ?_
  refine z_aload_n h 0 dX1_copy_5 rfl (rfl : 5 + 1 = 6) ?_
  refine z_getr (ci := 1) (C := RX1) (T := TX1) (N := 9) h 0 (zR p0 0) (zf_1_0 hJ k0).1 k0 rfl (fun _ hq => List.mem_cons_of_mem _ (List.mem_append_right _ hq)) (by decide) (List.mem_of_getElem? (i := 1) rfl) rfl dX1_copy_6 (rfl : 6 + 3 = 9) ?_
  refine z_iconst h 0 dX1_copy_9 (by decide) (rfl : 9 + 1 = 10) ?_
  refine z_bipush h 24 dX1_copy_10 (by decide) (rfl : 10 + 2 = 12) ?_
  refine z_copy (n := 24) h (zf_1_0 hJ k1).2 (zf_1_0 hJ k0).2 (by decide) (by decide) (by decide) (by decide) (by decide) (fun _ _ => rfl) (List.mem_of_getElem? (i := 2) rfl) (List.mem_of_getElem? (i := 3) rfl) (List.mem_of_getElem? (i := 4) rfl) (List.mem_of_getElem? (i := 5) rfl) (by decide) dX1_copy_12 (rfl : 12 + 3 = 15) ?_
  refine z_aload_n h 1 dX1_copy_15 rfl (rfl : 15 + 1 = 16) ?_
  refine z_getr (ci := 1) (C := RX1) (T := TX1) (N := 9) h 1 (zR p1 1) (zf_1_1 hJ k1).1 k1 rfl (fun _ hq => List.mem_cons_of_mem _ (List.mem_append_right _ hq)) (by decide) (List.mem_of_getElem? (i := 6) rfl) rfl dX1_copy_16 (rfl : 16 + 3 = 19) ?_
  refine z_iconst h 0 dX1_copy_19 (by decide) (rfl : 19 + 1 = 20) ?_
  refine z_aload_n h 0 dX1_copy_20 rfl (rfl : 20 + 1 = 21) ?_
  refine z_getr (ci := 1) (C := RX1) (T := TX1) (N := 9) h 1 (zR p0 1) (zf_1_1 hJ k0).1 k0 rfl (fun _ hq => List.mem_cons_of_mem _ (List.mem_append_right _ hq)) (by decide) (List.mem_of_getElem? (i := 6) rfl) rfl dX1_copy_21 (rfl : 21 + 3 = 24) ?_
  refine z_iconst h 0 dX1_copy_24 (by decide) (rfl : 24 + 1 = 25) ?_
  refine z_bipush h 24 dX1_copy_25 (by decide) (rfl : 25 + 2 = 27) ?_
  refine z_copy (n := 24) h (zf_1_1 hJ k1).2 (zf_1_1 hJ k0).2 (by decide) (by decide) (by decide) (by decide) (by decide) (fun _ _ => rfl) (List.mem_of_getElem? (i := 2) rfl) (List.mem_of_getElem? (i := 3) rfl) (List.mem_of_getElem? (i := 4) rfl) (List.mem_of_getElem? (i := 5) rfl) (by decide) dX1_copy_27 (rfl : 27 + 3 = 30) ?_
  refine z_aload_n h 1 dX1_copy_30 rfl (rfl : 30 + 1 = 31) ?_
  refine z_getr (ci := 1) (C := RX1) (T := TX1) (N := 9) h 2 (zR p1 2) (zf_1_2 hJ k1).1 k1 rfl (fun _ hq => List.mem_cons_of_mem _ (List.mem_append_right _ hq)) (by decide) (List.mem_of_getElem? (i := 7) rfl) rfl dX1_copy_31 (rfl : 31 + 3 = 34) ?_
  refine z_iconst h 0 dX1_copy_34 (by decide) (rfl : 34 + 1 = 35) ?_
  refine z_aload_n h 0 dX1_copy_35 rfl (rfl : 35 + 1 = 36) ?_
  refine z_getr (ci := 1) (C := RX1) (T := TX1) (N := 9) h 2 (zR p0 2) (zf_1_2 hJ k0).1 k0 rfl (fun _ hq => List.mem_cons_of_mem _ (List.mem_append_right _ hq)) (by decide) (List.mem_of_getElem? (i := 7) rfl) rfl dX1_copy_36 (rfl : 36 + 3 = 39) ?_
  refine z_iconst h 0 dX1_copy_39 (by decide) (rfl : 39 + 1 = 40) ?_
  refine z_bipush h 24 dX1_copy_40 (by decide) (rfl : 40 + 2 = 42) ?_
  refine z_copy (n := 24) h (zf_1_2 hJ k1).2 (zf_1_2 hJ k0).2 (by decide) (by decide) (by decide) (by decide) (by decide) (fun _ _ => rfl) (List.mem_of_getElem? (i := 2) rfl) (List.mem_of_getElem? (i := 3) rfl) (List.mem_of_getElem? (i := 4) rfl) (List.mem_of_getElem? (i := 5) rfl) (by decide) dX1_copy_42 (rfl : 42 + 3 = 45) ?_
  refine z_aload_n h 1 dX1_copy_45 rfl (rfl : 45 + 1 = 46) ?_
  refine z_getr (ci := 1) (C := RX1) (T := TX1) (N := 9) h 3 (zR p1 3) (zf_1_3 hJ k1).1 k1 rfl (fun _ hq => List.mem_cons_of_mem _ (List.mem_append_right _ hq)) (by decide) (List.mem_of_getElem? (i := 8) rfl) rfl dX1_copy_46 (rfl : 46 + 3 = 49) ?_
  refine z_iconst h 0 dX1_copy_49 (by decide) (rfl : 49 + 1 = 50) ?_
  refine z_aload_n h 0 dX1_copy_50 rfl (rfl : 50 + 1 = 51) ?_
  refine z_getr (ci := 1) (C := RX1) (T := TX1) (N := 9) h 3 (zR p0 3) (zf_1_3 hJ k0).1 k0 rfl (fun _ hq => List.mem_cons_of_mem _ (List.mem_append_right _ hq)) (by decide) (List.mem_of_getElem? (i := 8) rfl) rfl dX1_copy_51 (rfl : 51 + 3 = 54) ?_
  refine z_iconst h 0 dX1_copy_54 (by decide) (rfl : 54 + 1 = 55) ?_
  refine z_bipush h 24 dX1_copy_55 (by decide) (rfl : 55 + 2 = 57) ?_
  refine z_copy (n := 24) h (zf_1_3 hJ k1).2 (zf_1_3 hJ k0).2 (by decide) (by decide) (by decide) (by decide) (by decide) (fun _ _ => rfl) (List.mem_of_getElem? (i := 2) rfl) (List.mem_of_getElem? (i := 3) rfl) (List.mem_of_getElem? (i := 4) rfl) (List.mem_of_getElem? (i := 5) rfl) (by decide) dX1_copy_57 (rfl : 57 + 3 = 60) ?_
  refine z_aload_n h 1 dX1_copy_60 rfl (rfl : 60 + 1 = 61) ?_
  refine z_getr (ci := 1) (C := RX1) (T := TX1) (N := 9) h 4 (zR p1 4) (zf_1_4 hJ k1).1 k1 rfl (fun _ hq => List.mem_cons_of_mem _ (List.mem_append_right _ hq)) (by decide) (List.mem_of_getElem? (i := 9) rfl) rfl dX1_copy_61 (rfl : 61 + 3 = 64) ?_
  refine z_iconst h 0 dX1_copy_64 (by decide) (rfl : 64 + 1 = 65) ?_
  refine z_aload_n h 0 dX1_copy_65 rfl (rfl : 65 + 1 = 66) ?_
  refine z_getr (ci := 1) (C := RX1) (T := TX1) (N := 9) h 4 (zR p0 4) (zf_1_4 hJ k0).1 k0 rfl (fun _ hq => List.mem_cons_of_mem _ (List.mem_append_right _ hq)) (by decide) (List.mem_of_getElem? (i := 9) rfl) rfl dX1_copy_66 (rfl : 66 + 3 = 69) ?_
  refine z_iconst h 0 dX1_copy_69 (by decide) (rfl : 69 + 1 = 70) ?_
  refine z_bipush h 24 dX1_copy_70 (by decide) (rfl : 70 + 2 = 72) ?_
  refine z_copy (n := 24) h (zf_1_4 hJ k1).2 (zf_1_4 hJ k0).2 (by decide) (by decide) (by decide) (by decide) (by decide) (fun _ _ => rfl) (List.mem_of_getElem? (i := 2) rfl) (List.mem_of_getElem? (i := 3) rfl) (List.mem_of_getElem? (i := 4) rfl) (List.mem_of_getElem? (i := 5) rfl) (by decide) dX1_copy_72 (rfl : 72 + 3 = 75) ?_
  refine z_aload_n h 1 dX1_copy_75 rfl (rfl : 75 + 1 = 76) ?_
  refine z_getr (ci := 1) (C := RX1) (T := TX1) (N := 9) h 5 (zR p1 5) (zf_1_5 hJ k1).1 k1 rfl (fun _ hq => List.mem_cons_of_mem _ (List.mem_append_right _ hq)) (by decide) (List.mem_of_getElem? (i := 10) rfl) rfl dX1_copy_76 (rfl : 76 + 3 = 79) ?_
  refine z_iconst h 0 dX1_copy_79 (by decide) (rfl : 79 + 1 = 80) ?_
  refine z_aload_n h 0 dX1_copy_80 rfl (rfl : 80 + 1 = 81) ?_
  refine z_getr (ci := 1) (C := RX1) (T := TX1) (N := 9) h 5 (zR p0 5) (zf_1_5 hJ k0).1 k0 rfl (fun _ hq => List.mem_cons_of_mem _ (List.mem_append_right _ hq)) (by decide) (List.mem_of_getElem? (i := 10) rfl) rfl dX1_copy_81 (rfl : 81 + 3 = 84) ?_
  refine z_iconst h 0 dX1_copy_84 (by decide) (rfl : 84 + 1 = 85) ?_
  refine z_bipush h 24 dX1_copy_85 (by decide) (rfl : 85 + 2 = 87) ?_
  obtain ⟨b1, hf⟩ := zchk hf
  refine z_copy (n := 24) h (zf_1_5 hJ k1).2 (zf_1_5 hJ k0).2 (by decide) (by decide) (by decide) (by decide) (by decide) (zfit_all b1) (List.mem_of_getElem? (i := 2) rfl) (List.mem_of_getElem? (i := 3) rfl) (List.mem_of_getElem? (i := 4) rfl) (List.mem_of_getElem? (i := 5) rfl) (by decide) dX1_copy_87 (rfl : 87 + 3 = 90) ?_
  refine z_aload_n h 0 dX1_copy_90 rfl (rfl : 90 + 1 = 91) ?_
  refine z_aload_n h 1 dX1_copy_91 rfl (rfl : 91 + 1 = 92) ?_
  refine z_get (ci := 1) (C := RX1) (T := TX1) (N := 9) h 6 k1 rfl (fun _ hq => List.mem_cons_of_mem _ (List.mem_append_right _ hq)) (by decide) (List.mem_of_getElem? (i := 11) rfl) rfl dX1_copy_92 (rfl : 92 + 3 = 95) ?_
  refine z_put (ci := 1) (C := RX1) (T := TX1) (N := 9) h 6 tyX1 tyX1_ok nmX1 k0 rfl (fun _ hq => List.mem_cons_of_mem _ (List.mem_append_right _ hq)) (by decide) (List.mem_of_getElem? (i := 11) rfl) rfl rfl rfl dX1_copy_95 (rfl : 95 + 3 = 98) ?_
  refine z_aload_n h 0 dX1_copy_98 rfl (rfl : 98 + 1 = 99) ?_
  refine z_aload_n h 1 dX1_copy_99 rfl (rfl : 99 + 1 = 100) ?_
  refine z_get (ci := 1) (C := RX1) (T := TX1) (N := 9) h 7 k1 rfl (fun _ hq => List.mem_cons_of_mem _ (List.mem_append_right _ hq)) (by decide) (List.mem_of_getElem? (i := 12) rfl) rfl dX1_copy_100 (rfl : 100 + 3 = 103) ?_
  refine z_put (ci := 1) (C := RX1) (T := TX1) (N := 9) h 7 tyX1 tyX1_ok nmX1 k0 rfl (fun _ hq => List.mem_cons_of_mem _ (List.mem_append_right _ hq)) (by decide) (List.mem_of_getElem? (i := 12) rfl) rfl rfl rfl dX1_copy_103 (rfl : 103 + 3 = 106) ?_
  refine z_vret h hr dX1_copy_106 ?_
  exact ⟨(zsome hf), rfl⟩
noncomputable def f_X11_bit (J : zJ) (v0 : Int32) (v1 : Int32) (I : zM) : Option (Int32 × zM) := some (((v0 >>> (v1 &&& 31)) &&& (1 : Int32), I))
noncomputable abbrev rmX11_bit : Room := { frames := 0, cells := 0, slots := 0, locals := 0 }
theorem zyX11_bit : zY yX11_bit wsX11_bit cX11_bit 2 (some .int) 2 := ⟨⟨_, rfl⟩, by decide +kernel⟩
set_option maxHeartbeats 1000000 in
set_option maxRecDepth 100000 in
theorem c_X11_bit (B : zB) (I : zM) (J : zJ) (hJ : zJok J) (v0 : Int32) (v1 : Int32) (r : Int32) (I' : zM) (hf : f_X11_bit J v0 v1 I = some (r, I')) : zCi B zKW I J yX11_bit wsX11_bit rmX11_bit [.int v0, .int v1] (fun r2 I2 J2 => r2 = r ∧ I2 = I' ∧ J2 = J) := by
  refine z_start (own := RX11) (cc := cX11_bit) (nL := 2) (ret := (some .int)) rfl (by decide) rfl (Nat.le_of_ble_eq_true rfl) (L := [(0, .int v0), (1, .int v1)]) rfl (fun G h hr => ?_)
  rw [f_X11_bit] at hf
  refine z_iload_n h 0 dX11_bit_0 rfl (rfl : 0 + 1 = 1) ?_
  refine z_iload_n h 1 dX11_bit_1 rfl (rfl : 1 + 1 = 2) ?_
  refine z_ishr h dX11_bit_2 (rfl : 2 + 1 = 3) ?_
  refine z_iconst h 1 dX11_bit_3 (by decide) (rfl : 3 + 1 = 4) ?_
  refine z_iand h dX11_bit_4 (rfl : 4 + 1 = 5) ?_
  refine z_iret h hr dX11_bit_5 ?_
  exact ⟨congrArg Prod.fst (zsome hf), congrArg Prod.snd (zsome hf), rfl⟩
noncomputable def f_X1_isKnown_20 (J : zJ) (r0 : Nat) (u1 : Int32) (u2 : Int32) : Nat → Int32 → zM → Option ((Int32 × zM) ⊕ (Int32 × zM))
  | 0, _, _ => none
  | n + 1, x3_20, I20 => (if I20 r0 6 ≤ x3_20 then some (.inr (x3_20, I20)) else (if zin x3_20 24 = true then (if I20 (zR r0 2) (Int32.toNatClampNeg x3_20) = u2 then (if zin x3_20 24 = true then (if I20 (zR r0 0) (Int32.toNatClampNeg x3_20) = u1 then some (.inl ((1, I20))) else (if zin x3_20 24 = true then (if I20 (zR r0 1) (Int32.toNatClampNeg x3_20) = u1 then some (.inl ((1, I20))) else f_X1_isKnown_20 J r0 u1 u2 n (x3_20 + 1) I20) else none)) else none) else f_X1_isKnown_20 J r0 u1 u2 n (x3_20 + 1) I20) else none))
noncomputable def f_X1_isKnown (J : zJ) (p0 : Nat) (v1 : Int32) (v2 : Int32) (I : zM) : Option (Int32 × zM) := ((f_X11_bit J (I p0 7) ((v1 * (3 : Int32)) + v2) I).bind fun q1 => (if q1.1 = 1 then some ((1, q1.2)) else ((f_X1_isKnown_20 J p0 v1 v2 zF 0 q1.2).bind fun q => Sum.elim (fun a => some a) (fun a6 => some ((0, a6.2))) q)))
noncomputable abbrev rmX1_isKnown : Room := { frames := 1, cells := 0, slots := 0, locals := 21 }
theorem zyX1_isKnown : zY yX1_isKnown wsX1_isKnown cX1_isKnown 4 (some .boolean) 2 := ⟨⟨_, rfl⟩, by decide +kernel⟩
theorem zrX1_isKnown_X11_bit : zRm rmX11_bit rmX1_isKnown 2 := ⟨rfl, rfl, by decide, by decide⟩
set_option maxHeartbeats 1000000 in
set_option maxRecDepth 100000 in
theorem c_X1_isKnown (B : zB) (I : zM) (J : zJ) (hJ : zJok J) (p0 : Nat) (k0 : zKW[p0]? = some (.inr 1)) (v1 : Int32) (v2 : Int32) (r : Int32) (I' : zM) (hf : f_X1_isKnown J p0 v1 v2 I = some (r, I')) : zCi B zKW I J yX1_isKnown wsX1_isKnown rmX1_isKnown [.ref (za B p0), .int v1, .int v2] (fun r2 I2 J2 => r2 = r ∧ I2 = I' ∧ J2 = J) := by
  refine z_start (own := RX1) (cc := cX1_isKnown) (nL := 4) (ret := (some .boolean)) rfl (by decide) rfl (Nat.le_of_ble_eq_true rfl) (L := [(0, .ref (za B p0)), (1, .int v1), (2, .int v2)]) rfl (fun G h hr => ?_)
  rw [f_X1_isKnown] at hf
  refine z_aload_n h 0 dX1_isKnown_0 rfl (rfl : 0 + 1 = 1) ?_
  refine z_get (ci := 1) (C := RX1) (T := TX1) (N := 9) h 7 k0 rfl (fun _ hq => List.mem_cons_of_mem _ (List.mem_append_right _ hq)) (by decide) (List.mem_of_getElem? (i := 1) rfl) rfl dX1_isKnown_1 (rfl : 1 + 3 = 4) ?_
  refine z_iload_n h 1 dX1_isKnown_4 rfl (rfl : 4 + 1 = 5) ?_
  refine z_iconst h 3 dX1_isKnown_5 (by decide) (rfl : 5 + 1 = 6) ?_
  refine z_imul h dX1_isKnown_6 (rfl : 6 + 1 = 7) ?_
  refine z_iload_n h 2 dX1_isKnown_7 rfl (rfl : 7 + 1 = 8) ?_
  refine z_iadd h dX1_isKnown_8 (rfl : 8 + 1 = 9) ?_
  obtain ⟨q1, e2, hf⟩ := zbind hf
  refine z_goF (z_runSN (host := "LeftOut") h [.int (I p0 7), .int ((v1 * (3 : Int32)) + v2)] [] zyX11_bit (c_X11_bit B I J hJ (I p0 7) ((v1 * (3 : Int32)) + v2) _ _ e2) gX1_isKnown_X11_bit_n47 (List.mem_of_getElem? (i := 10) rfl) (List.mem_of_getElem? (i := 6) rfl) (List.mem_of_getElem? (i := 7) rfl) zrX1_isKnown_X11_bit rfl (Nat.le_of_ble_eq_true rfl) ⟨Nat.zero_le _, Nat.zero_le _⟩ rfl dX1_isKnown_9) rfl ?_
  refine z_iconst h 1 dX1_isKnown_12 (by decide) (rfl : 12 + 1 = 13) ?_
  refine z_icmp_ne (pc' := 16) h 18 dX1_isKnown_13 (by decide) rfl (fun c3 => ?_) (fun c3 => ?_)
  · have hf := zitf c3 hf
    refine z_iconst h 0 dX1_isKnown_18 (by decide) (rfl : 18 + 1 = 19) ?_
    refine z_istore_n h [(3, .int 0), (0, .ref (za B p0)), (1, .int v1), (2, .int v2)] dX1_isKnown_19 (by decide) rfl (rfl : 19 + 1 = 20) ?_
    have loop_20_5 : ∀ (n : Nat) (x3_20 : Int32) (I20 : zM) (q : (Int32 × zM) ⊕ (Int32 × zM)), f_X1_isKnown_20 J p0 v1 v2 n x3_20 I20 = some q → (∀ a, q = .inl a → a = (r, I')) → (∀ a : Int32 × zM, q = .inr a → Z B G zKW (a.2) (J) (0, 0) 66 [(0, .ref (za B p0)), (1, .int v1), (2, .int v2), (3, .int a.1)] []) → Z B G zKW I20 J (0, 0) 20 [(0, .ref (za B p0)), (1, .int v1), (2, .int v2), (3, .int x3_20)] [] := by
      intro n; induction n with
      | zero => intro x3_20 I20 q hf; exact absurd hf (by rw [f_X1_isKnown_20]; exact fun z => by cases z)
      | succ n ih =>
        intro x3_20 I20 q hf hP hE; rw [f_X1_isKnown_20] at hf
        refine z_iload_n h 3 dX1_isKnown_20 rfl (rfl : 20 + 1 = 21) ?_
        refine z_aload_n h 0 dX1_isKnown_21 rfl (rfl : 21 + 1 = 22) ?_
        refine z_get (ci := 1) (C := RX1) (T := TX1) (N := 9) h 6 k0 rfl (fun _ hq => List.mem_cons_of_mem _ (List.mem_append_right _ hq)) (by decide) (List.mem_of_getElem? (i := 2) rfl) rfl dX1_isKnown_22 (rfl : 22 + 3 = 25) ?_
        refine z_icmp_ge (pc' := 28) h 66 dX1_isKnown_25 (by decide) rfl (fun c6 => ?_) (fun c6 => ?_)
        · have hf := zitt c6 hf
          exact hE (x3_20, I20) (zsome hf).symm
        · have hf := zitf c6 hf
          refine z_aload_n h 0 dX1_isKnown_28 rfl (rfl : 28 + 1 = 29) ?_
          refine z_getr (ci := 1) (C := RX1) (T := TX1) (N := 9) h 2 (zR p0 2) (zf_1_2 hJ k0).1 k0 rfl (fun _ hq => List.mem_cons_of_mem _ (List.mem_append_right _ hq)) (by decide) (List.mem_of_getElem? (i := 3) rfl) rfl dX1_isKnown_29 (rfl : 29 + 3 = 32) ?_
          refine z_iload_n h 3 dX1_isKnown_32 rfl (rfl : 32 + 1 = 33) ?_
          obtain ⟨b7, hf⟩ := zchk hf
          refine z_iald h (zf_1_2 hJ k0).2 b7 dX1_isKnown_33 (rfl : 33 + 1 = 34) ?_
          refine z_iload_n h 2 dX1_isKnown_34 rfl (rfl : 34 + 1 = 35) ?_
          refine z_icmp_ne (pc' := 38) h 60 dX1_isKnown_35 (by decide) rfl (fun c8 => ?_) (fun c8 => ?_)
          · have hf := zitf c8 hf
            refine z_iinc h 3 (x3_20 + 1) [(3, .int (x3_20 + 1)), (0, .ref (za B p0)), (1, .int v1), (2, .int v2)] dX1_isKnown_60 rfl rfl (by decide) rfl (rfl : 60 + 3 = 63) ?_
            refine z_goto (pc' := 20) h dX1_isKnown_63 (by decide) ?_
            refine z_sub (L' := [(0, .ref (za B p0)), (1, .int v1), (2, .int v2), (3, .int (x3_20 + 1))]) [1, 2, 3, 0] rfl ?_
            exact ih (x3_20 + 1) I20 _ hf hP hE
          · have hf := zitt c8 hf
            refine z_aload_n h 0 dX1_isKnown_38 rfl (rfl : 38 + 1 = 39) ?_
            refine z_getr (ci := 1) (C := RX1) (T := TX1) (N := 9) h 0 (zR p0 0) (zf_1_0 hJ k0).1 k0 rfl (fun _ hq => List.mem_cons_of_mem _ (List.mem_append_right _ hq)) (by decide) (List.mem_of_getElem? (i := 4) rfl) rfl dX1_isKnown_39 (rfl : 39 + 3 = 42) ?_
            refine z_iload_n h 3 dX1_isKnown_42 rfl (rfl : 42 + 1 = 43) ?_
            obtain ⟨b9, hf⟩ := zchk hf
            refine z_iald h (zf_1_0 hJ k0).2 b9 dX1_isKnown_43 (rfl : 43 + 1 = 44) ?_
            refine z_iload_n h 1 dX1_isKnown_44 rfl (rfl : 44 + 1 = 45) ?_
            refine z_icmp_eq (pc' := 48) h 58 dX1_isKnown_45 (by decide) rfl (fun c10 => ?_) (fun c10 => ?_)
            · have hf := zitt c10 hf
              refine z_iconst h 1 dX1_isKnown_58 (by decide) (rfl : 58 + 1 = 59) ?_
              refine z_zret h hr dX1_isKnown_59 (Or.inr rfl) ?_
              exact ⟨congrArg Prod.fst (hP _ (zsome hf).symm), congrArg Prod.snd (hP _ (zsome hf).symm), rfl⟩
            · have hf := zitf c10 hf
              refine z_aload_n h 0 dX1_isKnown_48 rfl (rfl : 48 + 1 = 49) ?_
              refine z_getr (ci := 1) (C := RX1) (T := TX1) (N := 9) h 1 (zR p0 1) (zf_1_1 hJ k0).1 k0 rfl (fun _ hq => List.mem_cons_of_mem _ (List.mem_append_right _ hq)) (by decide) (List.mem_of_getElem? (i := 5) rfl) rfl dX1_isKnown_49 (rfl : 49 + 3 = 52) ?_
              refine z_iload_n h 3 dX1_isKnown_52 rfl (rfl : 52 + 1 = 53) ?_
              obtain ⟨b11, hf⟩ := zchk hf
              refine z_iald h (zf_1_1 hJ k0).2 b11 dX1_isKnown_53 (rfl : 53 + 1 = 54) ?_
              refine z_iload_n h 1 dX1_isKnown_54 rfl (rfl : 54 + 1 = 55) ?_
              refine z_icmp_ne (pc' := 58) h 60 dX1_isKnown_55 (by decide) rfl (fun c12 => ?_) (fun c12 => ?_)
              · have hf := zitf c12 hf
                refine z_iinc h 3 (x3_20 + 1) [(3, .int (x3_20 + 1)), (0, .ref (za B p0)), (1, .int v1), (2, .int v2)] dX1_isKnown_60 rfl rfl (by decide) rfl (rfl : 60 + 3 = 63) ?_
                refine z_goto (pc' := 20) h dX1_isKnown_63 (by decide) ?_
                refine z_sub (L' := [(0, .ref (za B p0)), (1, .int v1), (2, .int v2), (3, .int (x3_20 + 1))]) [1, 2, 3, 0] rfl ?_
                exact ih (x3_20 + 1) I20 _ hf hP hE
              · have hf := zitt c12 hf
                refine z_iconst h 1 dX1_isKnown_58 (by decide) (rfl : 58 + 1 = 59) ?_
                refine z_zret h hr dX1_isKnown_59 (Or.inr rfl) ?_
                exact ⟨congrArg Prod.fst (hP _ (zsome hf).symm), congrArg Prod.snd (hP _ (zsome hf).symm), rfl⟩
    refine z_sub (L' := [(0, .ref (za B p0)), (1, .int v1), (2, .int v2), (3, .int 0)]) [1, 2, 3, 0] rfl ?_
    obtain ⟨q4, e5, hf⟩ := zbind hf
    refine loop_20_5 _ 0 q1.2 q4 e5 (fun a ha => ?_) (fun a13 ha  => ?_)
    · have hf := zell ha hf
      exact zsome hf
    have hf := zelr ha hf
    clear ha loop_20_5
    refine z_iconst h 0 dX1_isKnown_66 (by decide) (rfl : 66 + 1 = 67) ?_
    refine z_zret h hr dX1_isKnown_67 (Or.inl rfl) ?_
    exact ⟨congrArg Prod.fst (zsome hf), congrArg Prod.snd (zsome hf), rfl⟩
  · have hf := zitt c3 hf
    refine z_iconst h 1 dX1_isKnown_16 (by decide) (rfl : 16 + 1 = 17) ?_
    refine z_zret h hr dX1_isKnown_17 (Or.inr rfl) ?_
    exact ⟨congrArg Prod.fst (zsome hf), congrArg Prod.snd (zsome hf), rfl⟩
noncomputable def f_X1_isOfTwo (J : zJ) (p0 : Nat) (v1 : Int32) (v2 : Int32) (v3 : Int32) (I : zM) : Option (Int32 × zM) := (if zin v1 24 = true then (if I (zR p0 0) (Int32.toNatClampNeg v1) = v2 then (if zin v1 24 = true then (if I (zR p0 1) (Int32.toNatClampNeg v1) = v3 then some ((1, I)) else (if zin v1 24 = true then (if I (zR p0 0) (Int32.toNatClampNeg v1) = v3 then (if zin v1 24 = true then (if I (zR p0 1) (Int32.toNatClampNeg v1) = v2 then some ((1, I)) else some ((0, I))) else none) else some ((0, I))) else none)) else none) else (if zin v1 24 = true then (if I (zR p0 0) (Int32.toNatClampNeg v1) = v3 then (if zin v1 24 = true then (if I (zR p0 1) (Int32.toNatClampNeg v1) = v2 then some ((1, I)) else some ((0, I))) else none) else some ((0, I))) else none)) else none)
noncomputable abbrev rmX1_isOfTwo : Room := { frames := 0, cells := 0, slots := 0, locals := 0 }
theorem zyX1_isOfTwo : zY yX1_isOfTwo wsX1_isOfTwo cX1_isOfTwo 4 (some .boolean) 3 := ⟨⟨_, rfl⟩, by decide +kernel⟩
set_option maxHeartbeats 1000000 in
set_option maxRecDepth 100000 in
theorem c_X1_isOfTwo (B : zB) (I : zM) (J : zJ) (hJ : zJok J) (p0 : Nat) (k0 : zKW[p0]? = some (.inr 1)) (v1 : Int32) (v2 : Int32) (v3 : Int32) (r : Int32) (I' : zM) (hf : f_X1_isOfTwo J p0 v1 v2 v3 I = some (r, I')) : zCi B zKW I J yX1_isOfTwo wsX1_isOfTwo rmX1_isOfTwo [.ref (za B p0), .int v1, .int v2, .int v3] (fun r2 I2 J2 => r2 = r ∧ I2 = I' ∧ J2 = J) := by
  refine z_start (own := RX1) (cc := cX1_isOfTwo) (nL := 4) (ret := (some .boolean)) rfl (by decide) rfl (Nat.le_of_ble_eq_true rfl) (L := [(0, .ref (za B p0)), (1, .int v1), (2, .int v2), (3, .int v3)]) rfl (fun G h hr => ?_)
  rw [f_X1_isOfTwo] at hf
  refine z_aload_n h 0 dX1_isOfTwo_0 rfl (rfl : 0 + 1 = 1) ?_
  refine z_getr (ci := 1) (C := RX1) (T := TX1) (N := 9) h 0 (zR p0 0) (zf_1_0 hJ k0).1 k0 rfl (fun _ hq => List.mem_cons_of_mem _ (List.mem_append_right _ hq)) (by decide) (List.mem_of_getElem? (i := 1) rfl) rfl dX1_isOfTwo_1 (rfl : 1 + 3 = 4) ?_
  refine z_iload_n h 1 dX1_isOfTwo_4 rfl (rfl : 4 + 1 = 5) ?_
  obtain ⟨b1, hf⟩ := zchk hf
  refine z_iald h (zf_1_0 hJ k0).2 b1 dX1_isOfTwo_5 (rfl : 5 + 1 = 6) ?_
  refine z_iload_n h 2 dX1_isOfTwo_6 rfl (rfl : 6 + 1 = 7) ?_
  refine z_icmp_ne (pc' := 10) h 20 dX1_isOfTwo_7 (by decide) rfl (fun c2 => ?_) (fun c2 => ?_)
  · have hf := zitf c2 hf
    refine z_aload_n h 0 dX1_isOfTwo_20 rfl (rfl : 20 + 1 = 21) ?_
    refine z_getr (ci := 1) (C := RX1) (T := TX1) (N := 9) h 0 (zR p0 0) (zf_1_0 hJ k0).1 k0 rfl (fun _ hq => List.mem_cons_of_mem _ (List.mem_append_right _ hq)) (by decide) (List.mem_of_getElem? (i := 1) rfl) rfl dX1_isOfTwo_21 (rfl : 21 + 3 = 24) ?_
    refine z_iload_n h 1 dX1_isOfTwo_24 rfl (rfl : 24 + 1 = 25) ?_
    obtain ⟨b3, hf⟩ := zchk hf
    refine z_iald h (zf_1_0 hJ k0).2 b3 dX1_isOfTwo_25 (rfl : 25 + 1 = 26) ?_
    refine z_iload_n h 3 dX1_isOfTwo_26 rfl (rfl : 26 + 1 = 27) ?_
    refine z_icmp_ne (pc' := 30) h 44 dX1_isOfTwo_27 (by decide) rfl (fun c4 => ?_) (fun c4 => ?_)
    · have hf := zitf c4 hf
      refine z_iconst h 0 dX1_isOfTwo_44 (by decide) (rfl : 44 + 1 = 45) ?_
      refine z_zret h hr dX1_isOfTwo_45 (Or.inl rfl) ?_
      exact ⟨congrArg Prod.fst (zsome hf), congrArg Prod.snd (zsome hf), rfl⟩
    · have hf := zitt c4 hf
      refine z_aload_n h 0 dX1_isOfTwo_30 rfl (rfl : 30 + 1 = 31) ?_
      refine z_getr (ci := 1) (C := RX1) (T := TX1) (N := 9) h 1 (zR p0 1) (zf_1_1 hJ k0).1 k0 rfl (fun _ hq => List.mem_cons_of_mem _ (List.mem_append_right _ hq)) (by decide) (List.mem_of_getElem? (i := 2) rfl) rfl dX1_isOfTwo_31 (rfl : 31 + 3 = 34) ?_
      refine z_iload_n h 1 dX1_isOfTwo_34 rfl (rfl : 34 + 1 = 35) ?_
      obtain ⟨b5, hf⟩ := zchk hf
      refine z_iald h (zf_1_1 hJ k0).2 b5 dX1_isOfTwo_35 (rfl : 35 + 1 = 36) ?_
      refine z_iload_n h 2 dX1_isOfTwo_36 rfl (rfl : 36 + 1 = 37) ?_
      refine z_icmp_ne (pc' := 40) h 44 dX1_isOfTwo_37 (by decide) rfl (fun c6 => ?_) (fun c6 => ?_)
      · have hf := zitf c6 hf
        refine z_iconst h 0 dX1_isOfTwo_44 (by decide) (rfl : 44 + 1 = 45) ?_
        refine z_zret h hr dX1_isOfTwo_45 (Or.inl rfl) ?_
        exact ⟨congrArg Prod.fst (zsome hf), congrArg Prod.snd (zsome hf), rfl⟩
      · have hf := zitt c6 hf
        refine z_iconst h 1 dX1_isOfTwo_40 (by decide) (rfl : 40 + 1 = 41) ?_
        refine z_goto (pc' := 45) h dX1_isOfTwo_41 (by decide) ?_
        refine z_zret h hr dX1_isOfTwo_45 (Or.inr rfl) ?_
        exact ⟨congrArg Prod.fst (zsome hf), congrArg Prod.snd (zsome hf), rfl⟩
  · have hf := zitt c2 hf
    refine z_aload_n h 0 dX1_isOfTwo_10 rfl (rfl : 10 + 1 = 11) ?_
    refine z_getr (ci := 1) (C := RX1) (T := TX1) (N := 9) h 1 (zR p0 1) (zf_1_1 hJ k0).1 k0 rfl (fun _ hq => List.mem_cons_of_mem _ (List.mem_append_right _ hq)) (by decide) (List.mem_of_getElem? (i := 2) rfl) rfl dX1_isOfTwo_11 (rfl : 11 + 3 = 14) ?_
    refine z_iload_n h 1 dX1_isOfTwo_14 rfl (rfl : 14 + 1 = 15) ?_
    obtain ⟨b7, hf⟩ := zchk hf
    refine z_iald h (zf_1_1 hJ k0).2 b7 dX1_isOfTwo_15 (rfl : 15 + 1 = 16) ?_
    refine z_iload_n h 3 dX1_isOfTwo_16 rfl (rfl : 16 + 1 = 17) ?_
    refine z_icmp_eq (pc' := 20) h 40 dX1_isOfTwo_17 (by decide) rfl (fun c8 => ?_) (fun c8 => ?_)
    · have hf := zitt c8 hf
      refine z_iconst h 1 dX1_isOfTwo_40 (by decide) (rfl : 40 + 1 = 41) ?_
      refine z_goto (pc' := 45) h dX1_isOfTwo_41 (by decide) ?_
      refine z_zret h hr dX1_isOfTwo_45 (Or.inr rfl) ?_
      exact ⟨congrArg Prod.fst (zsome hf), congrArg Prod.snd (zsome hf), rfl⟩
    · have hf := zitf c8 hf
      refine z_aload_n h 0 dX1_isOfTwo_20 rfl (rfl : 20 + 1 = 21) ?_
      refine z_getr (ci := 1) (C := RX1) (T := TX1) (N := 9) h 0 (zR p0 0) (zf_1_0 hJ k0).1 k0 rfl (fun _ hq => List.mem_cons_of_mem _ (List.mem_append_right _ hq)) (by decide) (List.mem_of_getElem? (i := 1) rfl) rfl dX1_isOfTwo_21 (rfl : 21 + 3 = 24) ?_
      refine z_iload_n h 1 dX1_isOfTwo_24 rfl (rfl : 24 + 1 = 25) ?_
      obtain ⟨b9, hf⟩ := zchk hf
      refine z_iald h (zf_1_0 hJ k0).2 b9 dX1_isOfTwo_25 (rfl : 25 + 1 = 26) ?_
      refine z_iload_n h 3 dX1_isOfTwo_26 rfl (rfl : 26 + 1 = 27) ?_
      refine z_icmp_ne (pc' := 30) h 44 dX1_isOfTwo_27 (by decide) rfl (fun c10 => ?_) (fun c10 => ?_)
      · have hf := zitf c10 hf
        refine z_iconst h 0 dX1_isOfTwo_44 (by decide) (rfl : 44 + 1 = 45) ?_
        refine z_zret h hr dX1_isOfTwo_45 (Or.inl rfl) ?_
        exact ⟨congrArg Prod.fst (zsome hf), congrArg Prod.snd (zsome hf), rfl⟩
      · have hf := zitt c10 hf
        refine z_aload_n h 0 dX1_isOfTwo_30 rfl (rfl : 30 + 1 = 31) ?_
        refine z_getr (ci := 1) (C := RX1) (T := TX1) (N := 9) h 1 (zR p0 1) (zf_1_1 hJ k0).1 k0 rfl (fun _ hq => List.mem_cons_of_mem _ (List.mem_append_right _ hq)) (by decide) (List.mem_of_getElem? (i := 2) rfl) rfl dX1_isOfTwo_31 (rfl : 31 + 3 = 34) ?_
        refine z_iload_n h 1 dX1_isOfTwo_34 rfl (rfl : 34 + 1 = 35) ?_
        obtain ⟨b11, hf⟩ := zchk hf
        refine z_iald h (zf_1_1 hJ k0).2 b11 dX1_isOfTwo_35 (rfl : 35 + 1 = 36) ?_
        refine z_iload_n h 2 dX1_isOfTwo_36 rfl (rfl : 36 + 1 = 37) ?_
        refine z_icmp_ne (pc' := 40) h 44 dX1_isOfTwo_37 (by decide) rfl (fun c12 => ?_) (fun c12 => ?_)
        · have hf := zitf c12 hf
          refine z_iconst h 0 dX1_isOfTwo_44 (by decide) (rfl : 44 + 1 = 45) ?_
          refine z_zret h hr dX1_isOfTwo_45 (Or.inl rfl) ?_
          exact ⟨congrArg Prod.fst (zsome hf), congrArg Prod.snd (zsome hf), rfl⟩
        · have hf := zitt c12 hf
          refine z_iconst h 1 dX1_isOfTwo_40 (by decide) (rfl : 40 + 1 = 41) ?_
          refine z_goto (pc' := 45) h dX1_isOfTwo_41 (by decide) ?_
          refine z_zret h hr dX1_isOfTwo_45 (Or.inr rfl) ?_
          exact ⟨congrArg Prod.fst (zsome hf), congrArg Prod.snd (zsome hf), rfl⟩
noncomputable def f_X1_valueBefore_14 (J : zJ) (r0 : Nat) (u1 : Int32) (u2 : Int32) (u3 : Int32) (u4 : Int32) : Nat → Int32 → Int32 → Int32 → zM → Option ((Int32 × zM) ⊕ (Int32 × Int32 × Int32 × zM))
  | 0, _, _, _, _ => none
  | n + 1, x5_14, x6_14, x7_14, I14 => (if x7_14 < 0 then some (.inr (x5_14, x6_14, x7_14, I14)) else (if u4 ≤ x6_14 then some (.inr (x5_14, x6_14, x7_14, I14)) else (if zin x7_14 24 = true then (if I14 (zR r0 3) (Int32.toNatClampNeg x7_14) = u3 then ((f_X1_isOfTwo J r0 x7_14 u1 u2 I14).bind fun q5 => (if q5.1 = 0 then f_X1_valueBefore_14 J r0 u1 u2 u3 u4 n x5_14 x6_14 (x7_14 + (-1)) q5.2 else (if zin x7_14 24 = true then (if q5.2 (zR r0 5) (Int32.toNatClampNeg x7_14) = 0 then (if x6_14 ≤ 0 then (if zin x7_14 24 = true then f_X1_valueBefore_14 J r0 u1 u2 u3 u4 n (q5.2 (zR r0 4) (Int32.toNatClampNeg x7_14)) (x6_14 + 1) (x7_14 + (-1)) q5.2 else none) else (if zin x7_14 24 = true then (if q5.2 (zR r0 4) (Int32.toNatClampNeg x7_14) = x5_14 then (if zin x7_14 24 = true then f_X1_valueBefore_14 J r0 u1 u2 u3 u4 n (q5.2 (zR r0 4) (Int32.toNatClampNeg x7_14)) (x6_14 + 1) (x7_14 + (-1)) q5.2 else none) else some (.inl ((0, q5.2)))) else none)) else some (.inl ((0, q5.2)))) else none))) else f_X1_valueBefore_14 J r0 u1 u2 u3 u4 n x5_14 x6_14 (x7_14 + (-1)) I14) else none)))
noncomputable def f_X1_valueBefore (J : zJ) (p0 : Nat) (v1 : Int32) (v2 : Int32) (v3 : Int32) (v4 : Int32) (I : zM) : Option (Int32 × zM) := ((f_X1_valueBefore_14 J p0 v1 v2 v3 v4 zF 0 0 ((I p0 6) - (1 : Int32)) I).bind fun q => Sum.elim (fun a => some a) (fun a3 => (if a3.2.1 = v4 then some ((a3.1, a3.2.2.2)) else some ((0, a3.2.2.2)))) q)
noncomputable abbrev rmX1_valueBefore : Room := { frames := 1, cells := 0, slots := 0, locals := 23 }
theorem zyX1_valueBefore : zY yX1_valueBefore wsX1_valueBefore cX1_valueBefore 8 (some .int) 4 := ⟨⟨_, rfl⟩, by decide +kernel⟩
theorem zrX1_valueBefore_X1_isOfTwo : zRm rmX1_isOfTwo rmX1_valueBefore 4 := ⟨rfl, rfl, by decide, by decide⟩
set_option maxHeartbeats 1000000 in
set_option maxRecDepth 100000 in
theorem c_X1_valueBefore (B : zB) (I : zM) (J : zJ) (hJ : zJok J) (p0 : Nat) (k0 : zKW[p0]? = some (.inr 1)) (v1 : Int32) (v2 : Int32) (v3 : Int32) (v4 : Int32) (r : Int32) (I' : zM) (hf : f_X1_valueBefore J p0 v1 v2 v3 v4 I = some (r, I')) : zCi B zKW I J yX1_valueBefore wsX1_valueBefore rmX1_valueBefore [.ref (za B p0), .int v1, .int v2, .int v3, .int v4] (fun r2 I2 J2 => r2 = r ∧ I2 = I' ∧ J2 = J) := by
  refine z_start (own := RX1) (cc := cX1_valueBefore) (nL := 8) (ret := (some .int)) rfl (by decide) rfl (Nat.le_of_ble_eq_true rfl) (L := [(0, .ref (za B p0)), (1, .int v1), (2, .int v2), (3, .int v3), (4, .int v4)]) rfl (fun G h hr => ?_)
  rw [f_X1_valueBefore] at hf
  refine z_iconst h 0 dX1_valueBefore_0 (by decide) (rfl : 0 + 1 = 1) ?_
  refine z_istore h [(5, .int 0), (0, .ref (za B p0)), (1, .int v1), (2, .int v2), (3, .int v3), (4, .int v4)] dX1_valueBefore_1 (by decide) rfl (rfl : 1 + 2 = 3) ?_
  refine z_iconst h 0 dX1_valueBefore_3 (by decide) (rfl : 3 + 1 = 4) ?_
  refine z_istore h [(6, .int 0), (5, .int 0), (0, .ref (za B p0)), (1, .int v1), (2, .int v2), (3, .int v3), (4, .int v4)] dX1_valueBefore_4 (by decide) rfl (rfl : 4 + 2 = 6) ?_
  refine z_aload_n h 2 dX1_valueBefore_6 rfl (rfl : 6 + 1 = 7) ?_
  refine z_get (ci := 1) (C := RX1) (T := TX1) (N := 9) h 6 k0 rfl (fun _ hq => List.mem_cons_of_mem _ (List.mem_append_right _ hq)) (by decide) (List.mem_of_getElem? (i := 1) rfl) rfl dX1_valueBefore_7 (rfl : 7 + 3 = 10) ?_
  refine z_iconst h 1 dX1_valueBefore_10 (by decide) (rfl : 10 + 1 = 11) ?_
  refine z_isub h dX1_valueBefore_11 (rfl : 11 + 1 = 12) ?_
  refine z_istore h [(7, .int ((I p0 6) - (1 : Int32))), (6, .int 0), (5, .int 0), (0, .ref (za B p0)), (1, .int v1), (2, .int v2), (3, .int v3), (4, .int v4)] dX1_valueBefore_12 (by decide) rfl (rfl : 12 + 2 = 14) ?_
  have loop_14_2 : ∀ (n : Nat) (x5_14 : Int32) (x6_14 : Int32) (x7_14 : Int32) (I14 : zM) (q : (Int32 × zM) ⊕ (Int32 × Int32 × Int32 × zM)), f_X1_valueBefore_14 J p0 v1 v2 v3 v4 n x5_14 x6_14 x7_14 I14 = some q → (∀ a, q = .inl a → a = (r, I')) → (∀ a : Int32 × Int32 × Int32 × zM, q = .inr a → Z B G zKW (a.2.2.2) (J) (0, 0) 95 [(0, .ref (za B p0)), (1, .int v1), (2, .int v2), (3, .int v3), (4, .int v4), (5, .int a.1), (6, .int a.2.1), (7, .int a.2.2.1)] []) → Z B G zKW I14 J (0, 0) 14 [(0, .ref (za B p0)), (1, .int v1), (2, .int v2), (3, .int v3), (4, .int v4), (5, .int x5_14), (6, .int x6_14), (7, .int x7_14)] [] := by
    intro n; induction n with
    | zero => intro x5_14 x6_14 x7_14 I14 q hf; exact absurd hf (by rw [f_X1_valueBefore_14]; exact fun z => by cases z)
    | succ n ih =>
      intro x5_14 x6_14 x7_14 I14 q hf hP hE; rw [f_X1_valueBefore_14] at hf
      refine z_iload h 7 dX1_valueBefore_14 rfl (rfl : 14 + 2 = 16) ?_
      refine z_if_lt (pc' := 19) h 95 dX1_valueBefore_16 (by decide) rfl (fun c3 => ?_) (fun c3 => ?_)
      · have hf := zitt c3 hf
        exact hE (x5_14, x6_14, x7_14, I14) (zsome hf).symm
      · have hf := zitf c3 hf
        refine z_iload h 6 dX1_valueBefore_19 rfl (rfl : 19 + 2 = 21) ?_
        refine z_iload h 4 dX1_valueBefore_21 rfl (rfl : 21 + 2 = 23) ?_
        refine z_icmp_ge (pc' := 26) h 95 dX1_valueBefore_23 (by decide) rfl (fun c4 => ?_) (fun c4 => ?_)
        · have hf := zitt c4 hf
          exact hE (x5_14, x6_14, x7_14, I14) (zsome hf).symm
        · have hf := zitf c4 hf
          refine z_aload_n h 0 dX1_valueBefore_26 rfl (rfl : 26 + 1 = 27) ?_
          refine z_getr (ci := 1) (C := RX1) (T := TX1) (N := 9) h 3 (zR p0 3) (zf_1_3 hJ k0).1 k0 rfl (fun _ hq => List.mem_cons_of_mem _ (List.mem_append_right _ hq)) (by decide) (List.mem_of_getElem? (i := 2) rfl) rfl dX1_valueBefore_27 (rfl : 27 + 3 = 30) ?_
          refine z_iload h 7 dX1_valueBefore_30 rfl (rfl : 30 + 2 = 32) ?_
          obtain ⟨b5, hf⟩ := zchk hf
          refine z_iald h (zf_1_3 hJ k0).2 b5 dX1_valueBefore_32 (rfl : 32 + 1 = 33) ?_
          refine z_iload_n h 3 dX1_valueBefore_33 rfl (rfl : 33 + 1 = 34) ?_
          refine z_icmp_ne (pc' := 37) h 89 dX1_valueBefore_34 (by decide) rfl (fun c6 => ?_) (fun c6 => ?_)
          · have hf := zitf c6 hf
            refine z_iinc h 7 (x7_14 + (-1)) [(7, .int (x7_14 + (-1))), (0, .ref (za B p0)), (1, .int v1), (2, .int v2), (3, .int v3), (4, .int v4), (5, .int x5_14), (6, .int x6_14)] dX1_valueBefore_89 rfl rfl (by decide) rfl (rfl : 89 + 3 = 92) ?_
            refine z_goto (pc' := 14) h dX1_valueBefore_92 (by decide) ?_
            refine z_sub (L' := [(0, .ref (za B p0)), (1, .int v1), (2, .int v2), (3, .int v3), (4, .int v4), (5, .int x5_14), (6, .int x6_14), (7, .int (x7_14 + (-1)))]) [1, 2, 3, 4, 5, 6, 7, 0] rfl ?_
            exact ih x5_14 x6_14 (x7_14 + (-1)) I14 _ hf hP hE
          · have hf := zitt c6 hf
            refine z_aload_n h 0 dX1_valueBefore_37 rfl (rfl : 37 + 1 = 38) ?_
            refine z_iload h 7 dX1_valueBefore_38 rfl (rfl : 38 + 2 = 40) ?_
            refine z_iload_n h 1 dX1_valueBefore_40 rfl (rfl : 40 + 1 = 41) ?_
            refine z_iload_n h 2 dX1_valueBefore_41 rfl (rfl : 41 + 1 = 42) ?_
            obtain ⟨q7, e8, hf⟩ := zbind hf
            refine z_goF (z_runV (C := RX1) (T := TX1) (N := 9) (ci := 1) h [.int x7_14, .int v1, .int v2] [] zyX1_isOfTwo (c_X1_isOfTwo B I14 J hJ p0 k0 x7_14 v1 v2 _ _ e8) gX1_valueBefore_X1_isOfTwo rfl k0 rfl zrX1_valueBefore_X1_isOfTwo rfl (Nat.le_of_ble_eq_true rfl) ⟨Nat.zero_le _, Nat.zero_le _⟩ rfl dX1_valueBefore_42) rfl ?_
            refine z_if_eq (pc' := 48) h 89 dX1_valueBefore_45 (by decide) rfl (fun c9 => ?_) (fun c9 => ?_)
            · have hf := zitt c9 hf
              refine z_iinc h 7 (x7_14 + (-1)) [(7, .int (x7_14 + (-1))), (0, .ref (za B p0)), (1, .int v1), (2, .int v2), (3, .int v3), (4, .int v4), (5, .int x5_14), (6, .int x6_14)] dX1_valueBefore_89 rfl rfl (by decide) rfl (rfl : 89 + 3 = 92) ?_
              refine z_goto (pc' := 14) h dX1_valueBefore_92 (by decide) ?_
              refine z_sub (L' := [(0, .ref (za B p0)), (1, .int v1), (2, .int v2), (3, .int v3), (4, .int v4), (5, .int x5_14), (6, .int x6_14), (7, .int (x7_14 + (-1)))]) [1, 2, 3, 4, 5, 6, 7, 0] rfl ?_
              exact ih x5_14 x6_14 (x7_14 + (-1)) q7.2 _ hf hP hE
            · have hf := zitf c9 hf
              refine z_aload_n h 0 dX1_valueBefore_48 rfl (rfl : 48 + 1 = 49) ?_
              refine z_getr (ci := 1) (C := RX1) (T := TX1) (N := 9) h 5 (zR p0 5) (zf_1_5 hJ k0).1 k0 rfl (fun _ hq => List.mem_cons_of_mem _ (List.mem_append_right _ hq)) (by decide) (List.mem_of_getElem? (i := 3) rfl) rfl dX1_valueBefore_49 (rfl : 49 + 3 = 52) ?_
              refine z_iload h 7 dX1_valueBefore_52 rfl (rfl : 52 + 2 = 54) ?_
              obtain ⟨b10, hf⟩ := zchk hf
              refine z_zald h (zf_1_5 hJ k0).2 b10 dX1_valueBefore_54 (rfl : 54 + 1 = 55) ?_
              refine z_if_ne (pc' := 58) h 75 dX1_valueBefore_55 (by decide) rfl (fun c11 => ?_) (fun c11 => ?_)
              · have hf := zitf c11 hf
                refine z_iconst h 0 dX1_valueBefore_75 (by decide) (rfl : 75 + 1 = 76) ?_
                refine z_iret h hr dX1_valueBefore_76 ?_
                exact ⟨congrArg Prod.fst (hP _ (zsome hf).symm), congrArg Prod.snd (hP _ (zsome hf).symm), rfl⟩
              · have hf := zitt c11 hf
                refine z_iload h 6 dX1_valueBefore_58 rfl (rfl : 58 + 2 = 60) ?_
                refine z_if_le (pc' := 63) h 77 dX1_valueBefore_60 (by decide) rfl (fun c12 => ?_) (fun c12 => ?_)
                · have hf := zitt c12 hf
                  refine z_aload_n h 0 dX1_valueBefore_77 rfl (rfl : 77 + 1 = 78) ?_
                  refine z_getr (ci := 1) (C := RX1) (T := TX1) (N := 9) h 4 (zR p0 4) (zf_1_4 hJ k0).1 k0 rfl (fun _ hq => List.mem_cons_of_mem _ (List.mem_append_right _ hq)) (by decide) (List.mem_of_getElem? (i := 4) rfl) rfl dX1_valueBefore_78 (rfl : 78 + 3 = 81) ?_
                  refine z_iload h 7 dX1_valueBefore_81 rfl (rfl : 81 + 2 = 83) ?_
                  obtain ⟨b13, hf⟩ := zchk hf
                  refine z_iald h (zf_1_4 hJ k0).2 b13 dX1_valueBefore_83 (rfl : 83 + 1 = 84) ?_
                  refine z_istore h [(5, .int (q7.2 (zR p0 4) (Int32.toNatClampNeg x7_14))), (0, .ref (za B p0)), (1, .int v1), (2, .int v2), (3, .int v3), (4, .int v4), (6, .int x6_14), (7, .int x7_14)] dX1_valueBefore_84 (by decide) rfl (rfl : 84 + 2 = 86) ?_
                  refine z_iinc h 6 (x6_14 + 1) [(6, .int (x6_14 + 1)), (5, .int (q7.2 (zR p0 4) (Int32.toNatClampNeg x7_14))), (0, .ref (za B p0)), (1, .int v1), (2, .int v2), (3, .int v3), (4, .int v4), (7, .int x7_14)] dX1_valueBefore_86 rfl rfl (by decide) rfl (rfl : 86 + 3 = 89) ?_
                  refine z_iinc h 7 (x7_14 + (-1)) [(7, .int (x7_14 + (-1))), (6, .int (x6_14 + 1)), (5, .int (q7.2 (zR p0 4) (Int32.toNatClampNeg x7_14))), (0, .ref (za B p0)), (1, .int v1), (2, .int v2), (3, .int v3), (4, .int v4)] dX1_valueBefore_89 rfl rfl (by decide) rfl (rfl : 89 + 3 = 92) ?_
                  refine z_goto (pc' := 14) h dX1_valueBefore_92 (by decide) ?_
                  refine z_sub (L' := [(0, .ref (za B p0)), (1, .int v1), (2, .int v2), (3, .int v3), (4, .int v4), (5, .int (q7.2 (zR p0 4) (Int32.toNatClampNeg x7_14))), (6, .int (x6_14 + 1)), (7, .int (x7_14 + (-1)))]) [3, 4, 5, 6, 7, 2, 1, 0] rfl ?_
                  exact ih (q7.2 (zR p0 4) (Int32.toNatClampNeg x7_14)) (x6_14 + 1) (x7_14 + (-1)) q7.2 _ hf hP hE
                · have hf := zitf c12 hf
                  refine z_aload_n h 0 dX1_valueBefore_63 rfl (rfl : 63 + 1 = 64) ?_
                  refine z_getr (ci := 1) (C := RX1) (T := TX1) (N := 9) h 4 (zR p0 4) (zf_1_4 hJ k0).1 k0 rfl (fun _ hq => List.mem_cons_of_mem _ (List.mem_append_right _ hq)) (by decide) (List.mem_of_getElem? (i := 4) rfl) rfl dX1_valueBefore_64 (rfl : 64 + 3 = 67) ?_
                  refine z_iload h 7 dX1_valueBefore_67 rfl (rfl : 67 + 2 = 69) ?_
                  obtain ⟨b14, hf⟩ := zchk hf
                  refine z_iald h (zf_1_4 hJ k0).2 b14 dX1_valueBefore_69 (rfl : 69 + 1 = 70) ?_
                  refine z_iload h 5 dX1_valueBefore_70 rfl (rfl : 70 + 2 = 72) ?_
                  refine z_icmp_eq (pc' := 75) h 77 dX1_valueBefore_72 (by decide) rfl (fun c15 => ?_) (fun c15 => ?_)
                  · have hf := zitt c15 hf
                    refine z_aload_n h 0 dX1_valueBefore_77 rfl (rfl : 77 + 1 = 78) ?_
                    refine z_getr (ci := 1) (C := RX1) (T := TX1) (N := 9) h 4 (zR p0 4) (zf_1_4 hJ k0).1 k0 rfl (fun _ hq => List.mem_cons_of_mem _ (List.mem_append_right _ hq)) (by decide) (List.mem_of_getElem? (i := 4) rfl) rfl dX1_valueBefore_78 (rfl : 78 + 3 = 81) ?_
                    refine z_iload h 7 dX1_valueBefore_81 rfl (rfl : 81 + 2 = 83) ?_
                    obtain ⟨b16, hf⟩ := zchk hf
                    refine z_iald h (zf_1_4 hJ k0).2 b16 dX1_valueBefore_83 (rfl : 83 + 1 = 84) ?_
                    refine z_istore h [(5, .int (q7.2 (zR p0 4) (Int32.toNatClampNeg x7_14))), (0, .ref (za B p0)), (1, .int v1), (2, .int v2), (3, .int v3), (4, .int v4), (6, .int x6_14), (7, .int x7_14)] dX1_valueBefore_84 (by decide) rfl (rfl : 84 + 2 = 86) ?_
                    refine z_iinc h 6 (x6_14 + 1) [(6, .int (x6_14 + 1)), (5, .int (q7.2 (zR p0 4) (Int32.toNatClampNeg x7_14))), (0, .ref (za B p0)), (1, .int v1), (2, .int v2), (3, .int v3), (4, .int v4), (7, .int x7_14)] dX1_valueBefore_86 rfl rfl (by decide) rfl (rfl : 86 + 3 = 89) ?_
                    refine z_iinc h 7 (x7_14 + (-1)) [(7, .int (x7_14 + (-1))), (6, .int (x6_14 + 1)), (5, .int (q7.2 (zR p0 4) (Int32.toNatClampNeg x7_14))), (0, .ref (za B p0)), (1, .int v1), (2, .int v2), (3, .int v3), (4, .int v4)] dX1_valueBefore_89 rfl rfl (by decide) rfl (rfl : 89 + 3 = 92) ?_
                    refine z_goto (pc' := 14) h dX1_valueBefore_92 (by decide) ?_
                    refine z_sub (L' := [(0, .ref (za B p0)), (1, .int v1), (2, .int v2), (3, .int v3), (4, .int v4), (5, .int (q7.2 (zR p0 4) (Int32.toNatClampNeg x7_14))), (6, .int (x6_14 + 1)), (7, .int (x7_14 + (-1)))]) [3, 4, 5, 6, 7, 2, 1, 0] rfl ?_
                    exact ih (q7.2 (zR p0 4) (Int32.toNatClampNeg x7_14)) (x6_14 + 1) (x7_14 + (-1)) q7.2 _ hf hP hE
                  · have hf := zitf c15 hf
                    refine z_iconst h 0 dX1_valueBefore_75 (by decide) (rfl : 75 + 1 = 76) ?_
                    refine z_iret h hr dX1_valueBefore_76 ?_
                    exact ⟨congrArg Prod.fst (hP _ (zsome hf).symm), congrArg Prod.snd (hP _ (zsome hf).symm), rfl⟩
  refine z_sub (L' := [(0, .ref (za B p0)), (1, .int v1), (2, .int v2), (3, .int v3), (4, .int v4), (5, .int 0), (6, .int 0), (7, .int ((I p0 6) - (1 : Int32)))]) [3, 4, 5, 6, 7, 2, 1, 0] rfl ?_
  obtain ⟨q1, e2, hf⟩ := zbind hf
  refine loop_14_2 _ 0 0 ((I p0 6) - (1 : Int32)) I q1 e2 (fun a ha => ?_) (fun a17 ha  => ?_)
  · have hf := zell ha hf
    exact zsome hf
  have hf := zelr ha hf
  clear ha loop_14_2
  refine z_iload h 6 dX1_valueBefore_95 rfl (rfl : 95 + 2 = 97) ?_
  refine z_iload h 4 dX1_valueBefore_97 rfl (rfl : 97 + 2 = 99) ?_
  refine z_icmp_ne (pc' := 102) h 107 dX1_valueBefore_99 (by decide) rfl (fun c18 => ?_) (fun c18 => ?_)
  · have hf := zitf c18 hf
    refine z_iconst h 0 dX1_valueBefore_107 (by decide) (rfl : 107 + 1 = 108) ?_
    refine z_iret h hr dX1_valueBefore_108 ?_
    exact ⟨congrArg Prod.fst (zsome hf), congrArg Prod.snd (zsome hf), rfl⟩
  · have hf := zitt c18 hf
    refine z_iload h 5 dX1_valueBefore_102 rfl (rfl : 102 + 2 = 104) ?_
    refine z_goto (pc' := 108) h dX1_valueBefore_104 (by decide) ?_
    refine z_iret h hr dX1_valueBefore_108 ?_
    exact ⟨congrArg Prod.fst (zsome hf), congrArg Prod.snd (zsome hf), rfl⟩
noncomputable def f_X1_tallyUp_2 (J : zJ) (r0 : Nat) (u1 : Int32) (u2 : Int32) : Nat → Int32 → zM → Option ((Int32 × zM) ⊕ (Int32 × zM))
  | 0, _, _ => none
  | n + 1, x3_2, I2 => (if 5 < x3_2 then some (.inr (x3_2, I2)) else (if zin x3_2 6 = true then f_X1_tallyUp_2 J r0 u1 u2 n (x3_2 + 1) (zu I2 (zR r0 8) (Int32.toNatClampNeg x3_2) 0) else none))
noncomputable def f_X1_tallyUp_25 (J : zJ) (r0 : Nat) (u1 : Int32) (u2 : Int32) : Nat → Int32 → Int32 → zM → Option ((Int32 × zM) ⊕ (Int32 × Int32 × zM))
  | 0, _, _, _ => none
  | n + 1, x3_25, x4_25, I25 => (if I25 r0 6 ≤ x4_25 then some (.inr (x3_25, x4_25, I25)) else (if zin x4_25 24 = true then (if I25 (zR r0 2) (Int32.toNatClampNeg x4_25) = u1 then (if zin x4_25 24 = true then (if I25 (zR r0 3) (Int32.toNatClampNeg x4_25) = u2 then (if zin x4_25 24 = true then (if zin (I25 (zR r0 4) (Int32.toNatClampNeg x4_25)) 6 = true then (if zin x4_25 24 = true then (if I25 (zR r0 5) (Int32.toNatClampNeg x4_25) = 0 then (if zin (I25 (zR r0 4) (Int32.toNatClampNeg x4_25)) 6 = true then f_X1_tallyUp_25 J r0 u1 u2 n (x3_25 + 1) (x4_25 + 1) (zu I25 (zR r0 8) (Int32.toNatClampNeg (I25 (zR r0 4) (Int32.toNatClampNeg x4_25))) ((I25 (zR r0 8) (Int32.toNatClampNeg (I25 (zR r0 4) (Int32.toNatClampNeg x4_25)))) + (1 : Int32))) else none) else (if zin (I25 (zR r0 4) (Int32.toNatClampNeg x4_25)) 6 = true then f_X1_tallyUp_25 J r0 u1 u2 n (x3_25 + 1) (x4_25 + 1) (zu I25 (zR r0 8) (Int32.toNatClampNeg (I25 (zR r0 4) (Int32.toNatClampNeg x4_25))) ((I25 (zR r0 8) (Int32.toNatClampNeg (I25 (zR r0 4) (Int32.toNatClampNeg x4_25)))) + (0 : Int32))) else none)) else none) else none) else none) else f_X1_tallyUp_25 J r0 u1 u2 n x3_25 (x4_25 + 1) I25) else none) else f_X1_tallyUp_25 J r0 u1 u2 n x3_25 (x4_25 + 1) I25) else none))
noncomputable def f_X1_tallyUp (J : zJ) (p0 : Nat) (v1 : Int32) (v2 : Int32) (I : zM) : Option (Int32 × zM) := ((f_X1_tallyUp_2 J p0 v1 v2 zF 0 I).bind fun q => Sum.elim (fun a => some a) (fun a3 => ((f_X1_tallyUp_25 J p0 v1 v2 zF 0 0 a3.2).bind fun q => Sum.elim (fun a => some a) (fun a6 => some ((a6.1, a6.2.2))) q)) q)
noncomputable abbrev rmX1_tallyUp : Room := { frames := 0, cells := 0, slots := 0, locals := 0 }
theorem zyX1_tallyUp : zY yX1_tallyUp wsX1_tallyUp cX1_tallyUp 5 (some .int) 2 := ⟨⟨_, rfl⟩, by decide +kernel⟩
set_option maxHeartbeats 1000000 in
set_option maxRecDepth 100000 in
theorem c_X1_tallyUp (B : zB) (I : zM) (J : zJ) (hJ : zJok J) (p0 : Nat) (k0 : zKW[p0]? = some (.inr 1)) (v1 : Int32) (v2 : Int32) (r : Int32) (I' : zM) (hf : f_X1_tallyUp J p0 v1 v2 I = some (r, I')) : zCi B zKW I J yX1_tallyUp wsX1_tallyUp rmX1_tallyUp [.ref (za B p0), .int v1, .int v2] (fun r2 I2 J2 => r2 = r ∧ I2 = I' ∧ J2 = J) := by
  refine z_start (own := RX1) (cc := cX1_tallyUp) (nL := 5) (ret := (some .int)) rfl (by decide) rfl (Nat.le_of_ble_eq_true rfl) (L := [(0, .ref (za B p0)), (1, .int v1), (2, .int v2)]) rfl (fun G h hr => ?_)
  rw [f_X1_tallyUp] at hf
  refine z_iconst h 0 dX1_tallyUp_0 (by decide) (rfl : 0 + 1 = 1) ?_
  refine z_istore_n h [(3, .int 0), (0, .ref (za B p0)), (1, .int v1), (2, .int v2)] dX1_tallyUp_1 (by decide) rfl (rfl : 1 + 1 = 2) ?_
  have loop_2_2 : ∀ (n : Nat) (x3_2 : Int32) (I2 : zM) (q : (Int32 × zM) ⊕ (Int32 × zM)), f_X1_tallyUp_2 J p0 v1 v2 n x3_2 I2 = some q → (∀ a, q = .inl a → a = (r, I')) → (∀ a : Int32 × zM, q = .inr a → Z B G zKW (a.2) (J) (0, 0) 20 [(0, .ref (za B p0)), (1, .int v1), (2, .int v2), (3, .int a.1)] []) → Z B G zKW I2 J (0, 0) 2 [(0, .ref (za B p0)), (1, .int v1), (2, .int v2), (3, .int x3_2)] [] := by
    intro n; induction n with
    | zero => intro x3_2 I2 q hf; exact absurd hf (by rw [f_X1_tallyUp_2]; exact fun z => by cases z)
    | succ n ih =>
      intro x3_2 I2 q hf hP hE; rw [f_X1_tallyUp_2] at hf
      refine z_iload_n h 3 dX1_tallyUp_2 rfl (rfl : 2 + 1 = 3) ?_
      refine z_iconst h 5 dX1_tallyUp_3 (by decide) (rfl : 3 + 1 = 4) ?_
      refine z_icmp_gt (pc' := 7) h 20 dX1_tallyUp_4 (by decide) rfl (fun c3 => ?_) (fun c3 => ?_)
      · have hf := zitt c3 hf
        exact hE (x3_2, I2) (zsome hf).symm
      · have hf := zitf c3 hf
        refine z_aload_n h 0 dX1_tallyUp_7 rfl (rfl : 7 + 1 = 8) ?_
        refine z_getr (ci := 1) (C := RX1) (T := TX1) (N := 9) h 8 (zR p0 8) (zf_1_8 hJ k0).1 k0 rfl (fun _ hq => List.mem_cons_of_mem _ (List.mem_append_right _ hq)) (by decide) (List.mem_of_getElem? (i := 1) rfl) rfl dX1_tallyUp_8 (rfl : 8 + 3 = 11) ?_
        refine z_iload_n h 3 dX1_tallyUp_11 rfl (rfl : 11 + 1 = 12) ?_
        refine z_iconst h 0 dX1_tallyUp_12 (by decide) (rfl : 12 + 1 = 13) ?_
        obtain ⟨b4, hf⟩ := zchk hf
        refine z_iast h b4 (zf_1_8 hJ k0).2 dX1_tallyUp_13 (rfl : 13 + 1 = 14) ?_
        refine z_iinc h 3 (x3_2 + 1) [(3, .int (x3_2 + 1)), (0, .ref (za B p0)), (1, .int v1), (2, .int v2)] dX1_tallyUp_14 rfl rfl (by decide) rfl (rfl : 14 + 3 = 17) ?_
        refine z_goto (pc' := 2) h dX1_tallyUp_17 (by decide) ?_
        refine z_sub (L' := [(0, .ref (za B p0)), (1, .int v1), (2, .int v2), (3, .int (x3_2 + 1))]) [1, 2, 3, 0] rfl ?_
        exact ih (x3_2 + 1) (zu I2 (zR p0 8) (Int32.toNatClampNeg x3_2) 0) _ hf hP hE
  refine z_sub (L' := [(0, .ref (za B p0)), (1, .int v1), (2, .int v2), (3, .int 0)]) [1, 2, 3, 0] rfl ?_
  obtain ⟨q1, e2, hf⟩ := zbind hf
  refine loop_2_2 _ 0 I q1 e2 (fun a ha => ?_) (fun a5 ha  => ?_)
  · have hf := zell ha hf
    exact zsome hf
  have hf := zelr ha hf
  clear ha loop_2_2
  refine z_iconst h 0 dX1_tallyUp_20 (by decide) (rfl : 20 + 1 = 21) ?_
  refine z_istore_n h [(3, .int 0), (0, .ref (za B p0)), (1, .int v1), (2, .int v2)] dX1_tallyUp_21 (by decide) rfl (rfl : 21 + 1 = 22) ?_
  refine z_iconst h 0 dX1_tallyUp_22 (by decide) (rfl : 22 + 1 = 23) ?_
  refine z_istore h [(4, .int 0), (3, .int 0), (0, .ref (za B p0)), (1, .int v1), (2, .int v2)] dX1_tallyUp_23 (by decide) rfl (rfl : 23 + 2 = 25) ?_
  have loop_25_7 : ∀ (n : Nat) (x3_25 : Int32) (x4_25 : Int32) (I25 : zM) (q : (Int32 × zM) ⊕ (Int32 × Int32 × zM)), f_X1_tallyUp_25 J p0 v1 v2 n x3_25 x4_25 I25 = some q → (∀ a, q = .inl a → a = (r, I')) → (∀ a : Int32 × Int32 × zM, q = .inr a → Z B G zKW (a.2.2) (J) (0, 0) 95 [(0, .ref (za B p0)), (1, .int v1), (2, .int v2), (3, .int a.1), (4, .int a.2.1)] []) → Z B G zKW I25 J (0, 0) 25 [(0, .ref (za B p0)), (1, .int v1), (2, .int v2), (3, .int x3_25), (4, .int x4_25)] [] := by
    intro n; induction n with
    | zero => intro x3_25 x4_25 I25 q hf; exact absurd hf (by rw [f_X1_tallyUp_25]; exact fun z => by cases z)
    | succ n ih =>
      intro x3_25 x4_25 I25 q hf hP hE; rw [f_X1_tallyUp_25] at hf
      refine z_iload h 4 dX1_tallyUp_25 rfl (rfl : 25 + 2 = 27) ?_
      refine z_aload_n h 0 dX1_tallyUp_27 rfl (rfl : 27 + 1 = 28) ?_
      refine z_get (ci := 1) (C := RX1) (T := TX1) (N := 9) h 6 k0 rfl (fun _ hq => List.mem_cons_of_mem _ (List.mem_append_right _ hq)) (by decide) (List.mem_of_getElem? (i := 2) rfl) rfl dX1_tallyUp_28 (rfl : 28 + 3 = 31) ?_
      refine z_icmp_ge (pc' := 34) h 95 dX1_tallyUp_31 (by decide) rfl (fun c8 => ?_) (fun c8 => ?_)
      · have hf := zitt c8 hf
        exact hE (x3_25, x4_25, I25) (zsome hf).symm
      · have hf := zitf c8 hf
        refine z_aload_n h 0 dX1_tallyUp_34 rfl (rfl : 34 + 1 = 35) ?_
        refine z_getr (ci := 1) (C := RX1) (T := TX1) (N := 9) h 2 (zR p0 2) (zf_1_2 hJ k0).1 k0 rfl (fun _ hq => List.mem_cons_of_mem _ (List.mem_append_right _ hq)) (by decide) (List.mem_of_getElem? (i := 3) rfl) rfl dX1_tallyUp_35 (rfl : 35 + 3 = 38) ?_
        refine z_iload h 4 dX1_tallyUp_38 rfl (rfl : 38 + 2 = 40) ?_
        obtain ⟨b9, hf⟩ := zchk hf
        refine z_iald h (zf_1_2 hJ k0).2 b9 dX1_tallyUp_40 (rfl : 40 + 1 = 41) ?_
        refine z_iload_n h 1 dX1_tallyUp_41 rfl (rfl : 41 + 1 = 42) ?_
        refine z_icmp_ne (pc' := 45) h 89 dX1_tallyUp_42 (by decide) rfl (fun c10 => ?_) (fun c10 => ?_)
        · have hf := zitf c10 hf
          refine z_iinc h 4 (x4_25 + 1) [(4, .int (x4_25 + 1)), (0, .ref (za B p0)), (1, .int v1), (2, .int v2), (3, .int x3_25)] dX1_tallyUp_89 rfl rfl (by decide) rfl (rfl : 89 + 3 = 92) ?_
          refine z_goto (pc' := 25) h dX1_tallyUp_92 (by decide) ?_
          refine z_sub (L' := [(0, .ref (za B p0)), (1, .int v1), (2, .int v2), (3, .int x3_25), (4, .int (x4_25 + 1))]) [1, 2, 3, 4, 0] rfl ?_
          exact ih x3_25 (x4_25 + 1) I25 _ hf hP hE
        · have hf := zitt c10 hf
          refine z_aload_n h 0 dX1_tallyUp_45 rfl (rfl : 45 + 1 = 46) ?_
          refine z_getr (ci := 1) (C := RX1) (T := TX1) (N := 9) h 3 (zR p0 3) (zf_1_3 hJ k0).1 k0 rfl (fun _ hq => List.mem_cons_of_mem _ (List.mem_append_right _ hq)) (by decide) (List.mem_of_getElem? (i := 4) rfl) rfl dX1_tallyUp_46 (rfl : 46 + 3 = 49) ?_
          refine z_iload h 4 dX1_tallyUp_49 rfl (rfl : 49 + 2 = 51) ?_
          obtain ⟨b11, hf⟩ := zchk hf
          refine z_iald h (zf_1_3 hJ k0).2 b11 dX1_tallyUp_51 (rfl : 51 + 1 = 52) ?_
          refine z_iload_n h 2 dX1_tallyUp_52 rfl (rfl : 52 + 1 = 53) ?_
          refine z_icmp_ne (pc' := 56) h 89 dX1_tallyUp_53 (by decide) rfl (fun c12 => ?_) (fun c12 => ?_)
          · have hf := zitf c12 hf
            refine z_iinc h 4 (x4_25 + 1) [(4, .int (x4_25 + 1)), (0, .ref (za B p0)), (1, .int v1), (2, .int v2), (3, .int x3_25)] dX1_tallyUp_89 rfl rfl (by decide) rfl (rfl : 89 + 3 = 92) ?_
            refine z_goto (pc' := 25) h dX1_tallyUp_92 (by decide) ?_
            refine z_sub (L' := [(0, .ref (za B p0)), (1, .int v1), (2, .int v2), (3, .int x3_25), (4, .int (x4_25 + 1))]) [1, 2, 3, 4, 0] rfl ?_
            exact ih x3_25 (x4_25 + 1) I25 _ hf hP hE
          · have hf := zitt c12 hf
            refine z_iinc h 3 (x3_25 + 1) [(3, .int (x3_25 + 1)), (0, .ref (za B p0)), (1, .int v1), (2, .int v2), (4, .int x4_25)] dX1_tallyUp_56 rfl rfl (by decide) rfl (rfl : 56 + 3 = 59) ?_
            refine z_aload_n h 1 dX1_tallyUp_59 rfl (rfl : 59 + 1 = 60) ?_
            refine z_getr (ci := 1) (C := RX1) (T := TX1) (N := 9) h 8 (zR p0 8) (zf_1_8 hJ k0).1 k0 rfl (fun _ hq => List.mem_cons_of_mem _ (List.mem_append_right _ hq)) (by decide) (List.mem_of_getElem? (i := 1) rfl) rfl dX1_tallyUp_60 (rfl : 60 + 3 = 63) ?_
            refine z_aload_n h 1 dX1_tallyUp_63 rfl (rfl : 63 + 1 = 64) ?_
            refine z_getr (ci := 1) (C := RX1) (T := TX1) (N := 9) h 4 (zR p0 4) (zf_1_4 hJ k0).1 k0 rfl (fun _ hq => List.mem_cons_of_mem _ (List.mem_append_right _ hq)) (by decide) (List.mem_of_getElem? (i := 5) rfl) rfl dX1_tallyUp_64 (rfl : 64 + 3 = 67) ?_
            refine z_iload h 4 dX1_tallyUp_67 rfl (rfl : 67 + 2 = 69) ?_
            obtain ⟨b13, hf⟩ := zchk hf
            refine z_iald h (zf_1_4 hJ k0).2 b13 dX1_tallyUp_69 (rfl : 69 + 1 = 70) ?_
            refine z_dup2 h rfl rfl dX1_tallyUp_70 (rfl : 70 + 1 = 71) ?_
            obtain ⟨b14, hf⟩ := zchk hf
            refine z_iald h (zf_1_8 hJ k0).2 b14 dX1_tallyUp_71 (rfl : 71 + 1 = 72) ?_
            refine z_aload_n h 1 dX1_tallyUp_72 rfl (rfl : 72 + 1 = 73) ?_
            refine z_getr (ci := 1) (C := RX1) (T := TX1) (N := 9) h 5 (zR p0 5) (zf_1_5 hJ k0).1 k0 rfl (fun _ hq => List.mem_cons_of_mem _ (List.mem_append_right _ hq)) (by decide) (List.mem_of_getElem? (i := 6) rfl) rfl dX1_tallyUp_73 (rfl : 73 + 3 = 76) ?_
            refine z_iload h 4 dX1_tallyUp_76 rfl (rfl : 76 + 2 = 78) ?_
            obtain ⟨b15, hf⟩ := zchk hf
            refine z_zald h (zf_1_5 hJ k0).2 b15 dX1_tallyUp_78 (rfl : 78 + 1 = 79) ?_
            refine z_if_eq (pc' := 82) h 86 dX1_tallyUp_79 (by decide) rfl (fun c16 => ?_) (fun c16 => ?_)
            · have hf := zitt c16 hf
              refine z_iconst h 1 dX1_tallyUp_86 (by decide) (rfl : 86 + 1 = 87) ?_
              refine z_iadd h dX1_tallyUp_87 (rfl : 87 + 1 = 88) ?_
              obtain ⟨b17, hf⟩ := zchk hf
              refine z_iast h b17 (zf_1_8 hJ k0).2 dX1_tallyUp_88 (rfl : 88 + 1 = 89) ?_
              refine z_iinc h 4 (x4_25 + 1) [(4, .int (x4_25 + 1)), (3, .int (x3_25 + 1)), (0, .ref (za B p0)), (1, .int v1), (2, .int v2)] dX1_tallyUp_89 rfl rfl (by decide) rfl (rfl : 89 + 3 = 92) ?_
              refine z_goto (pc' := 25) h dX1_tallyUp_92 (by decide) ?_
              refine z_sub (L' := [(0, .ref (za B p0)), (1, .int v1), (2, .int v2), (3, .int (x3_25 + 1)), (4, .int (x4_25 + 1))]) [2, 3, 4, 1, 0] rfl ?_
              exact ih (x3_25 + 1) (x4_25 + 1) (zu I25 (zR p0 8) (Int32.toNatClampNeg (I25 (zR p0 4) (Int32.toNatClampNeg x4_25))) ((I25 (zR p0 8) (Int32.toNatClampNeg (I25 (zR p0 4) (Int32.toNatClampNeg x4_25)))) + (1 : Int32))) _ hf hP hE
            · have hf := zitf c16 hf
              refine z_iconst h 0 dX1_tallyUp_82 (by decide) (rfl : 82 + 1 = 83) ?_
              refine z_goto (pc' := 87) h dX1_tallyUp_83 (by decide) ?_
              refine z_iadd h dX1_tallyUp_87 (rfl : 87 + 1 = 88) ?_
              obtain ⟨b18, hf⟩ := zchk hf
              refine z_iast h b18 (zf_1_8 hJ k0).2 dX1_tallyUp_88 (rfl : 88 + 1 = 89) ?_
              refine z_iinc h 4 (x4_25 + 1) [(4, .int (x4_25 + 1)), (3, .int (x3_25 + 1)), (0, .ref (za B p0)), (1, .int v1), (2, .int v2)] dX1_tallyUp_89 rfl rfl (by decide) rfl (rfl : 89 + 3 = 92) ?_
              refine z_goto (pc' := 25) h dX1_tallyUp_92 (by decide) ?_
              refine z_sub (L' := [(0, .ref (za B p0)), (1, .int v1), (2, .int v2), (3, .int (x3_25 + 1)), (4, .int (x4_25 + 1))]) [2, 3, 4, 1, 0] rfl ?_
              exact ih (x3_25 + 1) (x4_25 + 1) (zu I25 (zR p0 8) (Int32.toNatClampNeg (I25 (zR p0 4) (Int32.toNatClampNeg x4_25))) ((I25 (zR p0 8) (Int32.toNatClampNeg (I25 (zR p0 4) (Int32.toNatClampNeg x4_25)))) + (0 : Int32))) _ hf hP hE
  refine z_sub (L' := [(0, .ref (za B p0)), (1, .int v1), (2, .int v2), (3, .int 0), (4, .int 0)]) [2, 3, 4, 1, 0] rfl ?_
  obtain ⟨q6, e7, hf⟩ := zbind hf
  refine loop_25_7 _ 0 0 a5.2 q6 e7 (fun a ha => ?_) (fun a19 ha  => ?_)
  · have hf := zell ha hf
    exact zsome hf
  have hf := zelr ha hf
  clear ha loop_25_7
  refine z_iload_n h 3 dX1_tallyUp_95 rfl (rfl : 95 + 1 = 96) ?_
  refine z_iret h hr dX1_tallyUp_96 ?_
  exact ⟨congrArg Prod.fst (zsome hf), congrArg Prod.snd (zsome hf), rfl⟩
noncomputable def f_X1_isCustom (J : zJ) (v0 : Int32) (v1 : Int32) (I : zM) : Option (Int32 × zM) := (if v1 < I 5 1 then some ((0, I)) else (if v0 * (100 : Int32) < (I 5 2) * v1 then some ((0, I)) else some ((1, I))))
noncomputable abbrev rmX1_isCustom : Room := { frames := 0, cells := 0, slots := 0, locals := 0 }
theorem zyX1_isCustom : zY yX1_isCustom wsX1_isCustom cX1_isCustom 3 (some .boolean) 3 := ⟨⟨_, rfl⟩, by decide +kernel⟩
set_option maxHeartbeats 1000000 in
set_option maxRecDepth 100000 in
theorem c_X1_isCustom (B : zB) (I : zM) (J : zJ) (hJ : zJok J) (v0 : Int32) (v1 : Int32) (r : Int32) (I' : zM) (hf : f_X1_isCustom J v0 v1 I = some (r, I')) : zCi B zKW I J yX1_isCustom wsX1_isCustom rmX1_isCustom [.int v0, .int v1, .ref (za B 5)] (fun r2 I2 J2 => r2 = r ∧ I2 = I' ∧ J2 = J) := by
  refine z_start (own := RX1) (cc := cX1_isCustom) (nL := 3) (ret := (some .boolean)) rfl (by decide) rfl (Nat.le_of_ble_eq_true rfl) (L := [(0, .int v0), (1, .int v1), (2, .ref (za B 5))]) rfl (fun G h hr => ?_)
  rw [f_X1_isCustom] at hf
  refine z_iload_n h 1 dX1_isCustom_0 rfl (rfl : 0 + 1 = 1) ?_
  refine z_aload_n h 2 dX1_isCustom_1 rfl (rfl : 1 + 1 = 2) ?_
  refine z_iconst h 1 dX1_isCustom_2 (by decide) (rfl : 2 + 1 = 3) ?_
  refine z_iald h rfl (by decide) dX1_isCustom_3 (rfl : 3 + 1 = 4) ?_
  refine z_icmp_lt (pc' := 7) h 23 dX1_isCustom_4 (by decide) rfl (fun c1 => ?_) (fun c1 => ?_)
  · have hf := zitt c1 hf
    refine z_iconst h 0 dX1_isCustom_23 (by decide) (rfl : 23 + 1 = 24) ?_
    refine z_zret h hr dX1_isCustom_24 (Or.inl rfl) ?_
    exact ⟨congrArg Prod.fst (zsome hf), congrArg Prod.snd (zsome hf), rfl⟩
  · have hf := zitf c1 hf
    refine z_iload_n h 0 dX1_isCustom_7 rfl (rfl : 7 + 1 = 8) ?_
    refine z_bipush h 100 dX1_isCustom_8 (by decide) (rfl : 8 + 2 = 10) ?_
    refine z_imul h dX1_isCustom_10 (rfl : 10 + 1 = 11) ?_
    refine z_aload_n h 2 dX1_isCustom_11 rfl (rfl : 11 + 1 = 12) ?_
    refine z_iconst h 2 dX1_isCustom_12 (by decide) (rfl : 12 + 1 = 13) ?_
    refine z_iald h rfl (by decide) dX1_isCustom_13 (rfl : 13 + 1 = 14) ?_
    refine z_iload_n h 1 dX1_isCustom_14 rfl (rfl : 14 + 1 = 15) ?_
    refine z_imul h dX1_isCustom_15 (rfl : 15 + 1 = 16) ?_
    refine z_icmp_lt (pc' := 19) h 23 dX1_isCustom_16 (by decide) rfl (fun c2 => ?_) (fun c2 => ?_)
    · have hf := zitt c2 hf
      refine z_iconst h 0 dX1_isCustom_23 (by decide) (rfl : 23 + 1 = 24) ?_
      refine z_zret h hr dX1_isCustom_24 (Or.inl rfl) ?_
      exact ⟨congrArg Prod.fst (zsome hf), congrArg Prod.snd (zsome hf), rfl⟩
    · have hf := zitf c2 hf
      refine z_iconst h 1 dX1_isCustom_19 (by decide) (rfl : 19 + 1 = 20) ?_
      refine z_goto (pc' := 24) h dX1_isCustom_20 (by decide) ?_
      refine z_zret h hr dX1_isCustom_24 (Or.inr rfl) ?_
      exact ⟨congrArg Prod.fst (zsome hf), congrArg Prod.snd (zsome hf), rfl⟩
noncomputable def f_X1_customOf_11 (J : zJ) (r0 : Nat) (u1 : Int32) (u2 : Int32) (u4 : Int32) : Nat → Int32 → zM → Option ((Int32 × zM) ⊕ (Int32 × zM))
  | 0, _, _ => none
  | n + 1, x5_11, I11 => (if 5 < x5_11 then some (.inr (x5_11, I11)) else (if zin x5_11 6 = true then ((f_X1_isCustom J (I11 (zR r0 8) (Int32.toNatClampNeg x5_11)) u4 I11).bind fun q5 => (if q5.1 = 0 then f_X1_customOf_11 J r0 u1 u2 u4 n (x5_11 + 1) q5.2 else some (.inl ((x5_11, q5.2))))) else none))
noncomputable def f_X1_customOf (J : zJ) (p0 : Nat) (v1 : Int32) (v2 : Int32) (I : zM) : Option (Int32 × zM) := ((f_X1_tallyUp J p0 v1 v2 I).bind fun q1 => ((f_X1_customOf_11 J p0 v1 v2 q1.1 zF 1 q1.2).bind fun q => Sum.elim (fun a => some a) (fun a5 => some ((0, a5.2))) q))
noncomputable abbrev rmX1_customOf : Room := { frames := 1, cells := 0, slots := 0, locals := 24 }
theorem zyX1_customOf : zY yX1_customOf wsX1_customOf cX1_customOf 6 (some .int) 3 := ⟨⟨_, rfl⟩, by decide +kernel⟩
theorem zrX1_customOf_X1_isCustom : zRm rmX1_isCustom rmX1_customOf 3 := ⟨rfl, rfl, by decide, by decide⟩
theorem zrX1_customOf_X1_tallyUp : zRm rmX1_tallyUp rmX1_customOf 5 := ⟨rfl, rfl, by decide, by decide⟩
set_option maxHeartbeats 1000000 in
set_option maxRecDepth 100000 in
theorem c_X1_customOf (B : zB) (I : zM) (J : zJ) (hJ : zJok J) (p0 : Nat) (k0 : zKW[p0]? = some (.inr 1)) (v1 : Int32) (v2 : Int32) (r : Int32) (I' : zM) (hf : f_X1_customOf J p0 v1 v2 I = some (r, I')) : zCi B zKW I J yX1_customOf wsX1_customOf rmX1_customOf [.ref (za B p0), .int v1, .int v2, .ref (za B 5)] (fun r2 I2 J2 => r2 = r ∧ I2 = I' ∧ J2 = J) := by
  refine z_start (own := RX1) (cc := cX1_customOf) (nL := 6) (ret := (some .int)) rfl (by decide) rfl (Nat.le_of_ble_eq_true rfl) (L := [(0, .ref (za B p0)), (1, .int v1), (2, .int v2), (3, .ref (za B 5))]) rfl (fun G h hr => ?_)
  rw [f_X1_customOf] at hf
  refine z_aload_n h 0 dX1_customOf_0 rfl (rfl : 0 + 1 = 1) ?_
  refine z_iload_n h 1 dX1_customOf_1 rfl (rfl : 1 + 1 = 2) ?_
  refine z_iload_n h 2 dX1_customOf_2 rfl (rfl : 2 + 1 = 3) ?_
  obtain ⟨q1, e2, hf⟩ := zbind hf
  refine z_goF (z_runV (C := RX1) (T := TX1) (N := 9) (ci := 1) h [.int v1, .int v2] [] zyX1_tallyUp (c_X1_tallyUp B I J hJ p0 k0 v1 v2 _ _ e2) gX1_customOf_X1_tallyUp rfl k0 rfl zrX1_customOf_X1_tallyUp rfl (Nat.le_of_ble_eq_true rfl) ⟨Nat.zero_le _, Nat.zero_le _⟩ rfl dX1_customOf_3) rfl ?_
  refine z_istore h [(4, .int q1.1), (0, .ref (za B p0)), (1, .int v1), (2, .int v2), (3, .ref (za B 5))] dX1_customOf_6 (by decide) rfl (rfl : 6 + 2 = 8) ?_
  refine z_iconst h 1 dX1_customOf_8 (by decide) (rfl : 8 + 1 = 9) ?_
  refine z_istore h [(5, .int 1), (4, .int q1.1), (0, .ref (za B p0)), (1, .int v1), (2, .int v2), (3, .ref (za B 5))] dX1_customOf_9 (by decide) rfl (rfl : 9 + 2 = 11) ?_
  have loop_11_4 : ∀ (n : Nat) (x5_11 : Int32) (I11 : zM) (q : (Int32 × zM) ⊕ (Int32 × zM)), f_X1_customOf_11 J p0 v1 v2 q1.1 n x5_11 I11 = some q → (∀ a, q = .inl a → a = (r, I')) → (∀ a : Int32 × zM, q = .inr a → Z B G zKW (a.2) (J) (0, 0) 42 [(0, .ref (za B p0)), (1, .int v1), (2, .int v2), (3, .ref (za B 5)), (4, .int q1.1), (5, .int a.1)] []) → Z B G zKW I11 J (0, 0) 11 [(0, .ref (za B p0)), (1, .int v1), (2, .int v2), (3, .ref (za B 5)), (4, .int q1.1), (5, .int x5_11)] [] := by
    intro n; induction n with
    | zero => intro x5_11 I11 q hf; exact absurd hf (by rw [f_X1_customOf_11]; exact fun z => by cases z)
    | succ n ih =>
      intro x5_11 I11 q hf hP hE; rw [f_X1_customOf_11] at hf
      refine z_iload h 5 dX1_customOf_11 rfl (rfl : 11 + 2 = 13) ?_
      refine z_iconst h 5 dX1_customOf_13 (by decide) (rfl : 13 + 1 = 14) ?_
      refine z_icmp_gt (pc' := 17) h 42 dX1_customOf_14 (by decide) rfl (fun c5 => ?_) (fun c5 => ?_)
      · have hf := zitt c5 hf
        exact hE (x5_11, I11) (zsome hf).symm
      · have hf := zitf c5 hf
        refine z_aload_n h 0 dX1_customOf_17 rfl (rfl : 17 + 1 = 18) ?_
        refine z_getr (ci := 1) (C := RX1) (T := TX1) (N := 9) h 8 (zR p0 8) (zf_1_8 hJ k0).1 k0 rfl (fun _ hq => List.mem_cons_of_mem _ (List.mem_append_right _ hq)) (by decide) (List.mem_of_getElem? (i := 1) rfl) rfl dX1_customOf_18 (rfl : 18 + 3 = 21) ?_
        refine z_iload h 5 dX1_customOf_21 rfl (rfl : 21 + 2 = 23) ?_
        obtain ⟨b6, hf⟩ := zchk hf
        refine z_iald h (zf_1_8 hJ k0).2 b6 dX1_customOf_23 (rfl : 23 + 1 = 24) ?_
        refine z_iload h 4 dX1_customOf_24 rfl (rfl : 24 + 2 = 26) ?_
        refine z_aload_n h 3 dX1_customOf_26 rfl (rfl : 26 + 1 = 27) ?_
        obtain ⟨q7, e8, hf⟩ := zbind hf
        refine z_goF (z_runS h [.int (I11 (zR p0 8) (Int32.toNatClampNeg x5_11)), .int q1.1, .ref (za B 5)] [] zyX1_isCustom (c_X1_isCustom B I11 J hJ (I11 (zR p0 8) (Int32.toNatClampNeg x5_11)) q1.1 _ _ e8) gX1_customOf_X1_isCustom zrX1_customOf_X1_isCustom rfl (Nat.le_of_ble_eq_true rfl) ⟨Nat.zero_le _, Nat.zero_le _⟩ rfl dX1_customOf_27) rfl ?_
        refine z_if_eq (pc' := 33) h 36 dX1_customOf_30 (by decide) rfl (fun c9 => ?_) (fun c9 => ?_)
        · have hf := zitt c9 hf
          refine z_iinc h 5 (x5_11 + 1) [(5, .int (x5_11 + 1)), (0, .ref (za B p0)), (1, .int v1), (2, .int v2), (3, .ref (za B 5)), (4, .int q1.1)] dX1_customOf_36 rfl rfl (by decide) rfl (rfl : 36 + 3 = 39) ?_
          refine z_goto (pc' := 11) h dX1_customOf_39 (by decide) ?_
          refine z_sub (L' := [(0, .ref (za B p0)), (1, .int v1), (2, .int v2), (3, .ref (za B 5)), (4, .int q1.1), (5, .int (x5_11 + 1))]) [1, 2, 3, 4, 5, 0] rfl ?_
          exact ih (x5_11 + 1) q7.2 _ hf hP hE
        · have hf := zitf c9 hf
          refine z_iload h 5 dX1_customOf_33 rfl (rfl : 33 + 2 = 35) ?_
          refine z_iret h hr dX1_customOf_35 ?_
          exact ⟨congrArg Prod.fst (hP _ (zsome hf).symm), congrArg Prod.snd (hP _ (zsome hf).symm), rfl⟩
  refine z_sub (L' := [(0, .ref (za B p0)), (1, .int v1), (2, .int v2), (3, .ref (za B 5)), (4, .int q1.1), (5, .int 1)]) [2, 3, 4, 5, 1, 0] rfl ?_
  obtain ⟨q3, e4, hf⟩ := zbind hf
  refine loop_11_4 _ 1 q1.2 q3 e4 (fun a ha => ?_) (fun a10 ha  => ?_)
  · have hf := zell ha hf
    exact zsome hf
  have hf := zelr ha hf
  clear ha loop_11_4
  refine z_iconst h 0 dX1_customOf_42 (by decide) (rfl : 42 + 1 = 43) ?_
  refine z_iret h hr dX1_customOf_43 ?_
  exact ⟨congrArg Prod.fst (zsome hf), congrArg Prod.snd (zsome hf), rfl⟩
noncomputable def f_X1_lacking_11 (J : zJ) (r0 : Nat) (u1 : Int32) (u2 : Int32) (u3 : Int32) (u5 : Int32) : Nat → Int32 → zM → Option ((Int32 × zM) ⊕ (Int32 × zM))
  | 0, _, _ => none
  | n + 1, x6_11, I11 => (if 99 < x6_11 then some (.inr (x6_11, I11)) else (if zin u3 6 = true then ((f_X1_isCustom J ((I11 (zR r0 8) (Int32.toNatClampNeg u3)) + x6_11) (u5 + x6_11) I11).bind fun q5 => (if q5.1 = 0 then f_X1_lacking_11 J r0 u1 u2 u3 u5 n (x6_11 + 1) q5.2 else some (.inl ((x6_11, q5.2))))) else none))
noncomputable def f_X1_lacking (J : zJ) (p0 : Nat) (v1 : Int32) (v2 : Int32) (v3 : Int32) (I : zM) : Option (Int32 × zM) := ((f_X1_tallyUp J p0 v1 v2 I).bind fun q1 => ((f_X1_lacking_11 J p0 v1 v2 v3 q1.1 zF 0 q1.2).bind fun q => Sum.elim (fun a => some a) (fun a5 => some (((-9), a5.2))) q))
noncomputable abbrev rmX1_lacking : Room := { frames := 1, cells := 0, slots := 0, locals := 24 }
theorem zyX1_lacking : zY yX1_lacking wsX1_lacking cX1_lacking 7 (some .int) 4 := ⟨⟨_, rfl⟩, by decide +kernel⟩
theorem zrX1_lacking_X1_isCustom : zRm rmX1_isCustom rmX1_lacking 3 := ⟨rfl, rfl, by decide, by decide⟩
theorem zrX1_lacking_X1_tallyUp : zRm rmX1_tallyUp rmX1_lacking 5 := ⟨rfl, rfl, by decide, by decide⟩
set_option maxHeartbeats 1000000 in
set_option maxRecDepth 100000 in
theorem c_X1_lacking (B : zB) (I : zM) (J : zJ) (hJ : zJok J) (p0 : Nat) (k0 : zKW[p0]? = some (.inr 1)) (v1 : Int32) (v2 : Int32) (v3 : Int32) (r : Int32) (I' : zM) (hf : f_X1_lacking J p0 v1 v2 v3 I = some (r, I')) : zCi B zKW I J yX1_lacking wsX1_lacking rmX1_lacking [.ref (za B p0), .int v1, .int v2, .int v3, .ref (za B 5)] (fun r2 I2 J2 => r2 = r ∧ I2 = I' ∧ J2 = J) := by
  refine z_start (own := RX1) (cc := cX1_lacking) (nL := 7) (ret := (some .int)) rfl (by decide) rfl (Nat.le_of_ble_eq_true rfl) (L := [(0, .ref (za B p0)), (1, .int v1), (2, .int v2), (3, .int v3), (4, .ref (za B 5))]) rfl (fun G h hr => ?_)
  rw [f_X1_lacking] at hf
  refine z_aload_n h 0 dX1_lacking_0 rfl (rfl : 0 + 1 = 1) ?_
  refine z_iload_n h 1 dX1_lacking_1 rfl (rfl : 1 + 1 = 2) ?_
  refine z_iload_n h 2 dX1_lacking_2 rfl (rfl : 2 + 1 = 3) ?_
  obtain ⟨q1, e2, hf⟩ := zbind hf
  refine z_goF (z_runV (C := RX1) (T := TX1) (N := 9) (ci := 1) h [.int v1, .int v2] [] zyX1_tallyUp (c_X1_tallyUp B I J hJ p0 k0 v1 v2 _ _ e2) gX1_lacking_X1_tallyUp rfl k0 rfl zrX1_lacking_X1_tallyUp rfl (Nat.le_of_ble_eq_true rfl) ⟨Nat.zero_le _, Nat.zero_le _⟩ rfl dX1_lacking_3) rfl ?_
  refine z_istore h [(5, .int q1.1), (0, .ref (za B p0)), (1, .int v1), (2, .int v2), (3, .int v3), (4, .ref (za B 5))] dX1_lacking_6 (by decide) rfl (rfl : 6 + 2 = 8) ?_
  refine z_iconst h 0 dX1_lacking_8 (by decide) (rfl : 8 + 1 = 9) ?_
  refine z_istore h [(6, .int 0), (5, .int q1.1), (0, .ref (za B p0)), (1, .int v1), (2, .int v2), (3, .int v3), (4, .ref (za B 5))] dX1_lacking_9 (by decide) rfl (rfl : 9 + 2 = 11) ?_
  have loop_11_4 : ∀ (n : Nat) (x6_11 : Int32) (I11 : zM) (q : (Int32 × zM) ⊕ (Int32 × zM)), f_X1_lacking_11 J p0 v1 v2 v3 q1.1 n x6_11 I11 = some q → (∀ a, q = .inl a → a = (r, I')) → (∀ a : Int32 × zM, q = .inr a → Z B G zKW (a.2) (J) (0, 0) 49 [(0, .ref (za B p0)), (1, .int v1), (2, .int v2), (3, .int v3), (4, .ref (za B 5)), (5, .int q1.1), (6, .int a.1)] []) → Z B G zKW I11 J (0, 0) 11 [(0, .ref (za B p0)), (1, .int v1), (2, .int v2), (3, .int v3), (4, .ref (za B 5)), (5, .int q1.1), (6, .int x6_11)] [] := by
    intro n; induction n with
    | zero => intro x6_11 I11 q hf; exact absurd hf (by rw [f_X1_lacking_11]; exact fun z => by cases z)
    | succ n ih =>
      intro x6_11 I11 q hf hP hE; rw [f_X1_lacking_11] at hf
      refine z_iload h 6 dX1_lacking_11 rfl (rfl : 11 + 2 = 13) ?_
      refine z_bipush h 99 dX1_lacking_13 (by decide) (rfl : 13 + 2 = 15) ?_
      refine z_icmp_gt (pc' := 18) h 49 dX1_lacking_15 (by decide) rfl (fun c5 => ?_) (fun c5 => ?_)
      · have hf := zitt c5 hf
        exact hE (x6_11, I11) (zsome hf).symm
      · have hf := zitf c5 hf
        refine z_aload_n h 0 dX1_lacking_18 rfl (rfl : 18 + 1 = 19) ?_
        refine z_getr (ci := 1) (C := RX1) (T := TX1) (N := 9) h 8 (zR p0 8) (zf_1_8 hJ k0).1 k0 rfl (fun _ hq => List.mem_cons_of_mem _ (List.mem_append_right _ hq)) (by decide) (List.mem_of_getElem? (i := 1) rfl) rfl dX1_lacking_19 (rfl : 19 + 3 = 22) ?_
        refine z_iload_n h 3 dX1_lacking_22 rfl (rfl : 22 + 1 = 23) ?_
        obtain ⟨b6, hf⟩ := zchk hf
        refine z_iald h (zf_1_8 hJ k0).2 b6 dX1_lacking_23 (rfl : 23 + 1 = 24) ?_
        refine z_iload h 6 dX1_lacking_24 rfl (rfl : 24 + 2 = 26) ?_
        refine z_iadd h dX1_lacking_26 (rfl : 26 + 1 = 27) ?_
        refine z_iload h 5 dX1_lacking_27 rfl (rfl : 27 + 2 = 29) ?_
        refine z_iload h 6 dX1_lacking_29 rfl (rfl : 29 + 2 = 31) ?_
        refine z_iadd h dX1_lacking_31 (rfl : 31 + 1 = 32) ?_
        refine z_aload h 4 dX1_lacking_32 rfl (rfl : 32 + 2 = 34) ?_
        obtain ⟨q7, e8, hf⟩ := zbind hf
        refine z_goF (z_runS h [.int ((I11 (zR p0 8) (Int32.toNatClampNeg v3)) + x6_11), .int (q1.1 + x6_11), .ref (za B 5)] [] zyX1_isCustom (c_X1_isCustom B I11 J hJ ((I11 (zR p0 8) (Int32.toNatClampNeg v3)) + x6_11) (q1.1 + x6_11) _ _ e8) gX1_lacking_X1_isCustom zrX1_lacking_X1_isCustom rfl (Nat.le_of_ble_eq_true rfl) ⟨Nat.zero_le _, Nat.zero_le _⟩ rfl dX1_lacking_34) rfl ?_
        refine z_if_eq (pc' := 40) h 43 dX1_lacking_37 (by decide) rfl (fun c9 => ?_) (fun c9 => ?_)
        · have hf := zitt c9 hf
          refine z_iinc h 6 (x6_11 + 1) [(6, .int (x6_11 + 1)), (0, .ref (za B p0)), (1, .int v1), (2, .int v2), (3, .int v3), (4, .ref (za B 5)), (5, .int q1.1)] dX1_lacking_43 rfl rfl (by decide) rfl (rfl : 43 + 3 = 46) ?_
          refine z_goto (pc' := 11) h dX1_lacking_46 (by decide) ?_
          refine z_sub (L' := [(0, .ref (za B p0)), (1, .int v1), (2, .int v2), (3, .int v3), (4, .ref (za B 5)), (5, .int q1.1), (6, .int (x6_11 + 1))]) [1, 2, 3, 4, 5, 6, 0] rfl ?_
          exact ih (x6_11 + 1) q7.2 _ hf hP hE
        · have hf := zitf c9 hf
          refine z_iload h 6 dX1_lacking_40 rfl (rfl : 40 + 2 = 42) ?_
          refine z_iret h hr dX1_lacking_42 ?_
          exact ⟨congrArg Prod.fst (hP _ (zsome hf).symm), congrArg Prod.snd (hP _ (zsome hf).symm), rfl⟩
  refine z_sub (L' := [(0, .ref (za B p0)), (1, .int v1), (2, .int v2), (3, .int v3), (4, .ref (za B 5)), (5, .int q1.1), (6, .int 0)]) [2, 3, 4, 5, 6, 1, 0] rfl ?_
  obtain ⟨q3, e4, hf⟩ := zbind hf
  refine loop_11_4 _ 0 q1.2 q3 e4 (fun a ha => ?_) (fun a10 ha  => ?_)
  · have hf := zell ha hf
    exact zsome hf
  have hf := zelr ha hf
  clear ha loop_11_4
  refine z_bipush h (-9) dX1_lacking_49 (by decide) (rfl : 49 + 2 = 51) ?_
  refine z_iret h hr dX1_lacking_51 ?_
  exact ⟨congrArg Prod.fst (zsome hf), congrArg Prod.snd (zsome hf), rfl⟩
noncomputable def f_X2_clear (J : zJ) (p0 : Nat) (I : zM) : Option (zM) := some (zu I p0 0 0)
noncomputable abbrev rmX2_clear : Room := { frames := 0, cells := 0, slots := 0, locals := 0 }
theorem zyX2_clear : zY yX2_clear wsX2_clear cX2_clear 1 none 0 := ⟨⟨_, rfl⟩, by decide +kernel⟩
set_option maxHeartbeats 1000000 in
set_option maxRecDepth 100000 in
theorem c_X2_clear (B : zB) (I : zM) (J : zJ) (hJ : zJok J) (p0 : Nat) (k0 : zKW[p0]? = some (.inr 2)) (I' : zM) (hf : f_X2_clear J p0 I = some I') : zCv B zKW I J yX2_clear wsX2_clear rmX2_clear [.ref (za B p0)] (fun I2 J2 => I2 = I' ∧ J2 = J) := by
  refine z_start (own := RX2) (cc := cX2_clear) (nL := 1) (ret := none) rfl (by decide) rfl (Nat.le_of_ble_eq_true rfl) (L := [(0, .ref (za B p0))]) rfl (fun G h hr => ?_)
  rw [f_X2_clear] at hf
  refine z_aload_n h 0 dX2_clear_0 rfl (rfl : 0 + 1 = 1) ?_
  refine z_iconst h 0 dX2_clear_1 (by decide) (rfl : 1 + 1 = 2) ?_
  refine z_put (ci := 2) (C := RX2) (T := TX2) (N := 5) h 0 tyX2 tyX2_ok nmX2 k0 rfl (fun _ hq => List.mem_cons_of_mem _ (List.mem_append_right _ hq)) (by decide) (List.mem_of_getElem? (i := 1) rfl) rfl rfl rfl dX2_clear_2 (rfl : 2 + 3 = 5) ?_
  refine z_vret h hr dX2_clear_5 ?_
  exact ⟨(zsome hf), rfl⟩
noncomputable def f_X2_add (J : zJ) (p0 : Nat) (v1 : Int32) (v2 : Int32) (v3 : Int32) (v4 : Int32) (I : zM) : Option (zM) := (if I p0 0 < 16 then (if zin (I p0 0) 16 = true then (if zin ((zu I (zR p0 1) (Int32.toNatClampNeg (I p0 0)) v1) p0 0) 16 = true then (if zin ((zu (zu I (zR p0 1) (Int32.toNatClampNeg (I p0 0)) v1) (zR p0 2) (Int32.toNatClampNeg ((zu I (zR p0 1) (Int32.toNatClampNeg (I p0 0)) v1) p0 0)) v2) p0 0) 16 = true then (if zin ((zu (zu (zu I (zR p0 1) (Int32.toNatClampNeg (I p0 0)) v1) (zR p0 2) (Int32.toNatClampNeg ((zu I (zR p0 1) (Int32.toNatClampNeg (I p0 0)) v1) p0 0)) v2) (zR p0 3) (Int32.toNatClampNeg ((zu (zu I (zR p0 1) (Int32.toNatClampNeg (I p0 0)) v1) (zR p0 2) (Int32.toNatClampNeg ((zu I (zR p0 1) (Int32.toNatClampNeg (I p0 0)) v1) p0 0)) v2) p0 0)) v3) p0 0) 16 = true then some (zu (zu (zu (zu (zu I (zR p0 1) (Int32.toNatClampNeg (I p0 0)) v1) (zR p0 2) (Int32.toNatClampNeg ((zu I (zR p0 1) (Int32.toNatClampNeg (I p0 0)) v1) p0 0)) v2) (zR p0 3) (Int32.toNatClampNeg ((zu (zu I (zR p0 1) (Int32.toNatClampNeg (I p0 0)) v1) (zR p0 2) (Int32.toNatClampNeg ((zu I (zR p0 1) (Int32.toNatClampNeg (I p0 0)) v1) p0 0)) v2) p0 0)) v3) (zR p0 4) (Int32.toNatClampNeg ((zu (zu (zu I (zR p0 1) (Int32.toNatClampNeg (I p0 0)) v1) (zR p0 2) (Int32.toNatClampNeg ((zu I (zR p0 1) (Int32.toNatClampNeg (I p0 0)) v1) p0 0)) v2) (zR p0 3) (Int32.toNatClampNeg ((zu (zu I (zR p0 1) (Int32.toNatClampNeg (I p0 0)) v1) (zR p0 2) (Int32.toNatClampNeg ((zu I (zR p0 1) (Int32.toNatClampNeg (I p0 0)) v1) p0 0)) v2) p0 0)) v3) p0 0)) v4) p0 0 (((zu (zu (zu (zu I (zR p0 1) (Int32.toNatClampNeg (I p0 0)) v1) (zR p0 2) (Int32.toNatClampNeg ((zu I (zR p0 1) (Int32.toNatClampNeg (I p0 0)) v1) p0 0)) v2) (zR p0 3) (Int32.toNatClampNeg ((zu (zu I (zR p0 1) (Int32.toNatClampNeg (I p0 0)) v1) (zR p0 2) (Int32.toNatClampNeg ((zu I (zR p0 1) (Int32.toNatClampNeg (I p0 0)) v1) p0 0)) v2) p0 0)) v3) (zR p0 4) (Int32.toNatClampNeg ((zu (zu (zu I (zR p0 1) (Int32.toNatClampNeg (I p0 0)) v1) (zR p0 2) (Int32.toNatClampNeg ((zu I (zR p0 1) (Int32.toNatClampNeg (I p0 0)) v1) p0 0)) v2) (zR p0 3) (Int32.toNatClampNeg ((zu (zu I (zR p0 1) (Int32.toNatClampNeg (I p0 0)) v1) (zR p0 2) (Int32.toNatClampNeg ((zu I (zR p0 1) (Int32.toNatClampNeg (I p0 0)) v1) p0 0)) v2) p0 0)) v3) p0 0)) v4) p0 0) + (1 : Int32))) else none) else none) else none) else none) else some (I))
noncomputable abbrev rmX2_add : Room := { frames := 0, cells := 0, slots := 0, locals := 0 }
theorem zyX2_add : zY yX2_add wsX2_add cX2_add 5 none 4 := ⟨⟨_, rfl⟩, by decide +kernel⟩
set_option maxHeartbeats 1000000 in
set_option maxRecDepth 100000 in
theorem c_X2_add (B : zB) (I : zM) (J : zJ) (hJ : zJok J) (p0 : Nat) (k0 : zKW[p0]? = some (.inr 2)) (v1 : Int32) (v2 : Int32) (v3 : Int32) (v4 : Int32) (I' : zM) (hf : f_X2_add J p0 v1 v2 v3 v4 I = some I') : zCv B zKW I J yX2_add wsX2_add rmX2_add [.ref (za B p0), .int v1, .int v2, .int v3, .int v4] (fun I2 J2 => I2 = I' ∧ J2 = J) := by
  refine z_start (own := RX2) (cc := cX2_add) (nL := 5) (ret := none) rfl (by decide) rfl (Nat.le_of_ble_eq_true rfl) (L := [(0, .ref (za B p0)), (1, .int v1), (2, .int v2), (3, .int v3), (4, .int v4)]) rfl (fun G h hr => ?_)
  rw [f_X2_add] at hf
  refine z_aload_n h 0 dX2_add_0 rfl (rfl : 0 + 1 = 1) ?_
  refine z_get (ci := 2) (C := RX2) (T := TX2) (N := 5) h 0 k0 rfl (fun _ hq => List.mem_cons_of_mem _ (List.mem_append_right _ hq)) (by decide) (List.mem_of_getElem? (i := 1) rfl) rfl dX2_add_1 (rfl : 1 + 3 = 4) ?_
  refine z_bipush h 16 dX2_add_4 (by decide) (rfl : 4 + 2 = 6) ?_
  refine z_icmp_lt (pc' := 9) h 10 dX2_add_6 (by decide) rfl (fun c1 => ?_) (fun c1 => ?_)
  · have hf := zitt c1 hf
    refine z_aload_n h 0 dX2_add_10 rfl (rfl : 10 + 1 = 11) ?_
    refine z_getr (ci := 2) (C := RX2) (T := TX2) (N := 5) h 1 (zR p0 1) (zf_2_1 hJ k0).1 k0 rfl (fun _ hq => List.mem_cons_of_mem _ (List.mem_append_right _ hq)) (by decide) (List.mem_of_getElem? (i := 2) rfl) rfl dX2_add_11 (rfl : 11 + 3 = 14) ?_
    refine z_aload_n h 0 dX2_add_14 rfl (rfl : 14 + 1 = 15) ?_
    refine z_get (ci := 2) (C := RX2) (T := TX2) (N := 5) h 0 k0 rfl (fun _ hq => List.mem_cons_of_mem _ (List.mem_append_right _ hq)) (by decide) (List.mem_of_getElem? (i := 1) rfl) rfl dX2_add_15 (rfl : 15 + 3 = 18) ?_
    refine z_iload_n h 1 dX2_add_18 rfl (rfl : 18 + 1 = 19) ?_
    obtain ⟨b2, hf⟩ := zchk hf
    refine z_iast h b2 (zf_2_1 hJ k0).2 dX2_add_19 (rfl : 19 + 1 = 20) ?_
    refine z_aload_n h 0 dX2_add_20 rfl (rfl : 20 + 1 = 21) ?_
    refine z_getr (ci := 2) (C := RX2) (T := TX2) (N := 5) h 2 (zR p0 2) (zf_2_2 hJ k0).1 k0 rfl (fun _ hq => List.mem_cons_of_mem _ (List.mem_append_right _ hq)) (by decide) (List.mem_of_getElem? (i := 3) rfl) rfl dX2_add_21 (rfl : 21 + 3 = 24) ?_
    refine z_aload_n h 0 dX2_add_24 rfl (rfl : 24 + 1 = 25) ?_
    refine z_get (ci := 2) (C := RX2) (T := TX2) (N := 5) h 0 k0 rfl (fun _ hq => List.mem_cons_of_mem _ (List.mem_append_right _ hq)) (by decide) (List.mem_of_getElem? (i := 1) rfl) rfl dX2_add_25 (rfl : 25 + 3 = 28) ?_
    refine z_iload_n h 2 dX2_add_28 rfl (rfl : 28 + 1 = 29) ?_
    obtain ⟨b3, hf⟩ := zchk hf
    refine z_iast h b3 (zf_2_2 hJ k0).2 dX2_add_29 (rfl : 29 + 1 = 30) ?_
    refine z_aload_n h 0 dX2_add_30 rfl (rfl : 30 + 1 = 31) ?_
    refine z_getr (ci := 2) (C := RX2) (T := TX2) (N := 5) h 3 (zR p0 3) (zf_2_3 hJ k0).1 k0 rfl (fun _ hq => List.mem_cons_of_mem _ (List.mem_append_right _ hq)) (by decide) (List.mem_of_getElem? (i := 4) rfl) rfl dX2_add_31 (rfl : 31 + 3 = 34) ?_
    refine z_aload_n h 0 dX2_add_34 rfl (rfl : 34 + 1 = 35) ?_
    refine z_get (ci := 2) (C := RX2) (T := TX2) (N := 5) h 0 k0 rfl (fun _ hq => List.mem_cons_of_mem _ (List.mem_append_right _ hq)) (by decide) (List.mem_of_getElem? (i := 1) rfl) rfl dX2_add_35 (rfl : 35 + 3 = 38) ?_
    refine z_iload_n h 3 dX2_add_38 rfl (rfl : 38 + 1 = 39) ?_
    obtain ⟨b4, hf⟩ := zchk hf
    refine z_iast h b4 (zf_2_3 hJ k0).2 dX2_add_39 (rfl : 39 + 1 = 40) ?_
    refine z_aload_n h 0 dX2_add_40 rfl (rfl : 40 + 1 = 41) ?_
    refine z_getr (ci := 2) (C := RX2) (T := TX2) (N := 5) h 4 (zR p0 4) (zf_2_4 hJ k0).1 k0 rfl (fun _ hq => List.mem_cons_of_mem _ (List.mem_append_right _ hq)) (by decide) (List.mem_of_getElem? (i := 5) rfl) rfl dX2_add_41 (rfl : 41 + 3 = 44) ?_
    refine z_aload_n h 0 dX2_add_44 rfl (rfl : 44 + 1 = 45) ?_
    refine z_get (ci := 2) (C := RX2) (T := TX2) (N := 5) h 0 k0 rfl (fun _ hq => List.mem_cons_of_mem _ (List.mem_append_right _ hq)) (by decide) (List.mem_of_getElem? (i := 1) rfl) rfl dX2_add_45 (rfl : 45 + 3 = 48) ?_
    refine z_iload h 4 dX2_add_48 rfl (rfl : 48 + 2 = 50) ?_
    obtain ⟨b5, hf⟩ := zchk hf
    refine z_iast h b5 (zf_2_4 hJ k0).2 dX2_add_50 (rfl : 50 + 1 = 51) ?_
    refine z_aload_n h 0 dX2_add_51 rfl (rfl : 51 + 1 = 52) ?_
    refine z_dup h rfl dX2_add_52 (rfl : 52 + 1 = 53) ?_
    refine z_get (ci := 2) (C := RX2) (T := TX2) (N := 5) h 0 k0 rfl (fun _ hq => List.mem_cons_of_mem _ (List.mem_append_right _ hq)) (by decide) (List.mem_of_getElem? (i := 1) rfl) rfl dX2_add_53 (rfl : 53 + 3 = 56) ?_
    refine z_iconst h 1 dX2_add_56 (by decide) (rfl : 56 + 1 = 57) ?_
    refine z_iadd h dX2_add_57 (rfl : 57 + 1 = 58) ?_
    refine z_put (ci := 2) (C := RX2) (T := TX2) (N := 5) h 0 tyX2 tyX2_ok nmX2 k0 rfl (fun _ hq => List.mem_cons_of_mem _ (List.mem_append_right _ hq)) (by decide) (List.mem_of_getElem? (i := 1) rfl) rfl rfl rfl dX2_add_58 (rfl : 58 + 3 = 61) ?_
    refine z_vret h hr dX2_add_61 ?_
    exact ⟨(zsome hf), rfl⟩
  · have hf := zitf c1 hf
    refine z_vret h hr dX2_add_9 ?_
    exact ⟨(zsome hf), rfl⟩
noncomputable def f_X11_isGap (J : zJ) (v0 : Int32) (I : zM) : Option (Int32 × zM) := (if v0 < 0 then some ((0, I)) else (if 6 ≤ v0 then some ((0, I)) else some ((1, I))))
noncomputable abbrev rmX11_isGap : Room := { frames := 0, cells := 0, slots := 0, locals := 0 }
theorem zyX11_isGap : zY yX11_isGap wsX11_isGap cX11_isGap 1 (some .boolean) 1 := ⟨⟨_, rfl⟩, by decide +kernel⟩
set_option maxHeartbeats 1000000 in
set_option maxRecDepth 100000 in
theorem c_X11_isGap (B : zB) (I : zM) (J : zJ) (hJ : zJok J) (v0 : Int32) (r : Int32) (I' : zM) (hf : f_X11_isGap J v0 I = some (r, I')) : zCi B zKW I J yX11_isGap wsX11_isGap rmX11_isGap [.int v0] (fun r2 I2 J2 => r2 = r ∧ I2 = I' ∧ J2 = J) := by
  refine z_start (own := RX11) (cc := cX11_isGap) (nL := 1) (ret := (some .boolean)) rfl (by decide) rfl (Nat.le_of_ble_eq_true rfl) (L := [(0, .int v0)]) rfl (fun G h hr => ?_)
  rw [f_X11_isGap] at hf
  refine z_iload_n h 0 dX11_isGap_0 rfl (rfl : 0 + 1 = 1) ?_
  refine z_if_lt (pc' := 4) h 14 dX11_isGap_1 (by decide) rfl (fun c1 => ?_) (fun c1 => ?_)
  · have hf := zitt c1 hf
    refine z_iconst h 0 dX11_isGap_14 (by decide) (rfl : 14 + 1 = 15) ?_
    refine z_zret h hr dX11_isGap_15 (Or.inl rfl) ?_
    exact ⟨congrArg Prod.fst (zsome hf), congrArg Prod.snd (zsome hf), rfl⟩
  · have hf := zitf c1 hf
    refine z_iload_n h 0 dX11_isGap_4 rfl (rfl : 4 + 1 = 5) ?_
    refine z_bipush h 6 dX11_isGap_5 (by decide) (rfl : 5 + 2 = 7) ?_
    refine z_icmp_ge (pc' := 10) h 14 dX11_isGap_7 (by decide) rfl (fun c2 => ?_) (fun c2 => ?_)
    · have hf := zitt c2 hf
      refine z_iconst h 0 dX11_isGap_14 (by decide) (rfl : 14 + 1 = 15) ?_
      refine z_zret h hr dX11_isGap_15 (Or.inl rfl) ?_
      exact ⟨congrArg Prod.fst (zsome hf), congrArg Prod.snd (zsome hf), rfl⟩
    · have hf := zitf c2 hf
      refine z_iconst h 1 dX11_isGap_10 (by decide) (rfl : 10 + 1 = 11) ?_
      refine z_goto (pc' := 15) h dX11_isGap_11 (by decide) ?_
      refine z_zret h hr dX11_isGap_15 (Or.inr rfl) ?_
      exact ⟨congrArg Prod.fst (zsome hf), congrArg Prod.snd (zsome hf), rfl⟩
noncomputable def f_X2_first_2 (J : zJ) (r0 : Nat) : Nat → Int32 → zM → Option ((Int32 × zM) ⊕ (Int32 × zM))
  | 0, _, _ => none
  | n + 1, x2_2, I2 => (if I2 r0 0 ≤ x2_2 then some (.inr (x2_2, I2)) else (if zin x2_2 16 = true then ((f_X11_isGap J (I2 (zR r0 3) (Int32.toNatClampNeg x2_2)) I2).bind fun q3 => (if q3.1 = 0 then some (.inl ((x2_2, q3.2))) else (if zin (I2 (zR r0 3) (Int32.toNatClampNeg x2_2)) 6 = true then (if zin x2_2 16 = true then (if q3.2 44 (Int32.toNatClampNeg (I2 (zR r0 3) (Int32.toNatClampNeg x2_2))) = q3.2 (zR r0 4) (Int32.toNatClampNeg x2_2) then some (.inl ((x2_2, q3.2))) else f_X2_first_2 J r0 n (x2_2 + 1) q3.2) else none) else none))) else none))
noncomputable def f_X2_first (J : zJ) (p0 : Nat) (I : zM) : Option (Int32 × zM) := ((f_X2_first_2 J p0 zF 0 I).bind fun q => Sum.elim (fun a => some a) (fun a3 => some (((-9), a3.2))) q)
noncomputable abbrev rmX2_first : Room := { frames := 1, cells := 0, slots := 0, locals := 20 }
theorem zyX2_first : zY yX2_first wsX2_first cX2_first 4 (some .int) 1 := ⟨⟨_, rfl⟩, by decide +kernel⟩
theorem zrX2_first_X11_isGap : zRm rmX11_isGap rmX2_first 1 := ⟨rfl, rfl, by decide, by decide⟩
set_option maxHeartbeats 1000000 in
set_option maxRecDepth 100000 in
theorem c_X2_first (B : zB) (I : zM) (J : zJ) (hJ : zJok J) (p0 : Nat) (k0 : zKW[p0]? = some (.inr 2)) (r : Int32) (I' : zM) (hf : f_X2_first J p0 I = some (r, I')) : zCi B zKW I J yX2_first wsX2_first rmX2_first [.ref (za B p0), .ref (za B 44)] (fun r2 I2 J2 => r2 = r ∧ I2 = I' ∧ J2 = J) := by
  refine z_start (own := RX2) (cc := cX2_first) (nL := 4) (ret := (some .int)) rfl (by decide) rfl (Nat.le_of_ble_eq_true rfl) (L := [(0, .ref (za B p0)), (1, .ref (za B 44))]) rfl (fun G h hr => ?_)
  rw [f_X2_first] at hf
  refine z_iconst h 0 dX2_first_0 (by decide) (rfl : 0 + 1 = 1) ?_
  refine z_istore_n h [(2, .int 0), (0, .ref (za B p0)), (1, .ref (za B 44))] dX2_first_1 (by decide) rfl (rfl : 1 + 1 = 2) ?_
  have loop_2_2 : ∀ (n : Nat) (x2_2 : Int32) (I2 : zM) (q : (Int32 × zM) ⊕ (Int32 × zM)), f_X2_first_2 J p0 n x2_2 I2 = some q → (∀ a, q = .inl a → a = (r, I')) → (∀ a : Int32 × zM, q = .inr a → Z B G zKW (a.2) (J) (0, 0) 44 [(0, .ref (za B p0)), (1, .ref (za B 44)), (2, .int a.1)] []) → Z B G zKW I2 J (0, 0) 2 [(0, .ref (za B p0)), (1, .ref (za B 44)), (2, .int x2_2)] [] := by
    intro n; induction n with
    | zero => intro x2_2 I2 q hf; exact absurd hf (by rw [f_X2_first_2]; exact fun z => by cases z)
    | succ n ih =>
      intro x2_2 I2 q hf hP hE; rw [f_X2_first_2] at hf
      refine z_iload_n h 2 dX2_first_2 rfl (rfl : 2 + 1 = 3) ?_
      refine z_aload_n h 0 dX2_first_3 rfl (rfl : 3 + 1 = 4) ?_
      refine z_get (ci := 2) (C := RX2) (T := TX2) (N := 5) h 0 k0 rfl (fun _ hq => List.mem_cons_of_mem _ (List.mem_append_right _ hq)) (by decide) (List.mem_of_getElem? (i := 1) rfl) rfl dX2_first_4 (rfl : 4 + 3 = 7) ?_
      refine z_icmp_ge (pc' := 10) h 44 dX2_first_7 (by decide) rfl (fun c3 => ?_) (fun c3 => ?_)
      · have hf := zitt c3 hf
        exact hE (x2_2, I2) (zsome hf).symm
      · have hf := zitf c3 hf
        refine z_aload_n h 0 dX2_first_10 rfl (rfl : 10 + 1 = 11) ?_
        refine z_getr (ci := 2) (C := RX2) (T := TX2) (N := 5) h 3 (zR p0 3) (zf_2_3 hJ k0).1 k0 rfl (fun _ hq => List.mem_cons_of_mem _ (List.mem_append_right _ hq)) (by decide) (List.mem_of_getElem? (i := 2) rfl) rfl dX2_first_11 (rfl : 11 + 3 = 14) ?_
        refine z_iload_n h 2 dX2_first_14 rfl (rfl : 14 + 1 = 15) ?_
        obtain ⟨b4, hf⟩ := zchk hf
        refine z_iald h (zf_2_3 hJ k0).2 b4 dX2_first_15 (rfl : 15 + 1 = 16) ?_
        refine z_istore_n h [(3, .int (I2 (zR p0 3) (Int32.toNatClampNeg x2_2))), (0, .ref (za B p0)), (1, .ref (za B 44)), (2, .int x2_2)] dX2_first_16 (by decide) rfl (rfl : 16 + 1 = 17) ?_
        refine z_iload_n h 0 dX2_first_17 rfl (rfl : 17 + 1 = 18) ?_
        obtain ⟨q5, e6, hf⟩ := zbind hf
        refine z_goF (z_runSN (host := "LeftOut") h [.int (I2 (zR p0 3) (Int32.toNatClampNeg x2_2))] [] zyX11_isGap (c_X11_isGap B I2 J hJ (I2 (zR p0 3) (Int32.toNatClampNeg x2_2)) _ _ e6) gX2_first_X11_isGap_n28 (List.mem_of_getElem? (i := 18) rfl) (List.mem_of_getElem? (i := 4) rfl) (List.mem_of_getElem? (i := 5) rfl) zrX2_first_X11_isGap rfl (Nat.le_of_ble_eq_true rfl) ⟨Nat.zero_le _, Nat.zero_le _⟩ rfl dX2_first_18) rfl ?_
        refine z_if_eq (pc' := 24) h 36 dX2_first_21 (by decide) rfl (fun c7 => ?_) (fun c7 => ?_)
        · have hf := zitt c7 hf
          refine z_iload_n h 3 dX2_first_36 rfl (rfl : 36 + 1 = 37) ?_
          refine z_iret h hr dX2_first_37 ?_
          exact ⟨congrArg Prod.fst (hP _ (zsome hf).symm), congrArg Prod.snd (hP _ (zsome hf).symm), rfl⟩
        · have hf := zitf c7 hf
          refine z_aload_n h 2 dX2_first_24 rfl (rfl : 24 + 1 = 25) ?_
          refine z_iload_n h 0 dX2_first_25 rfl (rfl : 25 + 1 = 26) ?_
          obtain ⟨b8, hf⟩ := zchk hf
          refine z_iald h rfl b8 dX2_first_26 (rfl : 26 + 1 = 27) ?_
          refine z_aload_n h 1 dX2_first_27 rfl (rfl : 27 + 1 = 28) ?_
          refine z_getr (ci := 2) (C := RX2) (T := TX2) (N := 5) h 4 (zR p0 4) (zf_2_4 hJ k0).1 k0 rfl (fun _ hq => List.mem_cons_of_mem _ (List.mem_append_right _ hq)) (by decide) (List.mem_of_getElem? (i := 3) rfl) rfl dX2_first_28 (rfl : 28 + 3 = 31) ?_
          refine z_iload_n h 3 dX2_first_31 rfl (rfl : 31 + 1 = 32) ?_
          obtain ⟨b9, hf⟩ := zchk hf
          refine z_iald h (zf_2_4 hJ k0).2 b9 dX2_first_32 (rfl : 32 + 1 = 33) ?_
          refine z_icmp_ne (pc' := 36) h 38 dX2_first_33 (by decide) rfl (fun c10 => ?_) (fun c10 => ?_)
          · have hf := zitf c10 hf
            refine z_iinc h 3 (x2_2 + 1) [(2, .int (x2_2 + 1)), (3, .int (I2 (zR p0 3) (Int32.toNatClampNeg x2_2))), (0, .ref (za B p0)), (1, .ref (za B 44))] dX2_first_38 rfl rfl (by decide) rfl (rfl : 38 + 3 = 41) ?_
            refine z_goto (pc' := 2) h dX2_first_41 (by decide) ?_
            refine z_sub (L' := [(0, .ref (za B p0)), (1, .ref (za B 44)), (2, .int (x2_2 + 1))]) [2, 3, 0] rfl ?_
            exact ih (x2_2 + 1) q5.2 _ hf hP hE
          · have hf := zitt c10 hf
            refine z_iload_n h 3 dX2_first_36 rfl (rfl : 36 + 1 = 37) ?_
            refine z_iret h hr dX2_first_37 ?_
            exact ⟨congrArg Prod.fst (hP _ (zsome hf).symm), congrArg Prod.snd (hP _ (zsome hf).symm), rfl⟩
  refine z_sub (L' := [(0, .ref (za B p0)), (1, .ref (za B 44)), (2, .int 0)]) [1, 2, 0] rfl ?_
  obtain ⟨q1, e2, hf⟩ := zbind hf
  refine loop_2_2 _ 0 I q1 e2 (fun a ha => ?_) (fun a11 ha  => ?_)
  · have hf := zell ha hf
    exact zsome hf
  have hf := zelr ha hf
  clear ha loop_2_2
  refine z_bipush h (-9) dX2_first_44 (by decide) (rfl : 44 + 2 = 46) ?_
  refine z_iret h hr dX2_first_46 ?_
  exact ⟨congrArg Prod.fst (zsome hf), congrArg Prod.snd (zsome hf), rfl⟩
noncomputable def f_X2_valueOf (J : zJ) (p0 : Nat) (v1 : Int32) (I : zM) : Option (Int32 × zM) := (if v1 < 0 then some ((0, I)) else (if I p0 0 ≤ v1 then some ((0, I)) else (if zin v1 16 = true then some ((I (zR p0 1) (Int32.toNatClampNeg v1), I)) else none)))
noncomputable abbrev rmX2_valueOf : Room := { frames := 0, cells := 0, slots := 0, locals := 0 }
theorem zyX2_valueOf : zY yX2_valueOf wsX2_valueOf cX2_valueOf 2 (some .int) 1 := ⟨⟨_, rfl⟩, by decide +kernel⟩
set_option maxHeartbeats 1000000 in
set_option maxRecDepth 100000 in
theorem c_X2_valueOf (B : zB) (I : zM) (J : zJ) (hJ : zJok J) (p0 : Nat) (k0 : zKW[p0]? = some (.inr 2)) (v1 : Int32) (r : Int32) (I' : zM) (hf : f_X2_valueOf J p0 v1 I = some (r, I')) : zCi B zKW I J yX2_valueOf wsX2_valueOf rmX2_valueOf [.ref (za B p0), .int v1] (fun r2 I2 J2 => r2 = r ∧ I2 = I' ∧ J2 = J) := by
  refine z_start (own := RX2) (cc := cX2_valueOf) (nL := 2) (ret := (some .int)) rfl (by decide) rfl (Nat.le_of_ble_eq_true rfl) (L := [(0, .ref (za B p0)), (1, .int v1)]) rfl (fun G h hr => ?_)
  rw [f_X2_valueOf] at hf
  refine z_iload_n h 1 dX2_valueOf_0 rfl (rfl : 0 + 1 = 1) ?_
  refine z_if_lt (pc' := 4) h 21 dX2_valueOf_1 (by decide) rfl (fun c1 => ?_) (fun c1 => ?_)
  · have hf := zitt c1 hf
    refine z_iconst h 0 dX2_valueOf_21 (by decide) (rfl : 21 + 1 = 22) ?_
    refine z_iret h hr dX2_valueOf_22 ?_
    exact ⟨congrArg Prod.fst (zsome hf), congrArg Prod.snd (zsome hf), rfl⟩
  · have hf := zitf c1 hf
    refine z_iload_n h 1 dX2_valueOf_4 rfl (rfl : 4 + 1 = 5) ?_
    refine z_aload_n h 0 dX2_valueOf_5 rfl (rfl : 5 + 1 = 6) ?_
    refine z_get (ci := 2) (C := RX2) (T := TX2) (N := 5) h 0 k0 rfl (fun _ hq => List.mem_cons_of_mem _ (List.mem_append_right _ hq)) (by decide) (List.mem_of_getElem? (i := 1) rfl) rfl dX2_valueOf_6 (rfl : 6 + 3 = 9) ?_
    refine z_icmp_ge (pc' := 12) h 21 dX2_valueOf_9 (by decide) rfl (fun c2 => ?_) (fun c2 => ?_)
    · have hf := zitt c2 hf
      refine z_iconst h 0 dX2_valueOf_21 (by decide) (rfl : 21 + 1 = 22) ?_
      refine z_iret h hr dX2_valueOf_22 ?_
      exact ⟨congrArg Prod.fst (zsome hf), congrArg Prod.snd (zsome hf), rfl⟩
    · have hf := zitf c2 hf
      refine z_aload_n h 0 dX2_valueOf_12 rfl (rfl : 12 + 1 = 13) ?_
      refine z_getr (ci := 2) (C := RX2) (T := TX2) (N := 5) h 1 (zR p0 1) (zf_2_1 hJ k0).1 k0 rfl (fun _ hq => List.mem_cons_of_mem _ (List.mem_append_right _ hq)) (by decide) (List.mem_of_getElem? (i := 2) rfl) rfl dX2_valueOf_13 (rfl : 13 + 3 = 16) ?_
      refine z_iload_n h 1 dX2_valueOf_16 rfl (rfl : 16 + 1 = 17) ?_
      obtain ⟨b3, hf⟩ := zchk hf
      refine z_iald h (zf_2_1 hJ k0).2 b3 dX2_valueOf_17 (rfl : 17 + 1 = 18) ?_
      refine z_goto (pc' := 22) h dX2_valueOf_18 (by decide) ?_
      refine z_iret h hr dX2_valueOf_22 ?_
      exact ⟨congrArg Prod.fst (zsome hf), congrArg Prod.snd (zsome hf), rfl⟩
noncomputable def f_X2_reasonOf (J : zJ) (p0 : Nat) (v1 : Int32) (I : zM) : Option (Int32 × zM) := (if v1 < 0 then some ((0, I)) else (if I p0 0 ≤ v1 then some ((0, I)) else (if zin v1 16 = true then some ((I (zR p0 2) (Int32.toNatClampNeg v1), I)) else none)))
noncomputable abbrev rmX2_reasonOf : Room := { frames := 0, cells := 0, slots := 0, locals := 0 }
theorem zyX2_reasonOf : zY yX2_reasonOf wsX2_reasonOf cX2_reasonOf 2 (some .int) 1 := ⟨⟨_, rfl⟩, by decide +kernel⟩
set_option maxHeartbeats 1000000 in
set_option maxRecDepth 100000 in
theorem c_X2_reasonOf (B : zB) (I : zM) (J : zJ) (hJ : zJok J) (p0 : Nat) (k0 : zKW[p0]? = some (.inr 2)) (v1 : Int32) (r : Int32) (I' : zM) (hf : f_X2_reasonOf J p0 v1 I = some (r, I')) : zCi B zKW I J yX2_reasonOf wsX2_reasonOf rmX2_reasonOf [.ref (za B p0), .int v1] (fun r2 I2 J2 => r2 = r ∧ I2 = I' ∧ J2 = J) := by
  refine z_start (own := RX2) (cc := cX2_reasonOf) (nL := 2) (ret := (some .int)) rfl (by decide) rfl (Nat.le_of_ble_eq_true rfl) (L := [(0, .ref (za B p0)), (1, .int v1)]) rfl (fun G h hr => ?_)
  rw [f_X2_reasonOf] at hf
  refine z_iload_n h 1 dX2_reasonOf_0 rfl (rfl : 0 + 1 = 1) ?_
  refine z_if_lt (pc' := 4) h 21 dX2_reasonOf_1 (by decide) rfl (fun c1 => ?_) (fun c1 => ?_)
  · have hf := zitt c1 hf
    refine z_iconst h 0 dX2_reasonOf_21 (by decide) (rfl : 21 + 1 = 22) ?_
    refine z_iret h hr dX2_reasonOf_22 ?_
    exact ⟨congrArg Prod.fst (zsome hf), congrArg Prod.snd (zsome hf), rfl⟩
  · have hf := zitf c1 hf
    refine z_iload_n h 1 dX2_reasonOf_4 rfl (rfl : 4 + 1 = 5) ?_
    refine z_aload_n h 0 dX2_reasonOf_5 rfl (rfl : 5 + 1 = 6) ?_
    refine z_get (ci := 2) (C := RX2) (T := TX2) (N := 5) h 0 k0 rfl (fun _ hq => List.mem_cons_of_mem _ (List.mem_append_right _ hq)) (by decide) (List.mem_of_getElem? (i := 1) rfl) rfl dX2_reasonOf_6 (rfl : 6 + 3 = 9) ?_
    refine z_icmp_ge (pc' := 12) h 21 dX2_reasonOf_9 (by decide) rfl (fun c2 => ?_) (fun c2 => ?_)
    · have hf := zitt c2 hf
      refine z_iconst h 0 dX2_reasonOf_21 (by decide) (rfl : 21 + 1 = 22) ?_
      refine z_iret h hr dX2_reasonOf_22 ?_
      exact ⟨congrArg Prod.fst (zsome hf), congrArg Prod.snd (zsome hf), rfl⟩
    · have hf := zitf c2 hf
      refine z_aload_n h 0 dX2_reasonOf_12 rfl (rfl : 12 + 1 = 13) ?_
      refine z_getr (ci := 2) (C := RX2) (T := TX2) (N := 5) h 2 (zR p0 2) (zf_2_2 hJ k0).1 k0 rfl (fun _ hq => List.mem_cons_of_mem _ (List.mem_append_right _ hq)) (by decide) (List.mem_of_getElem? (i := 2) rfl) rfl dX2_reasonOf_13 (rfl : 13 + 3 = 16) ?_
      refine z_iload_n h 1 dX2_reasonOf_16 rfl (rfl : 16 + 1 = 17) ?_
      obtain ⟨b3, hf⟩ := zchk hf
      refine z_iald h (zf_2_2 hJ k0).2 b3 dX2_reasonOf_17 (rfl : 17 + 1 = 18) ?_
      refine z_goto (pc' := 22) h dX2_reasonOf_18 (by decide) ?_
      refine z_iret h hr dX2_reasonOf_22 ?_
      exact ⟨congrArg Prod.fst (zsome hf), congrArg Prod.snd (zsome hf), rfl⟩
noncomputable def f_X3_isAsked (J : zJ) (v1 : Int32) (I : zM) : Option (Int32 × zM) := (if zin v1 6 = true then (if zin v1 6 = true then (if I 2 (Int32.toNatClampNeg v1) ≤ 0 then some ((0, I)) else ((f_X11_isGap J (I 3 (Int32.toNatClampNeg v1)) I).bind fun q4 => (if q4.1 = 0 then some ((1, q4.2)) else (if zin (I 3 (Int32.toNatClampNeg v1)) 6 = true then (if zin v1 6 = true then (if q4.2 44 (Int32.toNatClampNeg (I 3 (Int32.toNatClampNeg v1))) = q4.2 4 (Int32.toNatClampNeg v1) then some ((1, q4.2)) else some ((0, q4.2))) else none) else none)))) else none) else none)
noncomputable abbrev rmX3_isAsked : Room := { frames := 1, cells := 0, slots := 0, locals := 20 }
theorem zyX3_isAsked : zY yX3_isAsked wsX3_isAsked cX3_isAsked 4 (some .boolean) 2 := ⟨⟨_, rfl⟩, by decide +kernel⟩
theorem zrX3_isAsked_X11_isGap : zRm rmX11_isGap rmX3_isAsked 1 := ⟨rfl, rfl, by decide, by decide⟩
set_option maxHeartbeats 1000000 in
set_option maxRecDepth 100000 in
theorem c_X3_isAsked (B : zB) (I : zM) (J : zJ) (hJ : zJok J) (v1 : Int32) (r : Int32) (I' : zM) (hf : f_X3_isAsked J v1 I = some (r, I')) : zCi B zKW I J yX3_isAsked wsX3_isAsked rmX3_isAsked [.ref (za B 1), .int v1, .ref (za B 44)] (fun r2 I2 J2 => r2 = r ∧ I2 = I' ∧ J2 = J) := by
  refine z_start (own := RX3) (cc := cX3_isAsked) (nL := 4) (ret := (some .boolean)) rfl (by decide) rfl (Nat.le_of_ble_eq_true rfl) (L := [(0, .ref (za B 1)), (1, .int v1), (2, .ref (za B 44))]) rfl (fun G h hr => ?_)
  rw [f_X3_isAsked] at hf
  refine z_aload_n h 0 dX3_isAsked_0 rfl (rfl : 0 + 1 = 1) ?_
  refine z_getr (ci := 3) (C := RX3) (T := TX3) (N := 4) h 2 3 ((hJ.1 1 2 (by decide)).trans rfl) rfl rfl (fun _ hq => List.mem_cons_of_mem _ (List.mem_append_right _ hq)) (by decide) (List.mem_of_getElem? (i := 1) rfl) rfl dX3_isAsked_1 (rfl : 1 + 3 = 4) ?_
  refine z_iload_n h 1 dX3_isAsked_4 rfl (rfl : 4 + 1 = 5) ?_
  obtain ⟨b1, hf⟩ := zchk hf
  refine z_iald h rfl b1 dX3_isAsked_5 (rfl : 5 + 1 = 6) ?_
  refine z_istore_n h [(3, .int (I 3 (Int32.toNatClampNeg v1))), (0, .ref (za B 1)), (1, .int v1), (2, .ref (za B 44))] dX3_isAsked_6 (by decide) rfl (rfl : 6 + 1 = 7) ?_
  refine z_aload_n h 1 dX3_isAsked_7 rfl (rfl : 7 + 1 = 8) ?_
  refine z_getr (ci := 3) (C := RX3) (T := TX3) (N := 4) h 0 2 ((hJ.1 1 0 (by decide)).trans rfl) rfl rfl (fun _ hq => List.mem_cons_of_mem _ (List.mem_append_right _ hq)) (by decide) (List.mem_of_getElem? (i := 2) rfl) rfl dX3_isAsked_8 (rfl : 8 + 3 = 11) ?_
  refine z_iload_n h 2 dX3_isAsked_11 rfl (rfl : 11 + 1 = 12) ?_
  obtain ⟨b2, hf⟩ := zchk hf
  refine z_iald h rfl b2 dX3_isAsked_12 (rfl : 12 + 1 = 13) ?_
  refine z_if_le (pc' := 16) h 39 dX3_isAsked_13 (by decide) rfl (fun c3 => ?_) (fun c3 => ?_)
  · have hf := zitt c3 hf
    refine z_iconst h 0 dX3_isAsked_39 (by decide) (rfl : 39 + 1 = 40) ?_
    refine z_zret h hr dX3_isAsked_40 (Or.inl rfl) ?_
    exact ⟨congrArg Prod.fst (zsome hf), congrArg Prod.snd (zsome hf), rfl⟩
  · have hf := zitf c3 hf
    refine z_iload_n h 0 dX3_isAsked_16 rfl (rfl : 16 + 1 = 17) ?_
    obtain ⟨q4, e5, hf⟩ := zbind hf
    refine z_goF (z_runSN (host := "LeftOut") h [.int (I 3 (Int32.toNatClampNeg v1))] [] zyX11_isGap (c_X11_isGap B I J hJ (I 3 (Int32.toNatClampNeg v1)) _ _ e5) gX3_isAsked_X11_isGap_n25 (List.mem_of_getElem? (i := 17) rfl) (List.mem_of_getElem? (i := 4) rfl) (List.mem_of_getElem? (i := 5) rfl) zrX3_isAsked_X11_isGap rfl (Nat.le_of_ble_eq_true rfl) ⟨Nat.zero_le _, Nat.zero_le _⟩ rfl dX3_isAsked_17) rfl ?_
    refine z_if_eq (pc' := 23) h 35 dX3_isAsked_20 (by decide) rfl (fun c6 => ?_) (fun c6 => ?_)
    · have hf := zitt c6 hf
      refine z_iconst h 1 dX3_isAsked_35 (by decide) (rfl : 35 + 1 = 36) ?_
      refine z_goto (pc' := 40) h dX3_isAsked_36 (by decide) ?_
      refine z_zret h hr dX3_isAsked_40 (Or.inr rfl) ?_
      exact ⟨congrArg Prod.fst (zsome hf), congrArg Prod.snd (zsome hf), rfl⟩
    · have hf := zitf c6 hf
      refine z_aload_n h 3 dX3_isAsked_23 rfl (rfl : 23 + 1 = 24) ?_
      refine z_iload_n h 0 dX3_isAsked_24 rfl (rfl : 24 + 1 = 25) ?_
      obtain ⟨b7, hf⟩ := zchk hf
      refine z_iald h rfl b7 dX3_isAsked_25 (rfl : 25 + 1 = 26) ?_
      refine z_aload_n h 1 dX3_isAsked_26 rfl (rfl : 26 + 1 = 27) ?_
      refine z_getr (ci := 3) (C := RX3) (T := TX3) (N := 4) h 3 4 ((hJ.1 1 3 (by decide)).trans rfl) rfl rfl (fun _ hq => List.mem_cons_of_mem _ (List.mem_append_right _ hq)) (by decide) (List.mem_of_getElem? (i := 3) rfl) rfl dX3_isAsked_27 (rfl : 27 + 3 = 30) ?_
      refine z_iload_n h 2 dX3_isAsked_30 rfl (rfl : 30 + 1 = 31) ?_
      obtain ⟨b8, hf⟩ := zchk hf
      refine z_iald h rfl b8 dX3_isAsked_31 (rfl : 31 + 1 = 32) ?_
      refine z_icmp_ne (pc' := 35) h 39 dX3_isAsked_32 (by decide) rfl (fun c9 => ?_) (fun c9 => ?_)
      · have hf := zitf c9 hf
        refine z_iconst h 0 dX3_isAsked_39 (by decide) (rfl : 39 + 1 = 40) ?_
        refine z_zret h hr dX3_isAsked_40 (Or.inl rfl) ?_
        exact ⟨congrArg Prod.fst (zsome hf), congrArg Prod.snd (zsome hf), rfl⟩
      · have hf := zitt c9 hf
        refine z_iconst h 1 dX3_isAsked_35 (by decide) (rfl : 35 + 1 = 36) ?_
        refine z_goto (pc' := 40) h dX3_isAsked_36 (by decide) ?_
        refine z_zret h hr dX3_isAsked_40 (Or.inr rfl) ?_
        exact ⟨congrArg Prod.fst (zsome hf), congrArg Prod.snd (zsome hf), rfl⟩
