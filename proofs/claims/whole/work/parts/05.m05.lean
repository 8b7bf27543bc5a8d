noncomputable def f_X12_noBargain (J : zJ) (v1 : Int32) (I : zM) : Option (Int32 × zM) := ((f_X12_in J (Int32.toInt64 v1) 0 (Int32.toInt64 ((I 147 25) - (1 : Int32))) I).bind fun q1 => (if q1.1 = 0 then some ((1, q1.2)) else some ((0, q1.2))))
noncomputable abbrev rmX12_noBargain : Room := { frames := 1, cells := 0, slots := 0, locals := 25 }
theorem zyX12_noBargain : zY yX12_noBargain wsX12_noBargain cX12_noBargain 2 (some .boolean) 1 := ⟨⟨_, rfl⟩, by decide +kernel⟩
theorem zrX12_noBargain_X12_in : zRm rmX12_in rmX12_noBargain 6 := ⟨rfl, rfl, by decide, by decide⟩
set_option maxHeartbeats 1000000 in
set_option maxRecDepth 100000 in
theorem c_X12_noBargain (B : zB) (I : zM) (J : zJ) (hJ : zJok J) (v1 : Int32) (r : Int32) (I' : zM) (hf : f_X12_noBargain J v1 I = some (r, I')) : zCi B zKW I J yX12_noBargain wsX12_noBargain rmX12_noBargain [.ref (za B 147), .int v1] (fun r2 I2 J2 => r2 = r ∧ I2 = I' ∧ J2 = J) := by
  refine z_start (own := RX12) (cc := cX12_noBargain) (nL := 2) (ret := (some .boolean)) rfl (by decide) rfl (Nat.le_of_ble_eq_true rfl) (L := [(0, .ref (za B 147)), (1, .int v1)]) rfl (fun G h hr => ?_)
  rw [f_X12_noBargain] at hf
  refine z_iload_n h 1 dX12_noBargain_0 rfl (rfl : 0 + 1 = 1) ?_
  refine z_i2l h dX12_noBargain_1 (rfl : 1 + 1 = 2) ?_
  refine z_lconst h 0 dX12_noBargain_2 rfl (rfl : 2 + 1 = 3) ?_
  refine z_aload_n h 0 dX12_noBargain_3 rfl (rfl : 3 + 1 = 4) ?_
  refine z_get (ci := 11) (C := RX12) (T := TX12) (N := 46) h 25 rfl rfl (fun _ hq => List.mem_cons_of_mem _ (List.mem_append_right _ hq)) (by decide) (List.mem_of_getElem? (i := 1) rfl) rfl dX12_noBargain_4 (rfl : 4 + 3 = 7) ?_
  refine z_iconst h 1 dX12_noBargain_7 (by decide) (rfl : 7 + 1 = 8) ?_
  refine z_isub h dX12_noBargain_8 (rfl : 8 + 1 = 9) ?_
  refine z_i2l h dX12_noBargain_9 (rfl : 9 + 1 = 10) ?_
  obtain ⟨q1, e2, hf⟩ := zbind hf
  refine z_goF (z_runS h [.long (Int32.toInt64 v1), .long 0, .long (Int32.toInt64 ((I 147 25) - (1 : Int32)))] [] zyX12_in (c_X12_in B I J hJ (Int32.toInt64 v1) 0 (Int32.toInt64 ((I 147 25) - (1 : Int32))) _ _ e2) gX12_noBargain_X12_in zrX12_noBargain_X12_in rfl (Nat.le_of_ble_eq_true rfl) ⟨Nat.zero_le _, Nat.zero_le _⟩ rfl dX12_noBargain_10) rfl ?_
  refine z_if_ne (pc' := 16) h 20 dX12_noBargain_13 (by decide) rfl (fun c3 => ?_) (fun c3 => ?_)
  · have hf := zitf c3 hf
    refine z_iconst h 0 dX12_noBargain_20 (by decide) (rfl : 20 + 1 = 21) ?_
    refine z_zret h hr dX12_noBargain_21 (Or.inl rfl) ?_
    exact ⟨congrArg Prod.fst (zsome hf), congrArg Prod.snd (zsome hf), rfl⟩
  · have hf := zitt c3 hf
    refine z_iconst h 1 dX12_noBargain_16 (by decide) (rfl : 16 + 1 = 17) ?_
    refine z_goto (pc' := 21) h dX12_noBargain_17 (by decide) ?_
    refine z_zret h hr dX12_noBargain_21 (Or.inr rfl) ?_
    exact ⟨congrArg Prod.fst (zsome hf), congrArg Prod.snd (zsome hf), rfl⟩
noncomputable def f_X12_gap (J : zJ) (v1 : Int32) (v2 : Int32) (I : zM) : Option (Int32 × zM) := ((f_X12_noGap J v1 (zu I 147 0 0)).bind fun q1 => (if q1.1 = 0 then ((f_X12_in J (Int32.toInt64 v2) 0 5 q1.2).bind fun q4 => (if q4.1 = 0 then some (((-2), q4.2)) else (if zin v1 6 = true then (if zin v1 6 = true then some ((q4.2 148 (Int32.toNatClampNeg v1), zu q4.2 148 (Int32.toNatClampNeg v1) v2)) else none) else none))) else some (((-1), q1.2))))
noncomputable abbrev rmX12_gap : Room := { frames := 2, cells := 0, slots := 0, locals := 45 }
theorem zyX12_gap : zY yX12_gap wsX12_gap cX12_gap 4 (some .int) 2 := ⟨⟨_, rfl⟩, by decide +kernel⟩
theorem zrX12_gap_X12_in : zRm rmX12_in rmX12_gap 6 := ⟨rfl, rfl, by decide, by decide⟩
theorem zrX12_gap_X12_noGap : zRm rmX12_noGap rmX12_gap 1 := ⟨rfl, rfl, by decide, by decide⟩
set_option maxHeartbeats 1000000 in
set_option maxRecDepth 100000 in
theorem c_X12_gap (B : zB) (I : zM) (J : zJ) (hJ : zJok J) (v1 : Int32) (v2 : Int32) (r : Int32) (I' : zM) (hf : f_X12_gap J v1 v2 I = some (r, I')) : zCi B zKW I J yX12_gap wsX12_gap rmX12_gap [.ref (za B 147), .int v1, .int v2] (fun r2 I2 J2 => r2 = r ∧ I2 = I' ∧ J2 = J) := by
  refine z_start (own := RX12) (cc := cX12_gap) (nL := 4) (ret := (some .int)) rfl (by decide) rfl (Nat.le_of_ble_eq_true rfl) (L := [(0, .ref (za B 147)), (1, .int v1), (2, .int v2)]) rfl (fun G h hr => ?_)
  rw [f_X12_gap] at hf
  refine z_aload_n h 0 dX12_gap_0 rfl (rfl : 0 + 1 = 1) ?_
  refine z_iconst h 0 dX12_gap_1 (by decide) (rfl : 1 + 1 = 2) ?_
  refine z_put (ci := 11) (C := RX12) (T := TX12) (N := 46) h 0 tyX12 tyX12_ok nmX12 rfl rfl (fun _ hq => List.mem_cons_of_mem _ (List.mem_append_right _ hq)) (by decide) (List.mem_of_getElem? (i := 1) rfl) rfl rfl rfl dX12_gap_2 (rfl : 2 + 3 = 5) ?_
  refine z_iload_n h 1 dX12_gap_5 rfl (rfl : 5 + 1 = 6) ?_
  obtain ⟨q1, e2, hf⟩ := zbind hf
  refine z_goF (z_runS h [.int v1] [] zyX12_noGap (c_X12_noGap B (zu I 147 0 0) J hJ v1 _ _ e2) gX12_gap_X12_noGap zrX12_gap_X12_noGap rfl (Nat.le_of_ble_eq_true rfl) ⟨Nat.zero_le _, Nat.zero_le _⟩ rfl dX12_gap_6) rfl ?_
  refine z_if_eq (pc' := 12) h 14 dX12_gap_9 (by decide) rfl (fun c3 => ?_) (fun c3 => ?_)
  · have hf := zitt c3 hf
    refine z_iload_n h 2 dX12_gap_14 rfl (rfl : 14 + 1 = 15) ?_
    refine z_i2l h dX12_gap_15 (rfl : 15 + 1 = 16) ?_
    refine z_lconst h 0 dX12_gap_16 rfl (rfl : 16 + 1 = 17) ?_
    refine z_ldc2 h 5 (List.mem_of_getElem? (i := 2) rfl) dX12_gap_17 (rfl : 17 + 3 = 20) ?_
    obtain ⟨q4, e5, hf⟩ := zbind hf
    refine z_goF (z_runS h [.long (Int32.toInt64 v2), .long 0, .long 5] [] zyX12_in (c_X12_in B q1.2 J hJ (Int32.toInt64 v2) 0 5 _ _ e5) gX12_gap_X12_in zrX12_gap_X12_in rfl (Nat.le_of_ble_eq_true rfl) ⟨Nat.zero_le _, Nat.zero_le _⟩ rfl dX12_gap_20) rfl ?_
    refine z_if_ne (pc' := 26) h 29 dX12_gap_23 (by decide) rfl (fun c6 => ?_) (fun c6 => ?_)
    · have hf := zitf c6 hf
      refine z_aload_n h 0 dX12_gap_29 rfl (rfl : 29 + 1 = 30) ?_
      refine z_getr (ci := 11) (C := RX12) (T := TX12) (N := 46) h 1 148 ((hJ.1 147 1 (by decide)).trans rfl) rfl rfl (fun _ hq => List.mem_cons_of_mem _ (List.mem_append_right _ hq)) (by decide) (List.mem_of_getElem? (i := 3) rfl) rfl dX12_gap_30 (rfl : 30 + 3 = 33) ?_
      refine z_iload_n h 1 dX12_gap_33 rfl (rfl : 33 + 1 = 34) ?_
      obtain ⟨b7, hf⟩ := zchk hf
      refine z_iald h rfl b7 dX12_gap_34 (rfl : 34 + 1 = 35) ?_
      refine z_istore_n h [(3, .int (q4.2 148 (Int32.toNatClampNeg v1))), (0, .ref (za B 147)), (1, .int v1), (2, .int v2)] dX12_gap_35 (by decide) rfl (rfl : 35 + 1 = 36) ?_
      refine z_aload_n h 1 dX12_gap_36 rfl (rfl : 36 + 1 = 37) ?_
      refine z_getr (ci := 11) (C := RX12) (T := TX12) (N := 46) h 1 148 ((hJ.1 147 1 (by decide)).trans rfl) rfl rfl (fun _ hq => List.mem_cons_of_mem _ (List.mem_append_right _ hq)) (by decide) (List.mem_of_getElem? (i := 3) rfl) rfl dX12_gap_37 (rfl : 37 + 3 = 40) ?_
      refine z_iload_n h 2 dX12_gap_40 rfl (rfl : 40 + 1 = 41) ?_
      refine z_iload_n h 3 dX12_gap_41 rfl (rfl : 41 + 1 = 42) ?_
      obtain ⟨b8, hf⟩ := zchk hf
      refine z_iast h b8 rfl dX12_gap_42 (rfl : 42 + 1 = 43) ?_
      refine z_iload_n h 0 dX12_gap_43 rfl (rfl : 43 + 1 = 44) ?_
      refine z_iret h hr dX12_gap_44 ?_
      exact ⟨congrArg Prod.fst (zsome hf), congrArg Prod.snd (zsome hf), rfl⟩
    · have hf := zitt c6 hf
      refine z_bipush h (-2) dX12_gap_26 (by decide) (rfl : 26 + 2 = 28) ?_
      refine z_iret h hr dX12_gap_28 ?_
      exact ⟨congrArg Prod.fst (zsome hf), congrArg Prod.snd (zsome hf), rfl⟩
  · have hf := zitf c3 hf
    refine z_iconst h (-1) dX12_gap_12 (by decide) (rfl : 12 + 1 = 13) ?_
    refine z_iret h hr dX12_gap_13 ?_
    exact ⟨congrArg Prod.fst (zsome hf), congrArg Prod.snd (zsome hf), rfl⟩
noncomputable def f_X12_need (J : zJ) (v1 : Int32) (v2 : Int32) (I : zM) : Option (Int32 × zM) := ((f_X12_noGap J v1 (zu I 147 0 0)).bind fun q1 => (if q1.1 = 0 then (if zin v1 6 = true then (if q1.2 149 (Int32.toNatClampNeg v1) = 0 then (if zin v1 6 = true then (if vp_nar .boolean v2 = v2 then some ((0, zu q1.2 149 (Int32.toNatClampNeg v1) v2)) else none) else none) else (if zin v1 6 = true then (if vp_nar .boolean v2 = v2 then some ((1, zu q1.2 149 (Int32.toNatClampNeg v1) v2)) else none) else none)) else none) else some (((-1), q1.2))))
noncomputable abbrev rmX12_need : Room := { frames := 2, cells := 0, slots := 0, locals := 45 }
theorem zyX12_need : zY yX12_need wsX12_need cX12_need 4 (some .int) 2 := ⟨⟨_, rfl⟩, by decide +kernel⟩
theorem zrX12_need_X12_noGap : zRm rmX12_noGap rmX12_need 1 := ⟨rfl, rfl, by decide, by decide⟩
set_option maxHeartbeats 1000000 in
set_option maxRecDepth 100000 in
theorem c_X12_need (B : zB) (I : zM) (J : zJ) (hJ : zJok J) (v1 : Int32) (v2 : Int32) (r : Int32) (I' : zM) (hf : f_X12_need J v1 v2 I = some (r, I')) : zCi B zKW I J yX12_need wsX12_need rmX12_need [.ref (za B 147), .int v1, .int v2] (fun r2 I2 J2 => r2 = r ∧ I2 = I' ∧ J2 = J) := by
  refine z_start (own := RX12) (cc := cX12_need) (nL := 4) (ret := (some .int)) rfl (by decide) rfl (Nat.le_of_ble_eq_true rfl) (L := [(0, .ref (za B 147)), (1, .int v1), (2, .int v2)]) rfl (fun G h hr => ?_)
  rw [f_X12_need] at hf
  refine z_aload_n h 0 dX12_need_0 rfl (rfl : 0 + 1 = 1) ?_
  refine z_iconst h 0 dX12_need_1 (by decide) (rfl : 1 + 1 = 2) ?_
  refine z_put (ci := 11) (C := RX12) (T := TX12) (N := 46) h 0 tyX12 tyX12_ok nmX12 rfl rfl (fun _ hq => List.mem_cons_of_mem _ (List.mem_append_right _ hq)) (by decide) (List.mem_of_getElem? (i := 1) rfl) rfl rfl rfl dX12_need_2 (rfl : 2 + 3 = 5) ?_
  refine z_iload_n h 1 dX12_need_5 rfl (rfl : 5 + 1 = 6) ?_
  obtain ⟨q1, e2, hf⟩ := zbind hf
  refine z_goF (z_runS h [.int v1] [] zyX12_noGap (c_X12_noGap B (zu I 147 0 0) J hJ v1 _ _ e2) gX12_need_X12_noGap zrX12_need_X12_noGap rfl (Nat.le_of_ble_eq_true rfl) ⟨Nat.zero_le _, Nat.zero_le _⟩ rfl dX12_need_6) rfl ?_
  refine z_if_eq (pc' := 12) h 14 dX12_need_9 (by decide) rfl (fun c3 => ?_) (fun c3 => ?_)
  · have hf := zitt c3 hf
    refine z_aload_n h 0 dX12_need_14 rfl (rfl : 14 + 1 = 15) ?_
    refine z_getr (ci := 11) (C := RX12) (T := TX12) (N := 46) h 2 149 ((hJ.1 147 2 (by decide)).trans rfl) rfl rfl (fun _ hq => List.mem_cons_of_mem _ (List.mem_append_right _ hq)) (by decide) (List.mem_of_getElem? (i := 2) rfl) rfl dX12_need_15 (rfl : 15 + 3 = 18) ?_
    refine z_iload_n h 1 dX12_need_18 rfl (rfl : 18 + 1 = 19) ?_
    obtain ⟨b4, hf⟩ := zchk hf
    refine z_zald h rfl b4 dX12_need_19 (rfl : 19 + 1 = 20) ?_
    refine z_if_eq (pc' := 23) h 27 dX12_need_20 (by decide) rfl (fun c5 => ?_) (fun c5 => ?_)
    · have hf := zitt c5 hf
      refine z_iconst h 0 dX12_need_27 (by decide) (rfl : 27 + 1 = 28) ?_
      refine z_istore_n h [(3, .int 0), (0, .ref (za B 147)), (1, .int v1), (2, .int v2)] dX12_need_28 (by decide) rfl (rfl : 28 + 1 = 29) ?_
      refine z_aload_n h 1 dX12_need_29 rfl (rfl : 29 + 1 = 30) ?_
      refine z_getr (ci := 11) (C := RX12) (T := TX12) (N := 46) h 2 149 ((hJ.1 147 2 (by decide)).trans rfl) rfl rfl (fun _ hq => List.mem_cons_of_mem _ (List.mem_append_right _ hq)) (by decide) (List.mem_of_getElem? (i := 2) rfl) rfl dX12_need_30 (rfl : 30 + 3 = 33) ?_
      refine z_iload_n h 2 dX12_need_33 rfl (rfl : 33 + 1 = 34) ?_
      refine z_iload_n h 3 dX12_need_34 rfl (rfl : 34 + 1 = 35) ?_
      obtain ⟨b6, hf⟩ := zchk hf
      obtain ⟨b7, hf⟩ := zchk hf
      refine z_zast h b6 b7 rfl dX12_need_35 (rfl : 35 + 1 = 36) ?_
      refine z_iload_n h 0 dX12_need_36 rfl (rfl : 36 + 1 = 37) ?_
      refine z_iret h hr dX12_need_37 ?_
      exact ⟨congrArg Prod.fst (zsome hf), congrArg Prod.snd (zsome hf), rfl⟩
    · have hf := zitf c5 hf
      refine z_iconst h 1 dX12_need_23 (by decide) (rfl : 23 + 1 = 24) ?_
      refine z_goto (pc' := 28) h dX12_need_24 (by decide) ?_
      refine z_istore_n h [(3, .int 1), (0, .ref (za B 147)), (1, .int v1), (2, .int v2)] dX12_need_28 (by decide) rfl (rfl : 28 + 1 = 29) ?_
      refine z_aload_n h 1 dX12_need_29 rfl (rfl : 29 + 1 = 30) ?_
      refine z_getr (ci := 11) (C := RX12) (T := TX12) (N := 46) h 2 149 ((hJ.1 147 2 (by decide)).trans rfl) rfl rfl (fun _ hq => List.mem_cons_of_mem _ (List.mem_append_right _ hq)) (by decide) (List.mem_of_getElem? (i := 2) rfl) rfl dX12_need_30 (rfl : 30 + 3 = 33) ?_
      refine z_iload_n h 2 dX12_need_33 rfl (rfl : 33 + 1 = 34) ?_
      refine z_iload_n h 3 dX12_need_34 rfl (rfl : 34 + 1 = 35) ?_
      obtain ⟨b8, hf⟩ := zchk hf
      obtain ⟨b9, hf⟩ := zchk hf
      refine z_zast h b8 b9 rfl dX12_need_35 (rfl : 35 + 1 = 36) ?_
      refine z_iload_n h 0 dX12_need_36 rfl (rfl : 36 + 1 = 37) ?_
      refine z_iret h hr dX12_need_37 ?_
      exact ⟨congrArg Prod.fst (zsome hf), congrArg Prod.snd (zsome hf), rfl⟩
  · have hf := zitf c3 hf
    refine z_iconst h (-1) dX12_need_12 (by decide) (rfl : 12 + 1 = 13) ?_
    refine z_iret h hr dX12_need_13 ?_
    exact ⟨congrArg Prod.fst (zsome hf), congrArg Prod.snd (zsome hf), rfl⟩
noncomputable def f_X12_hang (J : zJ) (v1 : Int32) (v2 : Int32) (v3 : Int32) (I : zM) : Option (Int32 × zM) := ((f_X12_noGap J v1 (zu I 147 0 0)).bind fun q1 => (if q1.1 = 0 then (if v2 = (-9) then (if v2 = (-9) then (if v2 = v1 then some (((-3), q1.2)) else (if zin v1 6 = true then (if zin v1 6 = true then (if zin v1 6 = true then some ((q1.2 150 (Int32.toNatClampNeg v1), zu (zu q1.2 150 (Int32.toNatClampNeg v1) v2) 151 (Int32.toNatClampNeg v1) v3)) else none) else none) else none)) else ((f_X12_in J (Int32.toInt64 v3) 1 5 q1.2).bind fun q10 => (if q10.1 = 0 then some (((-2), q10.2)) else (if v2 = v1 then some (((-3), q10.2)) else (if zin v1 6 = true then (if zin v1 6 = true then (if zin v1 6 = true then some ((q10.2 150 (Int32.toNatClampNeg v1), zu (zu q10.2 150 (Int32.toNatClampNeg v1) v2) 151 (Int32.toNatClampNeg v1) v3)) else none) else none) else none))))) else ((f_X12_noGap J v2 q1.2).bind fun q17 => (if q17.1 = 0 then (if v2 = (-9) then (if v2 = v1 then some (((-3), q17.2)) else (if zin v1 6 = true then (if zin v1 6 = true then (if zin v1 6 = true then some ((q17.2 150 (Int32.toNatClampNeg v1), zu (zu q17.2 150 (Int32.toNatClampNeg v1) v2) 151 (Int32.toNatClampNeg v1) v3)) else none) else none) else none)) else ((f_X12_in J (Int32.toInt64 v3) 1 5 q17.2).bind fun q25 => (if q25.1 = 0 then some (((-2), q25.2)) else (if v2 = v1 then some (((-3), q25.2)) else (if zin v1 6 = true then (if zin v1 6 = true then (if zin v1 6 = true then some ((q25.2 150 (Int32.toNatClampNeg v1), zu (zu q25.2 150 (Int32.toNatClampNeg v1) v2) 151 (Int32.toNatClampNeg v1) v3)) else none) else none) else none))))) else some (((-1), q17.2))))) else some (((-1), q1.2))))
noncomputable abbrev rmX12_hang : Room := { frames := 2, cells := 0, slots := 0, locals := 45 }
theorem zyX12_hang : zY yX12_hang wsX12_hang cX12_hang 5 (some .int) 3 := ⟨⟨_, rfl⟩, by decide +kernel⟩
theorem zrX12_hang_X12_in : zRm rmX12_in rmX12_hang 6 := ⟨rfl, rfl, by decide, by decide⟩
theorem zrX12_hang_X12_noGap : zRm rmX12_noGap rmX12_hang 1 := ⟨rfl, rfl, by decide, by decide⟩
set_option maxHeartbeats 1000000 in
set_option maxRecDepth 100000 in
theorem c_X12_hang (B : zB) (I : zM) (J : zJ) (hJ : zJok J) (v1 : Int32) (v2 : Int32) (v3 : Int32) (r : Int32) (I' : zM) (hf : f_X12_hang J v1 v2 v3 I = some (r, I')) : zCi B zKW I J yX12_hang wsX12_hang rmX12_hang [.ref (za B 147), .int v1, .int v2, .int v3] (fun r2 I2 J2 => r2 = r ∧ I2 = I' ∧ J2 = J) := by
  refine z_start (own := RX12) (cc := cX12_hang) (nL := 5) (ret := (some .int)) rfl (by decide) rfl (Nat.le_of_ble_eq_true rfl) (L := [(0, .ref (za B 147)), (1, .int v1), (2, .int v2), (3, .int v3)]) rfl (fun G h hr => ?_)
  rw [f_X12_hang] at hf
  refine z_aload_n h 0 dX12_hang_0 rfl (rfl : 0 + 1 = 1) ?_
  refine z_iconst h 0 dX12_hang_1 (by decide) (rfl : 1 + 1 = 2) ?_
  refine z_put (ci := 11) (C := RX12) (T := TX12) (N := 46) h 0 tyX12 tyX12_ok nmX12 rfl rfl (fun _ hq => List.mem_cons_of_mem _ (List.mem_append_right _ hq)) (by decide) (List.mem_of_getElem? (i := 1) rfl) rfl rfl rfl dX12_hang_2 (rfl : 2 + 3 = 5) ?_
  refine z_iload_n h 1 dX12_hang_5 rfl (rfl : 5 + 1 = 6) ?_
  obtain ⟨q1, e2, hf⟩ := zbind hf
  refine z_goF (z_runS h [.int v1] [] zyX12_noGap (c_X12_noGap B (zu I 147 0 0) J hJ v1 _ _ e2) gX12_hang_X12_noGap zrX12_hang_X12_noGap rfl (Nat.le_of_ble_eq_true rfl) ⟨Nat.zero_le _, Nat.zero_le _⟩ rfl dX12_hang_6) rfl ?_
  refine z_if_ne (pc' := 12) h 25 dX12_hang_9 (by decide) rfl (fun c3 => ?_) (fun c3 => ?_)
  · have hf := zitf c3 hf
    refine z_iconst h (-1) dX12_hang_25 (by decide) (rfl : 25 + 1 = 26) ?_
    refine z_iret h hr dX12_hang_26 ?_
    exact ⟨congrArg Prod.fst (zsome hf), congrArg Prod.snd (zsome hf), rfl⟩
  · have hf := zitt c3 hf
    refine z_iload_n h 2 dX12_hang_12 rfl (rfl : 12 + 1 = 13) ?_
    refine z_bipush h (-9) dX12_hang_13 (by decide) (rfl : 13 + 2 = 15) ?_
    refine z_icmp_eq (pc' := 18) h 27 dX12_hang_15 (by decide) rfl (fun c4 => ?_) (fun c4 => ?_)
    · have hf := zitt c4 hf
      refine z_iload_n h 2 dX12_hang_27 rfl (rfl : 27 + 1 = 28) ?_
      refine z_bipush h (-9) dX12_hang_28 (by decide) (rfl : 28 + 2 = 30) ?_
      refine z_icmp_eq (pc' := 33) h 48 dX12_hang_30 (by decide) rfl (fun c5 => ?_) (fun c5 => ?_)
      · have hf := zitt c5 hf
        refine z_iload_n h 2 dX12_hang_48 rfl (rfl : 48 + 1 = 49) ?_
        refine z_iload_n h 1 dX12_hang_49 rfl (rfl : 49 + 1 = 50) ?_
        refine z_icmp_ne (pc' := 53) h 56 dX12_hang_50 (by decide) rfl (fun c6 => ?_) (fun c6 => ?_)
        · have hf := zitf c6 hf
          refine z_aload_n h 0 dX12_hang_56 rfl (rfl : 56 + 1 = 57) ?_
          refine z_getr (ci := 11) (C := RX12) (T := TX12) (N := 46) h 3 150 ((hJ.1 147 3 (by decide)).trans rfl) rfl rfl (fun _ hq => List.mem_cons_of_mem _ (List.mem_append_right _ hq)) (by decide) (List.mem_of_getElem? (i := 3) rfl) rfl dX12_hang_57 (rfl : 57 + 3 = 60) ?_
          refine z_iload_n h 1 dX12_hang_60 rfl (rfl : 60 + 1 = 61) ?_
          obtain ⟨b7, hf⟩ := zchk hf
          refine z_iald h rfl b7 dX12_hang_61 (rfl : 61 + 1 = 62) ?_
          refine z_istore h [(4, .int (q1.2 150 (Int32.toNatClampNeg v1))), (0, .ref (za B 147)), (1, .int v1), (2, .int v2), (3, .int v3)] dX12_hang_62 (by decide) rfl (rfl : 62 + 2 = 64) ?_
          refine z_aload_n h 1 dX12_hang_64 rfl (rfl : 64 + 1 = 65) ?_
          refine z_getr (ci := 11) (C := RX12) (T := TX12) (N := 46) h 3 150 ((hJ.1 147 3 (by decide)).trans rfl) rfl rfl (fun _ hq => List.mem_cons_of_mem _ (List.mem_append_right _ hq)) (by decide) (List.mem_of_getElem? (i := 3) rfl) rfl dX12_hang_65 (rfl : 65 + 3 = 68) ?_
          refine z_iload_n h 2 dX12_hang_68 rfl (rfl : 68 + 1 = 69) ?_
          refine z_iload_n h 3 dX12_hang_69 rfl (rfl : 69 + 1 = 70) ?_
          obtain ⟨b8, hf⟩ := zchk hf
          refine z_iast h b8 rfl dX12_hang_70 (rfl : 70 + 1 = 71) ?_
          refine z_aload_n h 1 dX12_hang_71 rfl (rfl : 71 + 1 = 72) ?_
          refine z_getr (ci := 11) (C := RX12) (T := TX12) (N := 46) h 4 151 ((hJ.1 147 4 (by decide)).trans rfl) rfl rfl (fun _ hq => List.mem_cons_of_mem _ (List.mem_append_right _ hq)) (by decide) (List.mem_of_getElem? (i := 4) rfl) rfl dX12_hang_72 (rfl : 72 + 3 = 75) ?_
          refine z_iload_n h 2 dX12_hang_75 rfl (rfl : 75 + 1 = 76) ?_
          refine z_iload_n h 4 dX12_hang_76 rfl (rfl : 76 + 1 = 77) ?_
          obtain ⟨b9, hf⟩ := zchk hf
          refine z_iast h b9 rfl dX12_hang_77 (rfl : 77 + 1 = 78) ?_
          refine z_iload h 0 dX12_hang_78 rfl (rfl : 78 + 2 = 80) ?_
          refine z_iret h hr dX12_hang_80 ?_
          exact ⟨congrArg Prod.fst (zsome hf), congrArg Prod.snd (zsome hf), rfl⟩
        · have hf := zitt c6 hf
          refine z_bipush h (-3) dX12_hang_53 (by decide) (rfl : 53 + 2 = 55) ?_
          refine z_iret h hr dX12_hang_55 ?_
          exact ⟨congrArg Prod.fst (zsome hf), congrArg Prod.snd (zsome hf), rfl⟩
      · have hf := zitf c5 hf
        refine z_iload_n h 3 dX12_hang_33 rfl (rfl : 33 + 1 = 34) ?_
        refine z_i2l h dX12_hang_34 (rfl : 34 + 1 = 35) ?_
        refine z_lconst h 1 dX12_hang_35 rfl (rfl : 35 + 1 = 36) ?_
        refine z_ldc2 h 5 (List.mem_of_getElem? (i := 2) rfl) dX12_hang_36 (rfl : 36 + 3 = 39) ?_
        obtain ⟨q10, e11, hf⟩ := zbind hf
        refine z_goF (z_runS h [.long (Int32.toInt64 v3), .long 1, .long 5] [] zyX12_in (c_X12_in B q1.2 J hJ (Int32.toInt64 v3) 1 5 _ _ e11) gX12_hang_X12_in zrX12_hang_X12_in rfl (Nat.le_of_ble_eq_true rfl) ⟨Nat.zero_le _, Nat.zero_le _⟩ rfl dX12_hang_39) rfl ?_
        refine z_if_ne (pc' := 45) h 48 dX12_hang_42 (by decide) rfl (fun c12 => ?_) (fun c12 => ?_)
        · have hf := zitf c12 hf
          refine z_iload_n h 2 dX12_hang_48 rfl (rfl : 48 + 1 = 49) ?_
          refine z_iload_n h 1 dX12_hang_49 rfl (rfl : 49 + 1 = 50) ?_
          refine z_icmp_ne (pc' := 53) h 56 dX12_hang_50 (by decide) rfl (fun c13 => ?_) (fun c13 => ?_)
          · have hf := zitf c13 hf
            refine z_aload_n h 0 dX12_hang_56 rfl (rfl : 56 + 1 = 57) ?_
            refine z_getr (ci := 11) (C := RX12) (T := TX12) (N := 46) h 3 150 ((hJ.1 147 3 (by decide)).trans rfl) rfl rfl (fun _ hq => List.mem_cons_of_mem _ (List.mem_append_right _ hq)) (by decide) (List.mem_of_getElem? (i := 3) rfl) rfl dX12_hang_57 (rfl : 57 + 3 = 60) ?_
            refine z_iload_n h 1 dX12_hang_60 rfl (rfl : 60 + 1 = 61) ?_
            obtain ⟨b14, hf⟩ := zchk hf
            refine z_iald h rfl b14 dX12_hang_61 (rfl : 61 + 1 = 62) ?_
            refine z_istore h [(4, .int (q10.2 150 (Int32.toNatClampNeg v1))), (0, .ref (za B 147)), (1, .int v1), (2, .int v2), (3, .int v3)] dX12_hang_62 (by decide) rfl (rfl : 62 + 2 = 64) ?_
            refine z_aload_n h 1 dX12_hang_64 rfl (rfl : 64 + 1 = 65) ?_
            refine z_getr (ci := 11) (C := RX12) (T := TX12) (N := 46) h 3 150 ((hJ.1 147 3 (by decide)).trans rfl) rfl rfl (fun _ hq => List.mem_cons_of_mem _ (List.mem_append_right _ hq)) (by decide) (List.mem_of_getElem? (i := 3) rfl) rfl dX12_hang_65 (rfl : 65 + 3 = 68) ?_
            refine z_iload_n h 2 dX12_hang_68 rfl (rfl : 68 + 1 = 69) ?_
            refine z_iload_n h 3 dX12_hang_69 rfl (rfl : 69 + 1 = 70) ?_
            obtain ⟨b15, hf⟩ := zchk hf
            refine z_iast h b15 rfl dX12_hang_70 (rfl : 70 + 1 = 71) ?_
            refine z_aload_n h 1 dX12_hang_71 rfl (rfl : 71 + 1 = 72) ?_
            refine z_getr (ci := 11) (C := RX12) (T := TX12) (N := 46) h 4 151 ((hJ.1 147 4 (by decide)).trans rfl) rfl rfl (fun _ hq => List.mem_cons_of_mem _ (List.mem_append_right _ hq)) (by decide) (List.mem_of_getElem? (i := 4) rfl) rfl dX12_hang_72 (rfl : 72 + 3 = 75) ?_
            refine z_iload_n h 2 dX12_hang_75 rfl (rfl : 75 + 1 = 76) ?_
            refine z_iload_n h 4 dX12_hang_76 rfl (rfl : 76 + 1 = 77) ?_
            obtain ⟨b16, hf⟩ := zchk hf
            refine z_iast h b16 rfl dX12_hang_77 (rfl : 77 + 1 = 78) ?_
            refine z_iload h 0 dX12_hang_78 rfl (rfl : 78 + 2 = 80) ?_
            refine z_iret h hr dX12_hang_80 ?_
            exact ⟨congrArg Prod.fst (zsome hf), congrArg Prod.snd (zsome hf), rfl⟩
          · have hf := zitt c13 hf
            refine z_bipush h (-3) dX12_hang_53 (by decide) (rfl : 53 + 2 = 55) ?_
            refine z_iret h hr dX12_hang_55 ?_
            exact ⟨congrArg Prod.fst (zsome hf), congrArg Prod.snd (zsome hf), rfl⟩
        · have hf := zitt c12 hf
          refine z_bipush h (-2) dX12_hang_45 (by decide) (rfl : 45 + 2 = 47) ?_
          refine z_iret h hr dX12_hang_47 ?_
          exact ⟨congrArg Prod.fst (zsome hf), congrArg Prod.snd (zsome hf), rfl⟩
    · have hf := zitf c4 hf
      refine z_iload_n h 2 dX12_hang_18 rfl (rfl : 18 + 1 = 19) ?_
      obtain ⟨q17, e18, hf⟩ := zbind hf
      refine z_goF (z_runS h [.int v2] [] zyX12_noGap (c_X12_noGap B q1.2 J hJ v2 _ _ e18) gX12_hang_X12_noGap zrX12_hang_X12_noGap rfl (Nat.le_of_ble_eq_true rfl) ⟨Nat.zero_le _, Nat.zero_le _⟩ rfl dX12_hang_19) rfl ?_
      refine z_if_eq (pc' := 25) h 27 dX12_hang_22 (by decide) rfl (fun c19 => ?_) (fun c19 => ?_)
      · have hf := zitt c19 hf
        refine z_iload_n h 2 dX12_hang_27 rfl (rfl : 27 + 1 = 28) ?_
        refine z_bipush h (-9) dX12_hang_28 (by decide) (rfl : 28 + 2 = 30) ?_
        refine z_icmp_eq (pc' := 33) h 48 dX12_hang_30 (by decide) rfl (fun c20 => ?_) (fun c20 => ?_)
        · have hf := zitt c20 hf
          refine z_iload_n h 2 dX12_hang_48 rfl (rfl : 48 + 1 = 49) ?_
          refine z_iload_n h 1 dX12_hang_49 rfl (rfl : 49 + 1 = 50) ?_
          refine z_icmp_ne (pc' := 53) h 56 dX12_hang_50 (by decide) rfl (fun c21 => ?_) (fun c21 => ?_)
          · have hf := zitf c21 hf
            refine z_aload_n h 0 dX12_hang_56 rfl (rfl : 56 + 1 = 57) ?_
            refine z_getr (ci := 11) (C := RX12) (T := TX12) (N := 46) h 3 150 ((hJ.1 147 3 (by decide)).trans rfl) rfl rfl (fun _ hq => List.mem_cons_of_mem _ (List.mem_append_right _ hq)) (by decide) (List.mem_of_getElem? (i := 3) rfl) rfl dX12_hang_57 (rfl : 57 + 3 = 60) ?_
            refine z_iload_n h 1 dX12_hang_60 rfl (rfl : 60 + 1 = 61) ?_
            obtain ⟨b22, hf⟩ := zchk hf
            refine z_iald h rfl b22 dX12_hang_61 (rfl : 61 + 1 = 62) ?_
            refine z_istore h [(4, .int (q17.2 150 (Int32.toNatClampNeg v1))), (0, .ref (za B 147)), (1, .int v1), (2, .int v2), (3, .int v3)] dX12_hang_62 (by decide) rfl (rfl : 62 + 2 = 64) ?_
            refine z_aload_n h 1 dX12_hang_64 rfl (rfl : 64 + 1 = 65) ?_
            refine z_getr (ci := 11) (C := RX12) (T := TX12) (N := 46) h 3 150 ((hJ.1 147 3 (by decide)).trans rfl) rfl rfl (fun _ hq => List.mem_cons_of_mem _ (List.mem_append_right _ hq)) (by decide) (List.mem_of_getElem? (i := 3) rfl) rfl dX12_hang_65 (rfl : 65 + 3 = 68) ?_
            refine z_iload_n h 2 dX12_hang_68 rfl (rfl : 68 + 1 = 69) ?_
            refine z_iload_n h 3 dX12_hang_69 rfl (rfl : 69 + 1 = 70) ?_
            obtain ⟨b23, hf⟩ := zchk hf
            refine z_iast h b23 rfl dX12_hang_70 (rfl : 70 + 1 = 71) ?_
            refine z_aload_n h 1 dX12_hang_71 rfl (rfl : 71 + 1 = 72) ?_
            refine z_getr (ci := 11) (C := RX12) (T := TX12) (N := 46) h 4 151 ((hJ.1 147 4 (by decide)).trans rfl) rfl rfl (fun _ hq => List.mem_cons_of_mem _ (List.mem_append_right _ hq)) (by decide) (List.mem_of_getElem? (i := 4) rfl) rfl dX12_hang_72 (rfl : 72 + 3 = 75) ?_
            refine z_iload_n h 2 dX12_hang_75 rfl (rfl : 75 + 1 = 76) ?_
            refine z_iload_n h 4 dX12_hang_76 rfl (rfl : 76 + 1 = 77) ?_
            obtain ⟨b24, hf⟩ := zchk hf
            refine z_iast h b24 rfl dX12_hang_77 (rfl : 77 + 1 = 78) ?_
            refine z_iload h 0 dX12_hang_78 rfl (rfl : 78 + 2 = 80) ?_
            refine z_iret h hr dX12_hang_80 ?_
            exact ⟨congrArg Prod.fst (zsome hf), congrArg Prod.snd (zsome hf), rfl⟩
          · have hf := zitt c21 hf
            refine z_bipush h (-3) dX12_hang_53 (by decide) (rfl : 53 + 2 = 55) ?_
            refine z_iret h hr dX12_hang_55 ?_
            exact ⟨congrArg Prod.fst (zsome hf), congrArg Prod.snd (zsome hf), rfl⟩
        · have hf := zitf c20 hf
          refine z_iload_n h 3 dX12_hang_33 rfl (rfl : 33 + 1 = 34) ?_
          refine z_i2l h dX12_hang_34 (rfl : 34 + 1 = 35) ?_
          refine z_lconst h 1 dX12_hang_35 rfl (rfl : 35 + 1 = 36) ?_
          refine z_ldc2 h 5 (List.mem_of_getElem? (i := 2) rfl) dX12_hang_36 (rfl : 36 + 3 = 39) ?_
          obtain ⟨q25, e26, hf⟩ := zbind hf
          refine z_goF (z_runS h [.long (Int32.toInt64 v3), .long 1, .long 5] [] zyX12_in (c_X12_in B q17.2 J hJ (Int32.toInt64 v3) 1 5 _ _ e26) gX12_hang_X12_in zrX12_hang_X12_in rfl (Nat.le_of_ble_eq_true rfl) ⟨Nat.zero_le _, Nat.zero_le _⟩ rfl dX12_hang_39) rfl ?_
          refine z_if_ne (pc' := 45) h 48 dX12_hang_42 (by decide) rfl (fun c27 => ?_) (fun c27 => ?_)
          · have hf := zitf c27 hf
            refine z_iload_n h 2 dX12_hang_48 rfl (rfl : 48 + 1 = 49) ?_
            refine z_iload_n h 1 dX12_hang_49 rfl (rfl : 49 + 1 = 50) ?_
            refine z_icmp_ne (pc' := 53) h 56 dX12_hang_50 (by decide) rfl (fun c28 => ?_) (fun c28 => ?_)
            · have hf := zitf c28 hf
              refine z_aload_n h 0 dX12_hang_56 rfl (rfl : 56 + 1 = 57) ?_
              refine z_getr (ci := 11) (C := RX12) (T := TX12) (N := 46) h 3 150 ((hJ.1 147 3 (by decide)).trans rfl) rfl rfl (fun _ hq => List.mem_cons_of_mem _ (List.mem_append_right _ hq)) (by decide) (List.mem_of_getElem? (i := 3) rfl) rfl dX12_hang_57 (rfl : 57 + 3 = 60) ?_
              refine z_iload_n h 1 dX12_hang_60 rfl (rfl : 60 + 1 = 61) ?_
              obtain ⟨b29, hf⟩ := zchk hf
              refine z_iald h rfl b29 dX12_hang_61 (rfl : 61 + 1 = 62) ?_
              refine z_istore h [(4, .int (q25.2 150 (Int32.toNatClampNeg v1))), (0, .ref (za B 147)), (1, .int v1), (2, .int v2), (3, .int v3)] dX12_hang_62 (by decide) rfl (rfl : 62 + 2 = 64) ?_
              refine z_aload_n h 1 dX12_hang_64 rfl (rfl : 64 + 1 = 65) ?_
              refine z_getr (ci := 11) (C := RX12) (T := TX12) (N := 46) h 3 150 ((hJ.1 147 3 (by decide)).trans rfl) rfl rfl (fun _ hq => List.mem_cons_of_mem _ (List.mem_append_right _ hq)) (by decide) (List.mem_of_getElem? (i := 3) rfl) rfl dX12_hang_65 (rfl : 65 + 3 = 68) ?_
              refine z_iload_n h 2 dX12_hang_68 rfl (rfl : 68 + 1 = 69) ?_
              refine z_iload_n h 3 dX12_hang_69 rfl (rfl : 69 + 1 = 70) ?_
              obtain ⟨b30, hf⟩ := zchk hf
              refine z_iast h b30 rfl dX12_hang_70 (rfl : 70 + 1 = 71) ?_
              refine z_aload_n h 1 dX12_hang_71 rfl (rfl : 71 + 1 = 72) ?_
              refine z_getr (ci := 11) (C := RX12) (T := TX12) (N := 46) h 4 151 ((hJ.1 147 4 (by decide)).trans rfl) rfl rfl (fun _ hq => List.mem_cons_of_mem _ (List.mem_append_right _ hq)) (by decide) (List.mem_of_getElem? (i := 4) rfl) rfl dX12_hang_72 (rfl : 72 + 3 = 75) ?_
              refine z_iload_n h 2 dX12_hang_75 rfl (rfl : 75 + 1 = 76) ?_
              refine z_iload_n h 4 dX12_hang_76 rfl (rfl : 76 + 1 = 77) ?_
              obtain ⟨b31, hf⟩ := zchk hf
              refine z_iast h b31 rfl dX12_hang_77 (rfl : 77 + 1 = 78) ?_
              refine z_iload h 0 dX12_hang_78 rfl (rfl : 78 + 2 = 80) ?_
              refine z_iret h hr dX12_hang_80 ?_
              exact ⟨congrArg Prod.fst (zsome hf), congrArg Prod.snd (zsome hf), rfl⟩
            · have hf := zitt c28 hf
              refine z_bipush h (-3) dX12_hang_53 (by decide) (rfl : 53 + 2 = 55) ?_
              refine z_iret h hr dX12_hang_55 ?_
              exact ⟨congrArg Prod.fst (zsome hf), congrArg Prod.snd (zsome hf), rfl⟩
          · have hf := zitt c27 hf
            refine z_bipush h (-2) dX12_hang_45 (by decide) (rfl : 45 + 2 = 47) ?_
            refine z_iret h hr dX12_hang_47 ?_
            exact ⟨congrArg Prod.fst (zsome hf), congrArg Prod.snd (zsome hf), rfl⟩
      · have hf := zitf c19 hf
        refine z_iconst h (-1) dX12_hang_25 (by decide) (rfl : 25 + 1 = 26) ?_
        refine z_iret h hr dX12_hang_26 ?_
        exact ⟨congrArg Prod.fst (zsome hf), congrArg Prod.snd (zsome hf), rfl⟩
noncomputable def f_X12_doing (J : zJ) (v1 : Int32) (v2 : Int32) (v3 : Int32) (v4 : Int32) (v5 : Int32) (v6 : Int32) (I : zM) : Option (Int32 × zM) := ((f_X12_noPerson J v1 (zu I 147 0 0)).bind fun q1 => (if q1.1 = 0 then ((f_X12_noPerson J v2 q1.2).bind fun q4 => (if q4.1 = 0 then ((f_X12_noTrade J v3 q4.2).bind fun q7 => (if q7.1 = 0 then ((f_X12_noGap J v4 q7.2).bind fun q10 => (if q10.1 = 0 then ((f_X12_in J (Int32.toInt64 v5) 1 5 q10.2).bind fun q13 => (if q13.1 = 0 then some (((-2), q13.2)) else (if v1 = v2 then some (((-2), q13.2)) else (if q13.2 147 6 = 24 then some (((-4), q13.2)) else (if zin ((6 : Int32) * (q13.2 147 6)) 144 = true then (if zin (((6 : Int32) * (q13.2 147 6)) + (1 : Int32)) 144 = true then (if zin (((6 : Int32) * (q13.2 147 6)) + (2 : Int32)) 144 = true then (if zin (((6 : Int32) * (q13.2 147 6)) + (3 : Int32)) 144 = true then (if zin (((6 : Int32) * (q13.2 147 6)) + (4 : Int32)) 144 = true then (if v6 = 0 then (if zin (((6 : Int32) * (q13.2 147 6)) + (5 : Int32)) 144 = true then some ((((zu (zu (zu (zu (zu (zu (zu q13.2 152 (Int32.toNatClampNeg ((6 : Int32) * (q13.2 147 6))) v1) 152 (Int32.toNatClampNeg (((6 : Int32) * (q13.2 147 6)) + (1 : Int32))) v2) 152 (Int32.toNatClampNeg (((6 : Int32) * (q13.2 147 6)) + (2 : Int32))) v3) 152 (Int32.toNatClampNeg (((6 : Int32) * (q13.2 147 6)) + (3 : Int32))) v4) 152 (Int32.toNatClampNeg (((6 : Int32) * (q13.2 147 6)) + (4 : Int32))) v5) 152 (Int32.toNatClampNeg (((6 : Int32) * (q13.2 147 6)) + (5 : Int32))) 0) 147 6 (((zu (zu (zu (zu (zu (zu q13.2 152 (Int32.toNatClampNeg ((6 : Int32) * (q13.2 147 6))) v1) 152 (Int32.toNatClampNeg (((6 : Int32) * (q13.2 147 6)) + (1 : Int32))) v2) 152 (Int32.toNatClampNeg (((6 : Int32) * (q13.2 147 6)) + (2 : Int32))) v3) 152 (Int32.toNatClampNeg (((6 : Int32) * (q13.2 147 6)) + (3 : Int32))) v4) 152 (Int32.toNatClampNeg (((6 : Int32) * (q13.2 147 6)) + (4 : Int32))) v5) 152 (Int32.toNatClampNeg (((6 : Int32) * (q13.2 147 6)) + (5 : Int32))) 0) 147 6) + (1 : Int32))) 147 6) - (1 : Int32), zu (zu (zu (zu (zu (zu (zu q13.2 152 (Int32.toNatClampNeg ((6 : Int32) * (q13.2 147 6))) v1) 152 (Int32.toNatClampNeg (((6 : Int32) * (q13.2 147 6)) + (1 : Int32))) v2) 152 (Int32.toNatClampNeg (((6 : Int32) * (q13.2 147 6)) + (2 : Int32))) v3) 152 (Int32.toNatClampNeg (((6 : Int32) * (q13.2 147 6)) + (3 : Int32))) v4) 152 (Int32.toNatClampNeg (((6 : Int32) * (q13.2 147 6)) + (4 : Int32))) v5) 152 (Int32.toNatClampNeg (((6 : Int32) * (q13.2 147 6)) + (5 : Int32))) 0) 147 6 (((zu (zu (zu (zu (zu (zu q13.2 152 (Int32.toNatClampNeg ((6 : Int32) * (q13.2 147 6))) v1) 152 (Int32.toNatClampNeg (((6 : Int32) * (q13.2 147 6)) + (1 : Int32))) v2) 152 (Int32.toNatClampNeg (((6 : Int32) * (q13.2 147 6)) + (2 : Int32))) v3) 152 (Int32.toNatClampNeg (((6 : Int32) * (q13.2 147 6)) + (3 : Int32))) v4) 152 (Int32.toNatClampNeg (((6 : Int32) * (q13.2 147 6)) + (4 : Int32))) v5) 152 (Int32.toNatClampNeg (((6 : Int32) * (q13.2 147 6)) + (5 : Int32))) 0) 147 6) + (1 : Int32)))) else none) else (if zin (((6 : Int32) * (q13.2 147 6)) + (5 : Int32)) 144 = true then some ((((zu (zu (zu (zu (zu (zu (zu q13.2 152 (Int32.toNatClampNeg ((6 : Int32) * (q13.2 147 6))) v1) 152 (Int32.toNatClampNeg (((6 : Int32) * (q13.2 147 6)) + (1 : Int32))) v2) 152 (Int32.toNatClampNeg (((6 : Int32) * (q13.2 147 6)) + (2 : Int32))) v3) 152 (Int32.toNatClampNeg (((6 : Int32) * (q13.2 147 6)) + (3 : Int32))) v4) 152 (Int32.toNatClampNeg (((6 : Int32) * (q13.2 147 6)) + (4 : Int32))) v5) 152 (Int32.toNatClampNeg (((6 : Int32) * (q13.2 147 6)) + (5 : Int32))) 1) 147 6 (((zu (zu (zu (zu (zu (zu q13.2 152 (Int32.toNatClampNeg ((6 : Int32) * (q13.2 147 6))) v1) 152 (Int32.toNatClampNeg (((6 : Int32) * (q13.2 147 6)) + (1 : Int32))) v2) 152 (Int32.toNatClampNeg (((6 : Int32) * (q13.2 147 6)) + (2 : Int32))) v3) 152 (Int32.toNatClampNeg (((6 : Int32) * (q13.2 147 6)) + (3 : Int32))) v4) 152 (Int32.toNatClampNeg (((6 : Int32) * (q13.2 147 6)) + (4 : Int32))) v5) 152 (Int32.toNatClampNeg (((6 : Int32) * (q13.2 147 6)) + (5 : Int32))) 1) 147 6) + (1 : Int32))) 147 6) - (1 : Int32), zu (zu (zu (zu (zu (zu (zu q13.2 152 (Int32.toNatClampNeg ((6 : Int32) * (q13.2 147 6))) v1) 152 (Int32.toNatClampNeg (((6 : Int32) * (q13.2 147 6)) + (1 : Int32))) v2) 152 (Int32.toNatClampNeg (((6 : Int32) * (q13.2 147 6)) + (2 : Int32))) v3) 152 (Int32.toNatClampNeg (((6 : Int32) * (q13.2 147 6)) + (3 : Int32))) v4) 152 (Int32.toNatClampNeg (((6 : Int32) * (q13.2 147 6)) + (4 : Int32))) v5) 152 (Int32.toNatClampNeg (((6 : Int32) * (q13.2 147 6)) + (5 : Int32))) 1) 147 6 (((zu (zu (zu (zu (zu (zu q13.2 152 (Int32.toNatClampNeg ((6 : Int32) * (q13.2 147 6))) v1) 152 (Int32.toNatClampNeg (((6 : Int32) * (q13.2 147 6)) + (1 : Int32))) v2) 152 (Int32.toNatClampNeg (((6 : Int32) * (q13.2 147 6)) + (2 : Int32))) v3) 152 (Int32.toNatClampNeg (((6 : Int32) * (q13.2 147 6)) + (3 : Int32))) v4) 152 (Int32.toNatClampNeg (((6 : Int32) * (q13.2 147 6)) + (4 : Int32))) v5) 152 (Int32.toNatClampNeg (((6 : Int32) * (q13.2 147 6)) + (5 : Int32))) 1) 147 6) + (1 : Int32)))) else none)) else none) else none) else none) else none) else none))))) else some (((-1), q10.2)))) else some (((-1), q7.2)))) else some (((-1), q4.2)))) else some (((-1), q1.2))))
noncomputable abbrev rmX12_doing : Room := { frames := 2, cells := 0, slots := 0, locals := 45 }
theorem zyX12_doing : zY yX12_doing wsX12_doing cX12_doing 8 (some .int) 6 := ⟨⟨_, rfl⟩, by decide +kernel⟩
theorem zrX12_doing_X12_in : zRm rmX12_in rmX12_doing 6 := ⟨rfl, rfl, by decide, by decide⟩
theorem zrX12_doing_X12_noGap : zRm rmX12_noGap rmX12_doing 1 := ⟨rfl, rfl, by decide, by decide⟩
theorem zrX12_doing_X12_noPerson : zRm rmX12_noPerson rmX12_doing 1 := ⟨rfl, rfl, by decide, by decide⟩
theorem zrX12_doing_X12_noTrade : zRm rmX12_noTrade rmX12_doing 1 := ⟨rfl, rfl, by decide, by decide⟩
set_option maxHeartbeats 1000000 in
set_option maxRecDepth 100000 in
theorem c_X12_doing (B : zB) (I : zM) (J : zJ) (hJ : zJok J) (v1 : Int32) (v2 : Int32) (v3 : Int32) (v4 : Int32) (v5 : Int32) (v6 : Int32) (r : Int32) (I' : zM) (hf : f_X12_doing J v1 v2 v3 v4 v5 v6 I = some (r, I')) : zCi B zKW I J yX12_doing wsX12_doing rmX12_doing [.ref (za B 147), .int v1, .int v2, .int v3, .int v4, .int v5, .int v6] (fun r2 I2 J2 => r2 = r ∧ I2 = I' ∧ J2 = J) := by
  refine z_start (own := RX12) (cc := cX12_doing) (nL := 8) (ret := (some .int)) rfl (by decide) rfl (Nat.le_of_ble_eq_true rfl) (L := [(0, .ref (za B 147)), (1, .int v1), (2, .int v2), (3, .int v3), (4, .int v4), (5, .int v5), (6, .int v6)]) rfl (fun G h hr => ?_)
  rw [f_X12_doing] at hf
  refine z_aload_n h 0 dX12_doing_0 rfl (rfl : 0 + 1 = 1) ?_
  refine z_iconst h 0 dX12_doing_1 (by decide) (rfl : 1 + 1 = 2) ?_
  refine z_put (ci := 11) (C := RX12) (T := TX12) (N := 46) h 0 tyX12 tyX12_ok nmX12 rfl rfl (fun _ hq => List.mem_cons_of_mem _ (List.mem_append_right _ hq)) (by decide) (List.mem_of_getElem? (i := 1) rfl) rfl rfl rfl dX12_doing_2 (rfl : 2 + 3 = 5) ?_
  refine z_iload_n h 1 dX12_doing_5 rfl (rfl : 5 + 1 = 6) ?_
  obtain ⟨q1, e2, hf⟩ := zbind hf
  refine z_goF (z_runS h [.int v1] [] zyX12_noPerson (c_X12_noPerson B (zu I 147 0 0) J hJ v1 _ _ e2) gX12_doing_X12_noPerson zrX12_doing_X12_noPerson rfl (Nat.le_of_ble_eq_true rfl) ⟨Nat.zero_le _, Nat.zero_le _⟩ rfl dX12_doing_6) rfl ?_
  refine z_if_ne (pc' := 12) h 34 dX12_doing_9 (by decide) rfl (fun c3 => ?_) (fun c3 => ?_)
  · have hf := zitf c3 hf
    refine z_iconst h (-1) dX12_doing_34 (by decide) (rfl : 34 + 1 = 35) ?_
    refine z_iret h hr dX12_doing_35 ?_
    exact ⟨congrArg Prod.fst (zsome hf), congrArg Prod.snd (zsome hf), rfl⟩
  · have hf := zitt c3 hf
    refine z_iload_n h 2 dX12_doing_12 rfl (rfl : 12 + 1 = 13) ?_
    obtain ⟨q4, e5, hf⟩ := zbind hf
    refine z_goF (z_runS h [.int v2] [] zyX12_noPerson (c_X12_noPerson B q1.2 J hJ v2 _ _ e5) gX12_doing_X12_noPerson zrX12_doing_X12_noPerson rfl (Nat.le_of_ble_eq_true rfl) ⟨Nat.zero_le _, Nat.zero_le _⟩ rfl dX12_doing_13) rfl ?_
    refine z_if_ne (pc' := 19) h 34 dX12_doing_16 (by decide) rfl (fun c6 => ?_) (fun c6 => ?_)
    · have hf := zitf c6 hf
      refine z_iconst h (-1) dX12_doing_34 (by decide) (rfl : 34 + 1 = 35) ?_
      refine z_iret h hr dX12_doing_35 ?_
      exact ⟨congrArg Prod.fst (zsome hf), congrArg Prod.snd (zsome hf), rfl⟩
    · have hf := zitt c6 hf
      refine z_iload_n h 3 dX12_doing_19 rfl (rfl : 19 + 1 = 20) ?_
      obtain ⟨q7, e8, hf⟩ := zbind hf
      refine z_goF (z_runS h [.int v3] [] zyX12_noTrade (c_X12_noTrade B q4.2 J hJ v3 _ _ e8) gX12_doing_X12_noTrade zrX12_doing_X12_noTrade rfl (Nat.le_of_ble_eq_true rfl) ⟨Nat.zero_le _, Nat.zero_le _⟩ rfl dX12_doing_20) rfl ?_
      refine z_if_ne (pc' := 26) h 34 dX12_doing_23 (by decide) rfl (fun c9 => ?_) (fun c9 => ?_)
      · have hf := zitf c9 hf
        refine z_iconst h (-1) dX12_doing_34 (by decide) (rfl : 34 + 1 = 35) ?_
        refine z_iret h hr dX12_doing_35 ?_
        exact ⟨congrArg Prod.fst (zsome hf), congrArg Prod.snd (zsome hf), rfl⟩
      · have hf := zitt c9 hf
        refine z_iload h 4 dX12_doing_26 rfl (rfl : 26 + 2 = 28) ?_
        obtain ⟨q10, e11, hf⟩ := zbind hf
        refine z_goF (z_runS h [.int v4] [] zyX12_noGap (c_X12_noGap B q7.2 J hJ v4 _ _ e11) gX12_doing_X12_noGap zrX12_doing_X12_noGap rfl (Nat.le_of_ble_eq_true rfl) ⟨Nat.zero_le _, Nat.zero_le _⟩ rfl dX12_doing_28) rfl ?_
        refine z_if_eq (pc' := 34) h 36 dX12_doing_31 (by decide) rfl (fun c12 => ?_) (fun c12 => ?_)
        · have hf := zitt c12 hf
          refine z_iload h 5 dX12_doing_36 rfl (rfl : 36 + 2 = 38) ?_
          refine z_i2l h dX12_doing_38 (rfl : 38 + 1 = 39) ?_
          refine z_lconst h 1 dX12_doing_39 rfl (rfl : 39 + 1 = 40) ?_
          refine z_ldc2 h 5 (List.mem_of_getElem? (i := 2) rfl) dX12_doing_40 (rfl : 40 + 3 = 43) ?_
          obtain ⟨q13, e14, hf⟩ := zbind hf
          refine z_goF (z_runS h [.long (Int32.toInt64 v5), .long 1, .long 5] [] zyX12_in (c_X12_in B q10.2 J hJ (Int32.toInt64 v5) 1 5 _ _ e14) gX12_doing_X12_in zrX12_doing_X12_in rfl (Nat.le_of_ble_eq_true rfl) ⟨Nat.zero_le _, Nat.zero_le _⟩ rfl dX12_doing_43) rfl ?_
          refine z_if_eq (pc' := 49) h 54 dX12_doing_46 (by decide) rfl (fun c15 => ?_) (fun c15 => ?_)
          · have hf := zitt c15 hf
            refine z_bipush h (-2) dX12_doing_54 (by decide) (rfl : 54 + 2 = 56) ?_
            refine z_iret h hr dX12_doing_56 ?_
            exact ⟨congrArg Prod.fst (zsome hf), congrArg Prod.snd (zsome hf), rfl⟩
          · have hf := zitf c15 hf
            refine z_iload_n h 1 dX12_doing_49 rfl (rfl : 49 + 1 = 50) ?_
            refine z_iload_n h 2 dX12_doing_50 rfl (rfl : 50 + 1 = 51) ?_
            refine z_icmp_ne (pc' := 54) h 57 dX12_doing_51 (by decide) rfl (fun c16 => ?_) (fun c16 => ?_)
            · have hf := zitf c16 hf
              refine z_aload_n h 0 dX12_doing_57 rfl (rfl : 57 + 1 = 58) ?_
              refine z_get (ci := 11) (C := RX12) (T := TX12) (N := 46) h 6 rfl rfl (fun _ hq => List.mem_cons_of_mem _ (List.mem_append_right _ hq)) (by decide) (List.mem_of_getElem? (i := 3) rfl) rfl dX12_doing_58 (rfl : 58 + 3 = 61) ?_
              refine z_bipush h 24 dX12_doing_61 (by decide) (rfl : 61 + 2 = 63) ?_
              refine z_icmp_ne (pc' := 66) h 69 dX12_doing_63 (by decide) rfl (fun c17 => ?_) (fun c17 => ?_)
              · have hf := zitf c17 hf
                refine z_bipush h 6 dX12_doing_69 (by decide) (rfl : 69 + 2 = 71) ?_
                refine z_aload_n h 0 dX12_doing_71 rfl (rfl : 71 + 1 = 72) ?_
                refine z_get (ci := 11) (C := RX12) (T := TX12) (N := 46) h 6 rfl rfl (fun _ hq => List.mem_cons_of_mem _ (List.mem_append_right _ hq)) (by decide) (List.mem_of_getElem? (i := 3) rfl) rfl dX12_doing_72 (rfl : 72 + 3 = 75) ?_
                refine z_imul h dX12_doing_75 (rfl : 75 + 1 = 76) ?_
                refine z_istore h [(7, .int ((6 : Int32) * (q13.2 147 6))), (0, .ref (za B 147)), (1, .int v1), (2, .int v2), (3, .int v3), (4, .int v4), (5, .int v5), (6, .int v6)] dX12_doing_76 (by decide) rfl (rfl : 76 + 2 = 78) ?_
                refine z_aload_n h 1 dX12_doing_78 rfl (rfl : 78 + 1 = 79) ?_
                refine z_getr (ci := 11) (C := RX12) (T := TX12) (N := 46) h 5 152 ((hJ.1 147 5 (by decide)).trans rfl) rfl rfl (fun _ hq => List.mem_cons_of_mem _ (List.mem_append_right _ hq)) (by decide) (List.mem_of_getElem? (i := 4) rfl) rfl dX12_doing_79 (rfl : 79 + 3 = 82) ?_
                refine z_iload h 0 dX12_doing_82 rfl (rfl : 82 + 2 = 84) ?_
                refine z_iload_n h 2 dX12_doing_84 rfl (rfl : 84 + 1 = 85) ?_
                obtain ⟨b18, hf⟩ := zchk hf
                refine z_iast h b18 rfl dX12_doing_85 (rfl : 85 + 1 = 86) ?_
                refine z_aload_n h 1 dX12_doing_86 rfl (rfl : 86 + 1 = 87) ?_
                refine z_getr (ci := 11) (C := RX12) (T := TX12) (N := 46) h 5 152 ((hJ.1 147 5 (by decide)).trans rfl) rfl rfl (fun _ hq => List.mem_cons_of_mem _ (List.mem_append_right _ hq)) (by decide) (List.mem_of_getElem? (i := 4) rfl) rfl dX12_doing_87 (rfl : 87 + 3 = 90) ?_
                refine z_iload h 0 dX12_doing_90 rfl (rfl : 90 + 2 = 92) ?_
                refine z_iconst h 1 dX12_doing_92 (by decide) (rfl : 92 + 1 = 93) ?_
                refine z_iadd h dX12_doing_93 (rfl : 93 + 1 = 94) ?_
                refine z_iload_n h 3 dX12_doing_94 rfl (rfl : 94 + 1 = 95) ?_
                obtain ⟨b19, hf⟩ := zchk hf
                refine z_iast h b19 rfl dX12_doing_95 (rfl : 95 + 1 = 96) ?_
                refine z_aload_n h 1 dX12_doing_96 rfl (rfl : 96 + 1 = 97) ?_
                refine z_getr (ci := 11) (C := RX12) (T := TX12) (N := 46) h 5 152 ((hJ.1 147 5 (by decide)).trans rfl) rfl rfl (fun _ hq => List.mem_cons_of_mem _ (List.mem_append_right _ hq)) (by decide) (List.mem_of_getElem? (i := 4) rfl) rfl dX12_doing_97 (rfl : 97 + 3 = 100) ?_
                refine z_iload h 0 dX12_doing_100 rfl (rfl : 100 + 2 = 102) ?_
                refine z_iconst h 2 dX12_doing_102 (by decide) (rfl : 102 + 1 = 103) ?_
                refine z_iadd h dX12_doing_103 (rfl : 103 + 1 = 104) ?_
                refine z_iload_n h 4 dX12_doing_104 rfl (rfl : 104 + 1 = 105) ?_
                obtain ⟨b20, hf⟩ := zchk hf
                refine z_iast h b20 rfl dX12_doing_105 (rfl : 105 + 1 = 106) ?_
                refine z_aload_n h 1 dX12_doing_106 rfl (rfl : 106 + 1 = 107) ?_
                refine z_getr (ci := 11) (C := RX12) (T := TX12) (N := 46) h 5 152 ((hJ.1 147 5 (by decide)).trans rfl) rfl rfl (fun _ hq => List.mem_cons_of_mem _ (List.mem_append_right _ hq)) (by decide) (List.mem_of_getElem? (i := 4) rfl) rfl dX12_doing_107 (rfl : 107 + 3 = 110) ?_
                refine z_iload h 0 dX12_doing_110 rfl (rfl : 110 + 2 = 112) ?_
                refine z_iconst h 3 dX12_doing_112 (by decide) (rfl : 112 + 1 = 113) ?_
                refine z_iadd h dX12_doing_113 (rfl : 113 + 1 = 114) ?_
                refine z_iload h 5 dX12_doing_114 rfl (rfl : 114 + 2 = 116) ?_
                obtain ⟨b21, hf⟩ := zchk hf
                refine z_iast h b21 rfl dX12_doing_116 (rfl : 116 + 1 = 117) ?_
                refine z_aload_n h 1 dX12_doing_117 rfl (rfl : 117 + 1 = 118) ?_
                refine z_getr (ci := 11) (C := RX12) (T := TX12) (N := 46) h 5 152 ((hJ.1 147 5 (by decide)).trans rfl) rfl rfl (fun _ hq => List.mem_cons_of_mem _ (List.mem_append_right _ hq)) (by decide) (List.mem_of_getElem? (i := 4) rfl) rfl dX12_doing_118 (rfl : 118 + 3 = 121) ?_
                refine z_iload h 0 dX12_doing_121 rfl (rfl : 121 + 2 = 123) ?_
                refine z_iconst h 4 dX12_doing_123 (by decide) (rfl : 123 + 1 = 124) ?_
                refine z_iadd h dX12_doing_124 (rfl : 124 + 1 = 125) ?_
                refine z_iload h 6 dX12_doing_125 rfl (rfl : 125 + 2 = 127) ?_
                obtain ⟨b22, hf⟩ := zchk hf
                refine z_iast h b22 rfl dX12_doing_127 (rfl : 127 + 1 = 128) ?_
                refine z_aload_n h 1 dX12_doing_128 rfl (rfl : 128 + 1 = 129) ?_
                refine z_getr (ci := 11) (C := RX12) (T := TX12) (N := 46) h 5 152 ((hJ.1 147 5 (by decide)).trans rfl) rfl rfl (fun _ hq => List.mem_cons_of_mem _ (List.mem_append_right _ hq)) (by decide) (List.mem_of_getElem? (i := 4) rfl) rfl dX12_doing_129 (rfl : 129 + 3 = 132) ?_
                refine z_iload h 0 dX12_doing_132 rfl (rfl : 132 + 2 = 134) ?_
                refine z_iconst h 5 dX12_doing_134 (by decide) (rfl : 134 + 1 = 135) ?_
                refine z_iadd h dX12_doing_135 (rfl : 135 + 1 = 136) ?_
                refine z_iload h 7 dX12_doing_136 rfl (rfl : 136 + 2 = 138) ?_
                refine z_if_eq (pc' := 141) h 145 dX12_doing_138 (by decide) rfl (fun c23 => ?_) (fun c23 => ?_)
                · have hf := zitt c23 hf
                  refine z_iconst h 0 dX12_doing_145 (by decide) (rfl : 145 + 1 = 146) ?_
                  obtain ⟨b24, hf⟩ := zchk hf
                  refine z_iast h b24 rfl dX12_doing_146 (rfl : 146 + 1 = 147) ?_
                  refine z_aload_n h 1 dX12_doing_147 rfl (rfl : 147 + 1 = 148) ?_
                  refine z_dup h rfl dX12_doing_148 (rfl : 148 + 1 = 149) ?_
                  refine z_get (ci := 11) (C := RX12) (T := TX12) (N := 46) h 6 rfl rfl (fun _ hq => List.mem_cons_of_mem _ (List.mem_append_right _ hq)) (by decide) (List.mem_of_getElem? (i := 3) rfl) rfl dX12_doing_149 (rfl : 149 + 3 = 152) ?_
                  refine z_iconst h 1 dX12_doing_152 (by decide) (rfl : 152 + 1 = 153) ?_
                  refine z_iadd h dX12_doing_153 (rfl : 153 + 1 = 154) ?_
                  refine z_put (ci := 11) (C := RX12) (T := TX12) (N := 46) h 6 tyX12 tyX12_ok nmX12 rfl rfl (fun _ hq => List.mem_cons_of_mem _ (List.mem_append_right _ hq)) (by decide) (List.mem_of_getElem? (i := 3) rfl) rfl rfl rfl dX12_doing_154 (rfl : 154 + 3 = 157) ?_
                  refine z_aload_n h 1 dX12_doing_157 rfl (rfl : 157 + 1 = 158) ?_
                  refine z_get (ci := 11) (C := RX12) (T := TX12) (N := 46) h 6 rfl rfl (fun _ hq => List.mem_cons_of_mem _ (List.mem_append_right _ hq)) (by decide) (List.mem_of_getElem? (i := 3) rfl) rfl dX12_doing_158 (rfl : 158 + 3 = 161) ?_
                  refine z_iconst h 1 dX12_doing_161 (by decide) (rfl : 161 + 1 = 162) ?_
                  refine z_isub h dX12_doing_162 (rfl : 162 + 1 = 163) ?_
                  refine z_iret h hr dX12_doing_163 ?_
                  exact ⟨congrArg Prod.fst (zsome hf), congrArg Prod.snd (zsome hf), rfl⟩
                · have hf := zitf c23 hf
                  refine z_iconst h 1 dX12_doing_141 (by decide) (rfl : 141 + 1 = 142) ?_
                  refine z_goto (pc' := 146) h dX12_doing_142 (by decide) ?_
                  obtain ⟨b25, hf⟩ := zchk hf
                  refine z_iast h b25 rfl dX12_doing_146 (rfl : 146 + 1 = 147) ?_
                  refine z_aload_n h 1 dX12_doing_147 rfl (rfl : 147 + 1 = 148) ?_
                  refine z_dup h rfl dX12_doing_148 (rfl : 148 + 1 = 149) ?_
                  refine z_get (ci := 11) (C := RX12) (T := TX12) (N := 46) h 6 rfl rfl (fun _ hq => List.mem_cons_of_mem _ (List.mem_append_right _ hq)) (by decide) (List.mem_of_getElem? (i := 3) rfl) rfl dX12_doing_149 (rfl : 149 + 3 = 152) ?_
                  refine z_iconst h 1 dX12_doing_152 (by decide) (rfl : 152 + 1 = 153) ?_
                  refine z_iadd h dX12_doing_153 (rfl : 153 + 1 = 154) ?_
                  refine z_put (ci := 11) (C := RX12) (T := TX12) (N := 46) h 6 tyX12 tyX12_ok nmX12 rfl rfl (fun _ hq => List.mem_cons_of_mem _ (List.mem_append_right _ hq)) (by decide) (List.mem_of_getElem? (i := 3) rfl) rfl rfl rfl dX12_doing_154 (rfl : 154 + 3 = 157) ?_
                  refine z_aload_n h 1 dX12_doing_157 rfl (rfl : 157 + 1 = 158) ?_
                  refine z_get (ci := 11) (C := RX12) (T := TX12) (N := 46) h 6 rfl rfl (fun _ hq => List.mem_cons_of_mem _ (List.mem_append_right _ hq)) (by decide) (List.mem_of_getElem? (i := 3) rfl) rfl dX12_doing_158 (rfl : 158 + 3 = 161) ?_
                  refine z_iconst h 1 dX12_doing_161 (by decide) (rfl : 161 + 1 = 162) ?_
                  refine z_isub h dX12_doing_162 (rfl : 162 + 1 = 163) ?_
                  refine z_iret h hr dX12_doing_163 ?_
                  exact ⟨congrArg Prod.fst (zsome hf), congrArg Prod.snd (zsome hf), rfl⟩
              · have hf := zitt c17 hf
                refine z_bipush h (-4) dX12_doing_66 (by decide) (rfl : 66 + 2 = 68) ?_
                refine z_iret h hr dX12_doing_68 ?_
                exact ⟨congrArg Prod.fst (zsome hf), congrArg Prod.snd (zsome hf), rfl⟩
            · have hf := zitt c16 hf
              refine z_bipush h (-2) dX12_doing_54 (by decide) (rfl : 54 + 2 = 56) ?_
              refine z_iret h hr dX12_doing_56 ?_
              exact ⟨congrArg Prod.fst (zsome hf), congrArg Prod.snd (zsome hf), rfl⟩
        · have hf := zitf c12 hf
          refine z_iconst h (-1) dX12_doing_34 (by decide) (rfl : 34 + 1 = 35) ?_
          refine z_iret h hr dX12_doing_35 ?_
          exact ⟨congrArg Prod.fst (zsome hf), congrArg Prod.snd (zsome hf), rfl⟩
noncomputable def f_X12_undo (J : zJ)  (I : zM) : Option (Int32 × zM) := (if (zu I 147 0 0) 147 6 = 0 then some (((-3), zu I 147 0 0)) else some (((zu (zu I 147 0 0) 147 6 (((zu I 147 0 0) 147 6) - (1 : Int32))) 147 6, zu (zu I 147 0 0) 147 6 (((zu I 147 0 0) 147 6) - (1 : Int32)))))
noncomputable abbrev rmX12_undo : Room := { frames := 0, cells := 0, slots := 0, locals := 0 }
theorem zyX12_undo : zY yX12_undo wsX12_undo cX12_undo 1 (some .int) 0 := ⟨⟨_, rfl⟩, by decide +kernel⟩
set_option maxHeartbeats 1000000 in
set_option maxRecDepth 100000 in
theorem c_X12_undo (B : zB) (I : zM) (J : zJ) (hJ : zJok J)  (r : Int32) (I' : zM) (hf : f_X12_undo J  I = some (r, I')) : zCi B zKW I J yX12_undo wsX12_undo rmX12_undo [.ref (za B 147)] (fun r2 I2 J2 => r2 = r ∧ I2 = I' ∧ J2 = J) := by
  refine z_start (own := RX12) (cc := cX12_undo) (nL := 1) (ret := (some .int)) rfl (by decide) rfl (Nat.le_of_ble_eq_true rfl) (L := [(0, .ref (za B 147))]) rfl (fun G h hr => ?_)
  rw [f_X12_undo] at hf
  refine z_aload_n h 0 dX12_undo_0 rfl (rfl : 0 + 1 = 1) ?_
  refine z_iconst h 0 dX12_undo_1 (by decide) (rfl : 1 + 1 = 2) ?_
  refine z_put (ci := 11) (C := RX12) (T := TX12) (N := 46) h 0 tyX12 tyX12_ok nmX12 rfl rfl (fun _ hq => List.mem_cons_of_mem _ (List.mem_append_right _ hq)) (by decide) (List.mem_of_getElem? (i := 1) rfl) rfl rfl rfl dX12_undo_2 (rfl : 2 + 3 = 5) ?_
  refine z_aload_n h 0 dX12_undo_5 rfl (rfl : 5 + 1 = 6) ?_
  refine z_get (ci := 11) (C := RX12) (T := TX12) (N := 46) h 6 rfl rfl (fun _ hq => List.mem_cons_of_mem _ (List.mem_append_right _ hq)) (by decide) (List.mem_of_getElem? (i := 2) rfl) rfl dX12_undo_6 (rfl : 6 + 3 = 9) ?_
  refine z_if_ne (pc' := 12) h 15 dX12_undo_9 (by decide) rfl (fun c1 => ?_) (fun c1 => ?_)
  · have hf := zitf c1 hf
    refine z_aload_n h 0 dX12_undo_15 rfl (rfl : 15 + 1 = 16) ?_
    refine z_dup h rfl dX12_undo_16 (rfl : 16 + 1 = 17) ?_
    refine z_get (ci := 11) (C := RX12) (T := TX12) (N := 46) h 6 rfl rfl (fun _ hq => List.mem_cons_of_mem _ (List.mem_append_right _ hq)) (by decide) (List.mem_of_getElem? (i := 2) rfl) rfl dX12_undo_17 (rfl : 17 + 3 = 20) ?_
    refine z_iconst h 1 dX12_undo_20 (by decide) (rfl : 20 + 1 = 21) ?_
    refine z_isub h dX12_undo_21 (rfl : 21 + 1 = 22) ?_
    refine z_put (ci := 11) (C := RX12) (T := TX12) (N := 46) h 6 tyX12 tyX12_ok nmX12 rfl rfl (fun _ hq => List.mem_cons_of_mem _ (List.mem_append_right _ hq)) (by decide) (List.mem_of_getElem? (i := 2) rfl) rfl rfl rfl dX12_undo_22 (rfl : 22 + 3 = 25) ?_
    refine z_aload_n h 0 dX12_undo_25 rfl (rfl : 25 + 1 = 26) ?_
    refine z_get (ci := 11) (C := RX12) (T := TX12) (N := 46) h 6 rfl rfl (fun _ hq => List.mem_cons_of_mem _ (List.mem_append_right _ hq)) (by decide) (List.mem_of_getElem? (i := 2) rfl) rfl dX12_undo_26 (rfl : 26 + 3 = 29) ?_
    refine z_iret h hr dX12_undo_29 ?_
    exact ⟨congrArg Prod.fst (zsome hf), congrArg Prod.snd (zsome hf), rfl⟩
  · have hf := zitt c1 hf
    refine z_bipush h (-3) dX12_undo_12 (by decide) (rfl : 12 + 2 = 14) ?_
    refine z_iret h hr dX12_undo_14 ?_
    exact ⟨congrArg Prod.fst (zsome hf), congrArg Prod.snd (zsome hf), rfl⟩
noncomputable def f_X12_tell (J : zJ) (v1 : Int32) (v2 : Int32) (v3 : Int32) (I : zM) : Option (Int32 × zM) := ((f_X12_noPerson J v1 (zu I 147 0 0)).bind fun q1 => (if q1.1 = 0 then ((f_X12_noTrade J v2 q1.2).bind fun q4 => (if q4.1 = 0 then (if zin (((3 : Int32) * v1) + v2) 15 = true then (if q4.2 153 (Int32.toNatClampNeg (((3 : Int32) * v1) + v2)) = 0 then (if zin (((3 : Int32) * v1) + v2) 15 = true then (if vp_nar .boolean v3 = v3 then some ((0, zu q4.2 153 (Int32.toNatClampNeg (((3 : Int32) * v1) + v2)) v3)) else none) else none) else (if zin (((3 : Int32) * v1) + v2) 15 = true then (if vp_nar .boolean v3 = v3 then some ((1, zu q4.2 153 (Int32.toNatClampNeg (((3 : Int32) * v1) + v2)) v3)) else none) else none)) else none) else some (((-1), q4.2)))) else some (((-1), q1.2))))
noncomputable abbrev rmX12_tell : Room := { frames := 2, cells := 0, slots := 0, locals := 45 }
theorem zyX12_tell : zY yX12_tell wsX12_tell cX12_tell 5 (some .int) 3 := ⟨⟨_, rfl⟩, by decide +kernel⟩
theorem zrX12_tell_X12_noPerson : zRm rmX12_noPerson rmX12_tell 1 := ⟨rfl, rfl, by decide, by decide⟩
theorem zrX12_tell_X12_noTrade : zRm rmX12_noTrade rmX12_tell 1 := ⟨rfl, rfl, by decide, by decide⟩
set_option maxHeartbeats 1000000 in
set_option maxRecDepth 100000 in
theorem c_X12_tell (B : zB) (I : zM) (J : zJ) (hJ : zJok J) (v1 : Int32) (v2 : Int32) (v3 : Int32) (r : Int32) (I' : zM) (hf : f_X12_tell J v1 v2 v3 I = some (r, I')) : zCi B zKW I J yX12_tell wsX12_tell rmX12_tell [.ref (za B 147), .int v1, .int v2, .int v3] (fun r2 I2 J2 => r2 = r ∧ I2 = I' ∧ J2 = J) := by
  refine z_start (own := RX12) (cc := cX12_tell) (nL := 5) (ret := (some .int)) rfl (by decide) rfl (Nat.le_of_ble_eq_true rfl) (L := [(0, .ref (za B 147)), (1, .int v1), (2, .int v2), (3, .int v3)]) rfl (fun G h hr => ?_)
  rw [f_X12_tell] at hf
  refine z_aload_n h 0 dX12_tell_0 rfl (rfl : 0 + 1 = 1) ?_
  refine z_iconst h 0 dX12_tell_1 (by decide) (rfl : 1 + 1 = 2) ?_
  refine z_put (ci := 11) (C := RX12) (T := TX12) (N := 46) h 0 tyX12 tyX12_ok nmX12 rfl rfl (fun _ hq => List.mem_cons_of_mem _ (List.mem_append_right _ hq)) (by decide) (List.mem_of_getElem? (i := 1) rfl) rfl rfl rfl dX12_tell_2 (rfl : 2 + 3 = 5) ?_
  refine z_iload_n h 1 dX12_tell_5 rfl (rfl : 5 + 1 = 6) ?_
  obtain ⟨q1, e2, hf⟩ := zbind hf
  refine z_goF (z_runS h [.int v1] [] zyX12_noPerson (c_X12_noPerson B (zu I 147 0 0) J hJ v1 _ _ e2) gX12_tell_X12_noPerson zrX12_tell_X12_noPerson rfl (Nat.le_of_ble_eq_true rfl) ⟨Nat.zero_le _, Nat.zero_le _⟩ rfl dX12_tell_6) rfl ?_
  refine z_if_ne (pc' := 12) h 19 dX12_tell_9 (by decide) rfl (fun c3 => ?_) (fun c3 => ?_)
  · have hf := zitf c3 hf
    refine z_iconst h (-1) dX12_tell_19 (by decide) (rfl : 19 + 1 = 20) ?_
    refine z_iret h hr dX12_tell_20 ?_
    exact ⟨congrArg Prod.fst (zsome hf), congrArg Prod.snd (zsome hf), rfl⟩
  · have hf := zitt c3 hf
    refine z_iload_n h 2 dX12_tell_12 rfl (rfl : 12 + 1 = 13) ?_
    obtain ⟨q4, e5, hf⟩ := zbind hf
    refine z_goF (z_runS h [.int v2] [] zyX12_noTrade (c_X12_noTrade B q1.2 J hJ v2 _ _ e5) gX12_tell_X12_noTrade zrX12_tell_X12_noTrade rfl (Nat.le_of_ble_eq_true rfl) ⟨Nat.zero_le _, Nat.zero_le _⟩ rfl dX12_tell_13) rfl ?_
    refine z_if_eq (pc' := 19) h 21 dX12_tell_16 (by decide) rfl (fun c6 => ?_) (fun c6 => ?_)
    · have hf := zitt c6 hf
      refine z_aload_n h 0 dX12_tell_21 rfl (rfl : 21 + 1 = 22) ?_
      refine z_getr (ci := 11) (C := RX12) (T := TX12) (N := 46) h 7 153 ((hJ.1 147 7 (by decide)).trans rfl) rfl rfl (fun _ hq => List.mem_cons_of_mem _ (List.mem_append_right _ hq)) (by decide) (List.mem_of_getElem? (i := 2) rfl) rfl dX12_tell_22 (rfl : 22 + 3 = 25) ?_
      refine z_iconst h 3 dX12_tell_25 (by decide) (rfl : 25 + 1 = 26) ?_
      refine z_iload_n h 1 dX12_tell_26 rfl (rfl : 26 + 1 = 27) ?_
      refine z_imul h dX12_tell_27 (rfl : 27 + 1 = 28) ?_
      refine z_iload_n h 2 dX12_tell_28 rfl (rfl : 28 + 1 = 29) ?_
      refine z_iadd h dX12_tell_29 (rfl : 29 + 1 = 30) ?_
      obtain ⟨b7, hf⟩ := zchk hf
      refine z_zald h rfl b7 dX12_tell_30 (rfl : 30 + 1 = 31) ?_
      refine z_if_eq (pc' := 34) h 38 dX12_tell_31 (by decide) rfl (fun c8 => ?_) (fun c8 => ?_)
      · have hf := zitt c8 hf
        refine z_iconst h 0 dX12_tell_38 (by decide) (rfl : 38 + 1 = 39) ?_
        refine z_istore h [(4, .int 0), (0, .ref (za B 147)), (1, .int v1), (2, .int v2), (3, .int v3)] dX12_tell_39 (by decide) rfl (rfl : 39 + 2 = 41) ?_
        refine z_aload_n h 1 dX12_tell_41 rfl (rfl : 41 + 1 = 42) ?_
        refine z_getr (ci := 11) (C := RX12) (T := TX12) (N := 46) h 7 153 ((hJ.1 147 7 (by decide)).trans rfl) rfl rfl (fun _ hq => List.mem_cons_of_mem _ (List.mem_append_right _ hq)) (by decide) (List.mem_of_getElem? (i := 2) rfl) rfl dX12_tell_42 (rfl : 42 + 3 = 45) ?_
        refine z_iconst h 3 dX12_tell_45 (by decide) (rfl : 45 + 1 = 46) ?_
        refine z_iload_n h 2 dX12_tell_46 rfl (rfl : 46 + 1 = 47) ?_
        refine z_imul h dX12_tell_47 (rfl : 47 + 1 = 48) ?_
        refine z_iload_n h 3 dX12_tell_48 rfl (rfl : 48 + 1 = 49) ?_
        refine z_iadd h dX12_tell_49 (rfl : 49 + 1 = 50) ?_
        refine z_iload_n h 4 dX12_tell_50 rfl (rfl : 50 + 1 = 51) ?_
        obtain ⟨b9, hf⟩ := zchk hf
        obtain ⟨b10, hf⟩ := zchk hf
        refine z_zast h b9 b10 rfl dX12_tell_51 (rfl : 51 + 1 = 52) ?_
        refine z_iload h 0 dX12_tell_52 rfl (rfl : 52 + 2 = 54) ?_
        refine z_iret h hr dX12_tell_54 ?_
        exact ⟨congrArg Prod.fst (zsome hf), congrArg Prod.snd (zsome hf), rfl⟩
      · have hf := zitf c8 hf
        refine z_iconst h 1 dX12_tell_34 (by decide) (rfl : 34 + 1 = 35) ?_
        refine z_goto (pc' := 39) h dX12_tell_35 (by decide) ?_
        refine z_istore h [(4, .int 1), (0, .ref (za B 147)), (1, .int v1), (2, .int v2), (3, .int v3)] dX12_tell_39 (by decide) rfl (rfl : 39 + 2 = 41) ?_
        refine z_aload_n h 1 dX12_tell_41 rfl (rfl : 41 + 1 = 42) ?_
        refine z_getr (ci := 11) (C := RX12) (T := TX12) (N := 46) h 7 153 ((hJ.1 147 7 (by decide)).trans rfl) rfl rfl (fun _ hq => List.mem_cons_of_mem _ (List.mem_append_right _ hq)) (by decide) (List.mem_of_getElem? (i := 2) rfl) rfl dX12_tell_42 (rfl : 42 + 3 = 45) ?_
        refine z_iconst h 3 dX12_tell_45 (by decide) (rfl : 45 + 1 = 46) ?_
        refine z_iload_n h 2 dX12_tell_46 rfl (rfl : 46 + 1 = 47) ?_
        refine z_imul h dX12_tell_47 (rfl : 47 + 1 = 48) ?_
        refine z_iload_n h 3 dX12_tell_48 rfl (rfl : 48 + 1 = 49) ?_
        refine z_iadd h dX12_tell_49 (rfl : 49 + 1 = 50) ?_
        refine z_iload_n h 4 dX12_tell_50 rfl (rfl : 50 + 1 = 51) ?_
        obtain ⟨b11, hf⟩ := zchk hf
        obtain ⟨b12, hf⟩ := zchk hf
        refine z_zast h b11 b12 rfl dX12_tell_51 (rfl : 51 + 1 = 52) ?_
        refine z_iload h 0 dX12_tell_52 rfl (rfl : 52 + 2 = 54) ?_
        refine z_iret h hr dX12_tell_54 ?_
        exact ⟨congrArg Prod.fst (zsome hf), congrArg Prod.snd (zsome hf), rfl⟩
    · have hf := zitf c6 hf
      refine z_iconst h (-1) dX12_tell_19 (by decide) (rfl : 19 + 1 = 20) ?_
      refine z_iret h hr dX12_tell_20 ?_
      exact ⟨congrArg Prod.fst (zsome hf), congrArg Prod.snd (zsome hf), rfl⟩
noncomputable def f_X12_term (J : zJ) (v1 : Int32) (v2 : Int32) (I : zM) : Option (Int32 × zM) := (if v1 = 0 then ((f_X12_in J (Int32.toInt64 v2) 1 5 (zu I 147 0 0)).bind fun q38 => (if q38.1 = 0 then (if v1 = 1 then ((f_X12_in J (Int32.toInt64 v2) 1 9 q38.2).bind fun q62 => (if q62.1 = 0 then (if v1 = 2 then ((f_X12_in J (Int32.toInt64 v2) 51 100 q62.2).bind fun q74 => (if q74.1 = 0 then some (((-2), q74.2)) else (if v1 = 0 then (if v1 = 0 then some ((q74.2 147 8, zu q74.2 147 8 v2)) else (if v1 = 1 then some ((q74.2 147 8, zu q74.2 147 9 v2)) else some ((q74.2 147 8, zu q74.2 147 10 v2)))) else (if v1 = 1 then (if v1 = 0 then some ((q74.2 147 9, zu q74.2 147 8 v2)) else (if v1 = 1 then some ((q74.2 147 9, zu q74.2 147 9 v2)) else some ((q74.2 147 9, zu q74.2 147 10 v2)))) else (if v1 = 0 then some ((q74.2 147 10, zu q74.2 147 8 v2)) else (if v1 = 1 then some ((q74.2 147 10, zu q74.2 147 9 v2)) else some ((q74.2 147 10, zu q74.2 147 10 v2)))))))) else some (((-2), q62.2))) else (if v1 = 0 then (if v1 = 0 then some ((q62.2 147 8, zu q62.2 147 8 v2)) else (if v1 = 1 then some ((q62.2 147 8, zu q62.2 147 9 v2)) else some ((q62.2 147 8, zu q62.2 147 10 v2)))) else (if v1 = 1 then (if v1 = 0 then some ((q62.2 147 9, zu q62.2 147 8 v2)) else (if v1 = 1 then some ((q62.2 147 9, zu q62.2 147 9 v2)) else some ((q62.2 147 9, zu q62.2 147 10 v2)))) else (if v1 = 0 then some ((q62.2 147 10, zu q62.2 147 8 v2)) else (if v1 = 1 then some ((q62.2 147 10, zu q62.2 147 9 v2)) else some ((q62.2 147 10, zu q62.2 147 10 v2)))))))) else (if v1 = 2 then ((f_X12_in J (Int32.toInt64 v2) 51 100 q38.2).bind fun q51 => (if q51.1 = 0 then some (((-2), q51.2)) else (if v1 = 0 then (if v1 = 0 then some ((q51.2 147 8, zu q51.2 147 8 v2)) else (if v1 = 1 then some ((q51.2 147 8, zu q51.2 147 9 v2)) else some ((q51.2 147 8, zu q51.2 147 10 v2)))) else (if v1 = 1 then (if v1 = 0 then some ((q51.2 147 9, zu q51.2 147 8 v2)) else (if v1 = 1 then some ((q51.2 147 9, zu q51.2 147 9 v2)) else some ((q51.2 147 9, zu q51.2 147 10 v2)))) else (if v1 = 0 then some ((q51.2 147 10, zu q51.2 147 8 v2)) else (if v1 = 1 then some ((q51.2 147 10, zu q51.2 147 9 v2)) else some ((q51.2 147 10, zu q51.2 147 10 v2)))))))) else some (((-2), q38.2)))) else (if v1 = 0 then (if v1 = 0 then some ((q38.2 147 8, zu q38.2 147 8 v2)) else (if v1 = 1 then some ((q38.2 147 8, zu q38.2 147 9 v2)) else some ((q38.2 147 8, zu q38.2 147 10 v2)))) else (if v1 = 1 then (if v1 = 0 then some ((q38.2 147 9, zu q38.2 147 8 v2)) else (if v1 = 1 then some ((q38.2 147 9, zu q38.2 147 9 v2)) else some ((q38.2 147 9, zu q38.2 147 10 v2)))) else (if v1 = 0 then some ((q38.2 147 10, zu q38.2 147 8 v2)) else (if v1 = 1 then some ((q38.2 147 10, zu q38.2 147 9 v2)) else some ((q38.2 147 10, zu q38.2 147 10 v2)))))))) else (if v1 = 1 then ((f_X12_in J (Int32.toInt64 v2) 1 9 (zu I 147 0 0)).bind fun q15 => (if q15.1 = 0 then (if v1 = 2 then ((f_X12_in J (Int32.toInt64 v2) 51 100 q15.2).bind fun q27 => (if q27.1 = 0 then some (((-2), q27.2)) else (if v1 = 0 then (if v1 = 0 then some ((q27.2 147 8, zu q27.2 147 8 v2)) else (if v1 = 1 then some ((q27.2 147 8, zu q27.2 147 9 v2)) else some ((q27.2 147 8, zu q27.2 147 10 v2)))) else (if v1 = 1 then (if v1 = 0 then some ((q27.2 147 9, zu q27.2 147 8 v2)) else (if v1 = 1 then some ((q27.2 147 9, zu q27.2 147 9 v2)) else some ((q27.2 147 9, zu q27.2 147 10 v2)))) else (if v1 = 0 then some ((q27.2 147 10, zu q27.2 147 8 v2)) else (if v1 = 1 then some ((q27.2 147 10, zu q27.2 147 9 v2)) else some ((q27.2 147 10, zu q27.2 147 10 v2)))))))) else some (((-2), q15.2))) else (if v1 = 0 then (if v1 = 0 then some ((q15.2 147 8, zu q15.2 147 8 v2)) else (if v1 = 1 then some ((q15.2 147 8, zu q15.2 147 9 v2)) else some ((q15.2 147 8, zu q15.2 147 10 v2)))) else (if v1 = 1 then (if v1 = 0 then some ((q15.2 147 9, zu q15.2 147 8 v2)) else (if v1 = 1 then some ((q15.2 147 9, zu q15.2 147 9 v2)) else some ((q15.2 147 9, zu q15.2 147 10 v2)))) else (if v1 = 0 then some ((q15.2 147 10, zu q15.2 147 8 v2)) else (if v1 = 1 then some ((q15.2 147 10, zu q15.2 147 9 v2)) else some ((q15.2 147 10, zu q15.2 147 10 v2)))))))) else (if v1 = 2 then ((f_X12_in J (Int32.toInt64 v2) 51 100 (zu I 147 0 0)).bind fun q4 => (if q4.1 = 0 then some (((-2), q4.2)) else (if v1 = 0 then (if v1 = 0 then some ((q4.2 147 8, zu q4.2 147 8 v2)) else (if v1 = 1 then some ((q4.2 147 8, zu q4.2 147 9 v2)) else some ((q4.2 147 8, zu q4.2 147 10 v2)))) else (if v1 = 1 then (if v1 = 0 then some ((q4.2 147 9, zu q4.2 147 8 v2)) else (if v1 = 1 then some ((q4.2 147 9, zu q4.2 147 9 v2)) else some ((q4.2 147 9, zu q4.2 147 10 v2)))) else (if v1 = 0 then some ((q4.2 147 10, zu q4.2 147 8 v2)) else (if v1 = 1 then some ((q4.2 147 10, zu q4.2 147 9 v2)) else some ((q4.2 147 10, zu q4.2 147 10 v2)))))))) else some (((-2), zu I 147 0 0)))))
noncomputable abbrev rmX12_term : Room := { frames := 1, cells := 0, slots := 0, locals := 25 }
theorem zyX12_term : zY yX12_term wsX12_term cX12_term 5 (some .int) 2 := ⟨⟨_, rfl⟩, by decide +kernel⟩
theorem zrX12_term_X12_in : zRm rmX12_in rmX12_term 6 := ⟨rfl, rfl, by decide, by decide⟩
set_option maxHeartbeats 1000000 in
set_option maxRecDepth 100000 in
theorem c_X12_term (B : zB) (I : zM) (J : zJ) (hJ : zJok J) (v1 : Int32) (v2 : Int32) (r : Int32) (I' : zM) (hf : f_X12_term J v1 v2 I = some (r, I')) : zCi B zKW I J yX12_term wsX12_term rmX12_term [.ref (za B 147), .int v1, .int v2] (fun r2 I2 J2 => r2 = r ∧ I2 = I' ∧ J2 = J) := by
  refine z_start (own := RX12) (cc := cX12_term) (nL := 5) (ret := (some .int)) rfl (by decide) rfl (Nat.le_of_ble_eq_true rfl) (L := [(0, .ref (za B 147)), (1, .int v1), (2, .int v2)]) rfl (fun G h hr => ?_)
  rw [f_X12_term] at hf
  refine z_aload_n h 0 dX12_term_0 rfl (rfl : 0 + 1 = 1) ?_
  refine z_iconst h 0 dX12_term_1 (by decide) (rfl : 1 + 1 = 2) ?_
  refine z_put (ci := 11) (C := RX12) (T := TX12) (N := 46) h 0 tyX12 tyX12_ok nmX12 rfl rfl (fun _ hq => List.mem_cons_of_mem _ (List.mem_append_right _ hq)) (by decide) (List.mem_of_getElem? (i := 1) rfl) rfl rfl rfl dX12_term_2 (rfl : 2 + 3 = 5) ?_
  refine z_iload_n h 1 dX12_term_5 rfl (rfl : 5 + 1 = 6) ?_
  refine z_if_ne (pc' := 9) h 21 dX12_term_6 (by decide) rfl (fun c1 => ?_) (fun c1 => ?_)
  · have hf := zitf c1 hf
    refine z_iload_n h 1 dX12_term_21 rfl (rfl : 21 + 1 = 22) ?_
    refine z_iconst h 1 dX12_term_22 (by decide) (rfl : 22 + 1 = 23) ?_
    refine z_icmp_ne (pc' := 26) h 38 dX12_term_23 (by decide) rfl (fun c2 => ?_) (fun c2 => ?_)
    · have hf := zitf c2 hf
      refine z_iload_n h 1 dX12_term_38 rfl (rfl : 38 + 1 = 39) ?_
      refine z_iconst h 2 dX12_term_39 (by decide) (rfl : 39 + 1 = 40) ?_
      refine z_icmp_ne (pc' := 43) h 61 dX12_term_40 (by decide) rfl (fun c3 => ?_) (fun c3 => ?_)
      · have hf := zitf c3 hf
        refine z_iconst h 0 dX12_term_61 (by decide) (rfl : 61 + 1 = 62) ?_
        refine z_istore_n h [(3, .int 0), (0, .ref (za B 147)), (1, .int v1), (2, .int v2)] dX12_term_62 (by decide) rfl (rfl : 62 + 1 = 63) ?_
        refine z_iload_n h 0 dX12_term_63 rfl (rfl : 63 + 1 = 64) ?_
        refine z_if_ne (pc' := 67) h 70 dX12_term_64 (by decide) rfl (fun q => absurd q (by decide)) (fun _ => ?_)
        refine z_bipush h (-2) dX12_term_67 (by decide) (rfl : 67 + 2 = 69) ?_
        refine z_iret h hr dX12_term_69 ?_
        exact ⟨congrArg Prod.fst (zsome hf), congrArg Prod.snd (zsome hf), rfl⟩
      · have hf := zitt c3 hf
        refine z_iload_n h 2 dX12_term_43 rfl (rfl : 43 + 1 = 44) ?_
        refine z_i2l h dX12_term_44 (rfl : 44 + 1 = 45) ?_
        refine z_ldc2 h 51 (List.mem_of_getElem? (i := 4) rfl) dX12_term_45 (rfl : 45 + 3 = 48) ?_
        refine z_ldc2 h 100 (List.mem_of_getElem? (i := 5) rfl) dX12_term_48 (rfl : 48 + 3 = 51) ?_
        obtain ⟨q4, e5, hf⟩ := zbind hf
        refine z_goF (z_runS h [.long (Int32.toInt64 v2), .long 51, .long 100] [] zyX12_in (c_X12_in B (zu I 147 0 0) J hJ (Int32.toInt64 v2) 51 100 _ _ e5) gX12_term_X12_in zrX12_term_X12_in rfl (Nat.le_of_ble_eq_true rfl) ⟨Nat.zero_le _, Nat.zero_le _⟩ rfl dX12_term_51) rfl ?_
        refine z_if_eq (pc' := 57) h 61 dX12_term_54 (by decide) rfl (fun c6 => ?_) (fun c6 => ?_)
        · have hf := zitt c6 hf
          refine z_iconst h 0 dX12_term_61 (by decide) (rfl : 61 + 1 = 62) ?_
          refine z_istore_n h [(3, .int 0), (0, .ref (za B 147)), (1, .int v1), (2, .int v2)] dX12_term_62 (by decide) rfl (rfl : 62 + 1 = 63) ?_
          refine z_iload_n h 0 dX12_term_63 rfl (rfl : 63 + 1 = 64) ?_
          refine z_if_ne (pc' := 67) h 70 dX12_term_64 (by decide) rfl (fun q => absurd q (by decide)) (fun _ => ?_)
          refine z_bipush h (-2) dX12_term_67 (by decide) (rfl : 67 + 2 = 69) ?_
          refine z_iret h hr dX12_term_69 ?_
          exact ⟨congrArg Prod.fst (zsome hf), congrArg Prod.snd (zsome hf), rfl⟩
        · have hf := zitf c6 hf
          refine z_iconst h 1 dX12_term_57 (by decide) (rfl : 57 + 1 = 58) ?_
          refine z_goto (pc' := 62) h dX12_term_58 (by decide) ?_
          refine z_istore_n h [(3, .int 1), (0, .ref (za B 147)), (1, .int v1), (2, .int v2)] dX12_term_62 (by decide) rfl (rfl : 62 + 1 = 63) ?_
          refine z_iload_n h 0 dX12_term_63 rfl (rfl : 63 + 1 = 64) ?_
          refine z_if_ne (pc' := 67) h 70 dX12_term_64 (by decide) rfl (fun _ => ?_) (fun q => absurd q (by decide))
          refine z_iload_n h 2 dX12_term_70 rfl (rfl : 70 + 1 = 71) ?_
          refine z_if_ne (pc' := 74) h 81 dX12_term_71 (by decide) rfl (fun c7 => ?_) (fun c7 => ?_)
          · have hf := zitf c7 hf
            refine z_iload_n h 2 dX12_term_81 rfl (rfl : 81 + 1 = 82) ?_
            refine z_iconst h 1 dX12_term_82 (by decide) (rfl : 82 + 1 = 83) ?_
            refine z_icmp_ne (pc' := 86) h 93 dX12_term_83 (by decide) rfl (fun c8 => ?_) (fun c8 => ?_)
            · have hf := zitf c8 hf
              refine z_aload_n h 1 dX12_term_93 rfl (rfl : 93 + 1 = 94) ?_
              refine z_get (ci := 11) (C := RX12) (T := TX12) (N := 46) h 10 rfl rfl (fun _ hq => List.mem_cons_of_mem _ (List.mem_append_right _ hq)) (by decide) (List.mem_of_getElem? (i := 8) rfl) rfl dX12_term_94 (rfl : 94 + 3 = 97) ?_
              refine z_istore h [(4, .int (q4.2 147 10)), (3, .int 1), (0, .ref (za B 147)), (1, .int v1), (2, .int v2)] dX12_term_97 (by decide) rfl (rfl : 97 + 2 = 99) ?_
              refine z_iload_n h 3 dX12_term_99 rfl (rfl : 99 + 1 = 100) ?_
              refine z_if_ne (pc' := 103) h 111 dX12_term_100 (by decide) rfl (fun c9 => ?_) (fun c9 => ?_)
              · have hf := zitf c9 hf
                refine z_iload_n h 3 dX12_term_111 rfl (rfl : 111 + 1 = 112) ?_
                refine z_iconst h 1 dX12_term_112 (by decide) (rfl : 112 + 1 = 113) ?_
                refine z_icmp_ne (pc' := 116) h 124 dX12_term_113 (by decide) rfl (fun c10 => ?_) (fun c10 => ?_)
                · have hf := zitf c10 hf
                  refine z_aload_n h 2 dX12_term_124 rfl (rfl : 124 + 1 = 125) ?_
                  refine z_iload_n h 4 dX12_term_125 rfl (rfl : 125 + 1 = 126) ?_
                  refine z_put (ci := 11) (C := RX12) (T := TX12) (N := 46) h 10 tyX12 tyX12_ok nmX12 rfl rfl (fun _ hq => List.mem_cons_of_mem _ (List.mem_append_right _ hq)) (by decide) (List.mem_of_getElem? (i := 8) rfl) rfl rfl rfl dX12_term_126 (rfl : 126 + 3 = 129) ?_
                  refine z_iload h 0 dX12_term_129 rfl (rfl : 129 + 2 = 131) ?_
                  refine z_iret h hr dX12_term_131 ?_
                  exact ⟨congrArg Prod.fst (zsome hf), congrArg Prod.snd (zsome hf), rfl⟩
                · have hf := zitt c10 hf
                  refine z_aload_n h 2 dX12_term_116 rfl (rfl : 116 + 1 = 117) ?_
                  refine z_iload_n h 4 dX12_term_117 rfl (rfl : 117 + 1 = 118) ?_
                  refine z_put (ci := 11) (C := RX12) (T := TX12) (N := 46) h 9 tyX12 tyX12_ok nmX12 rfl rfl (fun _ hq => List.mem_cons_of_mem _ (List.mem_append_right _ hq)) (by decide) (List.mem_of_getElem? (i := 7) rfl) rfl rfl rfl dX12_term_118 (rfl : 118 + 3 = 121) ?_
                  refine z_goto (pc' := 129) h dX12_term_121 (by decide) ?_
                  refine z_iload h 0 dX12_term_129 rfl (rfl : 129 + 2 = 131) ?_
                  refine z_iret h hr dX12_term_131 ?_
                  exact ⟨congrArg Prod.fst (zsome hf), congrArg Prod.snd (zsome hf), rfl⟩
              · have hf := zitt c9 hf
                refine z_aload_n h 2 dX12_term_103 rfl (rfl : 103 + 1 = 104) ?_
                refine z_iload_n h 4 dX12_term_104 rfl (rfl : 104 + 1 = 105) ?_
                refine z_put (ci := 11) (C := RX12) (T := TX12) (N := 46) h 8 tyX12 tyX12_ok nmX12 rfl rfl (fun _ hq => List.mem_cons_of_mem _ (List.mem_append_right _ hq)) (by decide) (List.mem_of_getElem? (i := 6) rfl) rfl rfl rfl dX12_term_105 (rfl : 105 + 3 = 108) ?_
                refine z_goto (pc' := 129) h dX12_term_108 (by decide) ?_
                refine z_iload h 0 dX12_term_129 rfl (rfl : 129 + 2 = 131) ?_
                refine z_iret h hr dX12_term_131 ?_
                exact ⟨congrArg Prod.fst (zsome hf), congrArg Prod.snd (zsome hf), rfl⟩
            · have hf := zitt c8 hf
              refine z_aload_n h 1 dX12_term_86 rfl (rfl : 86 + 1 = 87) ?_
              refine z_get (ci := 11) (C := RX12) (T := TX12) (N := 46) h 9 rfl rfl (fun _ hq => List.mem_cons_of_mem _ (List.mem_append_right _ hq)) (by decide) (List.mem_of_getElem? (i := 7) rfl) rfl dX12_term_87 (rfl : 87 + 3 = 90) ?_
              refine z_goto (pc' := 97) h dX12_term_90 (by decide) ?_
              refine z_istore h [(4, .int (q4.2 147 9)), (3, .int 1), (0, .ref (za B 147)), (1, .int v1), (2, .int v2)] dX12_term_97 (by decide) rfl (rfl : 97 + 2 = 99) ?_
              refine z_iload_n h 3 dX12_term_99 rfl (rfl : 99 + 1 = 100) ?_
              refine z_if_ne (pc' := 103) h 111 dX12_term_100 (by decide) rfl (fun c11 => ?_) (fun c11 => ?_)
              · have hf := zitf c11 hf
                refine z_iload_n h 3 dX12_term_111 rfl (rfl : 111 + 1 = 112) ?_
                refine z_iconst h 1 dX12_term_112 (by decide) (rfl : 112 + 1 = 113) ?_
                refine z_icmp_ne (pc' := 116) h 124 dX12_term_113 (by decide) rfl (fun c12 => ?_) (fun c12 => ?_)
                · have hf := zitf c12 hf
                  refine z_aload_n h 2 dX12_term_124 rfl (rfl : 124 + 1 = 125) ?_
                  refine z_iload_n h 4 dX12_term_125 rfl (rfl : 125 + 1 = 126) ?_
                  refine z_put (ci := 11) (C := RX12) (T := TX12) (N := 46) h 10 tyX12 tyX12_ok nmX12 rfl rfl (fun _ hq => List.mem_cons_of_mem _ (List.mem_append_right _ hq)) (by decide) (List.mem_of_getElem? (i := 8) rfl) rfl rfl rfl dX12_term_126 (rfl : 126 + 3 = 129) ?_
                  refine z_iload h 0 dX12_term_129 rfl (rfl : 129 + 2 = 131) ?_
                  refine z_iret h hr dX12_term_131 ?_
                  exact ⟨congrArg Prod.fst (zsome hf), congrArg Prod.snd (zsome hf), rfl⟩
                · have hf := zitt c12 hf
                  refine z_aload_n h 2 dX12_term_116 rfl (rfl : 116 + 1 = 117) ?_
                  refine z_iload_n h 4 dX12_term_117 rfl (rfl : 117 + 1 = 118) ?_
                  refine z_put (ci := 11) (C := RX12) (T := TX12) (N := 46) h 9 tyX12 tyX12_ok nmX12 rfl rfl (fun _ hq => List.mem_cons_of_mem _ (List.mem_append_right _ hq)) (by decide) (List.mem_of_getElem? (i := 7) rfl) rfl rfl rfl dX12_term_118 (rfl : 118 + 3 = 121) ?_
                  refine z_goto (pc' := 129) h dX12_term_121 (by decide) ?_
                  refine z_iload h 0 dX12_term_129 rfl (rfl : 129 + 2 = 131) ?_
                  refine z_iret h hr dX12_term_131 ?_
                  exact ⟨congrArg Prod.fst (zsome hf), congrArg Prod.snd (zsome hf), rfl⟩
              · have hf := zitt c11 hf
                refine z_aload_n h 2 dX12_term_103 rfl (rfl : 103 + 1 = 104) ?_
                refine z_iload_n h 4 dX12_term_104 rfl (rfl : 104 + 1 = 105) ?_
                refine z_put (ci := 11) (C := RX12) (T := TX12) (N := 46) h 8 tyX12 tyX12_ok nmX12 rfl rfl (fun _ hq => List.mem_cons_of_mem _ (List.mem_append_right _ hq)) (by decide) (List.mem_of_getElem? (i := 6) rfl) rfl rfl rfl dX12_term_105 (rfl : 105 + 3 = 108) ?_
                refine z_goto (pc' := 129) h dX12_term_108 (by decide) ?_
                refine z_iload h 0 dX12_term_129 rfl (rfl : 129 + 2 = 131) ?_
                refine z_iret h hr dX12_term_131 ?_
                exact ⟨congrArg Prod.fst (zsome hf), congrArg Prod.snd (zsome hf), rfl⟩
          · have hf := zitt c7 hf
            refine z_aload_n h 1 dX12_term_74 rfl (rfl : 74 + 1 = 75) ?_
            refine z_get (ci := 11) (C := RX12) (T := TX12) (N := 46) h 8 rfl rfl (fun _ hq => List.mem_cons_of_mem _ (List.mem_append_right _ hq)) (by decide) (List.mem_of_getElem? (i := 6) rfl) rfl dX12_term_75 (rfl : 75 + 3 = 78) ?_
            refine z_goto (pc' := 97) h dX12_term_78 (by decide) ?_
            refine z_istore h [(4, .int (q4.2 147 8)), (3, .int 1), (0, .ref (za B 147)), (1, .int v1), (2, .int v2)] dX12_term_97 (by decide) rfl (rfl : 97 + 2 = 99) ?_
            refine z_iload_n h 3 dX12_term_99 rfl (rfl : 99 + 1 = 100) ?_
            refine z_if_ne (pc' := 103) h 111 dX12_term_100 (by decide) rfl (fun c13 => ?_) (fun c13 => ?_)
            · have hf := zitf c13 hf
              refine z_iload_n h 3 dX12_term_111 rfl (rfl : 111 + 1 = 112) ?_
              refine z_iconst h 1 dX12_term_112 (by decide) (rfl : 112 + 1 = 113) ?_
              refine z_icmp_ne (pc' := 116) h 124 dX12_term_113 (by decide) rfl (fun c14 => ?_) (fun c14 => ?_)
              · have hf := zitf c14 hf
                refine z_aload_n h 2 dX12_term_124 rfl (rfl : 124 + 1 = 125) ?_
                refine z_iload_n h 4 dX12_term_125 rfl (rfl : 125 + 1 = 126) ?_
                refine z_put (ci := 11) (C := RX12) (T := TX12) (N := 46) h 10 tyX12 tyX12_ok nmX12 rfl rfl (fun _ hq => List.mem_cons_of_mem _ (List.mem_append_right _ hq)) (by decide) (List.mem_of_getElem? (i := 8) rfl) rfl rfl rfl dX12_term_126 (rfl : 126 + 3 = 129) ?_
                refine z_iload h 0 dX12_term_129 rfl (rfl : 129 + 2 = 131) ?_
                refine z_iret h hr dX12_term_131 ?_
                exact ⟨congrArg Prod.fst (zsome hf), congrArg Prod.snd (zsome hf), rfl⟩
              · have hf := zitt c14 hf
                refine z_aload_n h 2 dX12_term_116 rfl (rfl : 116 + 1 = 117) ?_
                refine z_iload_n h 4 dX12_term_117 rfl (rfl : 117 + 1 = 118) ?_
                refine z_put (ci := 11) (C := RX12) (T := TX12) (N := 46) h 9 tyX12 tyX12_ok nmX12 rfl rfl (fun _ hq => List.mem_cons_of_mem _ (List.mem_append_right _ hq)) (by decide) (List.mem_of_getElem? (i := 7) rfl) rfl rfl rfl dX12_term_118 (rfl : 118 + 3 = 121) ?_
                refine z_goto (pc' := 129) h dX12_term_121 (by decide) ?_
                refine z_iload h 0 dX12_term_129 rfl (rfl : 129 + 2 = 131) ?_
                refine z_iret h hr dX12_term_131 ?_
                exact ⟨congrArg Prod.fst (zsome hf), congrArg Prod.snd (zsome hf), rfl⟩
            · have hf := zitt c13 hf
              refine z_aload_n h 2 dX12_term_103 rfl (rfl : 103 + 1 = 104) ?_
              refine z_iload_n h 4 dX12_term_104 rfl (rfl : 104 + 1 = 105) ?_
              refine z_put (ci := 11) (C := RX12) (T := TX12) (N := 46) h 8 tyX12 tyX12_ok nmX12 rfl rfl (fun _ hq => List.mem_cons_of_mem _ (List.mem_append_right _ hq)) (by decide) (List.mem_of_getElem? (i := 6) rfl) rfl rfl rfl dX12_term_105 (rfl : 105 + 3 = 108) ?_
              refine z_goto (pc' := 129) h dX12_term_108 (by decide) ?_
              refine z_iload h 0 dX12_term_129 rfl (rfl : 129 + 2 = 131) ?_
              refine z_iret h hr dX12_term_131 ?_
              exact ⟨congrArg Prod.fst (zsome hf), congrArg Prod.snd (zsome hf), rfl⟩
    · have hf := zitt c2 hf
      refine z_iload_n h 2 dX12_term_26 rfl (rfl : 26 + 1 = 27) ?_
      refine z_i2l h dX12_term_27 (rfl : 27 + 1 = 28) ?_
      refine z_lconst h 1 dX12_term_28 rfl (rfl : 28 + 1 = 29) ?_
      refine z_ldc2 h 9 (List.mem_of_getElem? (i := 3) rfl) dX12_term_29 (rfl : 29 + 3 = 32) ?_
      obtain ⟨q15, e16, hf⟩ := zbind hf
      refine z_goF (z_runS h [.long (Int32.toInt64 v2), .long 1, .long 9] [] zyX12_in (c_X12_in B (zu I 147 0 0) J hJ (Int32.toInt64 v2) 1 9 _ _ e16) gX12_term_X12_in zrX12_term_X12_in rfl (Nat.le_of_ble_eq_true rfl) ⟨Nat.zero_le _, Nat.zero_le _⟩ rfl dX12_term_32) rfl ?_
      refine z_if_ne (pc' := 38) h 57 dX12_term_35 (by decide) rfl (fun c17 => ?_) (fun c17 => ?_)
      · have hf := zitf c17 hf
        refine z_iconst h 1 dX12_term_57 (by decide) (rfl : 57 + 1 = 58) ?_
        refine z_goto (pc' := 62) h dX12_term_58 (by decide) ?_
        refine z_istore_n h [(3, .int 1), (0, .ref (za B 147)), (1, .int v1), (2, .int v2)] dX12_term_62 (by decide) rfl (rfl : 62 + 1 = 63) ?_
        refine z_iload_n h 0 dX12_term_63 rfl (rfl : 63 + 1 = 64) ?_
        refine z_if_ne (pc' := 67) h 70 dX12_term_64 (by decide) rfl (fun _ => ?_) (fun q => absurd q (by decide))
        refine z_iload_n h 2 dX12_term_70 rfl (rfl : 70 + 1 = 71) ?_
        refine z_if_ne (pc' := 74) h 81 dX12_term_71 (by decide) rfl (fun c18 => ?_) (fun c18 => ?_)
        · have hf := zitf c18 hf
          refine z_iload_n h 2 dX12_term_81 rfl (rfl : 81 + 1 = 82) ?_
          refine z_iconst h 1 dX12_term_82 (by decide) (rfl : 82 + 1 = 83) ?_
          refine z_icmp_ne (pc' := 86) h 93 dX12_term_83 (by decide) rfl (fun c19 => ?_) (fun c19 => ?_)
          · have hf := zitf c19 hf
            refine z_aload_n h 1 dX12_term_93 rfl (rfl : 93 + 1 = 94) ?_
            refine z_get (ci := 11) (C := RX12) (T := TX12) (N := 46) h 10 rfl rfl (fun _ hq => List.mem_cons_of_mem _ (List.mem_append_right _ hq)) (by decide) (List.mem_of_getElem? (i := 8) rfl) rfl dX12_term_94 (rfl : 94 + 3 = 97) ?_
            refine z_istore h [(4, .int (q15.2 147 10)), (3, .int 1), (0, .ref (za B 147)), (1, .int v1), (2, .int v2)] dX12_term_97 (by decide) rfl (rfl : 97 + 2 = 99) ?_
            refine z_iload_n h 3 dX12_term_99 rfl (rfl : 99 + 1 = 100) ?_
            refine z_if_ne (pc' := 103) h 111 dX12_term_100 (by decide) rfl (fun c20 => ?_) (fun c20 => ?_)
            · have hf := zitf c20 hf
              refine z_iload_n h 3 dX12_term_111 rfl (rfl : 111 + 1 = 112) ?_
              refine z_iconst h 1 dX12_term_112 (by decide) (rfl : 112 + 1 = 113) ?_
              refine z_icmp_ne (pc' := 116) h 124 dX12_term_113 (by decide) rfl (fun c21 => ?_) (fun c21 => ?_)
              · have hf := zitf c21 hf
                refine z_aload_n h 2 dX12_term_124 rfl (rfl : 124 + 1 = 125) ?_
                refine z_iload_n h 4 dX12_term_125 rfl (rfl : 125 + 1 = 126) ?_
                refine z_put (ci := 11) (C := RX12) (T := TX12) (N := 46) h 10 tyX12 tyX12_ok nmX12 rfl rfl (fun _ hq => List.mem_cons_of_mem _ (List.mem_append_right _ hq)) (by decide) (List.mem_of_getElem? (i := 8) rfl) rfl rfl rfl dX12_term_126 (rfl : 126 + 3 = 129) ?_
                refine z_iload h 0 dX12_term_129 rfl (rfl : 129 + 2 = 131) ?_
                refine z_iret h hr dX12_term_131 ?_
                exact ⟨congrArg Prod.fst (zsome hf), congrArg Prod.snd (zsome hf), rfl⟩
              · have hf := zitt c21 hf
                refine z_aload_n h 2 dX12_term_116 rfl (rfl : 116 + 1 = 117) ?_
                refine z_iload_n h 4 dX12_term_117 rfl (rfl : 117 + 1 = 118) ?_
                refine z_put (ci := 11) (C := RX12) (T := TX12) (N := 46) h 9 tyX12 tyX12_ok nmX12 rfl rfl (fun _ hq => List.mem_cons_of_mem _ (List.mem_append_right _ hq)) (by decide) (List.mem_of_getElem? (i := 7) rfl) rfl rfl rfl dX12_term_118 (rfl : 118 + 3 = 121) ?_
                refine z_goto (pc' := 129) h dX12_term_121 (by decide) ?_
                refine z_iload h 0 dX12_term_129 rfl (rfl : 129 + 2 = 131) ?_
                refine z_iret h hr dX12_term_131 ?_
                exact ⟨congrArg Prod.fst (zsome hf), congrArg Prod.snd (zsome hf), rfl⟩
            · have hf := zitt c20 hf
              refine z_aload_n h 2 dX12_term_103 rfl (rfl : 103 + 1 = 104) ?_
              refine z_iload_n h 4 dX12_term_104 rfl (rfl : 104 + 1 = 105) ?_
              refine z_put (ci := 11) (C := RX12) (T := TX12) (N := 46) h 8 tyX12 tyX12_ok nmX12 rfl rfl (fun _ hq => List.mem_cons_of_mem _ (List.mem_append_right _ hq)) (by decide) (List.mem_of_getElem? (i := 6) rfl) rfl rfl rfl dX12_term_105 (rfl : 105 + 3 = 108) ?_
              refine z_goto (pc' := 129) h dX12_term_108 (by decide) ?_
              refine z_iload h 0 dX12_term_129 rfl (rfl : 129 + 2 = 131) ?_
              refine z_iret h hr dX12_term_131 ?_
              exact ⟨congrArg Prod.fst (zsome hf), congrArg Prod.snd (zsome hf), rfl⟩
          · have hf := zitt c19 hf
            refine z_aload_n h 1 dX12_term_86 rfl (rfl : 86 + 1 = 87) ?_
            refine z_get (ci := 11) (C := RX12) (T := TX12) (N := 46) h 9 rfl rfl (fun _ hq => List.mem_cons_of_mem _ (List.mem_append_right _ hq)) (by decide) (List.mem_of_getElem? (i := 7) rfl) rfl dX12_term_87 (rfl : 87 + 3 = 90) ?_
            refine z_goto (pc' := 97) h dX12_term_90 (by decide) ?_
            refine z_istore h [(4, .int (q15.2 147 9)), (3, .int 1), (0, .ref (za B 147)), (1, .int v1), (2, .int v2)] dX12_term_97 (by decide) rfl (rfl : 97 + 2 = 99) ?_
            refine z_iload_n h 3 dX12_term_99 rfl (rfl : 99 + 1 = 100) ?_
            refine z_if_ne (pc' := 103) h 111 dX12_term_100 (by decide) rfl (fun c22 => ?_) (fun c22 => ?_)
            · have hf := zitf c22 hf
              refine z_iload_n h 3 dX12_term_111 rfl (rfl : 111 + 1 = 112) ?_
              refine z_iconst h 1 dX12_term_112 (by decide) (rfl : 112 + 1 = 113) ?_
              refine z_icmp_ne (pc' := 116) h 124 dX12_term_113 (by decide) rfl (fun c23 => ?_) (fun c23 => ?_)
              · have hf := zitf c23 hf
                refine z_aload_n h 2 dX12_term_124 rfl (rfl : 124 + 1 = 125) ?_
                refine z_iload_n h 4 dX12_term_125 rfl (rfl : 125 + 1 = 126) ?_
                refine z_put (ci := 11) (C := RX12) (T := TX12) (N := 46) h 10 tyX12 tyX12_ok nmX12 rfl rfl (fun _ hq => List.mem_cons_of_mem _ (List.mem_append_right _ hq)) (by decide) (List.mem_of_getElem? (i := 8) rfl) rfl rfl rfl dX12_term_126 (rfl : 126 + 3 = 129) ?_
                refine z_iload h 0 dX12_term_129 rfl (rfl : 129 + 2 = 131) ?_
                refine z_iret h hr dX12_term_131 ?_
                exact ⟨congrArg Prod.fst (zsome hf), congrArg Prod.snd (zsome hf), rfl⟩
              · have hf := zitt c23 hf
                refine z_aload_n h 2 dX12_term_116 rfl (rfl : 116 + 1 = 117) ?_
                refine z_iload_n h 4 dX12_term_117 rfl (rfl : 117 + 1 = 118) ?_
                refine z_put (ci := 11) (C := RX12) (T := TX12) (N := 46) h 9 tyX12 tyX12_ok nmX12 rfl rfl (fun _ hq => List.mem_cons_of_mem _ (List.mem_append_right _ hq)) (by decide) (List.mem_of_getElem? (i := 7) rfl) rfl rfl rfl dX12_term_118 (rfl : 118 + 3 = 121) ?_
                refine z_goto (pc' := 129) h dX12_term_121 (by decide) ?_
                refine z_iload h 0 dX12_term_129 rfl (rfl : 129 + 2 = 131) ?_
                refine z_iret h hr dX12_term_131 ?_
                exact ⟨congrArg Prod.fst (zsome hf), congrArg Prod.snd (zsome hf), rfl⟩
            · have hf := zitt c22 hf
              refine z_aload_n h 2 dX12_term_103 rfl (rfl : 103 + 1 = 104) ?_
              refine z_iload_n h 4 dX12_term_104 rfl (rfl : 104 + 1 = 105) ?_
              refine z_put (ci := 11) (C := RX12) (T := TX12) (N := 46) h 8 tyX12 tyX12_ok nmX12 rfl rfl (fun _ hq => List.mem_cons_of_mem _ (List.mem_append_right _ hq)) (by decide) (List.mem_of_getElem? (i := 6) rfl) rfl rfl rfl dX12_term_105 (rfl : 105 + 3 = 108) ?_
              refine z_goto (pc' := 129) h dX12_term_108 (by decide) ?_
              refine z_iload h 0 dX12_term_129 rfl (rfl : 129 + 2 = 131) ?_
              refine z_iret h hr dX12_term_131 ?_
              exact ⟨congrArg Prod.fst (zsome hf), congrArg Prod.snd (zsome hf), rfl⟩
        · have hf := zitt c18 hf
          refine z_aload_n h 1 dX12_term_74 rfl (rfl : 74 + 1 = 75) ?_
          refine z_get (ci := 11) (C := RX12) (T := TX12) (N := 46) h 8 rfl rfl (fun _ hq => List.mem_cons_of_mem _ (List.mem_append_right _ hq)) (by decide) (List.mem_of_getElem? (i := 6) rfl) rfl dX12_term_75 (rfl : 75 + 3 = 78) ?_
          refine z_goto (pc' := 97) h dX12_term_78 (by decide) ?_
          refine z_istore h [(4, .int (q15.2 147 8)), (3, .int 1), (0, .ref (za B 147)), (1, .int v1), (2, .int v2)] dX12_term_97 (by decide) rfl (rfl : 97 + 2 = 99) ?_
          refine z_iload_n h 3 dX12_term_99 rfl (rfl : 99 + 1 = 100) ?_
          refine z_if_ne (pc' := 103) h 111 dX12_term_100 (by decide) rfl (fun c24 => ?_) (fun c24 => ?_)
          · have hf := zitf c24 hf
            refine z_iload_n h 3 dX12_term_111 rfl (rfl : 111 + 1 = 112) ?_
            refine z_iconst h 1 dX12_term_112 (by decide) (rfl : 112 + 1 = 113) ?_
            refine z_icmp_ne (pc' := 116) h 124 dX12_term_113 (by decide) rfl (fun c25 => ?_) (fun c25 => ?_)
            · have hf := zitf c25 hf
              refine z_aload_n h 2 dX12_term_124 rfl (rfl : 124 + 1 = 125) ?_
              refine z_iload_n h 4 dX12_term_125 rfl (rfl : 125 + 1 = 126) ?_
              refine z_put (ci := 11) (C := RX12) (T := TX12) (N := 46) h 10 tyX12 tyX12_ok nmX12 rfl rfl (fun _ hq => List.mem_cons_of_mem _ (List.mem_append_right _ hq)) (by decide) (List.mem_of_getElem? (i := 8) rfl) rfl rfl rfl dX12_term_126 (rfl : 126 + 3 = 129) ?_
              refine z_iload h 0 dX12_term_129 rfl (rfl : 129 + 2 = 131) ?_
              refine z_iret h hr dX12_term_131 ?_
              exact ⟨congrArg Prod.fst (zsome hf), congrArg Prod.snd (zsome hf), rfl⟩
            · have hf := zitt c25 hf
              refine z_aload_n h 2 dX12_term_116 rfl (rfl : 116 + 1 = 117) ?_
              refine z_iload_n h 4 dX12_term_117 rfl (rfl : 117 + 1 = 118) ?_
              refine z_put (ci := 11) (C := RX12) (T := TX12) (N := 46) h 9 tyX12 tyX12_ok nmX12 rfl rfl (fun _ hq => List.mem_cons_of_mem _ (List.mem_append_right _ hq)) (by decide) (List.mem_of_getElem? (i := 7) rfl) rfl rfl rfl dX12_term_118 (rfl : 118 + 3 = 121) ?_
              refine z_goto (pc' := 129) h dX12_term_121 (by decide) ?_
              refine z_iload h 0 dX12_term_129 rfl (rfl : 129 + 2 = 131) ?_
              refine z_iret h hr dX12_term_131 ?_
              exact ⟨congrArg Prod.fst (zsome hf), congrArg Prod.snd (zsome hf), rfl⟩
          · have hf := zitt c24 hf
            refine z_aload_n h 2 dX12_term_103 rfl (rfl : 103 + 1 = 104) ?_
            refine z_iload_n h 4 dX12_term_104 rfl (rfl : 104 + 1 = 105) ?_
            refine z_put (ci := 11) (C := RX12) (T := TX12) (N := 46) h 8 tyX12 tyX12_ok nmX12 rfl rfl (fun _ hq => List.mem_cons_of_mem _ (List.mem_append_right _ hq)) (by decide) (List.mem_of_getElem? (i := 6) rfl) rfl rfl rfl dX12_term_105 (rfl : 105 + 3 = 108) ?_
            refine z_goto (pc' := 129) h dX12_term_108 (by decide) ?_
            refine z_iload h 0 dX12_term_129 rfl (rfl : 129 + 2 = 131) ?_
            refine z_iret h hr dX12_term_131 ?_
            exact ⟨congrArg Prod.fst (zsome hf), congrArg Prod.snd (zsome hf), rfl⟩
      · have hf := zitt c17 hf
        refine z_iload_n h 1 dX12_term_38 rfl (rfl : 38 + 1 = 39) ?_
        refine z_iconst h 2 dX12_term_39 (by decide) (rfl : 39 + 1 = 40) ?_
        refine z_icmp_ne (pc' := 43) h 61 dX12_term_40 (by decide) rfl (fun c26 => ?_) (fun c26 => ?_)
        · have hf := zitf c26 hf
          refine z_iconst h 0 dX12_term_61 (by decide) (rfl : 61 + 1 = 62) ?_
          refine z_istore_n h [(3, .int 0), (0, .ref (za B 147)), (1, .int v1), (2, .int v2)] dX12_term_62 (by decide) rfl (rfl : 62 + 1 = 63) ?_
          refine z_iload_n h 0 dX12_term_63 rfl (rfl : 63 + 1 = 64) ?_
          refine z_if_ne (pc' := 67) h 70 dX12_term_64 (by decide) rfl (fun q => absurd q (by decide)) (fun _ => ?_)
          refine z_bipush h (-2) dX12_term_67 (by decide) (rfl : 67 + 2 = 69) ?_
          refine z_iret h hr dX12_term_69 ?_
          exact ⟨congrArg Prod.fst (zsome hf), congrArg Prod.snd (zsome hf), rfl⟩
        · have hf := zitt c26 hf
          refine z_iload_n h 2 dX12_term_43 rfl (rfl : 43 + 1 = 44) ?_
          refine z_i2l h dX12_term_44 (rfl : 44 + 1 = 45) ?_
          refine z_ldc2 h 51 (List.mem_of_getElem? (i := 4) rfl) dX12_term_45 (rfl : 45 + 3 = 48) ?_
          refine z_ldc2 h 100 (List.mem_of_getElem? (i := 5) rfl) dX12_term_48 (rfl : 48 + 3 = 51) ?_
          obtain ⟨q27, e28, hf⟩ := zbind hf
          refine z_goF (z_runS h [.long (Int32.toInt64 v2), .long 51, .long 100] [] zyX12_in (c_X12_in B q15.2 J hJ (Int32.toInt64 v2) 51 100 _ _ e28) gX12_term_X12_in zrX12_term_X12_in rfl (Nat.le_of_ble_eq_true rfl) ⟨Nat.zero_le _, Nat.zero_le _⟩ rfl dX12_term_51) rfl ?_
          refine z_if_eq (pc' := 57) h 61 dX12_term_54 (by decide) rfl (fun c29 => ?_) (fun c29 => ?_)
          · have hf := zitt c29 hf
            refine z_iconst h 0 dX12_term_61 (by decide) (rfl : 61 + 1 = 62) ?_
            refine z_istore_n h [(3, .int 0), (0, .ref (za B 147)), (1, .int v1), (2, .int v2)] dX12_term_62 (by decide) rfl (rfl : 62 + 1 = 63) ?_
            refine z_iload_n h 0 dX12_term_63 rfl (rfl : 63 + 1 = 64) ?_
            refine z_if_ne (pc' := 67) h 70 dX12_term_64 (by decide) rfl (fun q => absurd q (by decide)) (fun _ => ?_)
            refine z_bipush h (-2) dX12_term_67 (by decide) (rfl : 67 + 2 = 69) ?_
            refine z_iret h hr dX12_term_69 ?_
            exact ⟨congrArg Prod.fst (zsome hf), congrArg Prod.snd (zsome hf), rfl⟩
          · have hf := zitf c29 hf
            refine z_iconst h 1 dX12_term_57 (by decide) (rfl : 57 + 1 = 58) ?_
            refine z_goto (pc' := 62) h dX12_term_58 (by decide) ?_
            refine z_istore_n h [(3, .int 1), (0, .ref (za B 147)), (1, .int v1), (2, .int v2)] dX12_term_62 (by decide) rfl (rfl : 62 + 1 = 63) ?_
            refine z_iload_n h 0 dX12_term_63 rfl (rfl : 63 + 1 = 64) ?_
            refine z_if_ne (pc' := 67) h 70 dX12_term_64 (by decide) rfl (fun _ => ?_) (fun q => absurd q (by decide))
            refine z_iload_n h 2 dX12_term_70 rfl (rfl : 70 + 1 = 71) ?_
            refine z_if_ne (pc' := 74) h 81 dX12_term_71 (by decide) rfl (fun c30 => ?_) (fun c30 => ?_)
            · have hf := zitf c30 hf
              refine z_iload_n h 2 dX12_term_81 rfl (rfl : 81 + 1 = 82) ?_
              refine z_iconst h 1 dX12_term_82 (by decide) (rfl : 82 + 1 = 83) ?_
              refine z_icmp_ne (pc' := 86) h 93 dX12_term_83 (by decide) rfl (fun c31 => ?_) (fun c31 => ?_)
              · have hf := zitf c31 hf
                refine z_aload_n h 1 dX12_term_93 rfl (rfl : 93 + 1 = 94) ?_
                refine z_get (ci := 11) (C := RX12) (T := TX12) (N := 46) h 10 rfl rfl (fun _ hq => List.mem_cons_of_mem _ (List.mem_append_right _ hq)) (by decide) (List.mem_of_getElem? (i := 8) rfl) rfl dX12_term_94 (rfl : 94 + 3 = 97) ?_
                refine z_istore h [(4, .int (q27.2 147 10)), (3, .int 1), (0, .ref (za B 147)), (1, .int v1), (2, .int v2)] dX12_term_97 (by decide) rfl (rfl : 97 + 2 = 99) ?_
                refine z_iload_n h 3 dX12_term_99 rfl (rfl : 99 + 1 = 100) ?_
                refine z_if_ne (pc' := 103) h 111 dX12_term_100 (by decide) rfl (fun c32 => ?_) (fun c32 => ?_)
                · have hf := zitf c32 hf
                  refine z_iload_n h 3 dX12_term_111 rfl (rfl : 111 + 1 = 112) ?_
                  refine z_iconst h 1 dX12_term_112 (by decide) (rfl : 112 + 1 = 113) ?_
                  refine z_icmp_ne (pc' := 116) h 124 dX12_term_113 (by decide) rfl (fun c33 => ?_) (fun c33 => ?_)
                  · have hf := zitf c33 hf
                    refine z_aload_n h 2 dX12_term_124 rfl (rfl : 124 + 1 = 125) ?_
                    refine z_iload_n h 4 dX12_term_125 rfl (rfl : 125 + 1 = 126) ?_
                    refine z_put (ci := 11) (C := RX12) (T := TX12) (N := 46) h 10 tyX12 tyX12_ok nmX12 rfl rfl (fun _ hq => List.mem_cons_of_mem _ (List.mem_append_right _ hq)) (by decide) (List.mem_of_getElem? (i := 8) rfl) rfl rfl rfl dX12_term_126 (rfl : 126 + 3 = 129) ?_
                    refine z_iload h 0 dX12_term_129 rfl (rfl : 129 + 2 = 131) ?_
                    refine z_iret h hr dX12_term_131 ?_
                    exact ⟨congrArg Prod.fst (zsome hf), congrArg Prod.snd (zsome hf), rfl⟩
                  · have hf := zitt c33 hf
                    refine z_aload_n h 2 dX12_term_116 rfl (rfl : 116 + 1 = 117) ?_
                    refine z_iload_n h 4 dX12_term_117 rfl (rfl : 117 + 1 = 118) ?_
                    refine z_put (ci := 11) (C := RX12) (T := TX12) (N := 46) h 9 tyX12 tyX12_ok nmX12 rfl rfl (fun _ hq => List.mem_cons_of_mem _ (List.mem_append_right _ hq)) (by decide) (List.mem_of_getElem? (i := 7) rfl) rfl rfl rfl dX12_term_118 (rfl : 118 + 3 = 121) ?_
                    refine z_goto (pc' := 129) h dX12_term_121 (by decide) ?_
                    refine z_iload h 0 dX12_term_129 rfl (rfl : 129 + 2 = 131) ?_
                    refine z_iret h hr dX12_term_131 ?_
                    exact ⟨congrArg Prod.fst (zsome hf), congrArg Prod.snd (zsome hf), rfl⟩
                · have hf := zitt c32 hf
                  refine z_aload_n h 2 dX12_term_103 rfl (rfl : 103 + 1 = 104) ?_
                  refine z_iload_n h 4 dX12_term_104 rfl (rfl : 104 + 1 = 105) ?_
                  refine z_put (ci := 11) (C := RX12) (T := TX12) (N := 46) h 8 tyX12 tyX12_ok nmX12 rfl rfl (fun _ hq => List.mem_cons_of_mem _ (List.mem_append_right _ hq)) (by decide) (List.mem_of_getElem? (i := 6) rfl) rfl rfl rfl dX12_term_105 (rfl : 105 + 3 = 108) ?_
                  refine z_goto (pc' := 129) h dX12_term_108 (by decide) ?_
                  refine z_iload h 0 dX12_term_129 rfl (rfl : 129 + 2 = 131) ?_
                  refine z_iret h hr dX12_term_131 ?_
                  exact ⟨congrArg Prod.fst (zsome hf), congrArg Prod.snd (zsome hf), rfl⟩
              · have hf := zitt c31 hf
                refine z_aload_n h 1 dX12_term_86 rfl (rfl : 86 + 1 = 87) ?_
                refine z_get (ci := 11) (C := RX12) (T := TX12) (N := 46) h 9 rfl rfl (fun _ hq => List.mem_cons_of_mem _ (List.mem_append_right _ hq)) (by decide) (List.mem_of_getElem? (i := 7) rfl) rfl dX12_term_87 (rfl : 87 + 3 = 90) ?_
                refine z_goto (pc' := 97) h dX12_term_90 (by decide) ?_
                refine z_istore h [(4, .int (q27.2 147 9)), (3, .int 1), (0, .ref (za B 147)), (1, .int v1), (2, .int v2)] dX12_term_97 (by decide) rfl (rfl : 97 + 2 = 99) ?_
                refine z_iload_n h 3 dX12_term_99 rfl (rfl : 99 + 1 = 100) ?_
                refine z_if_ne (pc' := 103) h 111 dX12_term_100 (by decide) rfl (fun c34 => ?_) (fun c34 => ?_)
                · have hf := zitf c34 hf
                  refine z_iload_n h 3 dX12_term_111 rfl (rfl : 111 + 1 = 112) ?_
                  refine z_iconst h 1 dX12_term_112 (by decide) (rfl : 112 + 1 = 113) ?_
                  refine z_icmp_ne (pc' := 116) h 124 dX12_term_113 (by decide) rfl (fun c35 => ?_) (fun c35 => ?_)
                  · have hf := zitf c35 hf
                    refine z_aload_n h 2 dX12_term_124 rfl (rfl : 124 + 1 = 125) ?_
                    refine z_iload_n h 4 dX12_term_125 rfl (rfl : 125 + 1 = 126) ?_
                    refine z_put (ci := 11) (C := RX12) (T := TX12) (N := 46) h 10 tyX12 tyX12_ok nmX12 rfl rfl (fun _ hq => List.mem_cons_of_mem _ (List.mem_append_right _ hq)) (by decide) (List.mem_of_getElem? (i := 8) rfl) rfl rfl rfl dX12_term_126 (rfl : 126 + 3 = 129) ?_
                    refine z_iload h 0 dX12_term_129 rfl (rfl : 129 + 2 = 131) ?_
                    refine z_iret h hr dX12_term_131 ?_
                    exact ⟨congrArg Prod.fst (zsome hf), congrArg Prod.snd (zsome hf), rfl⟩
                  · have hf := zitt c35 hf
                    refine z_aload_n h 2 dX12_term_116 rfl (rfl : 116 + 1 = 117) ?_
                    refine z_iload_n h 4 dX12_term_117 rfl (rfl : 117 + 1 = 118) ?_
                    refine z_put (ci := 11) (C := RX12) (T := TX12) (N := 46) h 9 tyX12 tyX12_ok nmX12 rfl rfl (fun _ hq => List.mem_cons_of_mem _ (List.mem_append_right _ hq)) (by decide) (List.mem_of_getElem? (i := 7) rfl) rfl rfl rfl dX12_term_118 (rfl : 118 + 3 = 121) ?_
                    refine z_goto (pc' := 129) h dX12_term_121 (by decide) ?_
                    refine z_iload h 0 dX12_term_129 rfl (rfl : 129 + 2 = 131) ?_
                    refine z_iret h hr dX12_term_131 ?_
                    exact ⟨congrArg Prod.fst (zsome hf), congrArg Prod.snd (zsome hf), rfl⟩
                · have hf := zitt c34 hf
                  refine z_aload_n h 2 dX12_term_103 rfl (rfl : 103 + 1 = 104) ?_
                  refine z_iload_n h 4 dX12_term_104 rfl (rfl : 104 + 1 = 105) ?_
                  refine z_put (ci := 11) (C := RX12) (T := TX12) (N := 46) h 8 tyX12 tyX12_ok nmX12 rfl rfl (fun _ hq => List.mem_cons_of_mem _ (List.mem_append_right _ hq)) (by decide) (List.mem_of_getElem? (i := 6) rfl) rfl rfl rfl dX12_term_105 (rfl : 105 + 3 = 108) ?_
                  refine z_goto (pc' := 129) h dX12_term_108 (by decide) ?_
                  refine z_iload h 0 dX12_term_129 rfl (rfl : 129 + 2 = 131) ?_
                  refine z_iret h hr dX12_term_131 ?_
                  exact ⟨congrArg Prod.fst (zsome hf), congrArg Prod.snd (zsome hf), rfl⟩
            · have hf := zitt c30 hf
              refine z_aload_n h 1 dX12_term_74 rfl (rfl : 74 + 1 = 75) ?_
              refine z_get (ci := 11) (C := RX12) (T := TX12) (N := 46) h 8 rfl rfl (fun _ hq => List.mem_cons_of_mem _ (List.mem_append_right _ hq)) (by decide) (List.mem_of_getElem? (i := 6) rfl) rfl dX12_term_75 (rfl : 75 + 3 = 78) ?_
              refine z_goto (pc' := 97) h dX12_term_78 (by decide) ?_
              refine z_istore h [(4, .int (q27.2 147 8)), (3, .int 1), (0, .ref (za B 147)), (1, .int v1), (2, .int v2)] dX12_term_97 (by decide) rfl (rfl : 97 + 2 = 99) ?_
              refine z_iload_n h 3 dX12_term_99 rfl (rfl : 99 + 1 = 100) ?_
              refine z_if_ne (pc' := 103) h 111 dX12_term_100 (by decide) rfl (fun c36 => ?_) (fun c36 => ?_)
              · have hf := zitf c36 hf
                refine z_iload_n h 3 dX12_term_111 rfl (rfl : 111 + 1 = 112) ?_
                refine z_iconst h 1 dX12_term_112 (by decide) (rfl : 112 + 1 = 113) ?_
                refine z_icmp_ne (pc' := 116) h 124 dX12_term_113 (by decide) rfl (fun c37 => ?_) (fun c37 => ?_)
                · have hf := zitf c37 hf
                  refine z_aload_n h 2 dX12_term_124 rfl (rfl : 124 + 1 = 125) ?_
                  refine z_iload_n h 4 dX12_term_125 rfl (rfl : 125 + 1 = 126) ?_
                  refine z_put (ci := 11) (C := RX12) (T := TX12) (N := 46) h 10 tyX12 tyX12_ok nmX12 rfl rfl (fun _ hq => List.mem_cons_of_mem _ (List.mem_append_right _ hq)) (by decide) (List.mem_of_getElem? (i := 8) rfl) rfl rfl rfl dX12_term_126 (rfl : 126 + 3 = 129) ?_
                  refine z_iload h 0 dX12_term_129 rfl (rfl : 129 + 2 = 131) ?_
                  refine z_iret h hr dX12_term_131 ?_
                  exact ⟨congrArg Prod.fst (zsome hf), congrArg Prod.snd (zsome hf), rfl⟩
                · have hf := zitt c37 hf
                  refine z_aload_n h 2 dX12_term_116 rfl (rfl : 116 + 1 = 117) ?_
                  refine z_iload_n h 4 dX12_term_117 rfl (rfl : 117 + 1 = 118) ?_
                  refine z_put (ci := 11) (C := RX12) (T := TX12) (N := 46) h 9 tyX12 tyX12_ok nmX12 rfl rfl (fun _ hq => List.mem_cons_of_mem _ (List.mem_append_right _ hq)) (by decide) (List.mem_of_getElem? (i := 7) rfl) rfl rfl rfl dX12_term_118 (rfl : 118 + 3 = 121) ?_
                  refine z_goto (pc' := 129) h dX12_term_121 (by decide) ?_
                  refine z_iload h 0 dX12_term_129 rfl (rfl : 129 + 2 = 131) ?_
                  refine z_iret h hr dX12_term_131 ?_
                  exact ⟨congrArg Prod.fst (zsome hf), congrArg Prod.snd (zsome hf), rfl⟩
              · have hf := zitt c36 hf
                refine z_aload_n h 2 dX12_term_103 rfl (rfl : 103 + 1 = 104) ?_
                refine z_iload_n h 4 dX12_term_104 rfl (rfl : 104 + 1 = 105) ?_
                refine z_put (ci := 11) (C := RX12) (T := TX12) (N := 46) h 8 tyX12 tyX12_ok nmX12 rfl rfl (fun _ hq => List.mem_cons_of_mem _ (List.mem_append_right _ hq)) (by decide) (List.mem_of_getElem? (i := 6) rfl) rfl rfl rfl dX12_term_105 (rfl : 105 + 3 = 108) ?_
                refine z_goto (pc' := 129) h dX12_term_108 (by decide) ?_
                refine z_iload h 0 dX12_term_129 rfl (rfl : 129 + 2 = 131) ?_
                refine z_iret h hr dX12_term_131 ?_
                exact ⟨congrArg Prod.fst (zsome hf), congrArg Prod.snd (zsome hf), rfl⟩
  · have hf := zitt c1 hf
    refine z_iload_n h 2 dX12_term_9 rfl (rfl : 9 + 1 = 10) ?_
    refine z_i2l h dX12_term_10 (rfl : 10 + 1 = 11) ?_
    refine z_lconst h 1 dX12_term_11 rfl (rfl : 11 + 1 = 12) ?_
    refine z_ldc2 h 5 (List.mem_of_getElem? (i := 2) rfl) dX12_term_12 (rfl : 12 + 3 = 15) ?_
    obtain ⟨q38, e39, hf⟩ := zbind hf
    refine z_goF (z_runS h [.long (Int32.toInt64 v2), .long 1, .long 5] [] zyX12_in (c_X12_in B (zu I 147 0 0) J hJ (Int32.toInt64 v2) 1 5 _ _ e39) gX12_term_X12_in zrX12_term_X12_in rfl (Nat.le_of_ble_eq_true rfl) ⟨Nat.zero_le _, Nat.zero_le _⟩ rfl dX12_term_15) rfl ?_
    refine z_if_ne (pc' := 21) h 57 dX12_term_18 (by decide) rfl (fun c40 => ?_) (fun c40 => ?_)
    · have hf := zitf c40 hf
      refine z_iconst h 1 dX12_term_57 (by decide) (rfl : 57 + 1 = 58) ?_
      refine z_goto (pc' := 62) h dX12_term_58 (by decide) ?_
      refine z_istore_n h [(3, .int 1), (0, .ref (za B 147)), (1, .int v1), (2, .int v2)] dX12_term_62 (by decide) rfl (rfl : 62 + 1 = 63) ?_
      refine z_iload_n h 0 dX12_term_63 rfl (rfl : 63 + 1 = 64) ?_
      refine z_if_ne (pc' := 67) h 70 dX12_term_64 (by decide) rfl (fun _ => ?_) (fun q => absurd q (by decide))
      refine z_iload_n h 2 dX12_term_70 rfl (rfl : 70 + 1 = 71) ?_
      refine z_if_ne (pc' := 74) h 81 dX12_term_71 (by decide) rfl (fun c41 => ?_) (fun c41 => ?_)
      · have hf := zitf c41 hf
        refine z_iload_n h 2 dX12_term_81 rfl (rfl : 81 + 1 = 82) ?_
        refine z_iconst h 1 dX12_term_82 (by decide) (rfl : 82 + 1 = 83) ?_
        refine z_icmp_ne (pc' := 86) h 93 dX12_term_83 (by decide) rfl (fun c42 => ?_) (fun c42 => ?_)
        · have hf := zitf c42 hf
          refine z_aload_n h 1 dX12_term_93 rfl (rfl : 93 + 1 = 94) ?_
          refine z_get (ci := 11) (C := RX12) (T := TX12) (N := 46) h 10 rfl rfl (fun _ hq => List.mem_cons_of_mem _ (List.mem_append_right _ hq)) (by decide) (List.mem_of_getElem? (i := 8) rfl) rfl dX12_term_94 (rfl : 94 + 3 = 97) ?_
          refine z_istore h [(4, .int (q38.2 147 10)), (3, .int 1), (0, .ref (za B 147)), (1, .int v1), (2, .int v2)] dX12_term_97 (by decide) rfl (rfl : 97 + 2 = 99) ?_
          refine z_iload_n h 3 dX12_term_99 rfl (rfl : 99 + 1 = 100) ?_
          refine z_if_ne (pc' := 103) h 111 dX12_term_100 (by decide) rfl (fun c43 => ?_) (fun c43 => ?_)
          · have hf := zitf c43 hf
            refine z_iload_n h 3 dX12_term_111 rfl (rfl : 111 + 1 = 112) ?_
            refine z_iconst h 1 dX12_term_112 (by decide) (rfl : 112 + 1 = 113) ?_
            refine z_icmp_ne (pc' := 116) h 124 dX12_term_113 (by decide) rfl (fun c44 => ?_) (fun c44 => ?_)
            · have hf := zitf c44 hf
              refine z_aload_n h 2 dX12_term_124 rfl (rfl : 124 + 1 = 125) ?_
              refine z_iload_n h 4 dX12_term_125 rfl (rfl : 125 + 1 = 126) ?_
              refine z_put (ci := 11) (C := RX12) (T := TX12) (N := 46) h 10 tyX12 tyX12_ok nmX12 rfl rfl (fun _ hq => List.mem_cons_of_mem _ (List.mem_append_right _ hq)) (by decide) (List.mem_of_getElem? (i := 8) rfl) rfl rfl rfl dX12_term_126 (rfl : 126 + 3 = 129) ?_
              refine z_iload h 0 dX12_term_129 rfl (rfl : 129 + 2 = 131) ?_
              refine z_iret h hr dX12_term_131 ?_
              exact ⟨congrArg Prod.fst (zsome hf), congrArg Prod.snd (zsome hf), rfl⟩
            · have hf := zitt c44 hf
              refine z_aload_n h 2 dX12_term_116 rfl (rfl : 116 + 1 = 117) ?_
              refine z_iload_n h 4 dX12_term_117 rfl (rfl : 117 + 1 = 118) ?_
              refine z_put (ci := 11) (C := RX12) (T := TX12) (N := 46) h 9 tyX12 tyX12_ok nmX12 rfl rfl (fun _ hq => List.mem_cons_of_mem _ (List.mem_append_right _ hq)) (by decide) (List.mem_of_getElem? (i := 7) rfl) rfl rfl rfl dX12_term_118 (rfl : 118 + 3 = 121) ?_
              refine z_goto (pc' := 129) h dX12_term_121 (by decide) ?_
              refine z_iload h 0 dX12_term_129 rfl (rfl : 129 + 2 = 131) ?_
              refine z_iret h hr dX12_term_131 ?_
              exact ⟨congrArg Prod.fst (zsome hf), congrArg Prod.snd (zsome hf), rfl⟩
          · have hf := zitt c43 hf
            refine z_aload_n h 2 dX12_term_103 rfl (rfl : 103 + 1 = 104) ?_
            refine z_iload_n h 4 dX12_term_104 rfl (rfl : 104 + 1 = 105) ?_
            refine z_put (ci := 11) (C := RX12) (T := TX12) (N := 46) h 8 tyX12 tyX12_ok nmX12 rfl rfl (fun _ hq => List.mem_cons_of_mem _ (List.mem_append_right _ hq)) (by decide) (List.mem_of_getElem? (i := 6) rfl) rfl rfl rfl dX12_term_105 (rfl : 105 + 3 = 108) ?_
            refine z_goto (pc' := 129) h dX12_term_108 (by decide) ?_
            refine z_iload h 0 dX12_term_129 rfl (rfl : 129 + 2 = 131) ?_
            refine z_iret h hr dX12_term_131 ?_
            exact ⟨congrArg Prod.fst (zsome hf), congrArg Prod.snd (zsome hf), rfl⟩
        · have hf := zitt c42 hf
          refine z_aload_n h 1 dX12_term_86 rfl (rfl : 86 + 1 = 87) ?_
          refine z_get (ci := 11) (C := RX12) (T := TX12) (N := 46) h 9 rfl rfl (fun _ hq => List.mem_cons_of_mem _ (List.mem_append_right _ hq)) (by decide) (List.mem_of_getElem? (i := 7) rfl) rfl dX12_term_87 (rfl : 87 + 3 = 90) ?_
          refine z_goto (pc' := 97) h dX12_term_90 (by decide) ?_
          refine z_istore h [(4, .int (q38.2 147 9)), (3, .int 1), (0, .ref (za B 147)), (1, .int v1), (2, .int v2)] dX12_term_97 (by decide) rfl (rfl : 97 + 2 = 99) ?_
          refine z_iload_n h 3 dX12_term_99 rfl (rfl : 99 + 1 = 100) ?_
          refine z_if_ne (pc' := 103) h 111 dX12_term_100 (by decide) rfl (fun c45 => ?_) (fun c45 => ?_)
          · have hf := zitf c45 hf
            refine z_iload_n h 3 dX12_term_111 rfl (rfl : 111 + 1 = 112) ?_
            refine z_iconst h 1 dX12_term_112 (by decide) (rfl : 112 + 1 = 113) ?_
            refine z_icmp_ne (pc' := 116) h 124 dX12_term_113 (by decide) rfl (fun c46 => ?_) (fun c46 => ?_)
            · have hf := zitf c46 hf
              refine z_aload_n h 2 dX12_term_124 rfl (rfl : 124 + 1 = 125) ?_
              refine z_iload_n h 4 dX12_term_125 rfl (rfl : 125 + 1 = 126) ?_
              refine z_put (ci := 11) (C := RX12) (T := TX12) (N := 46) h 10 tyX12 tyX12_ok nmX12 rfl rfl (fun _ hq => List.mem_cons_of_mem _ (List.mem_append_right _ hq)) (by decide) (List.mem_of_getElem? (i := 8) rfl) rfl rfl rfl dX12_term_126 (rfl : 126 + 3 = 129) ?_
              refine z_iload h 0 dX12_term_129 rfl (rfl : 129 + 2 = 131) ?_
              refine z_iret h hr dX12_term_131 ?_
              exact ⟨congrArg Prod.fst (zsome hf), congrArg Prod.snd (zsome hf), rfl⟩
            · have hf := zitt c46 hf
              refine z_aload_n h 2 dX12_term_116 rfl (rfl : 116 + 1 = 117) ?_
              refine z_iload_n h 4 dX12_term_117 rfl (rfl : 117 + 1 = 118) ?_
              refine z_put (ci := 11) (C := RX12) (T := TX12) (N := 46) h 9 tyX12 tyX12_ok nmX12 rfl rfl (fun _ hq => List.mem_cons_of_mem _ (List.mem_append_right _ hq)) (by decide) (List.mem_of_getElem? (i := 7) rfl) rfl rfl rfl dX12_term_118 (rfl : 118 + 3 = 121) ?_
              refine z_goto (pc' := 129) h dX12_term_121 (by decide) ?_
              refine z_iload h 0 dX12_term_129 rfl (rfl : 129 + 2 = 131) ?_
              refine z_iret h hr dX12_term_131 ?_
              exact ⟨congrArg Prod.fst (zsome hf), congrArg Prod.snd (zsome hf), rfl⟩
          · have hf := zitt c45 hf
            refine z_aload_n h 2 dX12_term_103 rfl (rfl : 103 + 1 = 104) ?_
            refine z_iload_n h 4 dX12_term_104 rfl (rfl : 104 + 1 = 105) ?_
            refine z_put (ci := 11) (C := RX12) (T := TX12) (N := 46) h 8 tyX12 tyX12_ok nmX12 rfl rfl (fun _ hq => List.mem_cons_of_mem _ (List.mem_append_right _ hq)) (by decide) (List.mem_of_getElem? (i := 6) rfl) rfl rfl rfl dX12_term_105 (rfl : 105 + 3 = 108) ?_
            refine z_goto (pc' := 129) h dX12_term_108 (by decide) ?_
            refine z_iload h 0 dX12_term_129 rfl (rfl : 129 + 2 = 131) ?_
            refine z_iret h hr dX12_term_131 ?_
            exact ⟨congrArg Prod.fst (zsome hf), congrArg Prod.snd (zsome hf), rfl⟩
      · have hf := zitt c41 hf
        refine z_aload_n h 1 dX12_term_74 rfl (rfl : 74 + 1 = 75) ?_
        refine z_get (ci := 11) (C := RX12) (T := TX12) (N := 46) h 8 rfl rfl (fun _ hq => List.mem_cons_of_mem _ (List.mem_append_right _ hq)) (by decide) (List.mem_of_getElem? (i := 6) rfl) rfl dX12_term_75 (rfl : 75 + 3 = 78) ?_
        refine z_goto (pc' := 97) h dX12_term_78 (by decide) ?_
        refine z_istore h [(4, .int (q38.2 147 8)), (3, .int 1), (0, .ref (za B 147)), (1, .int v1), (2, .int v2)] dX12_term_97 (by decide) rfl (rfl : 97 + 2 = 99) ?_
        refine z_iload_n h 3 dX12_term_99 rfl (rfl : 99 + 1 = 100) ?_
        refine z_if_ne (pc' := 103) h 111 dX12_term_100 (by decide) rfl (fun c47 => ?_) (fun c47 => ?_)
        · have hf := zitf c47 hf
          refine z_iload_n h 3 dX12_term_111 rfl (rfl : 111 + 1 = 112) ?_
          refine z_iconst h 1 dX12_term_112 (by decide) (rfl : 112 + 1 = 113) ?_
          refine z_icmp_ne (pc' := 116) h 124 dX12_term_113 (by decide) rfl (fun c48 => ?_) (fun c48 => ?_)
          · have hf := zitf c48 hf
            refine z_aload_n h 2 dX12_term_124 rfl (rfl : 124 + 1 = 125) ?_
            refine z_iload_n h 4 dX12_term_125 rfl (rfl : 125 + 1 = 126) ?_
            refine z_put (ci := 11) (C := RX12) (T := TX12) (N := 46) h 10 tyX12 tyX12_ok nmX12 rfl rfl (fun _ hq => List.mem_cons_of_mem _ (List.mem_append_right _ hq)) (by decide) (List.mem_of_getElem? (i := 8) rfl) rfl rfl rfl dX12_term_126 (rfl : 126 + 3 = 129) ?_
            refine z_iload h 0 dX12_term_129 rfl (rfl : 129 + 2 = 131) ?_
            refine z_iret h hr dX12_term_131 ?_
            exact ⟨congrArg Prod.fst (zsome hf), congrArg Prod.snd (zsome hf), rfl⟩
          · have hf := zitt c48 hf
            refine z_aload_n h 2 dX12_term_116 rfl (rfl : 116 + 1 = 117) ?_
            refine z_iload_n h 4 dX12_term_117 rfl (rfl : 117 + 1 = 118) ?_
            refine z_put (ci := 11) (C := RX12) (T := TX12) (N := 46) h 9 tyX12 tyX12_ok nmX12 rfl rfl (fun _ hq => List.mem_cons_of_mem _ (List.mem_append_right _ hq)) (by decide) (List.mem_of_getElem? (i := 7) rfl) rfl rfl rfl dX12_term_118 (rfl : 118 + 3 = 121) ?_
            refine z_goto (pc' := 129) h dX12_term_121 (by decide) ?_
            refine z_iload h 0 dX12_term_129 rfl (rfl : 129 + 2 = 131) ?_
            refine z_iret h hr dX12_term_131 ?_
            exact ⟨congrArg Prod.fst (zsome hf), congrArg Prod.snd (zsome hf), rfl⟩
        · have hf := zitt c47 hf
          refine z_aload_n h 2 dX12_term_103 rfl (rfl : 103 + 1 = 104) ?_
          refine z_iload_n h 4 dX12_term_104 rfl (rfl : 104 + 1 = 105) ?_
          refine z_put (ci := 11) (C := RX12) (T := TX12) (N := 46) h 8 tyX12 tyX12_ok nmX12 rfl rfl (fun _ hq => List.mem_cons_of_mem _ (List.mem_append_right _ hq)) (by decide) (List.mem_of_getElem? (i := 6) rfl) rfl rfl rfl dX12_term_105 (rfl : 105 + 3 = 108) ?_
          refine z_goto (pc' := 129) h dX12_term_108 (by decide) ?_
          refine z_iload h 0 dX12_term_129 rfl (rfl : 129 + 2 = 131) ?_
          refine z_iret h hr dX12_term_131 ?_
          exact ⟨congrArg Prod.fst (zsome hf), congrArg Prod.snd (zsome hf), rfl⟩
    · have hf := zitt c40 hf
      refine z_iload_n h 1 dX12_term_21 rfl (rfl : 21 + 1 = 22) ?_
      refine z_iconst h 1 dX12_term_22 (by decide) (rfl : 22 + 1 = 23) ?_
      refine z_icmp_ne (pc' := 26) h 38 dX12_term_23 (by decide) rfl (fun c49 => ?_) (fun c49 => ?_)
      · have hf := zitf c49 hf
        refine z_iload_n h 1 dX12_term_38 rfl (rfl : 38 + 1 = 39) ?_
        refine z_iconst h 2 dX12_term_39 (by decide) (rfl : 39 + 1 = 40) ?_
        refine z_icmp_ne (pc' := 43) h 61 dX12_term_40 (by decide) rfl (fun c50 => ?_) (fun c50 => ?_)
        · have hf := zitf c50 hf
          refine z_iconst h 0 dX12_term_61 (by decide) (rfl : 61 + 1 = 62) ?_
          refine z_istore_n h [(3, .int 0), (0, .ref (za B 147)), (1, .int v1), (2, .int v2)] dX12_term_62 (by decide) rfl (rfl : 62 + 1 = 63) ?_
          refine z_iload_n h 0 dX12_term_63 rfl (rfl : 63 + 1 = 64) ?_
          refine z_if_ne (pc' := 67) h 70 dX12_term_64 (by decide) rfl (fun q => absurd q (by decide)) (fun _ => ?_)
          refine z_bipush h (-2) dX12_term_67 (by decide) (rfl : 67 + 2 = 69) ?_
          refine z_iret h hr dX12_term_69 ?_
          exact ⟨congrArg Prod.fst (zsome hf), congrArg Prod.snd (zsome hf), rfl⟩
        · have hf := zitt c50 hf
          refine z_iload_n h 2 dX12_term_43 rfl (rfl : 43 + 1 = 44) ?_
          refine z_i2l h dX12_term_44 (rfl : 44 + 1 = 45) ?_
          refine z_ldc2 h 51 (List.mem_of_getElem? (i := 4) rfl) dX12_term_45 (rfl : 45 + 3 = 48) ?_
          refine z_ldc2 h 100 (List.mem_of_getElem? (i := 5) rfl) dX12_term_48 (rfl : 48 + 3 = 51) ?_
          obtain ⟨q51, e52, hf⟩ := zbind hf
          refine z_goF (z_runS h [.long (Int32.toInt64 v2), .long 51, .long 100] [] zyX12_in (c_X12_in B q38.2 J hJ (Int32.toInt64 v2) 51 100 _ _ e52) gX12_term_X12_in zrX12_term_X12_in rfl (Nat.le_of_ble_eq_true rfl) ⟨Nat.zero_le _, Nat.zero_le _⟩ rfl dX12_term_51) rfl ?_
          refine z_if_eq (pc' := 57) h 61 dX12_term_54 (by decide) rfl (fun c53 => ?_) (fun c53 => ?_)
          · have hf := zitt c53 hf
            refine z_iconst h 0 dX12_term_61 (by decide) (rfl : 61 + 1 = 62) ?_
            refine z_istore_n h [(3, .int 0), (0, .ref (za B 147)), (1, .int v1), (2, .int v2)] dX12_term_62 (by decide) rfl (rfl : 62 + 1 = 63) ?_
            refine z_iload_n h 0 dX12_term_63 rfl (rfl : 63 + 1 = 64) ?_
            refine z_if_ne (pc' := 67) h 70 dX12_term_64 (by decide) rfl (fun q => absurd q (by decide)) (fun _ => ?_)
            refine z_bipush h (-2) dX12_term_67 (by decide) (rfl : 67 + 2 = 69) ?_
            refine z_iret h hr dX12_term_69 ?_
            exact ⟨congrArg Prod.fst (zsome hf), congrArg Prod.snd (zsome hf), rfl⟩
          · have hf := zitf c53 hf
            refine z_iconst h 1 dX12_term_57 (by decide) (rfl : 57 + 1 = 58) ?_
            refine z_goto (pc' := 62) h dX12_term_58 (by decide) ?_
            refine z_istore_n h [(3, .int 1), (0, .ref (za B 147)), (1, .int v1), (2, .int v2)] dX12_term_62 (by decide) rfl (rfl : 62 + 1 = 63) ?_
            refine z_iload_n h 0 dX12_term_63 rfl (rfl : 63 + 1 = 64) ?_
            refine z_if_ne (pc' := 67) h 70 dX12_term_64 (by decide) rfl (fun _ => ?_) (fun q => absurd q (by decide))
            refine z_iload_n h 2 dX12_term_70 rfl (rfl : 70 + 1 = 71) ?_
            refine z_if_ne (pc' := 74) h 81 dX12_term_71 (by decide) rfl (fun c54 => ?_) (fun c54 => ?_)
            · have hf := zitf c54 hf
              refine z_iload_n h 2 dX12_term_81 rfl (rfl : 81 + 1 = 82) ?_
              refine z_iconst h 1 dX12_term_82 (by decide) (rfl : 82 + 1 = 83) ?_
              refine z_icmp_ne (pc' := 86) h 93 dX12_term_83 (by decide) rfl (fun c55 => ?_) (fun c55 => ?_)
              · have hf := zitf c55 hf
                refine z_aload_n h 1 dX12_term_93 rfl (rfl : 93 + 1 = 94) ?_
                refine z_get (ci := 11) (C := RX12) (T := TX12) (N := 46) h 10 rfl rfl (fun _ hq => List.mem_cons_of_mem _ (List.mem_append_right _ hq)) (by decide) (List.mem_of_getElem? (i := 8) rfl) rfl dX12_term_94 (rfl : 94 + 3 = 97) ?_
                refine z_istore h [(4, .int (q51.2 147 10)), (3, .int 1), (0, .ref (za B 147)), (1, .int v1), (2, .int v2)] dX12_term_97 (by decide) rfl (rfl : 97 + 2 = 99) ?_
                refine z_iload_n h 3 dX12_term_99 rfl (rfl : 99 + 1 = 100) ?_
                refine z_if_ne (pc' := 103) h 111 dX12_term_100 (by decide) rfl (fun c56 => ?_) (fun c56 => ?_)
                · have hf := zitf c56 hf
                  refine z_iload_n h 3 dX12_term_111 rfl (rfl : 111 + 1 = 112) ?_
                  refine z_iconst h 1 dX12_term_112 (by decide) (rfl : 112 + 1 = 113) ?_
                  refine z_icmp_ne (pc' := 116) h 124 dX12_term_113 (by decide) rfl (fun c57 => ?_) (fun c57 => ?_)
                  · have hf := zitf c57 hf
                    refine z_aload_n h 2 dX12_term_124 rfl (rfl : 124 + 1 = 125) ?_
                    refine z_iload_n h 4 dX12_term_125 rfl (rfl : 125 + 1 = 126) ?_
                    refine z_put (ci := 11) (C := RX12) (T := TX12) (N := 46) h 10 tyX12 tyX12_ok nmX12 rfl rfl (fun _ hq => List.mem_cons_of_mem _ (List.mem_append_right _ hq)) (by decide) (List.mem_of_getElem? (i := 8) rfl) rfl rfl rfl dX12_term_126 (rfl : 126 + 3 = 129) ?_
                    refine z_iload h 0 dX12_term_129 rfl (rfl : 129 + 2 = 131) ?_
                    refine z_iret h hr dX12_term_131 ?_
                    exact ⟨congrArg Prod.fst (zsome hf), congrArg Prod.snd (zsome hf), rfl⟩
                  · have hf := zitt c57 hf
                    refine z_aload_n h 2 dX12_term_116 rfl (rfl : 116 + 1 = 117) ?_
                    refine z_iload_n h 4 dX12_term_117 rfl (rfl : 117 + 1 = 118) ?_
                    refine z_put (ci := 11) (C := RX12) (T := TX12) (N := 46) h 9 tyX12 tyX12_ok nmX12 rfl rfl (fun _ hq => List.mem_cons_of_mem _ (List.mem_append_right _ hq)) (by decide) (List.mem_of_getElem? (i := 7) rfl) rfl rfl rfl dX12_term_118 (rfl : 118 + 3 = 121) ?_
                    refine z_goto (pc' := 129) h dX12_term_121 (by decide) ?_
                    refine z_iload h 0 dX12_term_129 rfl (rfl : 129 + 2 = 131) ?_
                    refine z_iret h hr dX12_term_131 ?_
                    exact ⟨congrArg Prod.fst (zsome hf), congrArg Prod.snd (zsome hf), rfl⟩
                · have hf := zitt c56 hf
                  refine z_aload_n h 2 dX12_term_103 rfl (rfl : 103 + 1 = 104) ?_
                  refine z_iload_n h 4 dX12_term_104 rfl (rfl : 104 + 1 = 105) ?_
                  refine z_put (ci := 11) (C := RX12) (T := TX12) (N := 46) h 8 tyX12 tyX12_ok nmX12 rfl rfl (fun _ hq => List.mem_cons_of_mem _ (List.mem_append_right _ hq)) (by decide) (List.mem_of_getElem? (i := 6) rfl) rfl rfl rfl dX12_term_105 (rfl : 105 + 3 = 108) ?_
                  refine z_goto (pc' := 129) h dX12_term_108 (by decide) ?_
                  refine z_iload h 0 dX12_term_129 rfl (rfl : 129 + 2 = 131) ?_
                  refine z_iret h hr dX12_term_131 ?_
                  exact ⟨congrArg Prod.fst (zsome hf), congrArg Prod.snd (zsome hf), rfl⟩
              · have hf := zitt c55 hf
                refine z_aload_n h 1 dX12_term_86 rfl (rfl : 86 + 1 = 87) ?_
                refine z_get (ci := 11) (C := RX12) (T := TX12) (N := 46) h 9 rfl rfl (fun _ hq => List.mem_cons_of_mem _ (List.mem_append_right _ hq)) (by decide) (List.mem_of_getElem? (i := 7) rfl) rfl dX12_term_87 (rfl : 87 + 3 = 90) ?_
                refine z_goto (pc' := 97) h dX12_term_90 (by decide) ?_
                refine z_istore h [(4, .int (q51.2 147 9)), (3, .int 1), (0, .ref (za B 147)), (1, .int v1), (2, .int v2)] dX12_term_97 (by decide) rfl (rfl : 97 + 2 = 99) ?_
                refine z_iload_n h 3 dX12_term_99 rfl (rfl : 99 + 1 = 100) ?_
                refine z_if_ne (pc' := 103) h 111 dX12_term_100 (by decide) rfl (fun c58 => ?_) (fun c58 => ?_)
                · have hf := zitf c58 hf
                  refine z_iload_n h 3 dX12_term_111 rfl (rfl : 111 + 1 = 112) ?_
                  refine z_iconst h 1 dX12_term_112 (by decide) (rfl : 112 + 1 = 113) ?_
                  refine z_icmp_ne (pc' := 116) h 124 dX12_term_113 (by decide) rfl (fun c59 => ?_) (fun c59 => ?_)
                  · have hf := zitf c59 hf
                    refine z_aload_n h 2 dX12_term_124 rfl (rfl : 124 + 1 = 125) ?_
                    refine z_iload_n h 4 dX12_term_125 rfl (rfl : 125 + 1 = 126) ?_
                    refine z_put (ci := 11) (C := RX12) (T := TX12) (N := 46) h 10 tyX12 tyX12_ok nmX12 rfl rfl (fun _ hq => List.mem_cons_of_mem _ (List.mem_append_right _ hq)) (by decide) (List.mem_of_getElem? (i := 8) rfl) rfl rfl rfl dX12_term_126 (rfl : 126 + 3 = 129) ?_
                    refine z_iload h 0 dX12_term_129 rfl (rfl : 129 + 2 = 131) ?_
                    refine z_iret h hr dX12_term_131 ?_
                    exact ⟨congrArg Prod.fst (zsome hf), congrArg Prod.snd (zsome hf), rfl⟩
                  · have hf := zitt c59 hf
                    refine z_aload_n h 2 dX12_term_116 rfl (rfl : 116 + 1 = 117) ?_
                    refine z_iload_n h 4 dX12_term_117 rfl (rfl : 117 + 1 = 118) ?_
                    refine z_put (ci := 11) (C := RX12) (T := TX12) (N := 46) h 9 tyX12 tyX12_ok nmX12 rfl rfl (fun _ hq => List.mem_cons_of_mem _ (List.mem_append_right _ hq)) (by decide) (List.mem_of_getElem? (i := 7) rfl) rfl rfl rfl dX12_term_118 (rfl : 118 + 3 = 121) ?_
                    refine z_goto (pc' := 129) h dX12_term_121 (by decide) ?_
                    refine z_iload h 0 dX12_term_129 rfl (rfl : 129 + 2 = 131) ?_
                    refine z_iret h hr dX12_term_131 ?_
                    exact ⟨congrArg Prod.fst (zsome hf), congrArg Prod.snd (zsome hf), rfl⟩
                · have hf := zitt c58 hf
                  refine z_aload_n h 2 dX12_term_103 rfl (rfl : 103 + 1 = 104) ?_
                  refine z_iload_n h 4 dX12_term_104 rfl (rfl : 104 + 1 = 105) ?_
                  refine z_put (ci := 11) (C := RX12) (T := TX12) (N := 46) h 8 tyX12 tyX12_ok nmX12 rfl rfl (fun _ hq => List.mem_cons_of_mem _ (List.mem_append_right _ hq)) (by decide) (List.mem_of_getElem? (i := 6) rfl) rfl rfl rfl dX12_term_105 (rfl : 105 + 3 = 108) ?_
                  refine z_goto (pc' := 129) h dX12_term_108 (by decide) ?_
                  refine z_iload h 0 dX12_term_129 rfl (rfl : 129 + 2 = 131) ?_
                  refine z_iret h hr dX12_term_131 ?_
                  exact ⟨congrArg Prod.fst (zsome hf), congrArg Prod.snd (zsome hf), rfl⟩
            · have hf := zitt c54 hf
              refine z_aload_n h 1 dX12_term_74 rfl (rfl : 74 + 1 = 75) ?_
              refine z_get (ci := 11) (C := RX12) (T := TX12) (N := 46) h 8 rfl rfl (fun _ hq => List.mem_cons_of_mem _ (List.mem_append_right _ hq)) (by decide) (List.mem_of_getElem? (i := 6) rfl) rfl dX12_term_75 (rfl : 75 + 3 = 78) ?_
              refine z_goto (pc' := 97) h dX12_term_78 (by decide) ?_
              refine z_istore h [(4, .int (q51.2 147 8)), (3, .int 1), (0, .ref (za B 147)), (1, .int v1), (2, .int v2)] dX12_term_97 (by decide) rfl (rfl : 97 + 2 = 99) ?_
              refine z_iload_n h 3 dX12_term_99 rfl (rfl : 99 + 1 = 100) ?_
              refine z_if_ne (pc' := 103) h 111 dX12_term_100 (by decide) rfl (fun c60 => ?_) (fun c60 => ?_)
              · have hf := zitf c60 hf
                refine z_iload_n h 3 dX12_term_111 rfl (rfl : 111 + 1 = 112) ?_
                refine z_iconst h 1 dX12_term_112 (by decide) (rfl : 112 + 1 = 113) ?_
                refine z_icmp_ne (pc' := 116) h 124 dX12_term_113 (by decide) rfl (fun c61 => ?_) (fun c61 => ?_)
                · have hf := zitf c61 hf
                  refine z_aload_n h 2 dX12_term_124 rfl (rfl : 124 + 1 = 125) ?_
                  refine z_iload_n h 4 dX12_term_125 rfl (rfl : 125 + 1 = 126) ?_
                  refine z_put (ci := 11) (C := RX12) (T := TX12) (N := 46) h 10 tyX12 tyX12_ok nmX12 rfl rfl (fun _ hq => List.mem_cons_of_mem _ (List.mem_append_right _ hq)) (by decide) (List.mem_of_getElem? (i := 8) rfl) rfl rfl rfl dX12_term_126 (rfl : 126 + 3 = 129) ?_
                  refine z_iload h 0 dX12_term_129 rfl (rfl : 129 + 2 = 131) ?_
                  refine z_iret h hr dX12_term_131 ?_
                  exact ⟨congrArg Prod.fst (zsome hf), congrArg Prod.snd (zsome hf), rfl⟩
                · have hf := zitt c61 hf
                  refine z_aload_n h 2 dX12_term_116 rfl (rfl : 116 + 1 = 117) ?_
                  refine z_iload_n h 4 dX12_term_117 rfl (rfl : 117 + 1 = 118) ?_
                  refine z_put (ci := 11) (C := RX12) (T := TX12) (N := 46) h 9 tyX12 tyX12_ok nmX12 rfl rfl (fun _ hq => List.mem_cons_of_mem _ (List.mem_append_right _ hq)) (by decide) (List.mem_of_getElem? (i := 7) rfl) rfl rfl rfl dX12_term_118 (rfl : 118 + 3 = 121) ?_
                  refine z_goto (pc' := 129) h dX12_term_121 (by decide) ?_
                  refine z_iload h 0 dX12_term_129 rfl (rfl : 129 + 2 = 131) ?_
                  refine z_iret h hr dX12_term_131 ?_
                  exact ⟨congrArg Prod.fst (zsome hf), congrArg Prod.snd (zsome hf), rfl⟩
              · have hf := zitt c60 hf
                refine z_aload_n h 2 dX12_term_103 rfl (rfl : 103 + 1 = 104) ?_
                refine z_iload_n h 4 dX12_term_104 rfl (rfl : 104 + 1 = 105) ?_
                refine z_put (ci := 11) (C := RX12) (T := TX12) (N := 46) h 8 tyX12 tyX12_ok nmX12 rfl rfl (fun _ hq => List.mem_cons_of_mem _ (List.mem_append_right _ hq)) (by decide) (List.mem_of_getElem? (i := 6) rfl) rfl rfl rfl dX12_term_105 (rfl : 105 + 3 = 108) ?_
                refine z_goto (pc' := 129) h dX12_term_108 (by decide) ?_
                refine z_iload h 0 dX12_term_129 rfl (rfl : 129 + 2 = 131) ?_
                refine z_iret h hr dX12_term_131 ?_
                exact ⟨congrArg Prod.fst (zsome hf), congrArg Prod.snd (zsome hf), rfl⟩
      · have hf := zitt c49 hf
        refine z_iload_n h 2 dX12_term_26 rfl (rfl : 26 + 1 = 27) ?_
        refine z_i2l h dX12_term_27 (rfl : 27 + 1 = 28) ?_
        refine z_lconst h 1 dX12_term_28 rfl (rfl : 28 + 1 = 29) ?_
        refine z_ldc2 h 9 (List.mem_of_getElem? (i := 3) rfl) dX12_term_29 (rfl : 29 + 3 = 32) ?_
        obtain ⟨q62, e63, hf⟩ := zbind hf
        refine z_goF (z_runS h [.long (Int32.toInt64 v2), .long 1, .long 9] [] zyX12_in (c_X12_in B q38.2 J hJ (Int32.toInt64 v2) 1 9 _ _ e63) gX12_term_X12_in zrX12_term_X12_in rfl (Nat.le_of_ble_eq_true rfl) ⟨Nat.zero_le _, Nat.zero_le _⟩ rfl dX12_term_32) rfl ?_
        refine z_if_ne (pc' := 38) h 57 dX12_term_35 (by decide) rfl (fun c64 => ?_) (fun c64 => ?_)
        · have hf := zitf c64 hf
          refine z_iconst h 1 dX12_term_57 (by decide) (rfl : 57 + 1 = 58) ?_
          refine z_goto (pc' := 62) h dX12_term_58 (by decide) ?_
          refine z_istore_n h [(3, .int 1), (0, .ref (za B 147)), (1, .int v1), (2, .int v2)] dX12_term_62 (by decide) rfl (rfl : 62 + 1 = 63) ?_
          refine z_iload_n h 0 dX12_term_63 rfl (rfl : 63 + 1 = 64) ?_
          refine z_if_ne (pc' := 67) h 70 dX12_term_64 (by decide) rfl (fun _ => ?_) (fun q => absurd q (by decide))
          refine z_iload_n h 2 dX12_term_70 rfl (rfl : 70 + 1 = 71) ?_
          refine z_if_ne (pc' := 74) h 81 dX12_term_71 (by decide) rfl (fun c65 => ?_) (fun c65 => ?_)
          · have hf := zitf c65 hf
            refine z_iload_n h 2 dX12_term_81 rfl (rfl : 81 + 1 = 82) ?_
            refine z_iconst h 1 dX12_term_82 (by decide) (rfl : 82 + 1 = 83) ?_
            refine z_icmp_ne (pc' := 86) h 93 dX12_term_83 (by decide) rfl (fun c66 => ?_) (fun c66 => ?_)
            · have hf := zitf c66 hf
              refine z_aload_n h 1 dX12_term_93 rfl (rfl : 93 + 1 = 94) ?_
              refine z_get (ci := 11) (C := RX12) (T := TX12) (N := 46) h 10 rfl rfl (fun _ hq => List.mem_cons_of_mem _ (List.mem_append_right _ hq)) (by decide) (List.mem_of_getElem? (i := 8) rfl) rfl dX12_term_94 (rfl : 94 + 3 = 97) ?_
              refine z_istore h [(4, .int (q62.2 147 10)), (3, .int 1), (0, .ref (za B 147)), (1, .int v1), (2, .int v2)] dX12_term_97 (by decide) rfl (rfl : 97 + 2 = 99) ?_
              refine z_iload_n h 3 dX12_term_99 rfl (rfl : 99 + 1 = 100) ?_
              refine z_if_ne (pc' := 103) h 111 dX12_term_100 (by decide) rfl (fun c67 => ?_) (fun c67 => ?_)
              · have hf := zitf c67 hf
                refine z_iload_n h 3 dX12_term_111 rfl (rfl : 111 + 1 = 112) ?_
                refine z_iconst h 1 dX12_term_112 (by decide) (rfl : 112 + 1 = 113) ?_
                refine z_icmp_ne (pc' := 116) h 124 dX12_term_113 (by decide) rfl (fun c68 => ?_) (fun c68 => ?_)
                · have hf := zitf c68 hf
                  refine z_aload_n h 2 dX12_term_124 rfl (rfl : 124 + 1 = 125) ?_
                  refine z_iload_n h 4 dX12_term_125 rfl (rfl : 125 + 1 = 126) ?_
                  refine z_put (ci := 11) (C := RX12) (T := TX12) (N := 46) h 10 tyX12 tyX12_ok nmX12 rfl rfl (fun _ hq => List.mem_cons_of_mem _ (List.mem_append_right _ hq)) (by decide) (List.mem_of_getElem? (i := 8) rfl) rfl rfl rfl dX12_term_126 (rfl : 126 + 3 = 129) ?_
                  refine z_iload h 0 dX12_term_129 rfl (rfl : 129 + 2 = 131) ?_
                  refine z_iret h hr dX12_term_131 ?_
                  exact ⟨congrArg Prod.fst (zsome hf), congrArg Prod.snd (zsome hf), rfl⟩
                · have hf := zitt c68 hf
                  refine z_aload_n h 2 dX12_term_116 rfl (rfl : 116 + 1 = 117) ?_
                  refine z_iload_n h 4 dX12_term_117 rfl (rfl : 117 + 1 = 118) ?_
                  refine z_put (ci := 11) (C := RX12) (T := TX12) (N := 46) h 9 tyX12 tyX12_ok nmX12 rfl rfl (fun _ hq => List.mem_cons_of_mem _ (List.mem_append_right _ hq)) (by decide) (List.mem_of_getElem? (i := 7) rfl) rfl rfl rfl dX12_term_118 (rfl : 118 + 3 = 121) ?_
                  refine z_goto (pc' := 129) h dX12_term_121 (by decide) ?_
                  refine z_iload h 0 dX12_term_129 rfl (rfl : 129 + 2 = 131) ?_
                  refine z_iret h hr dX12_term_131 ?_
                  exact ⟨congrArg Prod.fst (zsome hf), congrArg Prod.snd (zsome hf), rfl⟩
              · have hf := zitt c67 hf
                refine z_aload_n h 2 dX12_term_103 rfl (rfl : 103 + 1 = 104) ?_
                refine z_iload_n h 4 dX12_term_104 rfl (rfl : 104 + 1 = 105) ?_
                refine z_put (ci := 11) (C := RX12) (T := TX12) (N := 46) h 8 tyX12 tyX12_ok nmX12 rfl rfl (fun _ hq => List.mem_cons_of_mem _ (List.mem_append_right _ hq)) (by decide) (List.mem_of_getElem? (i := 6) rfl) rfl rfl rfl dX12_term_105 (rfl : 105 + 3 = 108) ?_
                refine z_goto (pc' := 129) h dX12_term_108 (by decide) ?_
                refine z_iload h 0 dX12_term_129 rfl (rfl : 129 + 2 = 131) ?_
                refine z_iret h hr dX12_term_131 ?_
                exact ⟨congrArg Prod.fst (zsome hf), congrArg Prod.snd (zsome hf), rfl⟩
            · have hf := zitt c66 hf
              refine z_aload_n h 1 dX12_term_86 rfl (rfl : 86 + 1 = 87) ?_
              refine z_get (ci := 11) (C := RX12) (T := TX12) (N := 46) h 9 rfl rfl (fun _ hq => List.mem_cons_of_mem _ (List.mem_append_right _ hq)) (by decide) (List.mem_of_getElem? (i := 7) rfl) rfl dX12_term_87 (rfl : 87 + 3 = 90) ?_
              refine z_goto (pc' := 97) h dX12_term_90 (by decide) ?_
              refine z_istore h [(4, .int (q62.2 147 9)), (3, .int 1), (0, .ref (za B 147)), (1, .int v1), (2, .int v2)] dX12_term_97 (by decide) rfl (rfl : 97 + 2 = 99) ?_
              refine z_iload_n h 3 dX12_term_99 rfl (rfl : 99 + 1 = 100) ?_
              refine z_if_ne (pc' := 103) h 111 dX12_term_100 (by decide) rfl (fun c69 => ?_) (fun c69 => ?_)
              · have hf := zitf c69 hf
                refine z_iload_n h 3 dX12_term_111 rfl (rfl : 111 + 1 = 112) ?_
                refine z_iconst h 1 dX12_term_112 (by decide) (rfl : 112 + 1 = 113) ?_
                refine z_icmp_ne (pc' := 116) h 124 dX12_term_113 (by decide) rfl (fun c70 => ?_) (fun c70 => ?_)
                · have hf := zitf c70 hf
                  refine z_aload_n h 2 dX12_term_124 rfl (rfl : 124 + 1 = 125) ?_
                  refine z_iload_n h 4 dX12_term_125 rfl (rfl : 125 + 1 = 126) ?_
                  refine z_put (ci := 11) (C := RX12) (T := TX12) (N := 46) h 10 tyX12 tyX12_ok nmX12 rfl rfl (fun _ hq => List.mem_cons_of_mem _ (List.mem_append_right _ hq)) (by decide) (List.mem_of_getElem? (i := 8) rfl) rfl rfl rfl dX12_term_126 (rfl : 126 + 3 = 129) ?_
                  refine z_iload h 0 dX12_term_129 rfl (rfl : 129 + 2 = 131) ?_
                  refine z_iret h hr dX12_term_131 ?_
                  exact ⟨congrArg Prod.fst (zsome hf), congrArg Prod.snd (zsome hf), rfl⟩
                · have hf := zitt c70 hf
                  refine z_aload_n h 2 dX12_term_116 rfl (rfl : 116 + 1 = 117) ?_
                  refine z_iload_n h 4 dX12_term_117 rfl (rfl : 117 + 1 = 118) ?_
                  refine z_put (ci := 11) (C := RX12) (T := TX12) (N := 46) h 9 tyX12 tyX12_ok nmX12 rfl rfl (fun _ hq => List.mem_cons_of_mem _ (List.mem_append_right _ hq)) (by decide) (List.mem_of_getElem? (i := 7) rfl) rfl rfl rfl dX12_term_118 (rfl : 118 + 3 = 121) ?_
                  refine z_goto (pc' := 129) h dX12_term_121 (by decide) ?_
                  refine z_iload h 0 dX12_term_129 rfl (rfl : 129 + 2 = 131) ?_
                  refine z_iret h hr dX12_term_131 ?_
                  exact ⟨congrArg Prod.fst (zsome hf), congrArg Prod.snd (zsome hf), rfl⟩
              · have hf := zitt c69 hf
                refine z_aload_n h 2 dX12_term_103 rfl (rfl : 103 + 1 = 104) ?_
                refine z_iload_n h 4 dX12_term_104 rfl (rfl : 104 + 1 = 105) ?_
                refine z_put (ci := 11) (C := RX12) (T := TX12) (N := 46) h 8 tyX12 tyX12_ok nmX12 rfl rfl (fun _ hq => List.mem_cons_of_mem _ (List.mem_append_right _ hq)) (by decide) (List.mem_of_getElem? (i := 6) rfl) rfl rfl rfl dX12_term_105 (rfl : 105 + 3 = 108) ?_
                refine z_goto (pc' := 129) h dX12_term_108 (by decide) ?_
                refine z_iload h 0 dX12_term_129 rfl (rfl : 129 + 2 = 131) ?_
                refine z_iret h hr dX12_term_131 ?_
                exact ⟨congrArg Prod.fst (zsome hf), congrArg Prod.snd (zsome hf), rfl⟩
          · have hf := zitt c65 hf
            refine z_aload_n h 1 dX12_term_74 rfl (rfl : 74 + 1 = 75) ?_
            refine z_get (ci := 11) (C := RX12) (T := TX12) (N := 46) h 8 rfl rfl (fun _ hq => List.mem_cons_of_mem _ (List.mem_append_right _ hq)) (by decide) (List.mem_of_getElem? (i := 6) rfl) rfl dX12_term_75 (rfl : 75 + 3 = 78) ?_
            refine z_goto (pc' := 97) h dX12_term_78 (by decide) ?_
            refine z_istore h [(4, .int (q62.2 147 8)), (3, .int 1), (0, .ref (za B 147)), (1, .int v1), (2, .int v2)] dX12_term_97 (by decide) rfl (rfl : 97 + 2 = 99) ?_
            refine z_iload_n h 3 dX12_term_99 rfl (rfl : 99 + 1 = 100) ?_
            refine z_if_ne (pc' := 103) h 111 dX12_term_100 (by decide) rfl (fun c71 => ?_) (fun c71 => ?_)
            · have hf := zitf c71 hf
              refine z_iload_n h 3 dX12_term_111 rfl (rfl : 111 + 1 = 112) ?_
              refine z_iconst h 1 dX12_term_112 (by decide) (rfl : 112 + 1 = 113) ?_
              refine z_icmp_ne (pc' := 116) h 124 dX12_term_113 (by decide) rfl (fun c72 => ?_) (fun c72 => ?_)
              · have hf := zitf c72 hf
                refine z_aload_n h 2 dX12_term_124 rfl (rfl : 124 + 1 = 125) ?_
                refine z_iload_n h 4 dX12_term_125 rfl (rfl : 125 + 1 = 126) ?_
                refine z_put (ci := 11) (C := RX12) (T := TX12) (N := 46) h 10 tyX12 tyX12_ok nmX12 rfl rfl (fun _ hq => List.mem_cons_of_mem _ (List.mem_append_right _ hq)) (by decide) (List.mem_of_getElem? (i := 8) rfl) rfl rfl rfl dX12_term_126 (rfl : 126 + 3 = 129) ?_
                refine z_iload h 0 dX12_term_129 rfl (rfl : 129 + 2 = 131) ?_
                refine z_iret h hr dX12_term_131 ?_
                exact ⟨congrArg Prod.fst (zsome hf), congrArg Prod.snd (zsome hf), rfl⟩
              · have hf := zitt c72 hf
                refine z_aload_n h 2 dX12_term_116 rfl (rfl : 116 + 1 = 117) ?_
                refine z_iload_n h 4 dX12_term_117 rfl (rfl : 117 + 1 = 118) ?_
                refine z_put (ci := 11) (C := RX12) (T := TX12) (N := 46) h 9 tyX12 tyX12_ok nmX12 rfl rfl (fun _ hq => List.mem_cons_of_mem _ (List.mem_append_right _ hq)) (by decide) (List.mem_of_getElem? (i := 7) rfl) rfl rfl rfl dX12_term_118 (rfl : 118 + 3 = 121) ?_
                refine z_goto (pc' := 129) h dX12_term_121 (by decide) ?_
                refine z_iload h 0 dX12_term_129 rfl (rfl : 129 + 2 = 131) ?_
                refine z_iret h hr dX12_term_131 ?_
                exact ⟨congrArg Prod.fst (zsome hf), congrArg Prod.snd (zsome hf), rfl⟩
            · have hf := zitt c71 hf
              refine z_aload_n h 2 dX12_term_103 rfl (rfl : 103 + 1 = 104) ?_
              refine z_iload_n h 4 dX12_term_104 rfl (rfl : 104 + 1 = 105) ?_
              refine z_put (ci := 11) (C := RX12) (T := TX12) (N := 46) h 8 tyX12 tyX12_ok nmX12 rfl rfl (fun _ hq => List.mem_cons_of_mem _ (List.mem_append_right _ hq)) (by decide) (List.mem_of_getElem? (i := 6) rfl) rfl rfl rfl dX12_term_105 (rfl : 105 + 3 = 108) ?_
              refine z_goto (pc' := 129) h dX12_term_108 (by decide) ?_
              refine z_iload h 0 dX12_term_129 rfl (rfl : 129 + 2 = 131) ?_
              refine z_iret h hr dX12_term_131 ?_
              exact ⟨congrArg Prod.fst (zsome hf), congrArg Prod.snd (zsome hf), rfl⟩
        · have hf := zitt c64 hf
          refine z_iload_n h 1 dX12_term_38 rfl (rfl : 38 + 1 = 39) ?_
          refine z_iconst h 2 dX12_term_39 (by decide) (rfl : 39 + 1 = 40) ?_
          refine z_icmp_ne (pc' := 43) h 61 dX12_term_40 (by decide) rfl (fun c73 => ?_) (fun c73 => ?_)
          · have hf := zitf c73 hf
            refine z_iconst h 0 dX12_term_61 (by decide) (rfl : 61 + 1 = 62) ?_
            refine z_istore_n h [(3, .int 0), (0, .ref (za B 147)), (1, .int v1), (2, .int v2)] dX12_term_62 (by decide) rfl (rfl : 62 + 1 = 63) ?_
            refine z_iload_n h 0 dX12_term_63 rfl (rfl : 63 + 1 = 64) ?_
            refine z_if_ne (pc' := 67) h 70 dX12_term_64 (by decide) rfl (fun q => absurd q (by decide)) (fun _ => ?_)
            refine z_bipush h (-2) dX12_term_67 (by decide) (rfl : 67 + 2 = 69) ?_
            refine z_iret h hr dX12_term_69 ?_
            exact ⟨congrArg Prod.fst (zsome hf), congrArg Prod.snd (zsome hf), rfl⟩
          · have hf := zitt c73 hf
            refine z_iload_n h 2 dX12_term_43 rfl (rfl : 43 + 1 = 44) ?_
            refine z_i2l h dX12_term_44 (rfl : 44 + 1 = 45) ?_
            refine z_ldc2 h 51 (List.mem_of_getElem? (i := 4) rfl) dX12_term_45 (rfl : 45 + 3 = 48) ?_
            refine z_ldc2 h 100 (List.mem_of_getElem? (i := 5) rfl) dX12_term_48 (rfl : 48 + 3 = 51) ?_
            obtain ⟨q74, e75, hf⟩ := zbind hf
            refine z_goF (z_runS h [.long (Int32.toInt64 v2), .long 51, .long 100] [] zyX12_in (c_X12_in B q62.2 J hJ (Int32.toInt64 v2) 51 100 _ _ e75) gX12_term_X12_in zrX12_term_X12_in rfl (Nat.le_of_ble_eq_true rfl) ⟨Nat.zero_le _, Nat.zero_le _⟩ rfl dX12_term_51) rfl ?_
            refine z_if_eq (pc' := 57) h 61 dX12_term_54 (by decide) rfl (fun c76 => ?_) (fun c76 => ?_)
            · have hf := zitt c76 hf
              refine z_iconst h 0 dX12_term_61 (by decide) (rfl : 61 + 1 = 62) ?_
              refine z_istore_n h [(3, .int 0), (0, .ref (za B 147)), (1, .int v1), (2, .int v2)] dX12_term_62 (by decide) rfl (rfl : 62 + 1 = 63) ?_
              refine z_iload_n h 0 dX12_term_63 rfl (rfl : 63 + 1 = 64) ?_
              refine z_if_ne (pc' := 67) h 70 dX12_term_64 (by decide) rfl (fun q => absurd q (by decide)) (fun _ => ?_)
              refine z_bipush h (-2) dX12_term_67 (by decide) (rfl : 67 + 2 = 69) ?_
              refine z_iret h hr dX12_term_69 ?_
              exact ⟨congrArg Prod.fst (zsome hf), congrArg Prod.snd (zsome hf), rfl⟩
            · have hf := zitf c76 hf
              refine z_iconst h 1 dX12_term_57 (by decide) (rfl : 57 + 1 = 58) ?_
              refine z_goto (pc' := 62) h dX12_term_58 (by decide) ?_
              refine z_istore_n h [(3, .int 1), (0, .ref (za B 147)), (1, .int v1), (2, .int v2)] dX12_term_62 (by decide) rfl (rfl : 62 + 1 = 63) ?_
              refine z_iload_n h 0 dX12_term_63 rfl (rfl : 63 + 1 = 64) ?_
              refine z_if_ne (pc' := 67) h 70 dX12_term_64 (by decide) rfl (fun _ => ?_) (fun q => absurd q (by decide))
              refine z_iload_n h 2 dX12_term_70 rfl (rfl : 70 + 1 = 71) ?_
              refine z_if_ne (pc' := 74) h 81 dX12_term_71 (by decide) rfl (fun c77 => ?_) (fun c77 => ?_)
              · have hf := zitf c77 hf
                refine z_iload_n h 2 dX12_term_81 rfl (rfl : 81 + 1 = 82) ?_
                refine z_iconst h 1 dX12_term_82 (by decide) (rfl : 82 + 1 = 83) ?_
                refine z_icmp_ne (pc' := 86) h 93 dX12_term_83 (by decide) rfl (fun c78 => ?_) (fun c78 => ?_)
                · have hf := zitf c78 hf
                  refine z_aload_n h 1 dX12_term_93 rfl (rfl : 93 + 1 = 94) ?_
                  refine z_get (ci := 11) (C := RX12) (T := TX12) (N := 46) h 10 rfl rfl (fun _ hq => List.mem_cons_of_mem _ (List.mem_append_right _ hq)) (by decide) (List.mem_of_getElem? (i := 8) rfl) rfl dX12_term_94 (rfl : 94 + 3 = 97) ?_
                  refine z_istore h [(4, .int (q74.2 147 10)), (3, .int 1), (0, .ref (za B 147)), (1, .int v1), (2, .int v2)] dX12_term_97 (by decide) rfl (rfl : 97 + 2 = 99) ?_
                  refine z_iload_n h 3 dX12_term_99 rfl (rfl : 99 + 1 = 100) ?_
                  refine z_if_ne (pc' := 103) h 111 dX12_term_100 (by decide) rfl (fun c79 => ?_) (fun c79 => ?_)
                  · have hf := zitf c79 hf
                    refine z_iload_n h 3 dX12_term_111 rfl (rfl : 111 + 1 = 112) ?_
                    refine z_iconst h 1 dX12_term_112 (by decide) (rfl : 112 + 1 = 113) ?_
                    refine z_icmp_ne (pc' := 116) h 124 dX12_term_113 (by decide) rfl (fun c80 => ?_) (fun c80 => ?_)
                    · have hf := zitf c80 hf
                      refine z_aload_n h 2 dX12_term_124 rfl (rfl : 124 + 1 = 125) ?_
                      refine z_iload_n h 4 dX12_term_125 rfl (rfl : 125 + 1 = 126) ?_
                      refine z_put (ci := 11) (C := RX12) (T := TX12) (N := 46) h 10 tyX12 tyX12_ok nmX12 rfl rfl (fun _ hq => List.mem_cons_of_mem _ (List.mem_append_right _ hq)) (by decide) (List.mem_of_getElem? (i := 8) rfl) rfl rfl rfl dX12_term_126 (rfl : 126 + 3 = 129) ?_
                      refine z_iload h 0 dX12_term_129 rfl (rfl : 129 + 2 = 131) ?_
                      refine z_iret h hr dX12_term_131 ?_
                      exact ⟨congrArg Prod.fst (zsome hf), congrArg Prod.snd (zsome hf), rfl⟩
                    · have hf := zitt c80 hf
                      refine z_aload_n h 2 dX12_term_116 rfl (rfl : 116 + 1 = 117) ?_
                      refine z_iload_n h 4 dX12_term_117 rfl (rfl : 117 + 1 = 118) ?_
                      refine z_put (ci := 11) (C := RX12) (T := TX12) (N := 46) h 9 tyX12 tyX12_ok nmX12 rfl rfl (fun _ hq => List.mem_cons_of_mem _ (List.mem_append_right _ hq)) (by decide) (List.mem_of_getElem? (i := 7) rfl) rfl rfl rfl dX12_term_118 (rfl : 118 + 3 = 121) ?_
                      refine z_goto (pc' := 129) h dX12_term_121 (by decide) ?_
                      refine z_iload h 0 dX12_term_129 rfl (rfl : 129 + 2 = 131) ?_
                      refine z_iret h hr dX12_term_131 ?_
                      exact ⟨congrArg Prod.fst (zsome hf), congrArg Prod.snd (zsome hf), rfl⟩
                  · have hf := zitt c79 hf
                    refine z_aload_n h 2 dX12_term_103 rfl (rfl : 103 + 1 = 104) ?_
                    refine z_iload_n h 4 dX12_term_104 rfl (rfl : 104 + 1 = 105) ?_
                    refine z_put (ci := 11) (C := RX12) (T := TX12) (N := 46) h 8 tyX12 tyX12_ok nmX12 rfl rfl (fun _ hq => List.mem_cons_of_mem _ (List.mem_append_right _ hq)) (by decide) (List.mem_of_getElem? (i := 6) rfl) rfl rfl rfl dX12_term_105 (rfl : 105 + 3 = 108) ?_
                    refine z_goto (pc' := 129) h dX12_term_108 (by decide) ?_
                    refine z_iload h 0 dX12_term_129 rfl (rfl : 129 + 2 = 131) ?_
                    refine z_iret h hr dX12_term_131 ?_
                    exact ⟨congrArg Prod.fst (zsome hf), congrArg Prod.snd (zsome hf), rfl⟩
                · have hf := zitt c78 hf
                  refine z_aload_n h 1 dX12_term_86 rfl (rfl : 86 + 1 = 87) ?_
                  refine z_get (ci := 11) (C := RX12) (T := TX12) (N := 46) h 9 rfl rfl (fun _ hq => List.mem_cons_of_mem _ (List.mem_append_right _ hq)) (by decide) (List.mem_of_getElem? (i := 7) rfl) rfl dX12_term_87 (rfl : 87 + 3 = 90) ?_
                  refine z_goto (pc' := 97) h dX12_term_90 (by decide) ?_
                  refine z_istore h [(4, .int (q74.2 147 9)), (3, .int 1), (0, .ref (za B 147)), (1, .int v1), (2, .int v2)] dX12_term_97 (by decide) rfl (rfl : 97 + 2 = 99) ?_
                  refine z_iload_n h 3 dX12_term_99 rfl (rfl : 99 + 1 = 100) ?_
                  refine z_if_ne (pc' := 103) h 111 dX12_term_100 (by decide) rfl (fun c81 => ?_) (fun c81 => ?_)
                  · have hf := zitf c81 hf
                    refine z_iload_n h 3 dX12_term_111 rfl (rfl : 111 + 1 = 112) ?_
                    refine z_iconst h 1 dX12_term_112 (by decide) (rfl : 112 + 1 = 113) ?_
                    refine z_icmp_ne (pc' := 116) h 124 dX12_term_113 (by decide) rfl (fun c82 => ?_) (fun c82 => ?_)
                    · have hf := zitf c82 hf
                      refine z_aload_n h 2 dX12_term_124 rfl (rfl : 124 + 1 = 125) ?_
                      refine z_iload_n h 4 dX12_term_125 rfl (rfl : 125 + 1 = 126) ?_
                      refine z_put (ci := 11) (C := RX12) (T := TX12) (N := 46) h 10 tyX12 tyX12_ok nmX12 rfl rfl (fun _ hq => List.mem_cons_of_mem _ (List.mem_append_right _ hq)) (by decide) (List.mem_of_getElem? (i := 8) rfl) rfl rfl rfl dX12_term_126 (rfl : 126 + 3 = 129) ?_
                      refine z_iload h 0 dX12_term_129 rfl (rfl : 129 + 2 = 131) ?_
                      refine z_iret h hr dX12_term_131 ?_
                      exact ⟨congrArg Prod.fst (zsome hf), congrArg Prod.snd (zsome hf), rfl⟩
                    · have hf := zitt c82 hf
                      refine z_aload_n h 2 dX12_term_116 rfl (rfl : 116 + 1 = 117) ?_
                      refine z_iload_n h 4 dX12_term_117 rfl (rfl : 117 + 1 = 118) ?_
                      refine z_put (ci := 11) (C := RX12) (T := TX12) (N := 46) h 9 tyX12 tyX12_ok nmX12 rfl rfl (fun _ hq => List.mem_cons_of_mem _ (List.mem_append_right _ hq)) (by decide) (List.mem_of_getElem? (i := 7) rfl) rfl rfl rfl dX12_term_118 (rfl : 118 + 3 = 121) ?_
                      refine z_goto (pc' := 129) h dX12_term_121 (by decide) ?_
                      refine z_iload h 0 dX12_term_129 rfl (rfl : 129 + 2 = 131) ?_
                      refine z_iret h hr dX12_term_131 ?_
                      exact ⟨congrArg Prod.fst (zsome hf), congrArg Prod.snd (zsome hf), rfl⟩
                  · have hf := zitt c81 hf
                    refine z_aload_n h 2 dX12_term_103 rfl (rfl : 103 + 1 = 104) ?_
                    refine z_iload_n h 4 dX12_term_104 rfl (rfl : 104 + 1 = 105) ?_
                    refine z_put (ci := 11) (C := RX12) (T := TX12) (N := 46) h 8 tyX12 tyX12_ok nmX12 rfl rfl (fun _ hq => List.mem_cons_of_mem _ (List.mem_append_right _ hq)) (by decide) (List.mem_of_getElem? (i := 6) rfl) rfl rfl rfl dX12_term_105 (rfl : 105 + 3 = 108) ?_
                    refine z_goto (pc' := 129) h dX12_term_108 (by decide) ?_
                    refine z_iload h 0 dX12_term_129 rfl (rfl : 129 + 2 = 131) ?_
                    refine z_iret h hr dX12_term_131 ?_
                    exact ⟨congrArg Prod.fst (zsome hf), congrArg Prod.snd (zsome hf), rfl⟩
              · have hf := zitt c77 hf
                refine z_aload_n h 1 dX12_term_74 rfl (rfl : 74 + 1 = 75) ?_
                refine z_get (ci := 11) (C := RX12) (T := TX12) (N := 46) h 8 rfl rfl (fun _ hq => List.mem_cons_of_mem _ (List.mem_append_right _ hq)) (by decide) (List.mem_of_getElem? (i := 6) rfl) rfl dX12_term_75 (rfl : 75 + 3 = 78) ?_
                refine z_goto (pc' := 97) h dX12_term_78 (by decide) ?_
                refine z_istore h [(4, .int (q74.2 147 8)), (3, .int 1), (0, .ref (za B 147)), (1, .int v1), (2, .int v2)] dX12_term_97 (by decide) rfl (rfl : 97 + 2 = 99) ?_
                refine z_iload_n h 3 dX12_term_99 rfl (rfl : 99 + 1 = 100) ?_
                refine z_if_ne (pc' := 103) h 111 dX12_term_100 (by decide) rfl (fun c83 => ?_) (fun c83 => ?_)
                · have hf := zitf c83 hf
                  refine z_iload_n h 3 dX12_term_111 rfl (rfl : 111 + 1 = 112) ?_
                  refine z_iconst h 1 dX12_term_112 (by decide) (rfl : 112 + 1 = 113) ?_
                  refine z_icmp_ne (pc' := 116) h 124 dX12_term_113 (by decide) rfl (fun c84 => ?_) (fun c84 => ?_)
                  · have hf := zitf c84 hf
                    refine z_aload_n h 2 dX12_term_124 rfl (rfl : 124 + 1 = 125) ?_
                    refine z_iload_n h 4 dX12_term_125 rfl (rfl : 125 + 1 = 126) ?_
                    refine z_put (ci := 11) (C := RX12) (T := TX12) (N := 46) h 10 tyX12 tyX12_ok nmX12 rfl rfl (fun _ hq => List.mem_cons_of_mem _ (List.mem_append_right _ hq)) (by decide) (List.mem_of_getElem? (i := 8) rfl) rfl rfl rfl dX12_term_126 (rfl : 126 + 3 = 129) ?_
                    refine z_iload h 0 dX12_term_129 rfl (rfl : 129 + 2 = 131) ?_
                    refine z_iret h hr dX12_term_131 ?_
                    exact ⟨congrArg Prod.fst (zsome hf), congrArg Prod.snd (zsome hf), rfl⟩
                  · have hf := zitt c84 hf
                    refine z_aload_n h 2 dX12_term_116 rfl (rfl : 116 + 1 = 117) ?_
                    refine z_iload_n h 4 dX12_term_117 rfl (rfl : 117 + 1 = 118) ?_
                    refine z_put (ci := 11) (C := RX12) (T := TX12) (N := 46) h 9 tyX12 tyX12_ok nmX12 rfl rfl (fun _ hq => List.mem_cons_of_mem _ (List.mem_append_right _ hq)) (by decide) (List.mem_of_getElem? (i := 7) rfl) rfl rfl rfl dX12_term_118 (rfl : 118 + 3 = 121) ?_
                    refine z_goto (pc' := 129) h dX12_term_121 (by decide) ?_
                    refine z_iload h 0 dX12_term_129 rfl (rfl : 129 + 2 = 131) ?_
                    refine z_iret h hr dX12_term_131 ?_
                    exact ⟨congrArg Prod.fst (zsome hf), congrArg Prod.snd (zsome hf), rfl⟩
                · have hf := zitt c83 hf
                  refine z_aload_n h 2 dX12_term_103 rfl (rfl : 103 + 1 = 104) ?_
                  refine z_iload_n h 4 dX12_term_104 rfl (rfl : 104 + 1 = 105) ?_
                  refine z_put (ci := 11) (C := RX12) (T := TX12) (N := 46) h 8 tyX12 tyX12_ok nmX12 rfl rfl (fun _ hq => List.mem_cons_of_mem _ (List.mem_append_right _ hq)) (by decide) (List.mem_of_getElem? (i := 6) rfl) rfl rfl rfl dX12_term_105 (rfl : 105 + 3 = 108) ?_
                  refine z_goto (pc' := 129) h dX12_term_108 (by decide) ?_
                  refine z_iload h 0 dX12_term_129 rfl (rfl : 129 + 2 = 131) ?_
                  refine z_iret h hr dX12_term_131 ?_
                  exact ⟨congrArg Prod.fst (zsome hf), congrArg Prod.snd (zsome hf), rfl⟩
noncomputable def f_X12_isKnowing_14 (J : zJ) (u1 : Int32) (u2 : Int32) : Nat → Int32 → Int32 → zM → Option ((Int32 × zM) ⊕ (Int32 × Int32 × zM))
  | 0, _, _, _ => none
  | n + 1, x3_14, x4_14, I14 => (if I14 147 6 ≤ x4_14 then some (.inr (x3_14, x4_14, I14)) else (if x3_14 = 0 then (if zin (((6 : Int32) * x4_14) + (2 : Int32)) 144 = true then (if I14 152 (Int32.toNatClampNeg (((6 : Int32) * x4_14) + (2 : Int32))) = u2 then (if zin ((6 : Int32) * x4_14) 144 = true then (if I14 152 (Int32.toNatClampNeg ((6 : Int32) * x4_14)) = u1 then f_X12_isKnowing_14 J u1 u2 n 1 (x4_14 + 1) I14 else (if zin (((6 : Int32) * x4_14) + (1 : Int32)) 144 = true then (if I14 152 (Int32.toNatClampNeg (((6 : Int32) * x4_14) + (1 : Int32))) = u1 then f_X12_isKnowing_14 J u1 u2 n 1 (x4_14 + 1) I14 else f_X12_isKnowing_14 J u1 u2 n 0 (x4_14 + 1) I14) else none)) else none) else f_X12_isKnowing_14 J u1 u2 n 0 (x4_14 + 1) I14) else none) else f_X12_isKnowing_14 J u1 u2 n 1 (x4_14 + 1) I14))
noncomputable def f_X12_isKnowing (J : zJ) (v1 : Int32) (v2 : Int32) (I : zM) : Option (Int32 × zM) := (if zin (((3 : Int32) * v1) + v2) 15 = true then ((f_X12_isKnowing_14 J v1 v2 zF (I 153 (Int32.toNatClampNeg (((3 : Int32) * v1) + v2))) 0 I).bind fun q => Sum.elim (fun a => some a) (fun a4 => (if a4.1 = 0 ∨ a4.1 = 1 then some ((a4.1, a4.2.2)) else none)) q) else none)
noncomputable abbrev rmX12_isKnowing : Room := { frames := 0, cells := 0, slots := 0, locals := 0 }
theorem zyX12_isKnowing : zY yX12_isKnowing wsX12_isKnowing cX12_isKnowing 5 (some .boolean) 2 := ⟨⟨_, rfl⟩, by decide +kernel⟩
set_option maxHeartbeats 1000000 in
set_option maxRecDepth 100000 in
theorem c_X12_isKnowing (B : zB) (I : zM) (J : zJ) (hJ : zJok J) (v1 : Int32) (v2 : Int32) (r : Int32) (I' : zM) (hf : f_X12_isKnowing J v1 v2 I = some (r, I')) : zCi B zKW I J yX12_isKnowing wsX12_isKnowing rmX12_isKnowing [.ref (za B 147), .int v1, .int v2] (fun r2 I2 J2 => r2 = r ∧ I2 = I' ∧ J2 = J) := by
  refine z_start (own := RX12) (cc := cX12_isKnowing) (nL := 5) (ret := (some .boolean)) rfl (by decide) rfl (Nat.le_of_ble_eq_true rfl) (L := [(0, .ref (za B 147)), (1, .int v1), (2, .int v2)]) rfl (fun G h hr => ?_)
  rw [f_X12_isKnowing] at hf
  refine z_aload_n h 0 dX12_isKnowing_0 rfl (rfl : 0 + 1 = 1) ?_
  refine z_getr (ci := 11) (C := RX12) (T := TX12) (N := 46) h 7 153 ((hJ.1 147 7 (by decide)).trans rfl) rfl rfl (fun _ hq => List.mem_cons_of_mem _ (List.mem_append_right _ hq)) (by decide) (List.mem_of_getElem? (i := 1) rfl) rfl dX12_isKnowing_1 (rfl : 1 + 3 = 4) ?_
  refine z_iconst h 3 dX12_isKnowing_4 (by decide) (rfl : 4 + 1 = 5) ?_
  refine z_iload_n h 1 dX12_isKnowing_5 rfl (rfl : 5 + 1 = 6) ?_
  refine z_imul h dX12_isKnowing_6 (rfl : 6 + 1 = 7) ?_
  refine z_iload_n h 2 dX12_isKnowing_7 rfl (rfl : 7 + 1 = 8) ?_
  refine z_iadd h dX12_isKnowing_8 (rfl : 8 + 1 = 9) ?_
  obtain ⟨b1, hf⟩ := zchk hf
  refine z_zald h rfl b1 dX12_isKnowing_9 (rfl : 9 + 1 = 10) ?_
  refine z_istore_n h [(3, .int (I 153 (Int32.toNatClampNeg (((3 : Int32) * v1) + v2)))), (0, .ref (za B 147)), (1, .int v1), (2, .int v2)] dX12_isKnowing_10 (by decide) rfl (rfl : 10 + 1 = 11) ?_
  refine z_iconst h 0 dX12_isKnowing_11 (by decide) (rfl : 11 + 1 = 12) ?_
  refine z_istore h [(4, .int 0), (3, .int (I 153 (Int32.toNatClampNeg (((3 : Int32) * v1) + v2)))), (0, .ref (za B 147)), (1, .int v1), (2, .int v2)] dX12_isKnowing_12 (by decide) rfl (rfl : 12 + 2 = 14) ?_
  have loop_14_3 : ∀ (n : Nat) (x3_14 : Int32) (x4_14 : Int32) (I14 : zM) (q : (Int32 × zM) ⊕ (Int32 × Int32 × zM)), f_X12_isKnowing_14 J v1 v2 n x3_14 x4_14 I14 = some q → (∀ a, q = .inl a → a = (r, I')) → (∀ a : Int32 × Int32 × zM, q = .inr a → Z B G zKW (a.2.2) (J) (0, 0) 85 [(0, .ref (za B 147)), (1, .int v1), (2, .int v2), (3, .int a.1), (4, .int a.2.1)] []) → Z B G zKW I14 J (0, 0) 14 [(0, .ref (za B 147)), (1, .int v1), (2, .int v2), (3, .int x3_14), (4, .int x4_14)] [] := by
    intro n; induction n with
    | zero => intro x3_14 x4_14 I14 q hf; exact absurd hf (by rw [f_X12_isKnowing_14]; exact fun z => by cases z)
    | succ n ih =>
      intro x3_14 x4_14 I14 q hf hP hE; rw [f_X12_isKnowing_14] at hf
      refine z_iload h 4 dX12_isKnowing_14 rfl (rfl : 14 + 2 = 16) ?_
      refine z_aload_n h 0 dX12_isKnowing_16 rfl (rfl : 16 + 1 = 17) ?_
      refine z_get (ci := 11) (C := RX12) (T := TX12) (N := 46) h 6 rfl rfl (fun _ hq => List.mem_cons_of_mem _ (List.mem_append_right _ hq)) (by decide) (List.mem_of_getElem? (i := 2) rfl) rfl dX12_isKnowing_17 (rfl : 17 + 3 = 20) ?_
      refine z_icmp_ge (pc' := 23) h 85 dX12_isKnowing_20 (by decide) rfl (fun c4 => ?_) (fun c4 => ?_)
      · have hf := zitt c4 hf
        exact hE (x3_14, x4_14, I14) (zsome hf).symm
      · have hf := zitf c4 hf
        refine z_iload_n h 3 dX12_isKnowing_23 rfl (rfl : 23 + 1 = 24) ?_
        refine z_if_ne (pc' := 27) h 73 dX12_isKnowing_24 (by decide) rfl (fun c5 => ?_) (fun c5 => ?_)
        · have hf := zitf c5 hf
          refine z_iconst h 1 dX12_isKnowing_73 (by decide) (rfl : 73 + 1 = 74) ?_
          refine z_goto (pc' := 78) h dX12_isKnowing_74 (by decide) ?_
          refine z_istore_n h [(3, .int 1), (0, .ref (za B 147)), (1, .int v1), (2, .int v2), (4, .int x4_14)] dX12_isKnowing_78 (by decide) rfl (rfl : 78 + 1 = 79) ?_
          refine z_iinc h 4 (x4_14 + 1) [(4, .int (x4_14 + 1)), (3, .int 1), (0, .ref (za B 147)), (1, .int v1), (2, .int v2)] dX12_isKnowing_79 rfl rfl (by decide) rfl (rfl : 79 + 3 = 82) ?_
          refine z_goto (pc' := 14) h dX12_isKnowing_82 (by decide) ?_
          refine z_sub (L' := [(0, .ref (za B 147)), (1, .int v1), (2, .int v2), (3, .int 1), (4, .int (x4_14 + 1))]) [2, 3, 4, 1, 0] rfl ?_
          exact ih 1 (x4_14 + 1) I14 _ hf hP hE
        · have hf := zitt c5 hf
          refine z_aload_n h 0 dX12_isKnowing_27 rfl (rfl : 27 + 1 = 28) ?_
          refine z_getr (ci := 11) (C := RX12) (T := TX12) (N := 46) h 5 152 ((hJ.1 147 5 (by decide)).trans rfl) rfl rfl (fun _ hq => List.mem_cons_of_mem _ (List.mem_append_right _ hq)) (by decide) (List.mem_of_getElem? (i := 3) rfl) rfl dX12_isKnowing_28 (rfl : 28 + 3 = 31) ?_
          refine z_bipush h 6 dX12_isKnowing_31 (by decide) (rfl : 31 + 2 = 33) ?_
          refine z_iload h 4 dX12_isKnowing_33 rfl (rfl : 33 + 2 = 35) ?_
          refine z_imul h dX12_isKnowing_35 (rfl : 35 + 1 = 36) ?_
          refine z_iconst h 2 dX12_isKnowing_36 (by decide) (rfl : 36 + 1 = 37) ?_
          refine z_iadd h dX12_isKnowing_37 (rfl : 37 + 1 = 38) ?_
          obtain ⟨b6, hf⟩ := zchk hf
          refine z_iald h rfl b6 dX12_isKnowing_38 (rfl : 38 + 1 = 39) ?_
          refine z_iload_n h 2 dX12_isKnowing_39 rfl (rfl : 39 + 1 = 40) ?_
          refine z_icmp_ne (pc' := 43) h 77 dX12_isKnowing_40 (by decide) rfl (fun c7 => ?_) (fun c7 => ?_)
          · have hf := zitf c7 hf
            refine z_iconst h 0 dX12_isKnowing_77 (by decide) (rfl : 77 + 1 = 78) ?_
            refine z_istore_n h [(3, .int 0), (0, .ref (za B 147)), (1, .int v1), (2, .int v2), (4, .int x4_14)] dX12_isKnowing_78 (by decide) rfl (rfl : 78 + 1 = 79) ?_
            refine z_iinc h 4 (x4_14 + 1) [(4, .int (x4_14 + 1)), (3, .int 0), (0, .ref (za B 147)), (1, .int v1), (2, .int v2)] dX12_isKnowing_79 rfl rfl (by decide) rfl (rfl : 79 + 3 = 82) ?_
            refine z_goto (pc' := 14) h dX12_isKnowing_82 (by decide) ?_
            refine z_sub (L' := [(0, .ref (za B 147)), (1, .int v1), (2, .int v2), (3, .int 0), (4, .int (x4_14 + 1))]) [2, 3, 4, 1, 0] rfl ?_
            exact ih 0 (x4_14 + 1) I14 _ hf hP hE
          · have hf := zitt c7 hf
            refine z_aload_n h 0 dX12_isKnowing_43 rfl (rfl : 43 + 1 = 44) ?_
            refine z_getr (ci := 11) (C := RX12) (T := TX12) (N := 46) h 5 152 ((hJ.1 147 5 (by decide)).trans rfl) rfl rfl (fun _ hq => List.mem_cons_of_mem _ (List.mem_append_right _ hq)) (by decide) (List.mem_of_getElem? (i := 3) rfl) rfl dX12_isKnowing_44 (rfl : 44 + 3 = 47) ?_
            refine z_bipush h 6 dX12_isKnowing_47 (by decide) (rfl : 47 + 2 = 49) ?_
            refine z_iload h 4 dX12_isKnowing_49 rfl (rfl : 49 + 2 = 51) ?_
            refine z_imul h dX12_isKnowing_51 (rfl : 51 + 1 = 52) ?_
            obtain ⟨b8, hf⟩ := zchk hf
            refine z_iald h rfl b8 dX12_isKnowing_52 (rfl : 52 + 1 = 53) ?_
            refine z_iload_n h 1 dX12_isKnowing_53 rfl (rfl : 53 + 1 = 54) ?_
            refine z_icmp_eq (pc' := 57) h 73 dX12_isKnowing_54 (by decide) rfl (fun c9 => ?_) (fun c9 => ?_)
            · have hf := zitt c9 hf
              refine z_iconst h 1 dX12_isKnowing_73 (by decide) (rfl : 73 + 1 = 74) ?_
              refine z_goto (pc' := 78) h dX12_isKnowing_74 (by decide) ?_
              refine z_istore_n h [(3, .int 1), (0, .ref (za B 147)), (1, .int v1), (2, .int v2), (4, .int x4_14)] dX12_isKnowing_78 (by decide) rfl (rfl : 78 + 1 = 79) ?_
              refine z_iinc h 4 (x4_14 + 1) [(4, .int (x4_14 + 1)), (3, .int 1), (0, .ref (za B 147)), (1, .int v1), (2, .int v2)] dX12_isKnowing_79 rfl rfl (by decide) rfl (rfl : 79 + 3 = 82) ?_
              refine z_goto (pc' := 14) h dX12_isKnowing_82 (by decide) ?_
              refine z_sub (L' := [(0, .ref (za B 147)), (1, .int v1), (2, .int v2), (3, .int 1), (4, .int (x4_14 + 1))]) [2, 3, 4, 1, 0] rfl ?_
              exact ih 1 (x4_14 + 1) I14 _ hf hP hE
            · have hf := zitf c9 hf
              refine z_aload_n h 0 dX12_isKnowing_57 rfl (rfl : 57 + 1 = 58) ?_
              refine z_getr (ci := 11) (C := RX12) (T := TX12) (N := 46) h 5 152 ((hJ.1 147 5 (by decide)).trans rfl) rfl rfl (fun _ hq => List.mem_cons_of_mem _ (List.mem_append_right _ hq)) (by decide) (List.mem_of_getElem? (i := 3) rfl) rfl dX12_isKnowing_58 (rfl : 58 + 3 = 61) ?_
              refine z_bipush h 6 dX12_isKnowing_61 (by decide) (rfl : 61 + 2 = 63) ?_
              refine z_iload h 4 dX12_isKnowing_63 rfl (rfl : 63 + 2 = 65) ?_
              refine z_imul h dX12_isKnowing_65 (rfl : 65 + 1 = 66) ?_
              refine z_iconst h 1 dX12_isKnowing_66 (by decide) (rfl : 66 + 1 = 67) ?_
              refine z_iadd h dX12_isKnowing_67 (rfl : 67 + 1 = 68) ?_
              obtain ⟨b10, hf⟩ := zchk hf
              refine z_iald h rfl b10 dX12_isKnowing_68 (rfl : 68 + 1 = 69) ?_
              refine z_iload_n h 1 dX12_isKnowing_69 rfl (rfl : 69 + 1 = 70) ?_
              refine z_icmp_ne (pc' := 73) h 77 dX12_isKnowing_70 (by decide) rfl (fun c11 => ?_) (fun c11 => ?_)
              · have hf := zitf c11 hf
                refine z_iconst h 0 dX12_isKnowing_77 (by decide) (rfl : 77 + 1 = 78) ?_
                refine z_istore_n h [(3, .int 0), (0, .ref (za B 147)), (1, .int v1), (2, .int v2), (4, .int x4_14)] dX12_isKnowing_78 (by decide) rfl (rfl : 78 + 1 = 79) ?_
                refine z_iinc h 4 (x4_14 + 1) [(4, .int (x4_14 + 1)), (3, .int 0), (0, .ref (za B 147)), (1, .int v1), (2, .int v2)] dX12_isKnowing_79 rfl rfl (by decide) rfl (rfl : 79 + 3 = 82) ?_
                refine z_goto (pc' := 14) h dX12_isKnowing_82 (by decide) ?_
                refine z_sub (L' := [(0, .ref (za B 147)), (1, .int v1), (2, .int v2), (3, .int 0), (4, .int (x4_14 + 1))]) [2, 3, 4, 1, 0] rfl ?_
                exact ih 0 (x4_14 + 1) I14 _ hf hP hE
              · have hf := zitt c11 hf
                refine z_iconst h 1 dX12_isKnowing_73 (by decide) (rfl : 73 + 1 = 74) ?_
                refine z_goto (pc' := 78) h dX12_isKnowing_74 (by decide) ?_
                refine z_istore_n h [(3, .int 1), (0, .ref (za B 147)), (1, .int v1), (2, .int v2), (4, .int x4_14)] dX12_isKnowing_78 (by decide) rfl (rfl : 78 + 1 = 79) ?_
                refine z_iinc h 4 (x4_14 + 1) [(4, .int (x4_14 + 1)), (3, .int 1), (0, .ref (za B 147)), (1, .int v1), (2, .int v2)] dX12_isKnowing_79 rfl rfl (by decide) rfl (rfl : 79 + 3 = 82) ?_
                refine z_goto (pc' := 14) h dX12_isKnowing_82 (by decide) ?_
                refine z_sub (L' := [(0, .ref (za B 147)), (1, .int v1), (2, .int v2), (3, .int 1), (4, .int (x4_14 + 1))]) [2, 3, 4, 1, 0] rfl ?_
                exact ih 1 (x4_14 + 1) I14 _ hf hP hE
  refine z_sub (L' := [(0, .ref (za B 147)), (1, .int v1), (2, .int v2), (3, .int (I 153 (Int32.toNatClampNeg (((3 : Int32) * v1) + v2)))), (4, .int 0)]) [2, 3, 4, 1, 0] rfl ?_
  obtain ⟨q2, e3, hf⟩ := zbind hf
  refine loop_14_3 _ (I 153 (Int32.toNatClampNeg (((3 : Int32) * v1) + v2))) 0 I q2 e3 (fun a ha => ?_) (fun a12 ha  => ?_)
  · have hf := zell ha hf
    exact zsome hf
  have hf := zelr ha hf
  clear ha loop_14_3
  refine z_iload_n h 3 dX12_isKnowing_85 rfl (rfl : 85 + 1 = 86) ?_
  obtain ⟨b13, hf⟩ := zchk hf
  refine z_zret h hr dX12_isKnowing_86 b13 ?_
  exact ⟨congrArg Prod.fst (zsome hf), congrArg Prod.snd (zsome hf), rfl⟩
noncomputable def f_X12_knows (J : zJ) (v1 : Int32) (v2 : Int32) (I : zM) : Option (Int32 × zM) := ((f_X12_noPerson J v1 (zu I 147 0 0)).bind fun q1 => (if q1.1 = 0 then ((f_X12_noTrade J v2 q1.2).bind fun q4 => (if q4.1 = 0 then ((f_X12_isKnowing J v1 v2 q4.2).bind fun q7 => (if q7.1 = 0 then some ((0, q7.2)) else some ((1, q7.2)))) else some (((-1), q4.2)))) else some (((-1), q1.2))))
noncomputable abbrev rmX12_knows : Room := { frames := 2, cells := 0, slots := 0, locals := 45 }
theorem zyX12_knows : zY yX12_knows wsX12_knows cX12_knows 3 (some .int) 2 := ⟨⟨_, rfl⟩, by decide +kernel⟩
theorem zrX12_knows_X12_isKnowing : zRm rmX12_isKnowing rmX12_knows 5 := ⟨rfl, rfl, by decide, by decide⟩
theorem zrX12_knows_X12_noPerson : zRm rmX12_noPerson rmX12_knows 1 := ⟨rfl, rfl, by decide, by decide⟩
theorem zrX12_knows_X12_noTrade : zRm rmX12_noTrade rmX12_knows 1 := ⟨rfl, rfl, by decide, by decide⟩
set_option maxHeartbeats 1000000 in
set_option maxRecDepth 100000 in
theorem c_X12_knows (B : zB) (I : zM) (J : zJ) (hJ : zJok J) (v1 : Int32) (v2 : Int32) (r : Int32) (I' : zM) (hf : f_X12_knows J v1 v2 I = some (r, I')) : zCi B zKW I J yX12_knows wsX12_knows rmX12_knows [.ref (za B 147), .int v1, .int v2] (fun r2 I2 J2 => r2 = r ∧ I2 = I' ∧ J2 = J) := by
  refine z_start (own := RX12) (cc := cX12_knows) (nL := 3) (ret := (some .int)) rfl (by decide) rfl (Nat.le_of_ble_eq_true rfl) (L := [(0, .ref (za B 147)), (1, .int v1), (2, .int v2)]) rfl (fun G h hr => ?_)
  rw [f_X12_knows] at hf
  refine z_aload_n h 0 dX12_knows_0 rfl (rfl : 0 + 1 = 1) ?_
  refine z_iconst h 0 dX12_knows_1 (by decide) (rfl : 1 + 1 = 2) ?_
  refine z_put (ci := 11) (C := RX12) (T := TX12) (N := 46) h 0 tyX12 tyX12_ok nmX12 rfl rfl (fun _ hq => List.mem_cons_of_mem _ (List.mem_append_right _ hq)) (by decide) (List.mem_of_getElem? (i := 1) rfl) rfl rfl rfl dX12_knows_2 (rfl : 2 + 3 = 5) ?_
  refine z_iload_n h 1 dX12_knows_5 rfl (rfl : 5 + 1 = 6) ?_
  obtain ⟨q1, e2, hf⟩ := zbind hf
  refine z_goF (z_runS h [.int v1] [] zyX12_noPerson (c_X12_noPerson B (zu I 147 0 0) J hJ v1 _ _ e2) gX12_knows_X12_noPerson zrX12_knows_X12_noPerson rfl (Nat.le_of_ble_eq_true rfl) ⟨Nat.zero_le _, Nat.zero_le _⟩ rfl dX12_knows_6) rfl ?_
  refine z_if_ne (pc' := 12) h 19 dX12_knows_9 (by decide) rfl (fun c3 => ?_) (fun c3 => ?_)
  · have hf := zitf c3 hf
    refine z_iconst h (-1) dX12_knows_19 (by decide) (rfl : 19 + 1 = 20) ?_
    refine z_goto (pc' := 37) h dX12_knows_20 (by decide) ?_
    refine z_iret h hr dX12_knows_37 ?_
    exact ⟨congrArg Prod.fst (zsome hf), congrArg Prod.snd (zsome hf), rfl⟩
  · have hf := zitt c3 hf
    refine z_iload_n h 2 dX12_knows_12 rfl (rfl : 12 + 1 = 13) ?_
    obtain ⟨q4, e5, hf⟩ := zbind hf
    refine z_goF (z_runS h [.int v2] [] zyX12_noTrade (c_X12_noTrade B q1.2 J hJ v2 _ _ e5) gX12_knows_X12_noTrade zrX12_knows_X12_noTrade rfl (Nat.le_of_ble_eq_true rfl) ⟨Nat.zero_le _, Nat.zero_le _⟩ rfl dX12_knows_13) rfl ?_
    refine z_if_eq (pc' := 19) h 23 dX12_knows_16 (by decide) rfl (fun c6 => ?_) (fun c6 => ?_)
    · have hf := zitt c6 hf
      refine z_aload_n h 0 dX12_knows_23 rfl (rfl : 23 + 1 = 24) ?_
      refine z_iload_n h 1 dX12_knows_24 rfl (rfl : 24 + 1 = 25) ?_
      refine z_iload_n h 2 dX12_knows_25 rfl (rfl : 25 + 1 = 26) ?_
      obtain ⟨q7, e8, hf⟩ := zbind hf
      refine z_goF (z_runV (C := RX12) (T := TX12) (N := 46) (ci := 11) h [.int v1, .int v2] [] zyX12_isKnowing (c_X12_isKnowing B q4.2 J hJ v1 v2 _ _ e8) gX12_knows_X12_isKnowing rfl rfl rfl zrX12_knows_X12_isKnowing rfl (Nat.le_of_ble_eq_true rfl) ⟨Nat.zero_le _, Nat.zero_le _⟩ rfl dX12_knows_26) rfl ?_
      refine z_if_eq (pc' := 32) h 36 dX12_knows_29 (by decide) rfl (fun c9 => ?_) (fun c9 => ?_)
      · have hf := zitt c9 hf
        refine z_iconst h 0 dX12_knows_36 (by decide) (rfl : 36 + 1 = 37) ?_
        refine z_iret h hr dX12_knows_37 ?_
        exact ⟨congrArg Prod.fst (zsome hf), congrArg Prod.snd (zsome hf), rfl⟩
      · have hf := zitf c9 hf
        refine z_iconst h 1 dX12_knows_32 (by decide) (rfl : 32 + 1 = 33) ?_
        refine z_goto (pc' := 37) h dX12_knows_33 (by decide) ?_
        refine z_iret h hr dX12_knows_37 ?_
        exact ⟨congrArg Prod.fst (zsome hf), congrArg Prod.snd (zsome hf), rfl⟩
    · have hf := zitf c6 hf
      refine z_iconst h (-1) dX12_knows_19 (by decide) (rfl : 19 + 1 = 20) ?_
      refine z_goto (pc' := 37) h dX12_knows_20 (by decide) ?_
      refine z_iret h hr dX12_knows_37 ?_
      exact ⟨congrArg Prod.fst (zsome hf), congrArg Prod.snd (zsome hf), rfl⟩
noncomputable def f_X12_beforeOf_20 (J : zJ) (u1 : Int32) (u2 : Int32) (u3 : Int32) : Nat → Int32 → Int32 → Int32 → Int32 → zM → Option ((Int32 × zM) ⊕ (Int32 × Int32 × Int32 × Int32 × zM))
  | 0, _, _, _, _, _ => none
  | n + 1, x4_20, x5_20, x6_20, x7_20, I20 => (if x7_20 < 0 then some (.inr (x4_20, x5_20, x6_20, x7_20, I20)) else (if x4_20 ≤ 0 then some (.inr (x4_20, x5_20, x6_20, x7_20, I20)) else (if zin ((6 : Int32) * x7_20) 144 = true then (if I20 152 (Int32.toNatClampNeg ((6 : Int32) * x7_20)) = u1 then (if zin (((6 : Int32) * x7_20) + (1 : Int32)) 144 = true then (if I20 152 (Int32.toNatClampNeg (((6 : Int32) * x7_20) + (1 : Int32))) = u2 then (if zin (((6 : Int32) * x7_20) + (3 : Int32)) 144 = true then (if I20 152 (Int32.toNatClampNeg (((6 : Int32) * x7_20) + (3 : Int32))) = u3 then (if x6_20 = 0 then (if zin (((6 : Int32) * x7_20) + (4 : Int32)) 144 = true then f_X12_beforeOf_20 J u1 u2 u3 n (x4_20 + (-1)) (I20 152 (Int32.toNatClampNeg (((6 : Int32) * x7_20) + (4 : Int32)))) 0 (x7_20 + (-1)) I20 else none) else (if zin (((6 : Int32) * x7_20) + (5 : Int32)) 144 = true then (if I20 152 (Int32.toNatClampNeg (((6 : Int32) * x7_20) + (5 : Int32))) = 0 then (if x4_20 = I20 147 8 then (if zin (((6 : Int32) * x7_20) + (4 : Int32)) 144 = true then f_X12_beforeOf_20 J u1 u2 u3 n (x4_20 + (-1)) (I20 152 (Int32.toNatClampNeg (((6 : Int32) * x7_20) + (4 : Int32)))) 1 (x7_20 + (-1)) I20 else none) else (if zin (((6 : Int32) * x7_20) + (4 : Int32)) 144 = true then (if I20 152 (Int32.toNatClampNeg (((6 : Int32) * x7_20) + (4 : Int32))) = x5_20 then (if zin (((6 : Int32) * x7_20) + (4 : Int32)) 144 = true then f_X12_beforeOf_20 J u1 u2 u3 n (x4_20 + (-1)) (I20 152 (Int32.toNatClampNeg (((6 : Int32) * x7_20) + (4 : Int32)))) 1 (x7_20 + (-1)) I20 else none) else (if zin (((6 : Int32) * x7_20) + (4 : Int32)) 144 = true then f_X12_beforeOf_20 J u1 u2 u3 n (x4_20 + (-1)) (I20 152 (Int32.toNatClampNeg (((6 : Int32) * x7_20) + (4 : Int32)))) 0 (x7_20 + (-1)) I20 else none)) else none)) else (if zin (((6 : Int32) * x7_20) + (4 : Int32)) 144 = true then f_X12_beforeOf_20 J u1 u2 u3 n (x4_20 + (-1)) (I20 152 (Int32.toNatClampNeg (((6 : Int32) * x7_20) + (4 : Int32)))) 0 (x7_20 + (-1)) I20 else none)) else none)) else f_X12_beforeOf_20 J u1 u2 u3 n x4_20 x5_20 x6_20 (x7_20 + (-1)) I20) else none) else (if zin ((6 : Int32) * x7_20) 144 = true then (if I20 152 (Int32.toNatClampNeg ((6 : Int32) * x7_20)) = u2 then (if zin (((6 : Int32) * x7_20) + (1 : Int32)) 144 = true then (if I20 152 (Int32.toNatClampNeg (((6 : Int32) * x7_20) + (1 : Int32))) = u1 then (if zin (((6 : Int32) * x7_20) + (3 : Int32)) 144 = true then (if I20 152 (Int32.toNatClampNeg (((6 : Int32) * x7_20) + (3 : Int32))) = u3 then (if x6_20 = 0 then (if zin (((6 : Int32) * x7_20) + (4 : Int32)) 144 = true then f_X12_beforeOf_20 J u1 u2 u3 n (x4_20 + (-1)) (I20 152 (Int32.toNatClampNeg (((6 : Int32) * x7_20) + (4 : Int32)))) 0 (x7_20 + (-1)) I20 else none) else (if zin (((6 : Int32) * x7_20) + (5 : Int32)) 144 = true then (if I20 152 (Int32.toNatClampNeg (((6 : Int32) * x7_20) + (5 : Int32))) = 0 then (if x4_20 = I20 147 8 then (if zin (((6 : Int32) * x7_20) + (4 : Int32)) 144 = true then f_X12_beforeOf_20 J u1 u2 u3 n (x4_20 + (-1)) (I20 152 (Int32.toNatClampNeg (((6 : Int32) * x7_20) + (4 : Int32)))) 1 (x7_20 + (-1)) I20 else none) else (if zin (((6 : Int32) * x7_20) + (4 : Int32)) 144 = true then (if I20 152 (Int32.toNatClampNeg (((6 : Int32) * x7_20) + (4 : Int32))) = x5_20 then (if zin (((6 : Int32) * x7_20) + (4 : Int32)) 144 = true then f_X12_beforeOf_20 J u1 u2 u3 n (x4_20 + (-1)) (I20 152 (Int32.toNatClampNeg (((6 : Int32) * x7_20) + (4 : Int32)))) 1 (x7_20 + (-1)) I20 else none) else (if zin (((6 : Int32) * x7_20) + (4 : Int32)) 144 = true then f_X12_beforeOf_20 J u1 u2 u3 n (x4_20 + (-1)) (I20 152 (Int32.toNatClampNeg (((6 : Int32) * x7_20) + (4 : Int32)))) 0 (x7_20 + (-1)) I20 else none)) else none)) else (if zin (((6 : Int32) * x7_20) + (4 : Int32)) 144 = true then f_X12_beforeOf_20 J u1 u2 u3 n (x4_20 + (-1)) (I20 152 (Int32.toNatClampNeg (((6 : Int32) * x7_20) + (4 : Int32)))) 0 (x7_20 + (-1)) I20 else none)) else none)) else f_X12_beforeOf_20 J u1 u2 u3 n x4_20 x5_20 x6_20 (x7_20 + (-1)) I20) else none) else f_X12_beforeOf_20 J u1 u2 u3 n x4_20 x5_20 x6_20 (x7_20 + (-1)) I20) else none) else f_X12_beforeOf_20 J u1 u2 u3 n x4_20 x5_20 x6_20 (x7_20 + (-1)) I20) else none)) else none) else (if zin ((6 : Int32) * x7_20) 144 = true then (if I20 152 (Int32.toNatClampNeg ((6 : Int32) * x7_20)) = u2 then (if zin (((6 : Int32) * x7_20) + (1 : Int32)) 144 = true then (if I20 152 (Int32.toNatClampNeg (((6 : Int32) * x7_20) + (1 : Int32))) = u1 then (if zin (((6 : Int32) * x7_20) + (3 : Int32)) 144 = true then (if I20 152 (Int32.toNatClampNeg (((6 : Int32) * x7_20) + (3 : Int32))) = u3 then (if x6_20 = 0 then (if zin (((6 : Int32) * x7_20) + (4 : Int32)) 144 = true then f_X12_beforeOf_20 J u1 u2 u3 n (x4_20 + (-1)) (I20 152 (Int32.toNatClampNeg (((6 : Int32) * x7_20) + (4 : Int32)))) 0 (x7_20 + (-1)) I20 else none) else (if zin (((6 : Int32) * x7_20) + (5 : Int32)) 144 = true then (if I20 152 (Int32.toNatClampNeg (((6 : Int32) * x7_20) + (5 : Int32))) = 0 then (if x4_20 = I20 147 8 then (if zin (((6 : Int32) * x7_20) + (4 : Int32)) 144 = true then f_X12_beforeOf_20 J u1 u2 u3 n (x4_20 + (-1)) (I20 152 (Int32.toNatClampNeg (((6 : Int32) * x7_20) + (4 : Int32)))) 1 (x7_20 + (-1)) I20 else none) else (if zin (((6 : Int32) * x7_20) + (4 : Int32)) 144 = true then (if I20 152 (Int32.toNatClampNeg (((6 : Int32) * x7_20) + (4 : Int32))) = x5_20 then (if zin (((6 : Int32) * x7_20) + (4 : Int32)) 144 = true then f_X12_beforeOf_20 J u1 u2 u3 n (x4_20 + (-1)) (I20 152 (Int32.toNatClampNeg (((6 : Int32) * x7_20) + (4 : Int32)))) 1 (x7_20 + (-1)) I20 else none) else (if zin (((6 : Int32) * x7_20) + (4 : Int32)) 144 = true then f_X12_beforeOf_20 J u1 u2 u3 n (x4_20 + (-1)) (I20 152 (Int32.toNatClampNeg (((6 : Int32) * x7_20) + (4 : Int32)))) 0 (x7_20 + (-1)) I20 else none)) else none)) else (if zin (((6 : Int32) * x7_20) + (4 : Int32)) 144 = true then f_X12_beforeOf_20 J u1 u2 u3 n (x4_20 + (-1)) (I20 152 (Int32.toNatClampNeg (((6 : Int32) * x7_20) + (4 : Int32)))) 0 (x7_20 + (-1)) I20 else none)) else none)) else f_X12_beforeOf_20 J u1 u2 u3 n x4_20 x5_20 x6_20 (x7_20 + (-1)) I20) else none) else f_X12_beforeOf_20 J u1 u2 u3 n x4_20 x5_20 x6_20 (x7_20 + (-1)) I20) else none) else f_X12_beforeOf_20 J u1 u2 u3 n x4_20 x5_20 x6_20 (x7_20 + (-1)) I20) else none)) else none)))
noncomputable def f_X12_beforeOf (J : zJ) (v1 : Int32) (v2 : Int32) (v3 : Int32) (I : zM) : Option (Int32 × zM) := ((f_X12_beforeOf_20 J v1 v2 v3 zF (I 147 8) 0 1 ((I 147 6) - (1 : Int32)) I).bind fun q => Sum.elim (fun a => some a) (fun a3 => (if a3.2.2.1 = 0 then some ((0, a3.2.2.2.2)) else (if a3.1 = 0 then some ((a3.2.1, a3.2.2.2.2)) else some ((0, a3.2.2.2.2))))) q)
noncomputable abbrev rmX12_beforeOf : Room := { frames := 0, cells := 0, slots := 0, locals := 0 }
theorem zyX12_beforeOf : zY yX12_beforeOf wsX12_beforeOf cX12_beforeOf 10 (some .int) 3 := ⟨⟨_, rfl⟩, by decide +kernel⟩
set_option maxHeartbeats 1000000 in
set_option maxRecDepth 100000 in
theorem c_X12_beforeOf (B : zB) (I : zM) (J : zJ) (hJ : zJok J) (v1 : Int32) (v2 : Int32) (v3 : Int32) (r : Int32) (I' : zM) (hf : f_X12_beforeOf J v1 v2 v3 I = some (r, I')) : zCi B zKW I J yX12_beforeOf wsX12_beforeOf rmX12_beforeOf [.ref (za B 147), .int v1, .int v2, .int v3] (fun r2 I2 J2 => r2 = r ∧ I2 = I' ∧ J2 = J) := by
  refine z_start (own := RX12) (cc := cX12_beforeOf) (nL := 10) (ret := (some .int)) rfl (by decide) rfl (Nat.le_of_ble_eq_true rfl) (L := [(0, .ref (za B 147)), (1, .int v1), (2, .int v2), (3, .int v3)]) rfl (fun G h hr => ?_)
  rw [f_X12_beforeOf] at hf
  refine z_aload_n h 0 dX12_beforeOf_0 rfl (rfl : 0 + 1 = 1) ?_
  refine z_get (ci := 11) (C := RX12) (T := TX12) (N := 46) h 8 rfl rfl (fun _ hq => List.mem_cons_of_mem _ (List.mem_append_right _ hq)) (by decide) (List.mem_of_getElem? (i := 1) rfl) rfl dX12_beforeOf_1 (rfl : 1 + 3 = 4) ?_
  refine z_istore h [(4, .int (I 147 8)), (0, .ref (za B 147)), (1, .int v1), (2, .int v2), (3, .int v3)] dX12_beforeOf_4 (by decide) rfl (rfl : 4 + 2 = 6) ?_
  refine z_iconst h 0 dX12_beforeOf_6 (by decide) (rfl : 6 + 1 = 7) ?_
  refine z_istore h [(5, .int 0), (4, .int (I 147 8)), (0, .ref (za B 147)), (1, .int v1), (2, .int v2), (3, .int v3)] dX12_beforeOf_7 (by decide) rfl (rfl : 7 + 2 = 9) ?_
  refine z_iconst h 1 dX12_beforeOf_9 (by decide) (rfl : 9 + 1 = 10) ?_
  refine z_istore h [(6, .int 1), (5, .int 0), (4, .int (I 147 8)), (0, .ref (za B 147)), (1, .int v1), (2, .int v2), (3, .int v3)] dX12_beforeOf_10 (by decide) rfl (rfl : 10 + 2 = 12) ?_
  refine z_aload_n h 3 dX12_beforeOf_12 rfl (rfl : 12 + 1 = 13) ?_
  refine z_get (ci := 11) (C := RX12) (T := TX12) (N := 46) h 6 rfl rfl (fun _ hq => List.mem_cons_of_mem _ (List.mem_append_right _ hq)) (by decide) (List.mem_of_getElem? (i := 2) rfl) rfl dX12_beforeOf_13 (rfl : 13 + 3 = 16) ?_
  refine z_iconst h 1 dX12_beforeOf_16 (by decide) (rfl : 16 + 1 = 17) ?_
  refine z_isub h dX12_beforeOf_17 (rfl : 17 + 1 = 18) ?_
  refine z_istore h [(7, .int ((I 147 6) - (1 : Int32))), (6, .int 1), (5, .int 0), (4, .int (I 147 8)), (0, .ref (za B 147)), (1, .int v1), (2, .int v2), (3, .int v3)] dX12_beforeOf_18 (by decide) rfl (rfl : 18 + 2 = 20) ?_
  have loop_20_2 : ∀ (n : Nat) (x4_20 : Int32) (x5_20 : Int32) (x6_20 : Int32) (x7_20 : Int32) (I20 : zM) (q : (Int32 × zM) ⊕ (Int32 × Int32 × Int32 × Int32 × zM)), f_X12_beforeOf_20 J v1 v2 v3 n x4_20 x5_20 x6_20 x7_20 I20 = some q → (∀ a, q = .inl a → a = (r, I')) → (∀ a : Int32 × Int32 × Int32 × Int32 × zM, q = .inr a → Z B G zKW (a.2.2.2.2) (J) (0, 0) 177 [(0, .ref (za B 147)), (1, .int v1), (2, .int v2), (3, .int v3), (4, .int a.1), (5, .int a.2.1), (6, .int a.2.2.1), (7, .int a.2.2.2.1)] []) → Z B G zKW I20 J (0, 0) 20 [(0, .ref (za B 147)), (1, .int v1), (2, .int v2), (3, .int v3), (4, .int x4_20), (5, .int x5_20), (6, .int x6_20), (7, .int x7_20)] [] := by
    intro n; induction n with
    | zero => intro x4_20 x5_20 x6_20 x7_20 I20 q hf; exact absurd hf (by rw [f_X12_beforeOf_20]; exact fun z => by cases z)
    | succ n ih =>
      intro x4_20 x5_20 x6_20 x7_20 I20 q hf hP hE; rw [f_X12_beforeOf_20] at hf
      refine z_iload h 7 dX12_beforeOf_20 rfl (rfl : 20 + 2 = 22) ?_
      refine z_if_lt (pc' := 25) h 177 dX12_beforeOf_22 (by decide) rfl (fun c3 => ?_) (fun c3 => ?_)
      · have hf := zitt c3 hf
        exact hE (x4_20, x5_20, x6_20, x7_20, I20) (zsome hf).symm
      · have hf := zitf c3 hf
        refine z_iload h 4 dX12_beforeOf_25 rfl (rfl : 25 + 2 = 27) ?_
        refine z_if_le (pc' := 30) h 177 dX12_beforeOf_27 (by decide) rfl (fun c4 => ?_) (fun c4 => ?_)
        · have hf := zitt c4 hf
          exact hE (x4_20, x5_20, x6_20, x7_20, I20) (zsome hf).symm
        · have hf := zitf c4 hf
          refine z_bipush h 6 dX12_beforeOf_30 (by decide) (rfl : 30 + 2 = 32) ?_
          refine z_iload h 7 dX12_beforeOf_32 rfl (rfl : 32 + 2 = 34) ?_
          refine z_imul h dX12_beforeOf_34 (rfl : 34 + 1 = 35) ?_
          refine z_istore h [(8, .int ((6 : Int32) * x7_20)), (0, .ref (za B 147)), (1, .int v1), (2, .int v2), (3, .int v3), (4, .int x4_20), (5, .int x5_20), (6, .int x6_20), (7, .int x7_20)] dX12_beforeOf_35 (by decide) rfl (rfl : 35 + 2 = 37) ?_
          refine z_aload_n h 1 dX12_beforeOf_37 rfl (rfl : 37 + 1 = 38) ?_
          refine z_getr (ci := 11) (C := RX12) (T := TX12) (N := 46) h 5 152 ((hJ.1 147 5 (by decide)).trans rfl) rfl rfl (fun _ hq => List.mem_cons_of_mem _ (List.mem_append_right _ hq)) (by decide) (List.mem_of_getElem? (i := 3) rfl) rfl dX12_beforeOf_38 (rfl : 38 + 3 = 41) ?_
          refine z_iload h 0 dX12_beforeOf_41 rfl (rfl : 41 + 2 = 43) ?_
          obtain ⟨b5, hf⟩ := zchk hf
          refine z_iald h rfl b5 dX12_beforeOf_43 (rfl : 43 + 1 = 44) ?_
          refine z_iload_n h 2 dX12_beforeOf_44 rfl (rfl : 44 + 1 = 45) ?_
          refine z_icmp_ne (pc' := 48) h 61 dX12_beforeOf_45 (by decide) rfl (fun c6 => ?_) (fun c6 => ?_)
          · have hf := zitf c6 hf
            refine z_aload_n h 1 dX12_beforeOf_61 rfl (rfl : 61 + 1 = 62) ?_
            refine z_getr (ci := 11) (C := RX12) (T := TX12) (N := 46) h 5 152 ((hJ.1 147 5 (by decide)).trans rfl) rfl rfl (fun _ hq => List.mem_cons_of_mem _ (List.mem_append_right _ hq)) (by decide) (List.mem_of_getElem? (i := 3) rfl) rfl dX12_beforeOf_62 (rfl : 62 + 3 = 65) ?_
            refine z_iload h 0 dX12_beforeOf_65 rfl (rfl : 65 + 2 = 67) ?_
            obtain ⟨b7, hf⟩ := zchk hf
            refine z_iald h rfl b7 dX12_beforeOf_67 (rfl : 67 + 1 = 68) ?_
            refine z_iload_n h 3 dX12_beforeOf_68 rfl (rfl : 68 + 1 = 69) ?_
            refine z_icmp_ne (pc' := 72) h 89 dX12_beforeOf_69 (by decide) rfl (fun c8 => ?_) (fun c8 => ?_)
            · have hf := zitf c8 hf
              refine z_iconst h 0 dX12_beforeOf_89 (by decide) (rfl : 89 + 1 = 90) ?_
              refine z_istore h [(9, .int 0), (8, .int ((6 : Int32) * x7_20)), (0, .ref (za B 147)), (1, .int v1), (2, .int v2), (3, .int v3), (4, .int x4_20), (5, .int x5_20), (6, .int x6_20), (7, .int x7_20)] dX12_beforeOf_90 (by decide) rfl (rfl : 90 + 2 = 92) ?_
              refine z_iload h 0 dX12_beforeOf_92 rfl (rfl : 92 + 2 = 94) ?_
              refine z_if_eq (pc' := 97) h 171 dX12_beforeOf_94 (by decide) rfl (fun _ => ?_) (fun q => absurd q (by decide))
              refine z_iinc h 9 (x7_20 + (-1)) [(7, .int (x7_20 + (-1))), (9, .int 0), (8, .int ((6 : Int32) * x7_20)), (0, .ref (za B 147)), (1, .int v1), (2, .int v2), (3, .int v3), (4, .int x4_20), (5, .int x5_20), (6, .int x6_20)] dX12_beforeOf_171 rfl rfl (by decide) rfl (rfl : 171 + 3 = 174) ?_
              refine z_goto (pc' := 20) h dX12_beforeOf_174 (by decide) ?_
              refine z_sub (L' := [(0, .ref (za B 147)), (1, .int v1), (2, .int v2), (3, .int v3), (4, .int x4_20), (5, .int x5_20), (6, .int x6_20), (7, .int (x7_20 + (-1)))]) [3, 4, 5, 6, 7, 8, 9, 0] rfl ?_
              exact ih x4_20 x5_20 x6_20 (x7_20 + (-1)) I20 _ hf hP hE
            · have hf := zitt c8 hf
              refine z_aload_n h 1 dX12_beforeOf_72 rfl (rfl : 72 + 1 = 73) ?_
              refine z_getr (ci := 11) (C := RX12) (T := TX12) (N := 46) h 5 152 ((hJ.1 147 5 (by decide)).trans rfl) rfl rfl (fun _ hq => List.mem_cons_of_mem _ (List.mem_append_right _ hq)) (by decide) (List.mem_of_getElem? (i := 3) rfl) rfl dX12_beforeOf_73 (rfl : 73 + 3 = 76) ?_
              refine z_iload h 0 dX12_beforeOf_76 rfl (rfl : 76 + 2 = 78) ?_
              refine z_iconst h 1 dX12_beforeOf_78 (by decide) (rfl : 78 + 1 = 79) ?_
              refine z_iadd h dX12_beforeOf_79 (rfl : 79 + 1 = 80) ?_
              obtain ⟨b9, hf⟩ := zchk hf
              refine z_iald h rfl b9 dX12_beforeOf_80 (rfl : 80 + 1 = 81) ?_
              refine z_iload_n h 2 dX12_beforeOf_81 rfl (rfl : 81 + 1 = 82) ?_
              refine z_icmp_ne (pc' := 85) h 89 dX12_beforeOf_82 (by decide) rfl (fun c10 => ?_) (fun c10 => ?_)
              · have hf := zitf c10 hf
                refine z_iconst h 0 dX12_beforeOf_89 (by decide) (rfl : 89 + 1 = 90) ?_
                refine z_istore h [(9, .int 0), (8, .int ((6 : Int32) * x7_20)), (0, .ref (za B 147)), (1, .int v1), (2, .int v2), (3, .int v3), (4, .int x4_20), (5, .int x5_20), (6, .int x6_20), (7, .int x7_20)] dX12_beforeOf_90 (by decide) rfl (rfl : 90 + 2 = 92) ?_
                refine z_iload h 0 dX12_beforeOf_92 rfl (rfl : 92 + 2 = 94) ?_
                refine z_if_eq (pc' := 97) h 171 dX12_beforeOf_94 (by decide) rfl (fun _ => ?_) (fun q => absurd q (by decide))
                refine z_iinc h 9 (x7_20 + (-1)) [(7, .int (x7_20 + (-1))), (9, .int 0), (8, .int ((6 : Int32) * x7_20)), (0, .ref (za B 147)), (1, .int v1), (2, .int v2), (3, .int v3), (4, .int x4_20), (5, .int x5_20), (6, .int x6_20)] dX12_beforeOf_171 rfl rfl (by decide) rfl (rfl : 171 + 3 = 174) ?_
                refine z_goto (pc' := 20) h dX12_beforeOf_174 (by decide) ?_
                refine z_sub (L' := [(0, .ref (za B 147)), (1, .int v1), (2, .int v2), (3, .int v3), (4, .int x4_20), (5, .int x5_20), (6, .int x6_20), (7, .int (x7_20 + (-1)))]) [3, 4, 5, 6, 7, 8, 9, 0] rfl ?_
                exact ih x4_20 x5_20 x6_20 (x7_20 + (-1)) I20 _ hf hP hE
              · have hf := zitt c10 hf
                refine z_iconst h 1 dX12_beforeOf_85 (by decide) (rfl : 85 + 1 = 86) ?_
                refine z_goto (pc' := 90) h dX12_beforeOf_86 (by decide) ?_
                refine z_istore h [(9, .int 1), (8, .int ((6 : Int32) * x7_20)), (0, .ref (za B 147)), (1, .int v1), (2, .int v2), (3, .int v3), (4, .int x4_20), (5, .int x5_20), (6, .int x6_20), (7, .int x7_20)] dX12_beforeOf_90 (by decide) rfl (rfl : 90 + 2 = 92) ?_
                refine z_iload h 0 dX12_beforeOf_92 rfl (rfl : 92 + 2 = 94) ?_
                refine z_if_eq (pc' := 97) h 171 dX12_beforeOf_94 (by decide) rfl (fun q => absurd q (by decide)) (fun _ => ?_)
                refine z_aload_n h 2 dX12_beforeOf_97 rfl (rfl : 97 + 1 = 98) ?_
                refine z_getr (ci := 11) (C := RX12) (T := TX12) (N := 46) h 5 152 ((hJ.1 147 5 (by decide)).trans rfl) rfl rfl (fun _ hq => List.mem_cons_of_mem _ (List.mem_append_right _ hq)) (by decide) (List.mem_of_getElem? (i := 3) rfl) rfl dX12_beforeOf_98 (rfl : 98 + 3 = 101) ?_
                refine z_iload h 1 dX12_beforeOf_101 rfl (rfl : 101 + 2 = 103) ?_
                refine z_iconst h 3 dX12_beforeOf_103 (by decide) (rfl : 103 + 1 = 104) ?_
                refine z_iadd h dX12_beforeOf_104 (rfl : 104 + 1 = 105) ?_
                obtain ⟨b11, hf⟩ := zchk hf
                refine z_iald h rfl b11 dX12_beforeOf_105 (rfl : 105 + 1 = 106) ?_
                refine z_iload_n h 5 dX12_beforeOf_106 rfl (rfl : 106 + 1 = 107) ?_
                refine z_icmp_ne (pc' := 110) h 171 dX12_beforeOf_107 (by decide) rfl (fun c12 => ?_) (fun c12 => ?_)
                · have hf := zitf c12 hf
                  refine z_iinc h 9 (x7_20 + (-1)) [(7, .int (x7_20 + (-1))), (9, .int 1), (8, .int ((6 : Int32) * x7_20)), (0, .ref (za B 147)), (1, .int v1), (2, .int v2), (3, .int v3), (4, .int x4_20), (5, .int x5_20), (6, .int x6_20)] dX12_beforeOf_171 rfl rfl (by decide) rfl (rfl : 171 + 3 = 174) ?_
                  refine z_goto (pc' := 20) h dX12_beforeOf_174 (by decide) ?_
                  refine z_sub (L' := [(0, .ref (za B 147)), (1, .int v1), (2, .int v2), (3, .int v3), (4, .int x4_20), (5, .int x5_20), (6, .int x6_20), (7, .int (x7_20 + (-1)))]) [3, 4, 5, 6, 7, 8, 9, 0] rfl ?_
                  exact ih x4_20 x5_20 x6_20 (x7_20 + (-1)) I20 _ hf hP hE
                · have hf := zitt c12 hf
                  refine z_iload h 8 dX12_beforeOf_110 rfl (rfl : 110 + 2 = 112) ?_
                  refine z_if_eq (pc' := 115) h 154 dX12_beforeOf_112 (by decide) rfl (fun c13 => ?_) (fun c13 => ?_)
                  · have hf := zitt c13 hf
                    refine z_iconst h 0 dX12_beforeOf_154 (by decide) (rfl : 154 + 1 = 155) ?_
                    refine z_istore h [(6, .int 0), (9, .int 1), (8, .int ((6 : Int32) * x7_20)), (0, .ref (za B 147)), (1, .int v1), (2, .int v2), (3, .int v3), (4, .int x4_20), (5, .int x5_20), (7, .int x7_20)] dX12_beforeOf_155 (by decide) rfl (rfl : 155 + 2 = 157) ?_
                    refine z_aload_n h 3 dX12_beforeOf_157 rfl (rfl : 157 + 1 = 158) ?_
                    refine z_getr (ci := 11) (C := RX12) (T := TX12) (N := 46) h 5 152 ((hJ.1 147 5 (by decide)).trans rfl) rfl rfl (fun _ hq => List.mem_cons_of_mem _ (List.mem_append_right _ hq)) (by decide) (List.mem_of_getElem? (i := 3) rfl) rfl dX12_beforeOf_158 (rfl : 158 + 3 = 161) ?_
                    refine z_iload h 2 dX12_beforeOf_161 rfl (rfl : 161 + 2 = 163) ?_
                    refine z_iconst h 4 dX12_beforeOf_163 (by decide) (rfl : 163 + 1 = 164) ?_
                    refine z_iadd h dX12_beforeOf_164 (rfl : 164 + 1 = 165) ?_
                    obtain ⟨b14, hf⟩ := zchk hf
                    refine z_iald h rfl b14 dX12_beforeOf_165 (rfl : 165 + 1 = 166) ?_
                    refine z_istore h [(5, .int (I20 152 (Int32.toNatClampNeg (((6 : Int32) * x7_20) + (4 : Int32))))), (6, .int 0), (9, .int 1), (8, .int ((6 : Int32) * x7_20)), (0, .ref (za B 147)), (1, .int v1), (2, .int v2), (3, .int v3), (4, .int x4_20), (7, .int x7_20)] dX12_beforeOf_166 (by decide) rfl (rfl : 166 + 2 = 168) ?_
                    refine z_iinc h 8 (x4_20 + (-1)) [(4, .int (x4_20 + (-1))), (5, .int (I20 152 (Int32.toNatClampNeg (((6 : Int32) * x7_20) + (4 : Int32))))), (6, .int 0), (9, .int 1), (8, .int ((6 : Int32) * x7_20)), (0, .ref (za B 147)), (1, .int v1), (2, .int v2), (3, .int v3), (7, .int x7_20)] dX12_beforeOf_168 rfl rfl (by decide) rfl (rfl : 168 + 3 = 171) ?_
                    refine z_iinc h 9 (x7_20 + (-1)) [(7, .int (x7_20 + (-1))), (4, .int (x4_20 + (-1))), (5, .int (I20 152 (Int32.toNatClampNeg (((6 : Int32) * x7_20) + (4 : Int32))))), (6, .int 0), (9, .int 1), (8, .int ((6 : Int32) * x7_20)), (0, .ref (za B 147)), (1, .int v1), (2, .int v2), (3, .int v3)] dX12_beforeOf_171 rfl rfl (by decide) rfl (rfl : 171 + 3 = 174) ?_
                    refine z_goto (pc' := 20) h dX12_beforeOf_174 (by decide) ?_
                    refine z_sub (L' := [(0, .ref (za B 147)), (1, .int v1), (2, .int v2), (3, .int v3), (4, .int (x4_20 + (-1))), (5, .int (I20 152 (Int32.toNatClampNeg (((6 : Int32) * x7_20) + (4 : Int32))))), (6, .int 0), (7, .int (x7_20 + (-1)))]) [6, 7, 8, 9, 1, 2, 3, 0] rfl ?_
                    exact ih (x4_20 + (-1)) (I20 152 (Int32.toNatClampNeg (((6 : Int32) * x7_20) + (4 : Int32)))) 0 (x7_20 + (-1)) I20 _ hf hP hE
                  · have hf := zitf c13 hf
                    refine z_aload_n h 2 dX12_beforeOf_115 rfl (rfl : 115 + 1 = 116) ?_
                    refine z_getr (ci := 11) (C := RX12) (T := TX12) (N := 46) h 5 152 ((hJ.1 147 5 (by decide)).trans rfl) rfl rfl (fun _ hq => List.mem_cons_of_mem _ (List.mem_append_right _ hq)) (by decide) (List.mem_of_getElem? (i := 3) rfl) rfl dX12_beforeOf_116 (rfl : 116 + 3 = 119) ?_
                    refine z_iload h 1 dX12_beforeOf_119 rfl (rfl : 119 + 2 = 121) ?_
                    refine z_iconst h 5 dX12_beforeOf_121 (by decide) (rfl : 121 + 1 = 122) ?_
                    refine z_iadd h dX12_beforeOf_122 (rfl : 122 + 1 = 123) ?_
                    obtain ⟨b15, hf⟩ := zchk hf
                    refine z_iald h rfl b15 dX12_beforeOf_123 (rfl : 123 + 1 = 124) ?_
                    refine z_if_ne (pc' := 127) h 154 dX12_beforeOf_124 (by decide) rfl (fun c16 => ?_) (fun c16 => ?_)
                    · have hf := zitf c16 hf
                      refine z_iconst h 0 dX12_beforeOf_154 (by decide) (rfl : 154 + 1 = 155) ?_
                      refine z_istore h [(6, .int 0), (9, .int 1), (8, .int ((6 : Int32) * x7_20)), (0, .ref (za B 147)), (1, .int v1), (2, .int v2), (3, .int v3), (4, .int x4_20), (5, .int x5_20), (7, .int x7_20)] dX12_beforeOf_155 (by decide) rfl (rfl : 155 + 2 = 157) ?_
                      refine z_aload_n h 3 dX12_beforeOf_157 rfl (rfl : 157 + 1 = 158) ?_
                      refine z_getr (ci := 11) (C := RX12) (T := TX12) (N := 46) h 5 152 ((hJ.1 147 5 (by decide)).trans rfl) rfl rfl (fun _ hq => List.mem_cons_of_mem _ (List.mem_append_right _ hq)) (by decide) (List.mem_of_getElem? (i := 3) rfl) rfl dX12_beforeOf_158 (rfl : 158 + 3 = 161) ?_
                      refine z_iload h 2 dX12_beforeOf_161 rfl (rfl : 161 + 2 = 163) ?_
                      refine z_iconst h 4 dX12_beforeOf_163 (by decide) (rfl : 163 + 1 = 164) ?_
                      refine z_iadd h dX12_beforeOf_164 (rfl : 164 + 1 = 165) ?_
                      obtain ⟨b17, hf⟩ := zchk hf
                      refine z_iald h rfl b17 dX12_beforeOf_165 (rfl : 165 + 1 = 166) ?_
                      refine z_istore h [(5, .int (I20 152 (Int32.toNatClampNeg (((6 : Int32) * x7_20) + (4 : Int32))))), (6, .int 0), (9, .int 1), (8, .int ((6 : Int32) * x7_20)), (0, .ref (za B 147)), (1, .int v1), (2, .int v2), (3, .int v3), (4, .int x4_20), (7, .int x7_20)] dX12_beforeOf_166 (by decide) rfl (rfl : 166 + 2 = 168) ?_
                      refine z_iinc h 8 (x4_20 + (-1)) [(4, .int (x4_20 + (-1))), (5, .int (I20 152 (Int32.toNatClampNeg (((6 : Int32) * x7_20) + (4 : Int32))))), (6, .int 0), (9, .int 1), (8, .int ((6 : Int32) * x7_20)), (0, .ref (za B 147)), (1, .int v1), (2, .int v2), (3, .int v3), (7, .int x7_20)] dX12_beforeOf_168 rfl rfl (by decide) rfl (rfl : 168 + 3 = 171) ?_
                      refine z_iinc h 9 (x7_20 + (-1)) [(7, .int (x7_20 + (-1))), (4, .int (x4_20 + (-1))), (5, .int (I20 152 (Int32.toNatClampNeg (((6 : Int32) * x7_20) + (4 : Int32))))), (6, .int 0), (9, .int 1), (8, .int ((6 : Int32) * x7_20)), (0, .ref (za B 147)), (1, .int v1), (2, .int v2), (3, .int v3)] dX12_beforeOf_171 rfl rfl (by decide) rfl (rfl : 171 + 3 = 174) ?_
                      refine z_goto (pc' := 20) h dX12_beforeOf_174 (by decide) ?_
                      refine z_sub (L' := [(0, .ref (za B 147)), (1, .int v1), (2, .int v2), (3, .int v3), (4, .int (x4_20 + (-1))), (5, .int (I20 152 (Int32.toNatClampNeg (((6 : Int32) * x7_20) + (4 : Int32))))), (6, .int 0), (7, .int (x7_20 + (-1)))]) [6, 7, 8, 9, 1, 2, 3, 0] rfl ?_
                      exact ih (x4_20 + (-1)) (I20 152 (Int32.toNatClampNeg (((6 : Int32) * x7_20) + (4 : Int32)))) 0 (x7_20 + (-1)) I20 _ hf hP hE
                    · have hf := zitt c16 hf
                      refine z_iload h 6 dX12_beforeOf_127 rfl (rfl : 127 + 2 = 129) ?_
                      refine z_aload_n h 2 dX12_beforeOf_129 rfl (rfl : 129 + 1 = 130) ?_
                      refine z_get (ci := 11) (C := RX12) (T := TX12) (N := 46) h 8 rfl rfl (fun _ hq => List.mem_cons_of_mem _ (List.mem_append_right _ hq)) (by decide) (List.mem_of_getElem? (i := 1) rfl) rfl dX12_beforeOf_130 (rfl : 130 + 3 = 133) ?_
                      refine z_icmp_eq (pc' := 136) h 150 dX12_beforeOf_133 (by decide) rfl (fun c18 => ?_) (fun c18 => ?_)
                      · have hf := zitt c18 hf
                        refine z_iconst h 1 dX12_beforeOf_150 (by decide) (rfl : 150 + 1 = 151) ?_
                        refine z_goto (pc' := 155) h dX12_beforeOf_151 (by decide) ?_
                        refine z_istore h [(6, .int 1), (9, .int 1), (8, .int ((6 : Int32) * x7_20)), (0, .ref (za B 147)), (1, .int v1), (2, .int v2), (3, .int v3), (4, .int x4_20), (5, .int x5_20), (7, .int x7_20)] dX12_beforeOf_155 (by decide) rfl (rfl : 155 + 2 = 157) ?_
                        refine z_aload_n h 3 dX12_beforeOf_157 rfl (rfl : 157 + 1 = 158) ?_
                        refine z_getr (ci := 11) (C := RX12) (T := TX12) (N := 46) h 5 152 ((hJ.1 147 5 (by decide)).trans rfl) rfl rfl (fun _ hq => List.mem_cons_of_mem _ (List.mem_append_right _ hq)) (by decide) (List.mem_of_getElem? (i := 3) rfl) rfl dX12_beforeOf_158 (rfl : 158 + 3 = 161) ?_
                        refine z_iload h 2 dX12_beforeOf_161 rfl (rfl : 161 + 2 = 163) ?_
                        refine z_iconst h 4 dX12_beforeOf_163 (by decide) (rfl : 163 + 1 = 164) ?_
                        refine z_iadd h dX12_beforeOf_164 (rfl : 164 + 1 = 165) ?_
                        obtain ⟨b19, hf⟩ := zchk hf
                        refine z_iald h rfl b19 dX12_beforeOf_165 (rfl : 165 + 1 = 166) ?_
                        refine z_istore h [(5, .int (I20 152 (Int32.toNatClampNeg (((6 : Int32) * x7_20) + (4 : Int32))))), (6, .int 1), (9, .int 1), (8, .int ((6 : Int32) * x7_20)), (0, .ref (za B 147)), (1, .int v1), (2, .int v2), (3, .int v3), (4, .int x4_20), (7, .int x7_20)] dX12_beforeOf_166 (by decide) rfl (rfl : 166 + 2 = 168) ?_
                        refine z_iinc h 8 (x4_20 + (-1)) [(4, .int (x4_20 + (-1))), (5, .int (I20 152 (Int32.toNatClampNeg (((6 : Int32) * x7_20) + (4 : Int32))))), (6, .int 1), (9, .int 1), (8, .int ((6 : Int32) * x7_20)), (0, .ref (za B 147)), (1, .int v1), (2, .int v2), (3, .int v3), (7, .int x7_20)] dX12_beforeOf_168 rfl rfl (by decide) rfl (rfl : 168 + 3 = 171) ?_
                        refine z_iinc h 9 (x7_20 + (-1)) [(7, .int (x7_20 + (-1))), (4, .int (x4_20 + (-1))), (5, .int (I20 152 (Int32.toNatClampNeg (((6 : Int32) * x7_20) + (4 : Int32))))), (6, .int 1), (9, .int 1), (8, .int ((6 : Int32) * x7_20)), (0, .ref (za B 147)), (1, .int v1), (2, .int v2), (3, .int v3)] dX12_beforeOf_171 rfl rfl (by decide) rfl (rfl : 171 + 3 = 174) ?_
                        refine z_goto (pc' := 20) h dX12_beforeOf_174 (by decide) ?_
                        refine z_sub (L' := [(0, .ref (za B 147)), (1, .int v1), (2, .int v2), (3, .int v3), (4, .int (x4_20 + (-1))), (5, .int (I20 152 (Int32.toNatClampNeg (((6 : Int32) * x7_20) + (4 : Int32))))), (6, .int 1), (7, .int (x7_20 + (-1)))]) [6, 7, 8, 9, 1, 2, 3, 0] rfl ?_
                        exact ih (x4_20 + (-1)) (I20 152 (Int32.toNatClampNeg (((6 : Int32) * x7_20) + (4 : Int32)))) 1 (x7_20 + (-1)) I20 _ hf hP hE
                      · have hf := zitf c18 hf
                        refine z_aload_n h 2 dX12_beforeOf_136 rfl (rfl : 136 + 1 = 137) ?_
                        refine z_getr (ci := 11) (C := RX12) (T := TX12) (N := 46) h 5 152 ((hJ.1 147 5 (by decide)).trans rfl) rfl rfl (fun _ hq => List.mem_cons_of_mem _ (List.mem_append_right _ hq)) (by decide) (List.mem_of_getElem? (i := 3) rfl) rfl dX12_beforeOf_137 (rfl : 137 + 3 = 140) ?_
                        refine z_iload h 1 dX12_beforeOf_140 rfl (rfl : 140 + 2 = 142) ?_
                        refine z_iconst h 4 dX12_beforeOf_142 (by decide) (rfl : 142 + 1 = 143) ?_
                        refine z_iadd h dX12_beforeOf_143 (rfl : 143 + 1 = 144) ?_
                        obtain ⟨b20, hf⟩ := zchk hf
                        refine z_iald h rfl b20 dX12_beforeOf_144 (rfl : 144 + 1 = 145) ?_
                        refine z_iload h 7 dX12_beforeOf_145 rfl (rfl : 145 + 2 = 147) ?_
                        refine z_icmp_ne (pc' := 150) h 154 dX12_beforeOf_147 (by decide) rfl (fun c21 => ?_) (fun c21 => ?_)
                        · have hf := zitf c21 hf
                          refine z_iconst h 0 dX12_beforeOf_154 (by decide) (rfl : 154 + 1 = 155) ?_
                          refine z_istore h [(6, .int 0), (9, .int 1), (8, .int ((6 : Int32) * x7_20)), (0, .ref (za B 147)), (1, .int v1), (2, .int v2), (3, .int v3), (4, .int x4_20), (5, .int x5_20), (7, .int x7_20)] dX12_beforeOf_155 (by decide) rfl (rfl : 155 + 2 = 157) ?_
                          refine z_aload_n h 3 dX12_beforeOf_157 rfl (rfl : 157 + 1 = 158) ?_
                          refine z_getr (ci := 11) (C := RX12) (T := TX12) (N := 46) h 5 152 ((hJ.1 147 5 (by decide)).trans rfl) rfl rfl (fun _ hq => List.mem_cons_of_mem _ (List.mem_append_right _ hq)) (by decide) (List.mem_of_getElem? (i := 3) rfl) rfl dX12_beforeOf_158 (rfl : 158 + 3 = 161) ?_
                          refine z_iload h 2 dX12_beforeOf_161 rfl (rfl : 161 + 2 = 163) ?_
                          refine z_iconst h 4 dX12_beforeOf_163 (by decide) (rfl : 163 + 1 = 164) ?_
                          refine z_iadd h dX12_beforeOf_164 (rfl : 164 + 1 = 165) ?_
                          obtain ⟨b22, hf⟩ := zchk hf
                          refine z_iald h rfl b22 dX12_beforeOf_165 (rfl : 165 + 1 = 166) ?_
                          refine z_istore h [(5, .int (I20 152 (Int32.toNatClampNeg (((6 : Int32) * x7_20) + (4 : Int32))))), (6, .int 0), (9, .int 1), (8, .int ((6 : Int32) * x7_20)), (0, .ref (za B 147)), (1, .int v1), (2, .int v2), (3, .int v3), (4, .int x4_20), (7, .int x7_20)] dX12_beforeOf_166 (by decide) rfl (rfl : 166 + 2 = 168) ?_
                          refine z_iinc h 8 (x4_20 + (-1)) [(4, .int (x4_20 + (-1))), (5, .int (I20 152 (Int32.toNatClampNeg (((6 : Int32) * x7_20) + (4 : Int32))))), (6, .int 0), (9, .int 1), (8, .int ((6 : Int32) * x7_20)), (0, .ref (za B 147)), (1, .int v1), (2, .int v2), (3, .int v3), (7, .int x7_20)] dX12_beforeOf_168 rfl rfl (by decide) rfl (rfl : 168 + 3 = 171) ?_
                          refine z_iinc h 9 (x7_20 + (-1)) [(7, .int (x7_20 + (-1))), (4, .int (x4_20 + (-1))), (5, .int (I20 152 (Int32.toNatClampNeg (((6 : Int32) * x7_20) + (4 : Int32))))), (6, .int 0), (9, .int 1), (8, .int ((6 : Int32) * x7_20)), (0, .ref (za B 147)), (1, .int v1), (2, .int v2), (3, .int v3)] dX12_beforeOf_171 rfl rfl (by decide) rfl (rfl : 171 + 3 = 174) ?_
                          refine z_goto (pc' := 20) h dX12_beforeOf_174 (by decide) ?_
                          refine z_sub (L' := [(0, .ref (za B 147)), (1, .int v1), (2, .int v2), (3, .int v3), (4, .int (x4_20 + (-1))), (5, .int (I20 152 (Int32.toNatClampNeg (((6 : Int32) * x7_20) + (4 : Int32))))), (6, .int 0), (7, .int (x7_20 + (-1)))]) [6, 7, 8, 9, 1, 2, 3, 0] rfl ?_
                          exact ih (x4_20 + (-1)) (I20 152 (Int32.toNatClampNeg (((6 : Int32) * x7_20) + (4 : Int32)))) 0 (x7_20 + (-1)) I20 _ hf hP hE
                        · have hf := zitt c21 hf
                          refine z_iconst h 1 dX12_beforeOf_150 (by decide) (rfl : 150 + 1 = 151) ?_
                          refine z_goto (pc' := 155) h dX12_beforeOf_151 (by decide) ?_
                          refine z_istore h [(6, .int 1), (9, .int 1), (8, .int ((6 : Int32) * x7_20)), (0, .ref (za B 147)), (1, .int v1), (2, .int v2), (3, .int v3), (4, .int x4_20), (5, .int x5_20), (7, .int x7_20)] dX12_beforeOf_155 (by decide) rfl (rfl : 155 + 2 = 157) ?_
                          refine z_aload_n h 3 dX12_beforeOf_157 rfl (rfl : 157 + 1 = 158) ?_
                          refine z_getr (ci := 11) (C := RX12) (T := TX12) (N := 46) h 5 152 ((hJ.1 147 5 (by decide)).trans rfl) rfl rfl (fun _ hq => List.mem_cons_of_mem _ (List.mem_append_right _ hq)) (by decide) (List.mem_of_getElem? (i := 3) rfl) rfl dX12_beforeOf_158 (rfl : 158 + 3 = 161) ?_
                          refine z_iload h 2 dX12_beforeOf_161 rfl (rfl : 161 + 2 = 163) ?_
                          refine z_iconst h 4 dX12_beforeOf_163 (by decide) (rfl : 163 + 1 = 164) ?_
                          refine z_iadd h dX12_beforeOf_164 (rfl : 164 + 1 = 165) ?_
                          obtain ⟨b23, hf⟩ := zchk hf
                          refine z_iald h rfl b23 dX12_beforeOf_165 (rfl : 165 + 1 = 166) ?_
                          refine z_istore h [(5, .int (I20 152 (Int32.toNatClampNeg (((6 : Int32) * x7_20) + (4 : Int32))))), (6, .int 1), (9, .int 1), (8, .int ((6 : Int32) * x7_20)), (0, .ref (za B 147)), (1, .int v1), (2, .int v2), (3, .int v3), (4, .int x4_20), (7, .int x7_20)] dX12_beforeOf_166 (by decide) rfl (rfl : 166 + 2 = 168) ?_
                          refine z_iinc h 8 (x4_20 + (-1)) [(4, .int (x4_20 + (-1))), (5, .int (I20 152 (Int32.toNatClampNeg (((6 : Int32) * x7_20) + (4 : Int32))))), (6, .int 1), (9, .int 1), (8, .int ((6 : Int32) * x7_20)), (0, .ref (za B 147)), (1, .int v1), (2, .int v2), (3, .int v3), (7, .int x7_20)] dX12_beforeOf_168 rfl rfl (by decide) rfl (rfl : 168 + 3 = 171) ?_
                          refine z_iinc h 9 (x7_20 + (-1)) [(7, .int (x7_20 + (-1))), (4, .int (x4_20 + (-1))), (5, .int (I20 152 (Int32.toNatClampNeg (((6 : Int32) * x7_20) + (4 : Int32))))), (6, .int 1), (9, .int 1), (8, .int ((6 : Int32) * x7_20)), (0, .ref (za B 147)), (1, .int v1), (2, .int v2), (3, .int v3)] dX12_beforeOf_171 rfl rfl (by decide) rfl (rfl : 171 + 3 = 174) ?_
                          refine z_goto (pc' := 20) h dX12_beforeOf_174 (by decide) ?_
                          refine z_sub (L' := [(0, .ref (za B 147)), (1, .int v1), (2, .int v2), (3, .int v3), (4, .int (x4_20 + (-1))), (5, .int (I20 152 (Int32.toNatClampNeg (((6 : Int32) * x7_20) + (4 : Int32))))), (6, .int 1), (7, .int (x7_20 + (-1)))]) [6, 7, 8, 9, 1, 2, 3, 0] rfl ?_
                          exact ih (x4_20 + (-1)) (I20 152 (Int32.toNatClampNeg (((6 : Int32) * x7_20) + (4 : Int32)))) 1 (x7_20 + (-1)) I20 _ hf hP hE
          · have hf := zitt c6 hf
            refine z_aload_n h 1 dX12_beforeOf_48 rfl (rfl : 48 + 1 = 49) ?_
            refine z_getr (ci := 11) (C := RX12) (T := TX12) (N := 46) h 5 152 ((hJ.1 147 5 (by decide)).trans rfl) rfl rfl (fun _ hq => List.mem_cons_of_mem _ (List.mem_append_right _ hq)) (by decide) (List.mem_of_getElem? (i := 3) rfl) rfl dX12_beforeOf_49 (rfl : 49 + 3 = 52) ?_
            refine z_iload h 0 dX12_beforeOf_52 rfl (rfl : 52 + 2 = 54) ?_
            refine z_iconst h 1 dX12_beforeOf_54 (by decide) (rfl : 54 + 1 = 55) ?_
            refine z_iadd h dX12_beforeOf_55 (rfl : 55 + 1 = 56) ?_
            obtain ⟨b24, hf⟩ := zchk hf
            refine z_iald h rfl b24 dX12_beforeOf_56 (rfl : 56 + 1 = 57) ?_
            refine z_iload_n h 3 dX12_beforeOf_57 rfl (rfl : 57 + 1 = 58) ?_
            refine z_icmp_eq (pc' := 61) h 85 dX12_beforeOf_58 (by decide) rfl (fun c25 => ?_) (fun c25 => ?_)
            · have hf := zitt c25 hf
              refine z_iconst h 1 dX12_beforeOf_85 (by decide) (rfl : 85 + 1 = 86) ?_
              refine z_goto (pc' := 90) h dX12_beforeOf_86 (by decide) ?_
              refine z_istore h [(9, .int 1), (8, .int ((6 : Int32) * x7_20)), (0, .ref (za B 147)), (1, .int v1), (2, .int v2), (3, .int v3), (4, .int x4_20), (5, .int x5_20), (6, .int x6_20), (7, .int x7_20)] dX12_beforeOf_90 (by decide) rfl (rfl : 90 + 2 = 92) ?_
              refine z_iload h 0 dX12_beforeOf_92 rfl (rfl : 92 + 2 = 94) ?_
              refine z_if_eq (pc' := 97) h 171 dX12_beforeOf_94 (by decide) rfl (fun q => absurd q (by decide)) (fun _ => ?_)
              refine z_aload_n h 2 dX12_beforeOf_97 rfl (rfl : 97 + 1 = 98) ?_
              refine z_getr (ci := 11) (C := RX12) (T := TX12) (N := 46) h 5 152 ((hJ.1 147 5 (by decide)).trans rfl) rfl rfl (fun _ hq => List.mem_cons_of_mem _ (List.mem_append_right _ hq)) (by decide) (List.mem_of_getElem? (i := 3) rfl) rfl dX12_beforeOf_98 (rfl : 98 + 3 = 101) ?_
              refine z_iload h 1 dX12_beforeOf_101 rfl (rfl : 101 + 2 = 103) ?_
              refine z_iconst h 3 dX12_beforeOf_103 (by decide) (rfl : 103 + 1 = 104) ?_
              refine z_iadd h dX12_beforeOf_104 (rfl : 104 + 1 = 105) ?_
              obtain ⟨b26, hf⟩ := zchk hf
              refine z_iald h rfl b26 dX12_beforeOf_105 (rfl : 105 + 1 = 106) ?_
              refine z_iload_n h 5 dX12_beforeOf_106 rfl (rfl : 106 + 1 = 107) ?_
              refine z_icmp_ne (pc' := 110) h 171 dX12_beforeOf_107 (by decide) rfl (fun c27 => ?_) (fun c27 => ?_)
              · have hf := zitf c27 hf
                refine z_iinc h 9 (x7_20 + (-1)) [(7, .int (x7_20 + (-1))), (9, .int 1), (8, .int ((6 : Int32) * x7_20)), (0, .ref (za B 147)), (1, .int v1), (2, .int v2), (3, .int v3), (4, .int x4_20), (5, .int x5_20), (6, .int x6_20)] dX12_beforeOf_171 rfl rfl (by decide) rfl (rfl : 171 + 3 = 174) ?_
                refine z_goto (pc' := 20) h dX12_beforeOf_174 (by decide) ?_
                refine z_sub (L' := [(0, .ref (za B 147)), (1, .int v1), (2, .int v2), (3, .int v3), (4, .int x4_20), (5, .int x5_20), (6, .int x6_20), (7, .int (x7_20 + (-1)))]) [3, 4, 5, 6, 7, 8, 9, 0] rfl ?_
                exact ih x4_20 x5_20 x6_20 (x7_20 + (-1)) I20 _ hf hP hE
              · have hf := zitt c27 hf
                refine z_iload h 8 dX12_beforeOf_110 rfl (rfl : 110 + 2 = 112) ?_
                refine z_if_eq (pc' := 115) h 154 dX12_beforeOf_112 (by decide) rfl (fun c28 => ?_) (fun c28 => ?_)
                · have hf := zitt c28 hf
                  refine z_iconst h 0 dX12_beforeOf_154 (by decide) (rfl : 154 + 1 = 155) ?_
                  refine z_istore h [(6, .int 0), (9, .int 1), (8, .int ((6 : Int32) * x7_20)), (0, .ref (za B 147)), (1, .int v1), (2, .int v2), (3, .int v3), (4, .int x4_20), (5, .int x5_20), (7, .int x7_20)] dX12_beforeOf_155 (by decide) rfl (rfl : 155 + 2 = 157) ?_
                  refine z_aload_n h 3 dX12_beforeOf_157 rfl (rfl : 157 + 1 = 158) ?_
                  refine z_getr (ci := 11) (C := RX12) (T := TX12) (N := 46) h 5 152 ((hJ.1 147 5 (by decide)).trans rfl) rfl rfl (fun _ hq => List.mem_cons_of_mem _ (List.mem_append_right _ hq)) (by decide) (List.mem_of_getElem? (i := 3) rfl) rfl dX12_beforeOf_158 (rfl : 158 + 3 = 161) ?_
                  refine z_iload h 2 dX12_beforeOf_161 rfl (rfl : 161 + 2 = 163) ?_
                  refine z_iconst h 4 dX12_beforeOf_163 (by decide) (rfl : 163 + 1 = 164) ?_
                  refine z_iadd h dX12_beforeOf_164 (rfl : 164 + 1 = 165) ?_
                  obtain ⟨b29, hf⟩ := zchk hf
                  refine z_iald h rfl b29 dX12_beforeOf_165 (rfl : 165 + 1 = 166) ?_
                  refine z_istore h [(5, .int (I20 152 (Int32.toNatClampNeg (((6 : Int32) * x7_20) + (4 : Int32))))), (6, .int 0), (9, .int 1), (8, .int ((6 : Int32) * x7_20)), (0, .ref (za B 147)), (1, .int v1), (2, .int v2), (3, .int v3), (4, .int x4_20), (7, .int x7_20)] dX12_beforeOf_166 (by decide) rfl (rfl : 166 + 2 = 168) ?_
                  refine z_iinc h 8 (x4_20 + (-1)) [(4, .int (x4_20 + (-1))), (5, .int (I20 152 (Int32.toNatClampNeg (((6 : Int32) * x7_20) + (4 : Int32))))), (6, .int 0), (9, .int 1), (8, .int ((6 : Int32) * x7_20)), (0, .ref (za B 147)), (1, .int v1), (2, .int v2), (3, .int v3), (7, .int x7_20)] dX12_beforeOf_168 rfl rfl (by decide) rfl (rfl : 168 + 3 = 171) ?_
                  refine z_iinc h 9 (x7_20 + (-1)) [(7, .int (x7_20 + (-1))), (4, .int (x4_20 + (-1))), (5, .int (I20 152 (Int32.toNatClampNeg (((6 : Int32) * x7_20) + (4 : Int32))))), (6, .int 0), (9, .int 1), (8, .int ((6 : Int32) * x7_20)), (0, .ref (za B 147)), (1, .int v1), (2, .int v2), (3, .int v3)] dX12_beforeOf_171 rfl rfl (by decide) rfl (rfl : 171 + 3 = 174) ?_
                  refine z_goto (pc' := 20) h dX12_beforeOf_174 (by decide) ?_
                  refine z_sub (L' := [(0, .ref (za B 147)), (1, .int v1), (2, .int v2), (3, .int v3), (4, .int (x4_20 + (-1))), (5, .int (I20 152 (Int32.toNatClampNeg (((6 : Int32) * x7_20) + (4 : Int32))))), (6, .int 0), (7, .int (x7_20 + (-1)))]) [6, 7, 8, 9, 1, 2, 3, 0] rfl ?_
                  exact ih (x4_20 + (-1)) (I20 152 (Int32.toNatClampNeg (((6 : Int32) * x7_20) + (4 : Int32)))) 0 (x7_20 + (-1)) I20 _ hf hP hE
                · have hf := zitf c28 hf
                  refine z_aload_n h 2 dX12_beforeOf_115 rfl (rfl : 115 + 1 = 116) ?_
                  refine z_getr (ci := 11) (C := RX12) (T := TX12) (N := 46) h 5 152 ((hJ.1 147 5 (by decide)).trans rfl) rfl rfl (fun _ hq => List.mem_cons_of_mem _ (List.mem_append_right _ hq)) (by decide) (List.mem_of_getElem? (i := 3) rfl) rfl dX12_beforeOf_116 (rfl : 116 + 3 = 119) ?_
                  refine z_iload h 1 dX12_beforeOf_119 rfl (rfl : 119 + 2 = 121) ?_
                  refine z_iconst h 5 dX12_beforeOf_121 (by decide) (rfl : 121 + 1 = 122) ?_
                  refine z_iadd h dX12_beforeOf_122 (rfl : 122 + 1 = 123) ?_
                  obtain ⟨b30, hf⟩ := zchk hf
                  refine z_iald h rfl b30 dX12_beforeOf_123 (rfl : 123 + 1 = 124) ?_
                  refine z_if_ne (pc' := 127) h 154 dX12_beforeOf_124 (by decide) rfl (fun c31 => ?_) (fun c31 => ?_)
                  · have hf := zitf c31 hf
                    refine z_iconst h 0 dX12_beforeOf_154 (by decide) (rfl : 154 + 1 = 155) ?_
                    refine z_istore h [(6, .int 0), (9, .int 1), (8, .int ((6 : Int32) * x7_20)), (0, .ref (za B 147)), (1, .int v1), (2, .int v2), (3, .int v3), (4, .int x4_20), (5, .int x5_20), (7, .int x7_20)] dX12_beforeOf_155 (by decide) rfl (rfl : 155 + 2 = 157) ?_
                    refine z_aload_n h 3 dX12_beforeOf_157 rfl (rfl : 157 + 1 = 158) ?_
                    refine z_getr (ci := 11) (C := RX12) (T := TX12) (N := 46) h 5 152 ((hJ.1 147 5 (by decide)).trans rfl) rfl rfl (fun _ hq => List.mem_cons_of_mem _ (List.mem_append_right _ hq)) (by decide) (List.mem_of_getElem? (i := 3) rfl) rfl dX12_beforeOf_158 (rfl : 158 + 3 = 161) ?_
                    refine z_iload h 2 dX12_beforeOf_161 rfl (rfl : 161 + 2 = 163) ?_
                    refine z_iconst h 4 dX12_beforeOf_163 (by decide) (rfl : 163 + 1 = 164) ?_
                    refine z_iadd h dX12_beforeOf_164 (rfl : 164 + 1 = 165) ?_
                    obtain ⟨b32, hf⟩ := zchk hf
                    refine z_iald h rfl b32 dX12_beforeOf_165 (rfl : 165 + 1 = 166) ?_
                    refine z_istore h [(5, .int (I20 152 (Int32.toNatClampNeg (((6 : Int32) * x7_20) + (4 : Int32))))), (6, .int 0), (9, .int 1), (8, .int ((6 : Int32) * x7_20)), (0, .ref (za B 147)), (1, .int v1), (2, .int v2), (3, .int v3), (4, .int x4_20), (7, .int x7_20)] dX12_beforeOf_166 (by decide) rfl (rfl : 166 + 2 = 168) ?_
                    refine z_iinc h 8 (x4_20 + (-1)) [(4, .int (x4_20 + (-1))), (5, .int (I20 152 (Int32.toNatClampNeg (((6 : Int32) * x7_20) + (4 : Int32))))), (6, .int 0), (9, .int 1), (8, .int ((6 : Int32) * x7_20)), (0, .ref (za B 147)), (1, .int v1), (2, .int v2), (3, .int v3), (7, .int x7_20)] dX12_beforeOf_168 rfl rfl (by decide) rfl (rfl : 168 + 3 = 171) ?_
                    refine z_iinc h 9 (x7_20 + (-1)) [(7, .int (x7_20 + (-1))), (4, .int (x4_20 + (-1))), (5, .int (I20 152 (Int32.toNatClampNeg (((6 : Int32) * x7_20) + (4 : Int32))))), (6, .int 0), (9, .int 1), (8, .int ((6 : Int32) * x7_20)), (0, .ref (za B 147)), (1, .int v1), (2, .int v2), (3, .int v3)] dX12_beforeOf_171 rfl rfl (by decide) rfl (rfl : 171 + 3 = 174) ?_
                    refine z_goto (pc' := 20) h dX12_beforeOf_174 (by decide) ?_
                    refine z_sub (L' := [(0, .ref (za B 147)), (1, .int v1), (2, .int v2), (3, .int v3), (4, .int (x4_20 + (-1))), (5, .int (I20 152 (Int32.toNatClampNeg (((6 : Int32) * x7_20) + (4 : Int32))))), (6, .int 0), (7, .int (x7_20 + (-1)))]) [6, 7, 8, 9, 1, 2, 3, 0] rfl ?_
                    exact ih (x4_20 + (-1)) (I20 152 (Int32.toNatClampNeg (((6 : Int32) * x7_20) + (4 : Int32)))) 0 (x7_20 + (-1)) I20 _ hf hP hE
                  · have hf := zitt c31 hf
                    refine z_iload h 6 dX12_beforeOf_127 rfl (rfl : 127 + 2 = 129) ?_
                    refine z_aload_n h 2 dX12_beforeOf_129 rfl (rfl : 129 + 1 = 130) ?_
                    refine z_get (ci := 11) (C := RX12) (T := TX12) (N := 46) h 8 rfl rfl (fun _ hq => List.mem_cons_of_mem _ (List.mem_append_right _ hq)) (by decide) (List.mem_of_getElem? (i := 1) rfl) rfl dX12_beforeOf_130 (rfl : 130 + 3 = 133) ?_
                    refine z_icmp_eq (pc' := 136) h 150 dX12_beforeOf_133 (by decide) rfl (fun c33 => ?_) (fun c33 => ?_)
                    · have hf := zitt c33 hf
                      refine z_iconst h 1 dX12_beforeOf_150 (by decide) (rfl : 150 + 1 = 151) ?_
                      refine z_goto (pc' := 155) h dX12_beforeOf_151 (by decide) ?_
                      refine z_istore h [(6, .int 1), (9, .int 1), (8, .int ((6 : Int32) * x7_20)), (0, .ref (za B 147)), (1, .int v1), (2, .int v2), (3, .int v3), (4, .int x4_20), (5, .int x5_20), (7, .int x7_20)] dX12_beforeOf_155 (by decide) rfl (rfl : 155 + 2 = 157) ?_
                      refine z_aload_n h 3 dX12_beforeOf_157 rfl (rfl : 157 + 1 = 158) ?_
                      refine z_getr (ci := 11) (C := RX12) (T := TX12) (N := 46) h 5 152 ((hJ.1 147 5 (by decide)).trans rfl) rfl rfl (fun _ hq => List.mem_cons_of_mem _ (List.mem_append_right _ hq)) (by decide) (List.mem_of_getElem? (i := 3) rfl) rfl dX12_beforeOf_158 (rfl : 158 + 3 = 161) ?_
                      refine z_iload h 2 dX12_beforeOf_161 rfl (rfl : 161 + 2 = 163) ?_
                      refine z_iconst h 4 dX12_beforeOf_163 (by decide) (rfl : 163 + 1 = 164) ?_
                      refine z_iadd h dX12_beforeOf_164 (rfl : 164 + 1 = 165) ?_
                      obtain ⟨b34, hf⟩ := zchk hf
                      refine z_iald h rfl b34 dX12_beforeOf_165 (rfl : 165 + 1 = 166) ?_
                      refine z_istore h [(5, .int (I20 152 (Int32.toNatClampNeg (((6 : Int32) * x7_20) + (4 : Int32))))), (6, .int 1), (9, .int 1), (8, .int ((6 : Int32) * x7_20)), (0, .ref (za B 147)), (1, .int v1), (2, .int v2), (3, .int v3), (4, .int x4_20), (7, .int x7_20)] dX12_beforeOf_166 (by decide) rfl (rfl : 166 + 2 = 168) ?_
                      refine z_iinc h 8 (x4_20 + (-1)) [(4, .int (x4_20 + (-1))), (5, .int (I20 152 (Int32.toNatClampNeg (((6 : Int32) * x7_20) + (4 : Int32))))), (6, .int 1), (9, .int 1), (8, .int ((6 : Int32) * x7_20)), (0, .ref (za B 147)), (1, .int v1), (2, .int v2), (3, .int v3), (7, .int x7_20)] dX12_beforeOf_168 rfl rfl (by decide) rfl (rfl : 168 + 3 = 171) ?_
                      refine z_iinc h 9 (x7_20 + (-1)) [(7, .int (x7_20 + (-1))), (4, .int (x4_20 + (-1))), (5, .int (I20 152 (Int32.toNatClampNeg (((6 : Int32) * x7_20) + (4 : Int32))))), (6, .int 1), (9, .int 1), (8, .int ((6 : Int32) * x7_20)), (0, .ref (za B 147)), (1, .int v1), (2, .int v2), (3, .int v3)] dX12_beforeOf_171 rfl rfl (by decide) rfl (rfl : 171 + 3 = 174) ?_
                      refine z_goto (pc' := 20) h dX12_beforeOf_174 (by decide) ?_
                      refine z_sub (L' := [(0, .ref (za B 147)), (1, .int v1), (2, .int v2), (3, .int v3), (4, .int (x4_20 + (-1))), (5, .int (I20 152 (Int32.toNatClampNeg (((6 : Int32) * x7_20) + (4 : Int32))))), (6, .int 1), (7, .int (x7_20 + (-1)))]) [6, 7, 8, 9, 1, 2, 3, 0] rfl ?_
                      exact ih (x4_20 + (-1)) (I20 152 (Int32.toNatClampNeg (((6 : Int32) * x7_20) + (4 : Int32)))) 1 (x7_20 + (-1)) I20 _ hf hP hE
                    · have hf := zitf c33 hf
                      refine z_aload_n h 2 dX12_beforeOf_136 rfl (rfl : 136 + 1 = 137) ?_
                      refine z_getr (ci := 11) (C := RX12) (T := TX12) (N := 46) h 5 152 ((hJ.1 147 5 (by decide)).trans rfl) rfl rfl (fun _ hq => List.mem_cons_of_mem _ (List.mem_append_right _ hq)) (by decide) (List.mem_of_getElem? (i := 3) rfl) rfl dX12_beforeOf_137 (rfl : 137 + 3 = 140) ?_
                      refine z_iload h 1 dX12_beforeOf_140 rfl (rfl : 140 + 2 = 142) ?_
                      refine z_iconst h 4 dX12_beforeOf_142 (by decide) (rfl : 142 + 1 = 143) ?_
                      refine z_iadd h dX12_beforeOf_143 (rfl : 143 + 1 = 144) ?_
                      obtain ⟨b35, hf⟩ := zchk hf
                      refine z_iald h rfl b35 dX12_beforeOf_144 (rfl : 144 + 1 = 145) ?_
                      refine z_iload h 7 dX12_beforeOf_145 rfl (rfl : 145 + 2 = 147) ?_
                      refine z_icmp_ne (pc' := 150) h 154 dX12_beforeOf_147 (by decide) rfl (fun c36 => ?_) (fun c36 => ?_)
                      · have hf := zitf c36 hf
                        refine z_iconst h 0 dX12_beforeOf_154 (by decide) (rfl : 154 + 1 = 155) ?_
                        refine z_istore h [(6, .int 0), (9, .int 1), (8, .int ((6 : Int32) * x7_20)), (0, .ref (za B 147)), (1, .int v1), (2, .int v2), (3, .int v3), (4, .int x4_20), (5, .int x5_20), (7, .int x7_20)] dX12_beforeOf_155 (by decide) rfl (rfl : 155 + 2 = 157) ?_
                        refine z_aload_n h 3 dX12_beforeOf_157 rfl (rfl : 157 + 1 = 158) ?_
                        refine z_getr (ci := 11) (C := RX12) (T := TX12) (N := 46) h 5 152 ((hJ.1 147 5 (by decide)).trans rfl) rfl rfl (fun _ hq => List.mem_cons_of_mem _ (List.mem_append_right _ hq)) (by decide) (List.mem_of_getElem? (i := 3) rfl) rfl dX12_beforeOf_158 (rfl : 158 + 3 = 161) ?_
                        refine z_iload h 2 dX12_beforeOf_161 rfl (rfl : 161 + 2 = 163) ?_
                        refine z_iconst h 4 dX12_beforeOf_163 (by decide) (rfl : 163 + 1 = 164) ?_
                        refine z_iadd h dX12_beforeOf_164 (rfl : 164 + 1 = 165) ?_
                        obtain ⟨b37, hf⟩ := zchk hf
                        refine z_iald h rfl b37 dX12_beforeOf_165 (rfl : 165 + 1 = 166) ?_
                        refine z_istore h [(5, .int (I20 152 (Int32.toNatClampNeg (((6 : Int32) * x7_20) + (4 : Int32))))), (6, .int 0), (9, .int 1), (8, .int ((6 : Int32) * x7_20)), (0, .ref (za B 147)), (1, .int v1), (2, .int v2), (3, .int v3), (4, .int x4_20), (7, .int x7_20)] dX12_beforeOf_166 (by decide) rfl (rfl : 166 + 2 = 168) ?_
                        refine z_iinc h 8 (x4_20 + (-1)) [(4, .int (x4_20 + (-1))), (5, .int (I20 152 (Int32.toNatClampNeg (((6 : Int32) * x7_20) + (4 : Int32))))), (6, .int 0), (9, .int 1), (8, .int ((6 : Int32) * x7_20)), (0, .ref (za B 147)), (1, .int v1), (2, .int v2), (3, .int v3), (7, .int x7_20)] dX12_beforeOf_168 rfl rfl (by decide) rfl (rfl : 168 + 3 = 171) ?_
                        refine z_iinc h 9 (x7_20 + (-1)) [(7, .int (x7_20 + (-1))), (4, .int (x4_20 + (-1))), (5, .int (I20 152 (Int32.toNatClampNeg (((6 : Int32) * x7_20) + (4 : Int32))))), (6, .int 0), (9, .int 1), (8, .int ((6 : Int32) * x7_20)), (0, .ref (za B 147)), (1, .int v1), (2, .int v2), (3, .int v3)] dX12_beforeOf_171 rfl rfl (by decide) rfl (rfl : 171 + 3 = 174) ?_
                        refine z_goto (pc' := 20) h dX12_beforeOf_174 (by decide) ?_
                        refine z_sub (L' := [(0, .ref (za B 147)), (1, .int v1), (2, .int v2), (3, .int v3), (4, .int (x4_20 + (-1))), (5, .int (I20 152 (Int32.toNatClampNeg (((6 : Int32) * x7_20) + (4 : Int32))))), (6, .int 0), (7, .int (x7_20 + (-1)))]) [6, 7, 8, 9, 1, 2, 3, 0] rfl ?_
                        exact ih (x4_20 + (-1)) (I20 152 (Int32.toNatClampNeg (((6 : Int32) * x7_20) + (4 : Int32)))) 0 (x7_20 + (-1)) I20 _ hf hP hE
                      · have hf := zitt c36 hf
                        refine z_iconst h 1 dX12_beforeOf_150 (by decide) (rfl : 150 + 1 = 151) ?_
                        refine z_goto (pc' := 155) h dX12_beforeOf_151 (by decide) ?_
                        refine z_istore h [(6, .int 1), (9, .int 1), (8, .int ((6 : Int32) * x7_20)), (0, .ref (za B 147)), (1, .int v1), (2, .int v2), (3, .int v3), (4, .int x4_20), (5, .int x5_20), (7, .int x7_20)] dX12_beforeOf_155 (by decide) rfl (rfl : 155 + 2 = 157) ?_
                        refine z_aload_n h 3 dX12_beforeOf_157 rfl (rfl : 157 + 1 = 158) ?_
                        refine z_getr (ci := 11) (C := RX12) (T := TX12) (N := 46) h 5 152 ((hJ.1 147 5 (by decide)).trans rfl) rfl rfl (fun _ hq => List.mem_cons_of_mem _ (List.mem_append_right _ hq)) (by decide) (List.mem_of_getElem? (i := 3) rfl) rfl dX12_beforeOf_158 (rfl : 158 + 3 = 161) ?_
                        refine z_iload h 2 dX12_beforeOf_161 rfl (rfl : 161 + 2 = 163) ?_
                        refine z_iconst h 4 dX12_beforeOf_163 (by decide) (rfl : 163 + 1 = 164) ?_
                        refine z_iadd h dX12_beforeOf_164 (rfl : 164 + 1 = 165) ?_
                        obtain ⟨b38, hf⟩ := zchk hf
                        refine z_iald h rfl b38 dX12_beforeOf_165 (rfl : 165 + 1 = 166) ?_
                        refine z_istore h [(5, .int (I20 152 (Int32.toNatClampNeg (((6 : Int32) * x7_20) + (4 : Int32))))), (6, .int 1), (9, .int 1), (8, .int ((6 : Int32) * x7_20)), (0, .ref (za B 147)), (1, .int v1), (2, .int v2), (3, .int v3), (4, .int x4_20), (7, .int x7_20)] dX12_beforeOf_166 (by decide) rfl (rfl : 166 + 2 = 168) ?_
                        refine z_iinc h 8 (x4_20 + (-1)) [(4, .int (x4_20 + (-1))), (5, .int (I20 152 (Int32.toNatClampNeg (((6 : Int32) * x7_20) + (4 : Int32))))), (6, .int 1), (9, .int 1), (8, .int ((6 : Int32) * x7_20)), (0, .ref (za B 147)), (1, .int v1), (2, .int v2), (3, .int v3), (7, .int x7_20)] dX12_beforeOf_168 rfl rfl (by decide) rfl (rfl : 168 + 3 = 171) ?_
                        refine z_iinc h 9 (x7_20 + (-1)) [(7, .int (x7_20 + (-1))), (4, .int (x4_20 + (-1))), (5, .int (I20 152 (Int32.toNatClampNeg (((6 : Int32) * x7_20) + (4 : Int32))))), (6, .int 1), (9, .int 1), (8, .int ((6 : Int32) * x7_20)), (0, .ref (za B 147)), (1, .int v1), (2, .int v2), (3, .int v3)] dX12_beforeOf_171 rfl rfl (by decide) rfl (rfl : 171 + 3 = 174) ?_
                        refine z_goto (pc' := 20) h dX12_beforeOf_174 (by decide) ?_
                        refine z_sub (L' := [(0, .ref (za B 147)), (1, .int v1), (2, .int v2), (3, .int v3), (4, .int (x4_20 + (-1))), (5, .int (I20 152 (Int32.toNatClampNeg (((6 : Int32) * x7_20) + (4 : Int32))))), (6, .int 1), (7, .int (x7_20 + (-1)))]) [6, 7, 8, 9, 1, 2, 3, 0] rfl ?_
                        exact ih (x4_20 + (-1)) (I20 152 (Int32.toNatClampNeg (((6 : Int32) * x7_20) + (4 : Int32)))) 1 (x7_20 + (-1)) I20 _ hf hP hE
            · have hf := zitf c25 hf
              refine z_aload_n h 1 dX12_beforeOf_61 rfl (rfl : 61 + 1 = 62) ?_
              refine z_getr (ci := 11) (C := RX12) (T := TX12) (N := 46) h 5 152 ((hJ.1 147 5 (by decide)).trans rfl) rfl rfl (fun _ hq => List.mem_cons_of_mem _ (List.mem_append_right _ hq)) (by decide) (List.mem_of_getElem? (i := 3) rfl) rfl dX12_beforeOf_62 (rfl : 62 + 3 = 65) ?_
              refine z_iload h 0 dX12_beforeOf_65 rfl (rfl : 65 + 2 = 67) ?_
              obtain ⟨b39, hf⟩ := zchk hf
              refine z_iald h rfl b39 dX12_beforeOf_67 (rfl : 67 + 1 = 68) ?_
              refine z_iload_n h 3 dX12_beforeOf_68 rfl (rfl : 68 + 1 = 69) ?_
              refine z_icmp_ne (pc' := 72) h 89 dX12_beforeOf_69 (by decide) rfl (fun c40 => ?_) (fun c40 => ?_)
              · have hf := zitf c40 hf
                refine z_iconst h 0 dX12_beforeOf_89 (by decide) (rfl : 89 + 1 = 90) ?_
                refine z_istore h [(9, .int 0), (8, .int ((6 : Int32) * x7_20)), (0, .ref (za B 147)), (1, .int v1), (2, .int v2), (3, .int v3), (4, .int x4_20), (5, .int x5_20), (6, .int x6_20), (7, .int x7_20)] dX12_beforeOf_90 (by decide) rfl (rfl : 90 + 2 = 92) ?_
                refine z_iload h 0 dX12_beforeOf_92 rfl (rfl : 92 + 2 = 94) ?_
                refine z_if_eq (pc' := 97) h 171 dX12_beforeOf_94 (by decide) rfl (fun _ => ?_) (fun q => absurd q (by decide))
                refine z_iinc h 9 (x7_20 + (-1)) [(7, .int (x7_20 + (-1))), (9, .int 0), (8, .int ((6 : Int32) * x7_20)), (0, .ref (za B 147)), (1, .int v1), (2, .int v2), (3, .int v3), (4, .int x4_20), (5, .int x5_20), (6, .int x6_20)] dX12_beforeOf_171 rfl rfl (by decide) rfl (rfl : 171 + 3 = 174) ?_
                refine z_goto (pc' := 20) h dX12_beforeOf_174 (by decide) ?_
                refine z_sub (L' := [(0, .ref (za B 147)), (1, .int v1), (2, .int v2), (3, .int v3), (4, .int x4_20), (5, .int x5_20), (6, .int x6_20), (7, .int (x7_20 + (-1)))]) [3, 4, 5, 6, 7, 8, 9, 0] rfl ?_
                exact ih x4_20 x5_20 x6_20 (x7_20 + (-1)) I20 _ hf hP hE
              · have hf := zitt c40 hf
                refine z_aload_n h 1 dX12_beforeOf_72 rfl (rfl : 72 + 1 = 73) ?_
                refine z_getr (ci := 11) (C := RX12) (T := TX12) (N := 46) h 5 152 ((hJ.1 147 5 (by decide)).trans rfl) rfl rfl (fun _ hq => List.mem_cons_of_mem _ (List.mem_append_right _ hq)) (by decide) (List.mem_of_getElem? (i := 3) rfl) rfl dX12_beforeOf_73 (rfl : 73 + 3 = 76) ?_
                refine z_iload h 0 dX12_beforeOf_76 rfl (rfl : 76 + 2 = 78) ?_
                refine z_iconst h 1 dX12_beforeOf_78 (by decide) (rfl : 78 + 1 = 79) ?_
                refine z_iadd h dX12_beforeOf_79 (rfl : 79 + 1 = 80) ?_
                obtain ⟨b41, hf⟩ := zchk hf
                refine z_iald h rfl b41 dX12_beforeOf_80 (rfl : 80 + 1 = 81) ?_
                refine z_iload_n h 2 dX12_beforeOf_81 rfl (rfl : 81 + 1 = 82) ?_
                refine z_icmp_ne (pc' := 85) h 89 dX12_beforeOf_82 (by decide) rfl (fun c42 => ?_) (fun c42 => ?_)
                · have hf := zitf c42 hf
                  refine z_iconst h 0 dX12_beforeOf_89 (by decide) (rfl : 89 + 1 = 90) ?_
                  refine z_istore h [(9, .int 0), (8, .int ((6 : Int32) * x7_20)), (0, .ref (za B 147)), (1, .int v1), (2, .int v2), (3, .int v3), (4, .int x4_20), (5, .int x5_20), (6, .int x6_20), (7, .int x7_20)] dX12_beforeOf_90 (by decide) rfl (rfl : 90 + 2 = 92) ?_
                  refine z_iload h 0 dX12_beforeOf_92 rfl (rfl : 92 + 2 = 94) ?_
                  refine z_if_eq (pc' := 97) h 171 dX12_beforeOf_94 (by decide) rfl (fun _ => ?_) (fun q => absurd q (by decide))
                  refine z_iinc h 9 (x7_20 + (-1)) [(7, .int (x7_20 + (-1))), (9, .int 0), (8, .int ((6 : Int32) * x7_20)), (0, .ref (za B 147)), (1, .int v1), (2, .int v2), (3, .int v3), (4, .int x4_20), (5, .int x5_20), (6, .int x6_20)] dX12_beforeOf_171 rfl rfl (by decide) rfl (rfl : 171 + 3 = 174) ?_
                  refine z_goto (pc' := 20) h dX12_beforeOf_174 (by decide) ?_
                  refine z_sub (L' := [(0, .ref (za B 147)), (1, .int v1), (2, .int v2), (3, .int v3), (4, .int x4_20), (5, .int x5_20), (6, .int x6_20), (7, .int (x7_20 + (-1)))]) [3, 4, 5, 6, 7, 8, 9, 0] rfl ?_
                  exact ih x4_20 x5_20 x6_20 (x7_20 + (-1)) I20 _ hf hP hE
                · have hf := zitt c42 hf
                  refine z_iconst h 1 dX12_beforeOf_85 (by decide) (rfl : 85 + 1 = 86) ?_
                  refine z_goto (pc' := 90) h dX12_beforeOf_86 (by decide) ?_
                  refine z_istore h [(9, .int 1), (8, .int ((6 : Int32) * x7_20)), (0, .ref (za B 147)), (1, .int v1), (2, .int v2), (3, .int v3), (4, .int x4_20), (5, .int x5_20), (6, .int x6_20), (7, .int x7_20)] dX12_beforeOf_90 (by decide) rfl (rfl : 90 + 2 = 92) ?_
                  refine z_iload h 0 dX12_beforeOf_92 rfl (rfl : 92 + 2 = 94) ?_
                  refine z_if_eq (pc' := 97) h 171 dX12_beforeOf_94 (by decide) rfl (fun q => absurd q (by decide)) (fun _ => ?_)
                  refine z_aload_n h 2 dX12_beforeOf_97 rfl (rfl : 97 + 1 = 98) ?_
                  refine z_getr (ci := 11) (C := RX12) (T := TX12) (N := 46) h 5 152 ((hJ.1 147 5 (by decide)).trans rfl) rfl rfl (fun _ hq => List.mem_cons_of_mem _ (List.mem_append_right _ hq)) (by decide) (List.mem_of_getElem? (i := 3) rfl) rfl dX12_beforeOf_98 (rfl : 98 + 3 = 101) ?_
                  refine z_iload h 1 dX12_beforeOf_101 rfl (rfl : 101 + 2 = 103) ?_
                  refine z_iconst h 3 dX12_beforeOf_103 (by decide) (rfl : 103 + 1 = 104) ?_
                  refine z_iadd h dX12_beforeOf_104 (rfl : 104 + 1 = 105) ?_
                  obtain ⟨b43, hf⟩ := zchk hf
                  refine z_iald h rfl b43 dX12_beforeOf_105 (rfl : 105 + 1 = 106) ?_
                  refine z_iload_n h 5 dX12_beforeOf_106 rfl (rfl : 106 + 1 = 107) ?_
                  refine z_icmp_ne (pc' := 110) h 171 dX12_beforeOf_107 (by decide) rfl (fun c44 => ?_) (fun c44 => ?_)
                  · have hf := zitf c44 hf
                    refine z_iinc h 9 (x7_20 + (-1)) [(7, .int (x7_20 + (-1))), (9, .int 1), (8, .int ((6 : Int32) * x7_20)), (0, .ref (za B 147)), (1, .int v1), (2, .int v2), (3, .int v3), (4, .int x4_20), (5, .int x5_20), (6, .int x6_20)] dX12_beforeOf_171 rfl rfl (by decide) rfl (rfl : 171 + 3 = 174) ?_
                    refine z_goto (pc' := 20) h dX12_beforeOf_174 (by decide) ?_
                    refine z_sub (L' := [(0, .ref (za B 147)), (1, .int v1), (2, .int v2), (3, .int v3), (4, .int x4_20), (5, .int x5_20), (6, .int x6_20), (7, .int (x7_20 + (-1)))]) [3, 4, 5, 6, 7, 8, 9, 0] rfl ?_
                    exact ih x4_20 x5_20 x6_20 (x7_20 + (-1)) I20 _ hf hP hE
                  · have hf := zitt c44 hf
                    refine z_iload h 8 dX12_beforeOf_110 rfl (rfl : 110 + 2 = 112) ?_
                    refine z_if_eq (pc' := 115) h 154 dX12_beforeOf_112 (by decide) rfl (fun c45 => ?_) (fun c45 => ?_)
                    · have hf := zitt c45 hf
                      refine z_iconst h 0 dX12_beforeOf_154 (by decide) (rfl : 154 + 1 = 155) ?_
                      refine z_istore h [(6, .int 0), (9, .int 1), (8, .int ((6 : Int32) * x7_20)), (0, .ref (za B 147)), (1, .int v1), (2, .int v2), (3, .int v3), (4, .int x4_20), (5, .int x5_20), (7, .int x7_20)] dX12_beforeOf_155 (by decide) rfl (rfl : 155 + 2 = 157) ?_
                      refine z_aload_n h 3 dX12_beforeOf_157 rfl (rfl : 157 + 1 = 158) ?_
                      refine z_getr (ci := 11) (C := RX12) (T := TX12) (N := 46) h 5 152 ((hJ.1 147 5 (by decide)).trans rfl) rfl rfl (fun _ hq => List.mem_cons_of_mem _ (List.mem_append_right _ hq)) (by decide) (List.mem_of_getElem? (i := 3) rfl) rfl dX12_beforeOf_158 (rfl : 158 + 3 = 161) ?_
                      refine z_iload h 2 dX12_beforeOf_161 rfl (rfl : 161 + 2 = 163) ?_
                      refine z_iconst h 4 dX12_beforeOf_163 (by decide) (rfl : 163 + 1 = 164) ?_
                      refine z_iadd h dX12_beforeOf_164 (rfl : 164 + 1 = 165) ?_
                      obtain ⟨b46, hf⟩ := zchk hf
                      refine z_iald h rfl b46 dX12_beforeOf_165 (rfl : 165 + 1 = 166) ?_
                      refine z_istore h [(5, .int (I20 152 (Int32.toNatClampNeg (((6 : Int32) * x7_20) + (4 : Int32))))), (6, .int 0), (9, .int 1), (8, .int ((6 : Int32) * x7_20)), (0, .ref (za B 147)), (1, .int v1), (2, .int v2), (3, .int v3), (4, .int x4_20), (7, .int x7_20)] dX12_beforeOf_166 (by decide) rfl (rfl : 166 + 2 = 168) ?_
                      refine z_iinc h 8 (x4_20 + (-1)) [(4, .int (x4_20 + (-1))), (5, .int (I20 152 (Int32.toNatClampNeg (((6 : Int32) * x7_20) + (4 : Int32))))), (6, .int 0), (9, .int 1), (8, .int ((6 : Int32) * x7_20)), (0, .ref (za B 147)), (1, .int v1), (2, .int v2), (3, .int v3), (7, .int x7_20)] dX12_beforeOf_168 rfl rfl (by decide) rfl (rfl : 168 + 3 = 171) ?_
                      refine z_iinc h 9 (x7_20 + (-1)) [(7, .int (x7_20 + (-1))), (4, .int (x4_20 + (-1))), (5, .int (I20 152 (Int32.toNatClampNeg (((6 : Int32) * x7_20) + (4 : Int32))))), (6, .int 0), (9, .int 1), (8, .int ((6 : Int32) * x7_20)), (0, .ref (za B 147)), (1, .int v1), (2, .int v2), (3, .int v3)] dX12_beforeOf_171 rfl rfl (by decide) rfl (rfl : 171 + 3 = 174) ?_
                      refine z_goto (pc' := 20) h dX12_beforeOf_174 (by decide) ?_
                      refine z_sub (L' := [(0, .ref (za B 147)), (1, .int v1), (2, .int v2), (3, .int v3), (4, .int (x4_20 + (-1))), (5, .int (I20 152 (Int32.toNatClampNeg (((6 : Int32) * x7_20) + (4 : Int32))))), (6, .int 0), (7, .int (x7_20 + (-1)))]) [6, 7, 8, 9, 1, 2, 3, 0] rfl ?_
                      exact ih (x4_20 + (-1)) (I20 152 (Int32.toNatClampNeg (((6 : Int32) * x7_20) + (4 : Int32)))) 0 (x7_20 + (-1)) I20 _ hf hP hE
                    · have hf := zitf c45 hf
                      refine z_aload_n h 2 dX12_beforeOf_115 rfl (rfl : 115 + 1 = 116) ?_
                      refine z_getr (ci := 11) (C := RX12) (T := TX12) (N := 46) h 5 152 ((hJ.1 147 5 (by decide)).trans rfl) rfl rfl (fun _ hq => List.mem_cons_of_mem _ (List.mem_append_right _ hq)) (by decide) (List.mem_of_getElem? (i := 3) rfl) rfl dX12_beforeOf_116 (rfl : 116 + 3 = 119) ?_
                      refine z_iload h 1 dX12_beforeOf_119 rfl (rfl : 119 + 2 = 121) ?_
                      refine z_iconst h 5 dX12_beforeOf_121 (by decide) (rfl : 121 + 1 = 122) ?_
                      refine z_iadd h dX12_beforeOf_122 (rfl : 122 + 1 = 123) ?_
                      obtain ⟨b47, hf⟩ := zchk hf
                      refine z_iald h rfl b47 dX12_beforeOf_123 (rfl : 123 + 1 = 124) ?_
                      refine z_if_ne (pc' := 127) h 154 dX12_beforeOf_124 (by decide) rfl (fun c48 => ?_) (fun c48 => ?_)
                      · have hf := zitf c48 hf
                        refine z_iconst h 0 dX12_beforeOf_154 (by decide) (rfl : 154 + 1 = 155) ?_
                        refine z_istore h [(6, .int 0), (9, .int 1), (8, .int ((6 : Int32) * x7_20)), (0, .ref (za B 147)), (1, .int v1), (2, .int v2), (3, .int v3), (4, .int x4_20), (5, .int x5_20), (7, .int x7_20)] dX12_beforeOf_155 (by decide) rfl (rfl : 155 + 2 = 157) ?_
                        refine z_aload_n h 3 dX12_beforeOf_157 rfl (rfl : 157 + 1 = 158) ?_
                        refine z_getr (ci := 11) (C := RX12) (T := TX12) (N := 46) h 5 152 ((hJ.1 147 5 (by decide)).trans rfl) rfl rfl (fun _ hq => List.mem_cons_of_mem _ (List.mem_append_right _ hq)) (by decide) (List.mem_of_getElem? (i := 3) rfl) rfl dX12_beforeOf_158 (rfl : 158 + 3 = 161) ?_
                        refine z_iload h 2 dX12_beforeOf_161 rfl (rfl : 161 + 2 = 163) ?_
                        refine z_iconst h 4 dX12_beforeOf_163 (by decide) (rfl : 163 + 1 = 164) ?_
                        refine z_iadd h dX12_beforeOf_164 (rfl : 164 + 1 = 165) ?_
                        obtain ⟨b49, hf⟩ := zchk hf
                        refine z_iald h rfl b49 dX12_beforeOf_165 (rfl : 165 + 1 = 166) ?_
                        refine z_istore h [(5, .int (I20 152 (Int32.toNatClampNeg (((6 : Int32) * x7_20) + (4 : Int32))))), (6, .int 0), (9, .int 1), (8, .int ((6 : Int32) * x7_20)), (0, .ref (za B 147)), (1, .int v1), (2, .int v2), (3, .int v3), (4, .int x4_20), (7, .int x7_20)] dX12_beforeOf_166 (by decide) rfl (rfl : 166 + 2 = 168) ?_
                        refine z_iinc h 8 (x4_20 + (-1)) [(4, .int (x4_20 + (-1))), (5, .int (I20 152 (Int32.toNatClampNeg (((6 : Int32) * x7_20) + (4 : Int32))))), (6, .int 0), (9, .int 1), (8, .int ((6 : Int32) * x7_20)), (0, .ref (za B 147)), (1, .int v1), (2, .int v2), (3, .int v3), (7, .int x7_20)] dX12_beforeOf_168 rfl rfl (by decide) rfl (rfl : 168 + 3 = 171) ?_
                        refine z_iinc h 9 (x7_20 + (-1)) [(7, .int (x7_20 + (-1))), (4, .int (x4_20 + (-1))), (5, .int (I20 152 (Int32.toNatClampNeg (((6 : Int32) * x7_20) + (4 : Int32))))), (6, .int 0), (9, .int 1), (8, .int ((6 : Int32) * x7_20)), (0, .ref (za B 147)), (1, .int v1), (2, .int v2), (3, .int v3)] dX12_beforeOf_171 rfl rfl (by decide) rfl (rfl : 171 + 3 = 174) ?_
                        refine z_goto (pc' := 20) h dX12_beforeOf_174 (by decide) ?_
                        refine z_sub (L' := [(0, .ref (za B 147)), (1, .int v1), (2, .int v2), (3, .int v3), (4, .int (x4_20 + (-1))), (5, .int (I20 152 (Int32.toNatClampNeg (((6 : Int32) * x7_20) + (4 : Int32))))), (6, .int 0), (7, .int (x7_20 + (-1)))]) [6, 7, 8, 9, 1, 2, 3, 0] rfl ?_
                        exact ih (x4_20 + (-1)) (I20 152 (Int32.toNatClampNeg (((6 : Int32) * x7_20) + (4 : Int32)))) 0 (x7_20 + (-1)) I20 _ hf hP hE
                      · have hf := zitt c48 hf
                        refine z_iload h 6 dX12_beforeOf_127 rfl (rfl : 127 + 2 = 129) ?_
                        refine z_aload_n h 2 dX12_beforeOf_129 rfl (rfl : 129 + 1 = 130) ?_
                        refine z_get (ci := 11) (C := RX12) (T := TX12) (N := 46) h 8 rfl rfl (fun _ hq => List.mem_cons_of_mem _ (List.mem_append_right _ hq)) (by decide) (List.mem_of_getElem? (i := 1) rfl) rfl dX12_beforeOf_130 (rfl : 130 + 3 = 133) ?_
                        refine z_icmp_eq (pc' := 136) h 150 dX12_beforeOf_133 (by decide) rfl (fun c50 => ?_) (fun c50 => ?_)
                        · have hf := zitt c50 hf
                          refine z_iconst h 1 dX12_beforeOf_150 (by decide) (rfl : 150 + 1 = 151) ?_
                          refine z_goto (pc' := 155) h dX12_beforeOf_151 (by decide) ?_
                          refine z_istore h [(6, .int 1), (9, .int 1), (8, .int ((6 : Int32) * x7_20)), (0, .ref (za B 147)), (1, .int v1), (2, .int v2), (3, .int v3), (4, .int x4_20), (5, .int x5_20), (7, .int x7_20)] dX12_beforeOf_155 (by decide) rfl (rfl : 155 + 2 = 157) ?_
                          refine z_aload_n h 3 dX12_beforeOf_157 rfl (rfl : 157 + 1 = 158) ?_
                          refine z_getr (ci := 11) (C := RX12) (T := TX12) (N := 46) h 5 152 ((hJ.1 147 5 (by decide)).trans rfl) rfl rfl (fun _ hq => List.mem_cons_of_mem _ (List.mem_append_right _ hq)) (by decide) (List.mem_of_getElem? (i := 3) rfl) rfl dX12_beforeOf_158 (rfl : 158 + 3 = 161) ?_
                          refine z_iload h 2 dX12_beforeOf_161 rfl (rfl : 161 + 2 = 163) ?_
                          refine z_iconst h 4 dX12_beforeOf_163 (by decide) (rfl : 163 + 1 = 164) ?_
                          refine z_iadd h dX12_beforeOf_164 (rfl : 164 + 1 = 165) ?_
                          obtain ⟨b51, hf⟩ := zchk hf
                          refine z_iald h rfl b51 dX12_beforeOf_165 (rfl : 165 + 1 = 166) ?_
                          refine z_istore h [(5, .int (I20 152 (Int32.toNatClampNeg (((6 : Int32) * x7_20) + (4 : Int32))))), (6, .int 1), (9, .int 1), (8, .int ((6 : Int32) * x7_20)), (0, .ref (za B 147)), (1, .int v1), (2, .int v2), (3, .int v3), (4, .int x4_20), (7, .int x7_20)] dX12_beforeOf_166 (by decide) rfl (rfl : 166 + 2 = 168) ?_
                          refine z_iinc h 8 (x4_20 + (-1)) [(4, .int (x4_20 + (-1))), (5, .int (I20 152 (Int32.toNatClampNeg (((6 : Int32) * x7_20) + (4 : Int32))))), (6, .int 1), (9, .int 1), (8, .int ((6 : Int32) * x7_20)), (0, .ref (za B 147)), (1, .int v1), (2, .int v2), (3, .int v3), (7, .int x7_20)] dX12_beforeOf_168 rfl rfl (by decide) rfl (rfl : 168 + 3 = 171) ?_
                          refine z_iinc h 9 (x7_20 + (-1)) [(7, .int (x7_20 + (-1))), (4, .int (x4_20 + (-1))), (5, .int (I20 152 (Int32.toNatClampNeg (((6 : Int32) * x7_20) + (4 : Int32))))), (6, .int 1), (9, .int 1), (8, .int ((6 : Int32) * x7_20)), (0, .ref (za B 147)), (1, .int v1), (2, .int v2), (3, .int v3)] dX12_beforeOf_171 rfl rfl (by decide) rfl (rfl : 171 + 3 = 174) ?_
                          refine z_goto (pc' := 20) h dX12_beforeOf_174 (by decide) ?_
                          refine z_sub (L' := [(0, .ref (za B 147)), (1, .int v1), (2, .int v2), (3, .int v3), (4, .int (x4_20 + (-1))), (5, .int (I20 152 (Int32.toNatClampNeg (((6 : Int32) * x7_20) + (4 : Int32))))), (6, .int 1), (7, .int (x7_20 + (-1)))]) [6, 7, 8, 9, 1, 2, 3, 0] rfl ?_
                          exact ih (x4_20 + (-1)) (I20 152 (Int32.toNatClampNeg (((6 : Int32) * x7_20) + (4 : Int32)))) 1 (x7_20 + (-1)) I20 _ hf hP hE
                        · have hf := zitf c50 hf
                          refine z_aload_n h 2 dX12_beforeOf_136 rfl (rfl : 136 + 1 = 137) ?_
                          refine z_getr (ci := 11) (C := RX12) (T := TX12) (N := 46) h 5 152 ((hJ.1 147 5 (by decide)).trans rfl) rfl rfl (fun _ hq => List.mem_cons_of_mem _ (List.mem_append_right _ hq)) (by decide) (List.mem_of_getElem? (i := 3) rfl) rfl dX12_beforeOf_137 (rfl : 137 + 3 = 140) ?_
                          refine z_iload h 1 dX12_beforeOf_140 rfl (rfl : 140 + 2 = 142) ?_
                          refine z_iconst h 4 dX12_beforeOf_142 (by decide) (rfl : 142 + 1 = 143) ?_
                          refine z_iadd h dX12_beforeOf_143 (rfl : 143 + 1 = 144) ?_
                          obtain ⟨b52, hf⟩ := zchk hf
                          refine z_iald h rfl b52 dX12_beforeOf_144 (rfl : 144 + 1 = 145) ?_
                          refine z_iload h 7 dX12_beforeOf_145 rfl (rfl : 145 + 2 = 147) ?_
                          refine z_icmp_ne (pc' := 150) h 154 dX12_beforeOf_147 (by decide) rfl (fun c53 => ?_) (fun c53 => ?_)
                          · have hf := zitf c53 hf
                            refine z_iconst h 0 dX12_beforeOf_154 (by decide) (rfl : 154 + 1 = 155) ?_
                            refine z_istore h [(6, .int 0), (9, .int 1), (8, .int ((6 : Int32) * x7_20)), (0, .ref (za B 147)), (1, .int v1), (2, .int v2), (3, .int v3), (4, .int x4_20), (5, .int x5_20), (7, .int x7_20)] dX12_beforeOf_155 (by decide) rfl (rfl : 155 + 2 = 157) ?_
                            refine z_aload_n h 3 dX12_beforeOf_157 rfl (rfl : 157 + 1 = 158) ?_
                            refine z_getr (ci := 11) (C := RX12) (T := TX12) (N := 46) h 5 152 ((hJ.1 147 5 (by decide)).trans rfl) rfl rfl (fun _ hq => List.mem_cons_of_mem _ (List.mem_append_right _ hq)) (by decide) (List.mem_of_getElem? (i := 3) rfl) rfl dX12_beforeOf_158 (rfl : 158 + 3 = 161) ?_
                            refine z_iload h 2 dX12_beforeOf_161 rfl (rfl : 161 + 2 = 163) ?_
                            refine z_iconst h 4 dX12_beforeOf_163 (by decide) (rfl : 163 + 1 = 164) ?_
                            refine z_iadd h dX12_beforeOf_164 (rfl : 164 + 1 = 165) ?_
                            obtain ⟨b54, hf⟩ := zchk hf
                            refine z_iald h rfl b54 dX12_beforeOf_165 (rfl : 165 + 1 = 166) ?_
                            refine z_istore h [(5, .int (I20 152 (Int32.toNatClampNeg (((6 : Int32) * x7_20) + (4 : Int32))))), (6, .int 0), (9, .int 1), (8, .int ((6 : Int32) * x7_20)), (0, .ref (za B 147)), (1, .int v1), (2, .int v2), (3, .int v3), (4, .int x4_20), (7, .int x7_20)] dX12_beforeOf_166 (by decide) rfl (rfl : 166 + 2 = 168) ?_
                            refine z_iinc h 8 (x4_20 + (-1)) [(4, .int (x4_20 + (-1))), (5, .int (I20 152 (Int32.toNatClampNeg (((6 : Int32) * x7_20) + (4 : Int32))))), (6, .int 0), (9, .int 1), (8, .int ((6 : Int32) * x7_20)), (0, .ref (za B 147)), (1, .int v1), (2, .int v2), (3, .int v3), (7, .int x7_20)] dX12_beforeOf_168 rfl rfl (by decide) rfl (rfl : 168 + 3 = 171) ?_
                            refine z_iinc h 9 (x7_20 + (-1)) [(7, .int (x7_20 + (-1))), (4, .int (x4_20 + (-1))), (5, .int (I20 152 (Int32.toNatClampNeg (((6 : Int32) * x7_20) + (4 : Int32))))), (6, .int 0), (9, .int 1), (8, .int ((6 : Int32) * x7_20)), (0, .ref (za B 147)), (1, .int v1), (2, .int v2), (3, .int v3)] dX12_beforeOf_171 rfl rfl (by decide) rfl (rfl : 171 + 3 = 174) ?_
                            refine z_goto (pc' := 20) h dX12_beforeOf_174 (by decide) ?_
                            refine z_sub (L' := [(0, .ref (za B 147)), (1, .int v1), (2, .int v2), (3, .int v3), (4, .int (x4_20 + (-1))), (5, .int (I20 152 (Int32.toNatClampNeg (((6 : Int32) * x7_20) + (4 : Int32))))), (6, .int 0), (7, .int (x7_20 + (-1)))]) [6, 7, 8, 9, 1, 2, 3, 0] rfl ?_
                            exact ih (x4_20 + (-1)) (I20 152 (Int32.toNatClampNeg (((6 : Int32) * x7_20) + (4 : Int32)))) 0 (x7_20 + (-1)) I20 _ hf hP hE
                          · have hf := zitt c53 hf
                            refine z_iconst h 1 dX12_beforeOf_150 (by decide) (rfl : 150 + 1 = 151) ?_
                            refine z_goto (pc' := 155) h dX12_beforeOf_151 (by decide) ?_
                            refine z_istore h [(6, .int 1), (9, .int 1), (8, .int ((6 : Int32) * x7_20)), (0, .ref (za B 147)), (1, .int v1), (2, .int v2), (3, .int v3), (4, .int x4_20), (5, .int x5_20), (7, .int x7_20)] dX12_beforeOf_155 (by decide) rfl (rfl : 155 + 2 = 157) ?_
                            refine z_aload_n h 3 dX12_beforeOf_157 rfl (rfl : 157 + 1 = 158) ?_
                            refine z_getr (ci := 11) (C := RX12) (T := TX12) (N := 46) h 5 152 ((hJ.1 147 5 (by decide)).trans rfl) rfl rfl (fun _ hq => List.mem_cons_of_mem _ (List.mem_append_right _ hq)) (by decide) (List.mem_of_getElem? (i := 3) rfl) rfl dX12_beforeOf_158 (rfl : 158 + 3 = 161) ?_
                            refine z_iload h 2 dX12_beforeOf_161 rfl (rfl : 161 + 2 = 163) ?_
                            refine z_iconst h 4 dX12_beforeOf_163 (by decide) (rfl : 163 + 1 = 164) ?_
                            refine z_iadd h dX12_beforeOf_164 (rfl : 164 + 1 = 165) ?_
                            obtain ⟨b55, hf⟩ := zchk hf
                            refine z_iald h rfl b55 dX12_beforeOf_165 (rfl : 165 + 1 = 166) ?_
                            refine z_istore h [(5, .int (I20 152 (Int32.toNatClampNeg (((6 : Int32) * x7_20) + (4 : Int32))))), (6, .int 1), (9, .int 1), (8, .int ((6 : Int32) * x7_20)), (0, .ref (za B 147)), (1, .int v1), (2, .int v2), (3, .int v3), (4, .int x4_20), (7, .int x7_20)] dX12_beforeOf_166 (by decide) rfl (rfl : 166 + 2 = 168) ?_
                            refine z_iinc h 8 (x4_20 + (-1)) [(4, .int (x4_20 + (-1))), (5, .int (I20 152 (Int32.toNatClampNeg (((6 : Int32) * x7_20) + (4 : Int32))))), (6, .int 1), (9, .int 1), (8, .int ((6 : Int32) * x7_20)), (0, .ref (za B 147)), (1, .int v1), (2, .int v2), (3, .int v3), (7, .int x7_20)] dX12_beforeOf_168 rfl rfl (by decide) rfl (rfl : 168 + 3 = 171) ?_
                            refine z_iinc h 9 (x7_20 + (-1)) [(7, .int (x7_20 + (-1))), (4, .int (x4_20 + (-1))), (5, .int (I20 152 (Int32.toNatClampNeg (((6 : Int32) * x7_20) + (4 : Int32))))), (6, .int 1), (9, .int 1), (8, .int ((6 : Int32) * x7_20)), (0, .ref (za B 147)), (1, .int v1), (2, .int v2), (3, .int v3)] dX12_beforeOf_171 rfl rfl (by decide) rfl (rfl : 171 + 3 = 174) ?_
                            refine z_goto (pc' := 20) h dX12_beforeOf_174 (by decide) ?_
                            refine z_sub (L' := [(0, .ref (za B 147)), (1, .int v1), (2, .int v2), (3, .int v3), (4, .int (x4_20 + (-1))), (5, .int (I20 152 (Int32.toNatClampNeg (((6 : Int32) * x7_20) + (4 : Int32))))), (6, .int 1), (7, .int (x7_20 + (-1)))]) [6, 7, 8, 9, 1, 2, 3, 0] rfl ?_
                            exact ih (x4_20 + (-1)) (I20 152 (Int32.toNatClampNeg (((6 : Int32) * x7_20) + (4 : Int32)))) 1 (x7_20 + (-1)) I20 _ hf hP hE
  refine z_sub (L' := [(0, .ref (za B 147)), (1, .int v1), (2, .int v2), (3, .int v3), (4, .int (I 147 8)), (5, .int 0), (6, .int 1), (7, .int ((I 147 6) - (1 : Int32)))]) [4, 5, 6, 7, 3, 2, 1, 0] rfl ?_
  obtain ⟨q1, e2, hf⟩ := zbind hf
  refine loop_20_2 _ (I 147 8) 0 1 ((I 147 6) - (1 : Int32)) I q1 e2 (fun a ha => ?_) (fun a56 ha  => ?_)
  · have hf := zell ha hf
    exact zsome hf
  have hf := zelr ha hf
  clear ha loop_20_2
  refine z_iload h 6 dX12_beforeOf_177 rfl (rfl : 177 + 2 = 179) ?_
  refine z_if_eq (pc' := 182) h 192 dX12_beforeOf_179 (by decide) rfl (fun c57 => ?_) (fun c57 => ?_)
  · have hf := zitt c57 hf
    refine z_iconst h 0 dX12_beforeOf_192 (by decide) (rfl : 192 + 1 = 193) ?_
    refine z_iret h hr dX12_beforeOf_193 ?_
    exact ⟨congrArg Prod.fst (zsome hf), congrArg Prod.snd (zsome hf), rfl⟩
  · have hf := zitf c57 hf
    refine z_iload h 4 dX12_beforeOf_182 rfl (rfl : 182 + 2 = 184) ?_
    refine z_if_ne (pc' := 187) h 192 dX12_beforeOf_184 (by decide) rfl (fun c58 => ?_) (fun c58 => ?_)
    · have hf := zitf c58 hf
      refine z_iconst h 0 dX12_beforeOf_192 (by decide) (rfl : 192 + 1 = 193) ?_
      refine z_iret h hr dX12_beforeOf_193 ?_
      exact ⟨congrArg Prod.fst (zsome hf), congrArg Prod.snd (zsome hf), rfl⟩
    · have hf := zitt c58 hf
      refine z_iload h 5 dX12_beforeOf_187 rfl (rfl : 187 + 2 = 189) ?_
      refine z_goto (pc' := 193) h dX12_beforeOf_189 (by decide) ?_
      refine z_iret h hr dX12_beforeOf_193 ?_
      exact ⟨congrArg Prod.fst (zsome hf), congrArg Prod.snd (zsome hf), rfl⟩
noncomputable def f_X12_before (J : zJ) (v1 : Int32) (v2 : Int32) (v3 : Int32) (I : zM) : Option (Int32 × zM) := ((f_X12_noPerson J v1 (zu I 147 0 0)).bind fun q1 => (if q1.1 = 0 then ((f_X12_noPerson J v2 q1.2).bind fun q4 => (if q4.1 = 0 then ((f_X12_noGap J v3 q4.2).bind fun q7 => (if q7.1 = 0 then (if v1 = v2 then some (((-2), q7.2)) else ((f_X12_beforeOf J v1 v2 v3 q7.2).bind fun q11 => some ((q11.1, q11.2)))) else some (((-1), q7.2)))) else some (((-1), q4.2)))) else some (((-1), q1.2))))
noncomputable abbrev rmX12_before : Room := { frames := 2, cells := 0, slots := 0, locals := 45 }
theorem zyX12_before : zY yX12_before wsX12_before cX12_before 4 (some .int) 3 := ⟨⟨_, rfl⟩, by decide +kernel⟩
theorem zrX12_before_X12_beforeOf : zRm rmX12_beforeOf rmX12_before 10 := ⟨rfl, rfl, by decide, by decide⟩
theorem zrX12_before_X12_noGap : zRm rmX12_noGap rmX12_before 1 := ⟨rfl, rfl, by decide, by decide⟩
theorem zrX12_before_X12_noPerson : zRm rmX12_noPerson rmX12_before 1 := ⟨rfl, rfl, by decide, by decide⟩
set_option maxHeartbeats 1000000 in
set_option maxRecDepth 100000 in
theorem c_X12_before (B : zB) (I : zM) (J : zJ) (hJ : zJok J) (v1 : Int32) (v2 : Int32) (v3 : Int32) (r : Int32) (I' : zM) (hf : f_X12_before J v1 v2 v3 I = some (r, I')) : zCi B zKW I J yX12_before wsX12_before rmX12_before [.ref (za B 147), .int v1, .int v2, .int v3] (fun r2 I2 J2 => r2 = r ∧ I2 = I' ∧ J2 = J) := by
  refine z_start (own := RX12) (cc := cX12_before) (nL := 4) (ret := (some .int)) rfl (by decide) rfl (Nat.le_of_ble_eq_true rfl) (L := [(0, .ref (za B 147)), (1, .int v1), (2, .int v2), (3, .int v3)]) rfl (fun G h hr => ?_)
  rw [f_X12_before] at hf
  refine z_aload_n h 0 dX12_before_0 rfl (rfl : 0 + 1 = 1) ?_
  refine z_iconst h 0 dX12_before_1 (by decide) (rfl : 1 + 1 = 2) ?_
  refine z_put (ci := 11) (C := RX12) (T := TX12) (N := 46) h 0 tyX12 tyX12_ok nmX12 rfl rfl (fun _ hq => List.mem_cons_of_mem _ (List.mem_append_right _ hq)) (by decide) (List.mem_of_getElem? (i := 1) rfl) rfl rfl rfl dX12_before_2 (rfl : 2 + 3 = 5) ?_
  refine z_iload_n h 1 dX12_before_5 rfl (rfl : 5 + 1 = 6) ?_
  obtain ⟨q1, e2, hf⟩ := zbind hf
  refine z_goF (z_runS h [.int v1] [] zyX12_noPerson (c_X12_noPerson B (zu I 147 0 0) J hJ v1 _ _ e2) gX12_before_X12_noPerson zrX12_before_X12_noPerson rfl (Nat.le_of_ble_eq_true rfl) ⟨Nat.zero_le _, Nat.zero_le _⟩ rfl dX12_before_6) rfl ?_
  refine z_if_ne (pc' := 12) h 26 dX12_before_9 (by decide) rfl (fun c3 => ?_) (fun c3 => ?_)
  · have hf := zitf c3 hf
    refine z_iconst h (-1) dX12_before_26 (by decide) (rfl : 26 + 1 = 27) ?_
    refine z_iret h hr dX12_before_27 ?_
    exact ⟨congrArg Prod.fst (zsome hf), congrArg Prod.snd (zsome hf), rfl⟩
  · have hf := zitt c3 hf
    refine z_iload_n h 2 dX12_before_12 rfl (rfl : 12 + 1 = 13) ?_
    obtain ⟨q4, e5, hf⟩ := zbind hf
    refine z_goF (z_runS h [.int v2] [] zyX12_noPerson (c_X12_noPerson B q1.2 J hJ v2 _ _ e5) gX12_before_X12_noPerson zrX12_before_X12_noPerson rfl (Nat.le_of_ble_eq_true rfl) ⟨Nat.zero_le _, Nat.zero_le _⟩ rfl dX12_before_13) rfl ?_
    refine z_if_ne (pc' := 19) h 26 dX12_before_16 (by decide) rfl (fun c6 => ?_) (fun c6 => ?_)
    · have hf := zitf c6 hf
      refine z_iconst h (-1) dX12_before_26 (by decide) (rfl : 26 + 1 = 27) ?_
      refine z_iret h hr dX12_before_27 ?_
      exact ⟨congrArg Prod.fst (zsome hf), congrArg Prod.snd (zsome hf), rfl⟩
    · have hf := zitt c6 hf
      refine z_iload_n h 3 dX12_before_19 rfl (rfl : 19 + 1 = 20) ?_
      obtain ⟨q7, e8, hf⟩ := zbind hf
      refine z_goF (z_runS h [.int v3] [] zyX12_noGap (c_X12_noGap B q4.2 J hJ v3 _ _ e8) gX12_before_X12_noGap zrX12_before_X12_noGap rfl (Nat.le_of_ble_eq_true rfl) ⟨Nat.zero_le _, Nat.zero_le _⟩ rfl dX12_before_20) rfl ?_
      refine z_if_eq (pc' := 26) h 28 dX12_before_23 (by decide) rfl (fun c9 => ?_) (fun c9 => ?_)
      · have hf := zitt c9 hf
        refine z_iload_n h 1 dX12_before_28 rfl (rfl : 28 + 1 = 29) ?_
        refine z_iload_n h 2 dX12_before_29 rfl (rfl : 29 + 1 = 30) ?_
        refine z_icmp_ne (pc' := 33) h 38 dX12_before_30 (by decide) rfl (fun c10 => ?_) (fun c10 => ?_)
        · have hf := zitf c10 hf
          refine z_aload_n h 0 dX12_before_38 rfl (rfl : 38 + 1 = 39) ?_
          refine z_iload_n h 1 dX12_before_39 rfl (rfl : 39 + 1 = 40) ?_
          refine z_iload_n h 2 dX12_before_40 rfl (rfl : 40 + 1 = 41) ?_
          refine z_iload_n h 3 dX12_before_41 rfl (rfl : 41 + 1 = 42) ?_
          obtain ⟨q11, e12, hf⟩ := zbind hf
          refine z_goF (z_runV (C := RX12) (T := TX12) (N := 46) (ci := 11) h [.int v1, .int v2, .int v3] [] zyX12_beforeOf (c_X12_beforeOf B q7.2 J hJ v1 v2 v3 _ _ e12) gX12_before_X12_beforeOf rfl rfl rfl zrX12_before_X12_beforeOf rfl (Nat.le_of_ble_eq_true rfl) ⟨Nat.zero_le _, Nat.zero_le _⟩ rfl dX12_before_42) rfl ?_
          refine z_iret h hr dX12_before_45 ?_
          exact ⟨congrArg Prod.fst (zsome hf), congrArg Prod.snd (zsome hf), rfl⟩
        · have hf := zitt c10 hf
          refine z_bipush h (-2) dX12_before_33 (by decide) (rfl : 33 + 2 = 35) ?_
          refine z_goto (pc' := 45) h dX12_before_35 (by decide) ?_
          refine z_iret h hr dX12_before_45 ?_
          exact ⟨congrArg Prod.fst (zsome hf), congrArg Prod.snd (zsome hf), rfl⟩
      · have hf := zitf c9 hf
        refine z_iconst h (-1) dX12_before_26 (by decide) (rfl : 26 + 1 = 27) ?_
        refine z_iret h hr dX12_before_27 ?_
        exact ⟨congrArg Prod.fst (zsome hf), congrArg Prod.snd (zsome hf), rfl⟩
noncomputable def f_X12_many_6 (J : zJ) (u1 : Int32) (u2 : Int32) (u3 : Int32) : Nat → Int32 → Int32 → zM → Option ((Int32 × zM) ⊕ (Int32 × Int32 × zM))
  | 0, _, _, _ => none
  | n + 1, x4_6, x5_6, I6 => (if I6 147 6 ≤ x5_6 then some (.inr (x4_6, x5_6, I6)) else (if zin (((6 : Int32) * x5_6) + (2 : Int32)) 144 = true then (if I6 152 (Int32.toNatClampNeg (((6 : Int32) * x5_6) + (2 : Int32))) = u1 then (if zin (((6 : Int32) * x5_6) + (3 : Int32)) 144 = true then (if I6 152 (Int32.toNatClampNeg (((6 : Int32) * x5_6) + (3 : Int32))) = u2 then (if u3 = 0 then f_X12_many_6 J u1 u2 u3 n (x4_6 + (1 : Int32)) (x5_6 + 1) I6 else (if zin (((6 : Int32) * x5_6) + (4 : Int32)) 144 = true then (if I6 152 (Int32.toNatClampNeg (((6 : Int32) * x5_6) + (4 : Int32))) = u3 then (if zin (((6 : Int32) * x5_6) + (5 : Int32)) 144 = true then (if I6 152 (Int32.toNatClampNeg (((6 : Int32) * x5_6) + (5 : Int32))) = 0 then f_X12_many_6 J u1 u2 u3 n (x4_6 + (1 : Int32)) (x5_6 + 1) I6 else f_X12_many_6 J u1 u2 u3 n (x4_6 + (0 : Int32)) (x5_6 + 1) I6) else none) else f_X12_many_6 J u1 u2 u3 n (x4_6 + (0 : Int32)) (x5_6 + 1) I6) else none)) else f_X12_many_6 J u1 u2 u3 n (x4_6 + (0 : Int32)) (x5_6 + 1) I6) else none) else f_X12_many_6 J u1 u2 u3 n (x4_6 + (0 : Int32)) (x5_6 + 1) I6) else none))
noncomputable def f_X12_many (J : zJ) (v1 : Int32) (v2 : Int32) (v3 : Int32) (I : zM) : Option (Int32 × zM) := ((f_X12_many_6 J v1 v2 v3 zF 0 0 I).bind fun q => Sum.elim (fun a => some a) (fun a3 => some ((a3.1, a3.2.2))) q)
noncomputable abbrev rmX12_many : Room := { frames := 0, cells := 0, slots := 0, locals := 0 }
theorem zyX12_many : zY yX12_many wsX12_many cX12_many 8 (some .int) 3 := ⟨⟨_, rfl⟩, by decide +kernel⟩
set_option maxHeartbeats 1000000 in
set_option maxRecDepth 100000 in
theorem c_X12_many (B : zB) (I : zM) (J : zJ) (hJ : zJok J) (v1 : Int32) (v2 : Int32) (v3 : Int32) (r : Int32) (I' : zM) (hf : f_X12_many J v1 v2 v3 I = some (r, I')) : zCi B zKW I J yX12_many wsX12_many rmX12_many [.ref (za B 147), .int v1, .int v2, .int v3] (fun r2 I2 J2 => r2 = r ∧ I2 = I' ∧ J2 = J) := by
  refine z_start (own := RX12) (cc := cX12_many) (nL := 8) (ret := (some .int)) rfl (by decide) rfl (Nat.le_of_ble_eq_true rfl) (L := [(0, .ref (za B 147)), (1, .int v1), (2, .int v2), (3, .int v3)]) rfl (fun G h hr => ?_)
  rw [f_X12_many] at hf
  refine z_iconst h 0 dX12_many_0 (by decide) (rfl : 0 + 1 = 1) ?_
  refine z_istore h [(4, .int 0), (0, .ref (za B 147)), (1, .int v1), (2, .int v2), (3, .int v3)] dX12_many_1 (by decide) rfl (rfl : 1 + 2 = 3) ?_
  refine z_iconst h 0 dX12_many_3 (by decide) (rfl : 3 + 1 = 4) ?_
  refine z_istore h [(5, .int 0), (4, .int 0), (0, .ref (za B 147)), (1, .int v1), (2, .int v2), (3, .int v3)] dX12_many_4 (by decide) rfl (rfl : 4 + 2 = 6) ?_
  have loop_6_2 : ∀ (n : Nat) (x4_6 : Int32) (x5_6 : Int32) (I6 : zM) (q : (Int32 × zM) ⊕ (Int32 × Int32 × zM)), f_X12_many_6 J v1 v2 v3 n x4_6 x5_6 I6 = some q → (∀ a, q = .inl a → a = (r, I')) → (∀ a : Int32 × Int32 × zM, q = .inr a → Z B G zKW (a.2.2) (J) (0, 0) 105 [(0, .ref (za B 147)), (1, .int v1), (2, .int v2), (3, .int v3), (4, .int a.1), (5, .int a.2.1)] []) → Z B G zKW I6 J (0, 0) 6 [(0, .ref (za B 147)), (1, .int v1), (2, .int v2), (3, .int v3), (4, .int x4_6), (5, .int x5_6)] [] := by
    intro n; induction n with
    | zero => intro x4_6 x5_6 I6 q hf; exact absurd hf (by rw [f_X12_many_6]; exact fun z => by cases z)
    | succ n ih =>
      intro x4_6 x5_6 I6 q hf hP hE; rw [f_X12_many_6] at hf
      refine z_iload h 5 dX12_many_6 rfl (rfl : 6 + 2 = 8) ?_
      refine z_aload_n h 0 dX12_many_8 rfl (rfl : 8 + 1 = 9) ?_
      refine z_get (ci := 11) (C := RX12) (T := TX12) (N := 46) h 6 rfl rfl (fun _ hq => List.mem_cons_of_mem _ (List.mem_append_right _ hq)) (by decide) (List.mem_of_getElem? (i := 1) rfl) rfl dX12_many_9 (rfl : 9 + 3 = 12) ?_
      refine z_icmp_ge (pc' := 15) h 105 dX12_many_12 (by decide) rfl (fun c3 => ?_) (fun c3 => ?_)
      · have hf := zitt c3 hf
        exact hE (x4_6, x5_6, I6) (zsome hf).symm
      · have hf := zitf c3 hf
        refine z_bipush h 6 dX12_many_15 (by decide) (rfl : 15 + 2 = 17) ?_
        refine z_iload h 5 dX12_many_17 rfl (rfl : 17 + 2 = 19) ?_
        refine z_imul h dX12_many_19 (rfl : 19 + 1 = 20) ?_
        refine z_istore h [(6, .int ((6 : Int32) * x5_6)), (0, .ref (za B 147)), (1, .int v1), (2, .int v2), (3, .int v3), (4, .int x4_6), (5, .int x5_6)] dX12_many_20 (by decide) rfl (rfl : 20 + 2 = 22) ?_
        refine z_aload_n h 1 dX12_many_22 rfl (rfl : 22 + 1 = 23) ?_
        refine z_getr (ci := 11) (C := RX12) (T := TX12) (N := 46) h 5 152 ((hJ.1 147 5 (by decide)).trans rfl) rfl rfl (fun _ hq => List.mem_cons_of_mem _ (List.mem_append_right _ hq)) (by decide) (List.mem_of_getElem? (i := 2) rfl) rfl dX12_many_23 (rfl : 23 + 3 = 26) ?_
        refine z_iload h 0 dX12_many_26 rfl (rfl : 26 + 2 = 28) ?_
        refine z_iconst h 2 dX12_many_28 (by decide) (rfl : 28 + 1 = 29) ?_
        refine z_iadd h dX12_many_29 (rfl : 29 + 1 = 30) ?_
        obtain ⟨b4, hf⟩ := zchk hf
        refine z_iald h rfl b4 dX12_many_30 (rfl : 30 + 1 = 31) ?_
        refine z_iload_n h 2 dX12_many_31 rfl (rfl : 31 + 1 = 32) ?_
        refine z_icmp_ne (pc' := 35) h 52 dX12_many_32 (by decide) rfl (fun c5 => ?_) (fun c5 => ?_)
        · have hf := zitf c5 hf
          refine z_iconst h 0 dX12_many_52 (by decide) (rfl : 52 + 1 = 53) ?_
          refine z_istore h [(7, .int 0), (6, .int ((6 : Int32) * x5_6)), (0, .ref (za B 147)), (1, .int v1), (2, .int v2), (3, .int v3), (4, .int x4_6), (5, .int x5_6)] dX12_many_53 (by decide) rfl (rfl : 53 + 2 = 55) ?_
          refine z_iload h 6 dX12_many_55 rfl (rfl : 55 + 2 = 57) ?_
          refine z_iload h 0 dX12_many_57 rfl (rfl : 57 + 2 = 59) ?_
          refine z_if_eq (pc' := 62) h 95 dX12_many_59 (by decide) rfl (fun _ => ?_) (fun q => absurd q (by decide))
          refine z_iconst h 0 dX12_many_95 (by decide) (rfl : 95 + 1 = 96) ?_
          refine z_iadd h dX12_many_96 (rfl : 96 + 1 = 97) ?_
          refine z_istore h [(4, .int (x4_6 + (0 : Int32))), (7, .int 0), (6, .int ((6 : Int32) * x5_6)), (0, .ref (za B 147)), (1, .int v1), (2, .int v2), (3, .int v3), (5, .int x5_6)] dX12_many_97 (by decide) rfl (rfl : 97 + 2 = 99) ?_
          refine z_iinc h 7 (x5_6 + 1) [(5, .int (x5_6 + 1)), (4, .int (x4_6 + (0 : Int32))), (7, .int 0), (6, .int ((6 : Int32) * x5_6)), (0, .ref (za B 147)), (1, .int v1), (2, .int v2), (3, .int v3)] dX12_many_99 rfl rfl (by decide) rfl (rfl : 99 + 3 = 102) ?_
          refine z_goto (pc' := 6) h dX12_many_102 (by decide) ?_
          refine z_sub (L' := [(0, .ref (za B 147)), (1, .int v1), (2, .int v2), (3, .int v3), (4, .int (x4_6 + (0 : Int32))), (5, .int (x5_6 + 1))]) [4, 5, 6, 7, 1, 0] rfl ?_
          exact ih (x4_6 + (0 : Int32)) (x5_6 + 1) I6 _ hf hP hE
        · have hf := zitt c5 hf
          refine z_aload_n h 1 dX12_many_35 rfl (rfl : 35 + 1 = 36) ?_
          refine z_getr (ci := 11) (C := RX12) (T := TX12) (N := 46) h 5 152 ((hJ.1 147 5 (by decide)).trans rfl) rfl rfl (fun _ hq => List.mem_cons_of_mem _ (List.mem_append_right _ hq)) (by decide) (List.mem_of_getElem? (i := 2) rfl) rfl dX12_many_36 (rfl : 36 + 3 = 39) ?_
          refine z_iload h 0 dX12_many_39 rfl (rfl : 39 + 2 = 41) ?_
          refine z_iconst h 3 dX12_many_41 (by decide) (rfl : 41 + 1 = 42) ?_
          refine z_iadd h dX12_many_42 (rfl : 42 + 1 = 43) ?_
          obtain ⟨b6, hf⟩ := zchk hf
          refine z_iald h rfl b6 dX12_many_43 (rfl : 43 + 1 = 44) ?_
          refine z_iload_n h 3 dX12_many_44 rfl (rfl : 44 + 1 = 45) ?_
          refine z_icmp_ne (pc' := 48) h 52 dX12_many_45 (by decide) rfl (fun c7 => ?_) (fun c7 => ?_)
          · have hf := zitf c7 hf
            refine z_iconst h 0 dX12_many_52 (by decide) (rfl : 52 + 1 = 53) ?_
            refine z_istore h [(7, .int 0), (6, .int ((6 : Int32) * x5_6)), (0, .ref (za B 147)), (1, .int v1), (2, .int v2), (3, .int v3), (4, .int x4_6), (5, .int x5_6)] dX12_many_53 (by decide) rfl (rfl : 53 + 2 = 55) ?_
            refine z_iload h 6 dX12_many_55 rfl (rfl : 55 + 2 = 57) ?_
            refine z_iload h 0 dX12_many_57 rfl (rfl : 57 + 2 = 59) ?_
            refine z_if_eq (pc' := 62) h 95 dX12_many_59 (by decide) rfl (fun _ => ?_) (fun q => absurd q (by decide))
            refine z_iconst h 0 dX12_many_95 (by decide) (rfl : 95 + 1 = 96) ?_
            refine z_iadd h dX12_many_96 (rfl : 96 + 1 = 97) ?_
            refine z_istore h [(4, .int (x4_6 + (0 : Int32))), (7, .int 0), (6, .int ((6 : Int32) * x5_6)), (0, .ref (za B 147)), (1, .int v1), (2, .int v2), (3, .int v3), (5, .int x5_6)] dX12_many_97 (by decide) rfl (rfl : 97 + 2 = 99) ?_
            refine z_iinc h 7 (x5_6 + 1) [(5, .int (x5_6 + 1)), (4, .int (x4_6 + (0 : Int32))), (7, .int 0), (6, .int ((6 : Int32) * x5_6)), (0, .ref (za B 147)), (1, .int v1), (2, .int v2), (3, .int v3)] dX12_many_99 rfl rfl (by decide) rfl (rfl : 99 + 3 = 102) ?_
            refine z_goto (pc' := 6) h dX12_many_102 (by decide) ?_
            refine z_sub (L' := [(0, .ref (za B 147)), (1, .int v1), (2, .int v2), (3, .int v3), (4, .int (x4_6 + (0 : Int32))), (5, .int (x5_6 + 1))]) [4, 5, 6, 7, 1, 0] rfl ?_
            exact ih (x4_6 + (0 : Int32)) (x5_6 + 1) I6 _ hf hP hE
          · have hf := zitt c7 hf
            refine z_iconst h 1 dX12_many_48 (by decide) (rfl : 48 + 1 = 49) ?_
            refine z_goto (pc' := 53) h dX12_many_49 (by decide) ?_
            refine z_istore h [(7, .int 1), (6, .int ((6 : Int32) * x5_6)), (0, .ref (za B 147)), (1, .int v1), (2, .int v2), (3, .int v3), (4, .int x4_6), (5, .int x5_6)] dX12_many_53 (by decide) rfl (rfl : 53 + 2 = 55) ?_
            refine z_iload h 6 dX12_many_55 rfl (rfl : 55 + 2 = 57) ?_
            refine z_iload h 0 dX12_many_57 rfl (rfl : 57 + 2 = 59) ?_
            refine z_if_eq (pc' := 62) h 95 dX12_many_59 (by decide) rfl (fun q => absurd q (by decide)) (fun _ => ?_)
            refine z_iload_n h 5 dX12_many_62 rfl (rfl : 62 + 1 = 63) ?_
            refine z_if_eq (pc' := 66) h 91 dX12_many_63 (by decide) rfl (fun c8 => ?_) (fun c8 => ?_)
            · have hf := zitt c8 hf
              refine z_iconst h 1 dX12_many_91 (by decide) (rfl : 91 + 1 = 92) ?_
              refine z_goto (pc' := 96) h dX12_many_92 (by decide) ?_
              refine z_iadd h dX12_many_96 (rfl : 96 + 1 = 97) ?_
              refine z_istore h [(4, .int (x4_6 + (1 : Int32))), (7, .int 1), (6, .int ((6 : Int32) * x5_6)), (0, .ref (za B 147)), (1, .int v1), (2, .int v2), (3, .int v3), (5, .int x5_6)] dX12_many_97 (by decide) rfl (rfl : 97 + 2 = 99) ?_
              refine z_iinc h 7 (x5_6 + 1) [(5, .int (x5_6 + 1)), (4, .int (x4_6 + (1 : Int32))), (7, .int 1), (6, .int ((6 : Int32) * x5_6)), (0, .ref (za B 147)), (1, .int v1), (2, .int v2), (3, .int v3)] dX12_many_99 rfl rfl (by decide) rfl (rfl : 99 + 3 = 102) ?_
              refine z_goto (pc' := 6) h dX12_many_102 (by decide) ?_
              refine z_sub (L' := [(0, .ref (za B 147)), (1, .int v1), (2, .int v2), (3, .int v3), (4, .int (x4_6 + (1 : Int32))), (5, .int (x5_6 + 1))]) [4, 5, 6, 7, 1, 0] rfl ?_
              exact ih (x4_6 + (1 : Int32)) (x5_6 + 1) I6 _ hf hP hE
            · have hf := zitf c8 hf
              refine z_aload_n h 2 dX12_many_66 rfl (rfl : 66 + 1 = 67) ?_
              refine z_getr (ci := 11) (C := RX12) (T := TX12) (N := 46) h 5 152 ((hJ.1 147 5 (by decide)).trans rfl) rfl rfl (fun _ hq => List.mem_cons_of_mem _ (List.mem_append_right _ hq)) (by decide) (List.mem_of_getElem? (i := 2) rfl) rfl dX12_many_67 (rfl : 67 + 3 = 70) ?_
              refine z_iload h 1 dX12_many_70 rfl (rfl : 70 + 2 = 72) ?_
              refine z_iconst h 4 dX12_many_72 (by decide) (rfl : 72 + 1 = 73) ?_
              refine z_iadd h dX12_many_73 (rfl : 73 + 1 = 74) ?_
              obtain ⟨b9, hf⟩ := zchk hf
              refine z_iald h rfl b9 dX12_many_74 (rfl : 74 + 1 = 75) ?_
              refine z_iload_n h 5 dX12_many_75 rfl (rfl : 75 + 1 = 76) ?_
              refine z_icmp_ne (pc' := 79) h 95 dX12_many_76 (by decide) rfl (fun c10 => ?_) (fun c10 => ?_)
              · have hf := zitf c10 hf
                refine z_iconst h 0 dX12_many_95 (by decide) (rfl : 95 + 1 = 96) ?_
                refine z_iadd h dX12_many_96 (rfl : 96 + 1 = 97) ?_
                refine z_istore h [(4, .int (x4_6 + (0 : Int32))), (7, .int 1), (6, .int ((6 : Int32) * x5_6)), (0, .ref (za B 147)), (1, .int v1), (2, .int v2), (3, .int v3), (5, .int x5_6)] dX12_many_97 (by decide) rfl (rfl : 97 + 2 = 99) ?_
                refine z_iinc h 7 (x5_6 + 1) [(5, .int (x5_6 + 1)), (4, .int (x4_6 + (0 : Int32))), (7, .int 1), (6, .int ((6 : Int32) * x5_6)), (0, .ref (za B 147)), (1, .int v1), (2, .int v2), (3, .int v3)] dX12_many_99 rfl rfl (by decide) rfl (rfl : 99 + 3 = 102) ?_
                refine z_goto (pc' := 6) h dX12_many_102 (by decide) ?_
                refine z_sub (L' := [(0, .ref (za B 147)), (1, .int v1), (2, .int v2), (3, .int v3), (4, .int (x4_6 + (0 : Int32))), (5, .int (x5_6 + 1))]) [4, 5, 6, 7, 1, 0] rfl ?_
                exact ih (x4_6 + (0 : Int32)) (x5_6 + 1) I6 _ hf hP hE
              · have hf := zitt c10 hf
                refine z_aload_n h 2 dX12_many_79 rfl (rfl : 79 + 1 = 80) ?_
                refine z_getr (ci := 11) (C := RX12) (T := TX12) (N := 46) h 5 152 ((hJ.1 147 5 (by decide)).trans rfl) rfl rfl (fun _ hq => List.mem_cons_of_mem _ (List.mem_append_right _ hq)) (by decide) (List.mem_of_getElem? (i := 2) rfl) rfl dX12_many_80 (rfl : 80 + 3 = 83) ?_
                refine z_iload h 1 dX12_many_83 rfl (rfl : 83 + 2 = 85) ?_
                refine z_iconst h 5 dX12_many_85 (by decide) (rfl : 85 + 1 = 86) ?_
                refine z_iadd h dX12_many_86 (rfl : 86 + 1 = 87) ?_
                obtain ⟨b11, hf⟩ := zchk hf
                refine z_iald h rfl b11 dX12_many_87 (rfl : 87 + 1 = 88) ?_
                refine z_if_ne (pc' := 91) h 95 dX12_many_88 (by decide) rfl (fun c12 => ?_) (fun c12 => ?_)
                · have hf := zitf c12 hf
                  refine z_iconst h 0 dX12_many_95 (by decide) (rfl : 95 + 1 = 96) ?_
                  refine z_iadd h dX12_many_96 (rfl : 96 + 1 = 97) ?_
                  refine z_istore h [(4, .int (x4_6 + (0 : Int32))), (7, .int 1), (6, .int ((6 : Int32) * x5_6)), (0, .ref (za B 147)), (1, .int v1), (2, .int v2), (3, .int v3), (5, .int x5_6)] dX12_many_97 (by decide) rfl (rfl : 97 + 2 = 99) ?_
                  refine z_iinc h 7 (x5_6 + 1) [(5, .int (x5_6 + 1)), (4, .int (x4_6 + (0 : Int32))), (7, .int 1), (6, .int ((6 : Int32) * x5_6)), (0, .ref (za B 147)), (1, .int v1), (2, .int v2), (3, .int v3)] dX12_many_99 rfl rfl (by decide) rfl (rfl : 99 + 3 = 102) ?_
                  refine z_goto (pc' := 6) h dX12_many_102 (by decide) ?_
                  refine z_sub (L' := [(0, .ref (za B 147)), (1, .int v1), (2, .int v2), (3, .int v3), (4, .int (x4_6 + (0 : Int32))), (5, .int (x5_6 + 1))]) [4, 5, 6, 7, 1, 0] rfl ?_
                  exact ih (x4_6 + (0 : Int32)) (x5_6 + 1) I6 _ hf hP hE
                · have hf := zitt c12 hf
                  refine z_iconst h 1 dX12_many_91 (by decide) (rfl : 91 + 1 = 92) ?_
                  refine z_goto (pc' := 96) h dX12_many_92 (by decide) ?_
                  refine z_iadd h dX12_many_96 (rfl : 96 + 1 = 97) ?_
                  refine z_istore h [(4, .int (x4_6 + (1 : Int32))), (7, .int 1), (6, .int ((6 : Int32) * x5_6)), (0, .ref (za B 147)), (1, .int v1), (2, .int v2), (3, .int v3), (5, .int x5_6)] dX12_many_97 (by decide) rfl (rfl : 97 + 2 = 99) ?_
                  refine z_iinc h 7 (x5_6 + 1) [(5, .int (x5_6 + 1)), (4, .int (x4_6 + (1 : Int32))), (7, .int 1), (6, .int ((6 : Int32) * x5_6)), (0, .ref (za B 147)), (1, .int v1), (2, .int v2), (3, .int v3)] dX12_many_99 rfl rfl (by decide) rfl (rfl : 99 + 3 = 102) ?_
                  refine z_goto (pc' := 6) h dX12_many_102 (by decide) ?_
                  refine z_sub (L' := [(0, .ref (za B 147)), (1, .int v1), (2, .int v2), (3, .int v3), (4, .int (x4_6 + (1 : Int32))), (5, .int (x5_6 + 1))]) [4, 5, 6, 7, 1, 0] rfl ?_
                  exact ih (x4_6 + (1 : Int32)) (x5_6 + 1) I6 _ hf hP hE
  refine z_sub (L' := [(0, .ref (za B 147)), (1, .int v1), (2, .int v2), (3, .int v3), (4, .int 0), (5, .int 0)]) [2, 3, 4, 5, 1, 0] rfl ?_
  obtain ⟨q1, e2, hf⟩ := zbind hf
  refine loop_6_2 _ 0 0 I q1 e2 (fun a ha => ?_) (fun a13 ha  => ?_)
  · have hf := zell ha hf
    exact zsome hf
  have hf := zelr ha hf
  clear ha loop_6_2
  refine z_iload h 4 dX12_many_105 rfl (rfl : 105 + 2 = 107) ?_
  refine z_iret h hr dX12_many_107 ?_
  exact ⟨congrArg Prod.fst (zsome hf), congrArg Prod.snd (zsome hf), rfl⟩
noncomputable def f_X12_customOf_14 (J : zJ) (u1 : Int32) (u2 : Int32) (u3 : Int32) : Nat → Int32 → Int32 → zM → Option ((Int32 × zM) ⊕ (Int32 × Int32 × zM))
  | 0, _, _, _ => none
  | n + 1, x4_14, x5_14, I14 => (if 5 < x5_14 then some (.inr (x4_14, x5_14, I14)) else (if u3 < I14 147 9 then some (.inr (x4_14, x5_14, I14)) else ((f_X12_many J u1 u2 x5_14 I14).bind fun q5 => (if (100 : Int32) * q5.1 < (q5.2 147 10) * u3 then f_X12_customOf_14 J u1 u2 u3 n x4_14 (x5_14 + 1) q5.2 else f_X12_customOf_14 J u1 u2 u3 n x5_14 (x5_14 + 1) q5.2))))
noncomputable def f_X12_customOf (J : zJ) (v1 : Int32) (v2 : Int32) (I : zM) : Option (Int32 × zM) := ((f_X12_many J v1 v2 0 I).bind fun q1 => ((f_X12_customOf_14 J v1 v2 q1.1 zF 0 1 q1.2).bind fun q => Sum.elim (fun a => some a) (fun a5 => some ((a5.1, a5.2.2))) q))
noncomputable abbrev rmX12_customOf : Room := { frames := 1, cells := 0, slots := 0, locals := 27 }
theorem zyX12_customOf : zY yX12_customOf wsX12_customOf cX12_customOf 6 (some .int) 2 := ⟨⟨_, rfl⟩, by decide +kernel⟩
theorem zrX12_customOf_X12_many : zRm rmX12_many rmX12_customOf 8 := ⟨rfl, rfl, by decide, by decide⟩
set_option maxHeartbeats 1000000 in
set_option maxRecDepth 100000 in
theorem c_X12_customOf (B : zB) (I : zM) (J : zJ) (hJ : zJok J) (v1 : Int32) (v2 : Int32) (r : Int32) (I' : zM) (hf : f_X12_customOf J v1 v2 I = some (r, I')) : zCi B zKW I J yX12_customOf wsX12_customOf rmX12_customOf [.ref (za B 147), .int v1, .int v2] (fun r2 I2 J2 => r2 = r ∧ I2 = I' ∧ J2 = J) := by
  refine z_start (own := RX12) (cc := cX12_customOf) (nL := 6) (ret := (some .int)) rfl (by decide) rfl (Nat.le_of_ble_eq_true rfl) (L := [(0, .ref (za B 147)), (1, .int v1), (2, .int v2)]) rfl (fun G h hr => ?_)
  rw [f_X12_customOf] at hf
  refine z_aload_n h 0 dX12_customOf_0 rfl (rfl : 0 + 1 = 1) ?_
  refine z_iload_n h 1 dX12_customOf_1 rfl (rfl : 1 + 1 = 2) ?_
  refine z_iload_n h 2 dX12_customOf_2 rfl (rfl : 2 + 1 = 3) ?_
  refine z_iconst h 0 dX12_customOf_3 (by decide) (rfl : 3 + 1 = 4) ?_
  obtain ⟨q1, e2, hf⟩ := zbind hf
  refine z_goF (z_runV (C := RX12) (T := TX12) (N := 46) (ci := 11) h [.int v1, .int v2, .int 0] [] zyX12_many (c_X12_many B I J hJ v1 v2 0 _ _ e2) gX12_customOf_X12_many rfl rfl rfl zrX12_customOf_X12_many rfl (Nat.le_of_ble_eq_true rfl) ⟨Nat.zero_le _, Nat.zero_le _⟩ rfl dX12_customOf_4) rfl ?_
  refine z_istore_n h [(3, .int q1.1), (0, .ref (za B 147)), (1, .int v1), (2, .int v2)] dX12_customOf_7 (by decide) rfl (rfl : 7 + 1 = 8) ?_
  refine z_iconst h 0 dX12_customOf_8 (by decide) (rfl : 8 + 1 = 9) ?_
  refine z_istore h [(4, .int 0), (3, .int q1.1), (0, .ref (za B 147)), (1, .int v1), (2, .int v2)] dX12_customOf_9 (by decide) rfl (rfl : 9 + 2 = 11) ?_
  refine z_iconst h 1 dX12_customOf_11 (by decide) (rfl : 11 + 1 = 12) ?_
  refine z_istore h [(5, .int 1), (4, .int 0), (3, .int q1.1), (0, .ref (za B 147)), (1, .int v1), (2, .int v2)] dX12_customOf_12 (by decide) rfl (rfl : 12 + 2 = 14) ?_
  have loop_14_4 : ∀ (n : Nat) (x4_14 : Int32) (x5_14 : Int32) (I14 : zM) (q : (Int32 × zM) ⊕ (Int32 × Int32 × zM)), f_X12_customOf_14 J v1 v2 q1.1 n x4_14 x5_14 I14 = some q → (∀ a, q = .inl a → a = (r, I')) → (∀ a : Int32 × Int32 × zM, q = .inr a → Z B G zKW (a.2.2) (J) (0, 0) 63 [(0, .ref (za B 147)), (1, .int v1), (2, .int v2), (3, .int q1.1), (4, .int a.1), (5, .int a.2.1)] []) → Z B G zKW I14 J (0, 0) 14 [(0, .ref (za B 147)), (1, .int v1), (2, .int v2), (3, .int q1.1), (4, .int x4_14), (5, .int x5_14)] [] := by
    intro n; induction n with
    | zero => intro x4_14 x5_14 I14 q hf; exact absurd hf (by rw [f_X12_customOf_14]; exact fun z => by cases z)
    | succ n ih =>
      intro x4_14 x5_14 I14 q hf hP hE; rw [f_X12_customOf_14] at hf
      refine z_iload h 5 dX12_customOf_14 rfl (rfl : 14 + 2 = 16) ?_
      refine z_iconst h 5 dX12_customOf_16 (by decide) (rfl : 16 + 1 = 17) ?_
      refine z_icmp_gt (pc' := 20) h 63 dX12_customOf_17 (by decide) rfl (fun c5 => ?_) (fun c5 => ?_)
      · have hf := zitt c5 hf
        exact hE (x4_14, x5_14, I14) (zsome hf).symm
      · have hf := zitf c5 hf
        refine z_iload_n h 3 dX12_customOf_20 rfl (rfl : 20 + 1 = 21) ?_
        refine z_aload_n h 0 dX12_customOf_21 rfl (rfl : 21 + 1 = 22) ?_
        refine z_get (ci := 11) (C := RX12) (T := TX12) (N := 46) h 9 rfl rfl (fun _ hq => List.mem_cons_of_mem _ (List.mem_append_right _ hq)) (by decide) (List.mem_of_getElem? (i := 1) rfl) rfl dX12_customOf_22 (rfl : 22 + 3 = 25) ?_
        refine z_icmp_lt (pc' := 28) h 63 dX12_customOf_25 (by decide) rfl (fun c6 => ?_) (fun c6 => ?_)
        · have hf := zitt c6 hf
          exact hE (x4_14, x5_14, I14) (zsome hf).symm
        · have hf := zitf c6 hf
          refine z_bipush h 100 dX12_customOf_28 (by decide) (rfl : 28 + 2 = 30) ?_
          refine z_aload_n h 0 dX12_customOf_30 rfl (rfl : 30 + 1 = 31) ?_
          refine z_iload_n h 1 dX12_customOf_31 rfl (rfl : 31 + 1 = 32) ?_
          refine z_iload_n h 2 dX12_customOf_32 rfl (rfl : 32 + 1 = 33) ?_
          refine z_iload h 5 dX12_customOf_33 rfl (rfl : 33 + 2 = 35) ?_
          obtain ⟨q7, e8, hf⟩ := zbind hf
          refine z_goF (z_runV (C := RX12) (T := TX12) (N := 46) (ci := 11) h [.int v1, .int v2, .int x5_14] [.int 100] zyX12_many (c_X12_many B I14 J hJ v1 v2 x5_14 _ _ e8) gX12_customOf_X12_many rfl rfl rfl zrX12_customOf_X12_many rfl (Nat.le_of_ble_eq_true rfl) ⟨Nat.zero_le _, Nat.zero_le _⟩ rfl dX12_customOf_35) rfl ?_
          refine z_imul h dX12_customOf_38 (rfl : 38 + 1 = 39) ?_
          refine z_aload_n h 0 dX12_customOf_39 rfl (rfl : 39 + 1 = 40) ?_
          refine z_get (ci := 11) (C := RX12) (T := TX12) (N := 46) h 10 rfl rfl (fun _ hq => List.mem_cons_of_mem _ (List.mem_append_right _ hq)) (by decide) (List.mem_of_getElem? (i := 2) rfl) rfl dX12_customOf_40 (rfl : 40 + 3 = 43) ?_
          refine z_iload_n h 3 dX12_customOf_43 rfl (rfl : 43 + 1 = 44) ?_
          refine z_imul h dX12_customOf_44 (rfl : 44 + 1 = 45) ?_
          refine z_icmp_lt (pc' := 48) h 53 dX12_customOf_45 (by decide) rfl (fun c9 => ?_) (fun c9 => ?_)
          · have hf := zitt c9 hf
            refine z_iload h 4 dX12_customOf_53 rfl (rfl : 53 + 2 = 55) ?_
            refine z_istore h [(4, .int x4_14), (0, .ref (za B 147)), (1, .int v1), (2, .int v2), (3, .int q1.1), (5, .int x5_14)] dX12_customOf_55 (by decide) rfl (rfl : 55 + 2 = 57) ?_
            refine z_iinc h 5 (x5_14 + 1) [(5, .int (x5_14 + 1)), (4, .int x4_14), (0, .ref (za B 147)), (1, .int v1), (2, .int v2), (3, .int q1.1)] dX12_customOf_57 rfl rfl (by decide) rfl (rfl : 57 + 3 = 60) ?_
            refine z_goto (pc' := 14) h dX12_customOf_60 (by decide) ?_
            refine z_sub (L' := [(0, .ref (za B 147)), (1, .int v1), (2, .int v2), (3, .int q1.1), (4, .int x4_14), (5, .int (x5_14 + 1))]) [2, 3, 4, 5, 1, 0] rfl ?_
            exact ih x4_14 (x5_14 + 1) q7.2 _ hf hP hE
          · have hf := zitf c9 hf
            refine z_iload h 5 dX12_customOf_48 rfl (rfl : 48 + 2 = 50) ?_
            refine z_goto (pc' := 55) h dX12_customOf_50 (by decide) ?_
            refine z_istore h [(4, .int x5_14), (0, .ref (za B 147)), (1, .int v1), (2, .int v2), (3, .int q1.1), (5, .int x5_14)] dX12_customOf_55 (by decide) rfl (rfl : 55 + 2 = 57) ?_
            refine z_iinc h 5 (x5_14 + 1) [(5, .int (x5_14 + 1)), (4, .int x5_14), (0, .ref (za B 147)), (1, .int v1), (2, .int v2), (3, .int q1.1)] dX12_customOf_57 rfl rfl (by decide) rfl (rfl : 57 + 3 = 60) ?_
            refine z_goto (pc' := 14) h dX12_customOf_60 (by decide) ?_
            refine z_sub (L' := [(0, .ref (za B 147)), (1, .int v1), (2, .int v2), (3, .int q1.1), (4, .int x5_14), (5, .int (x5_14 + 1))]) [2, 3, 4, 5, 1, 0] rfl ?_
            exact ih x5_14 (x5_14 + 1) q7.2 _ hf hP hE
  refine z_sub (L' := [(0, .ref (za B 147)), (1, .int v1), (2, .int v2), (3, .int q1.1), (4, .int 0), (5, .int 1)]) [3, 4, 5, 2, 1, 0] rfl ?_
  obtain ⟨q3, e4, hf⟩ := zbind hf
  refine loop_14_4 _ 0 1 q1.2 q3 e4 (fun a ha => ?_) (fun a10 ha  => ?_)
  · have hf := zell ha hf
    exact zsome hf
  have hf := zelr ha hf
  clear ha loop_14_4
  refine z_iload h 4 dX12_customOf_63 rfl (rfl : 63 + 2 = 65) ?_
  refine z_iret h hr dX12_customOf_65 ?_
  exact ⟨congrArg Prod.fst (zsome hf), congrArg Prod.snd (zsome hf), rfl⟩
noncomputable def f_X12_custom (J : zJ) (v1 : Int32) (v2 : Int32) (I : zM) : Option (Int32 × zM) := ((f_X12_noTrade J v1 (zu I 147 0 0)).bind fun q1 => (if q1.1 = 0 then ((f_X12_noGap J v2 q1.2).bind fun q4 => (if q4.1 = 0 then ((f_X12_customOf J v1 v2 q4.2).bind fun q7 => some ((q7.1, q7.2))) else some (((-1), q4.2)))) else some (((-1), q1.2))))
noncomputable abbrev rmX12_custom : Room := { frames := 2, cells := 0, slots := 0, locals := 52 }
theorem zyX12_custom : zY yX12_custom wsX12_custom cX12_custom 3 (some .int) 2 := ⟨⟨_, rfl⟩, by decide +kernel⟩
theorem zrX12_custom_X12_customOf : zRm rmX12_customOf rmX12_custom 6 := ⟨rfl, rfl, by decide, by decide⟩
theorem zrX12_custom_X12_noGap : zRm rmX12_noGap rmX12_custom 1 := ⟨rfl, rfl, by decide, by decide⟩
theorem zrX12_custom_X12_noTrade : zRm rmX12_noTrade rmX12_custom 1 := ⟨rfl, rfl, by decide, by decide⟩
set_option maxHeartbeats 1000000 in
set_option maxRecDepth 100000 in
theorem c_X12_custom (B : zB) (I : zM) (J : zJ) (hJ : zJok J) (v1 : Int32) (v2 : Int32) (r : Int32) (I' : zM) (hf : f_X12_custom J v1 v2 I = some (r, I')) : zCi B zKW I J yX12_custom wsX12_custom rmX12_custom [.ref (za B 147), .int v1, .int v2] (fun r2 I2 J2 => r2 = r ∧ I2 = I' ∧ J2 = J) := by
  refine z_start (own := RX12) (cc := cX12_custom) (nL := 3) (ret := (some .int)) rfl (by decide) rfl (Nat.le_of_ble_eq_true rfl) (L := [(0, .ref (za B 147)), (1, .int v1), (2, .int v2)]) rfl (fun G h hr => ?_)
  rw [f_X12_custom] at hf
  refine z_aload_n h 0 dX12_custom_0 rfl (rfl : 0 + 1 = 1) ?_
  refine z_iconst h 0 dX12_custom_1 (by decide) (rfl : 1 + 1 = 2) ?_
  refine z_put (ci := 11) (C := RX12) (T := TX12) (N := 46) h 0 tyX12 tyX12_ok nmX12 rfl rfl (fun _ hq => List.mem_cons_of_mem _ (List.mem_append_right _ hq)) (by decide) (List.mem_of_getElem? (i := 1) rfl) rfl rfl rfl dX12_custom_2 (rfl : 2 + 3 = 5) ?_
  refine z_iload_n h 1 dX12_custom_5 rfl (rfl : 5 + 1 = 6) ?_
  obtain ⟨q1, e2, hf⟩ := zbind hf
  refine z_goF (z_runS h [.int v1] [] zyX12_noTrade (c_X12_noTrade B (zu I 147 0 0) J hJ v1 _ _ e2) gX12_custom_X12_noTrade zrX12_custom_X12_noTrade rfl (Nat.le_of_ble_eq_true rfl) ⟨Nat.zero_le _, Nat.zero_le _⟩ rfl dX12_custom_6) rfl ?_
  refine z_if_ne (pc' := 12) h 19 dX12_custom_9 (by decide) rfl (fun c3 => ?_) (fun c3 => ?_)
  · have hf := zitf c3 hf
    refine z_iconst h (-1) dX12_custom_19 (by decide) (rfl : 19 + 1 = 20) ?_
    refine z_goto (pc' := 29) h dX12_custom_20 (by decide) ?_
    refine z_iret h hr dX12_custom_29 ?_
    exact ⟨congrArg Prod.fst (zsome hf), congrArg Prod.snd (zsome hf), rfl⟩
  · have hf := zitt c3 hf
    refine z_iload_n h 2 dX12_custom_12 rfl (rfl : 12 + 1 = 13) ?_
    obtain ⟨q4, e5, hf⟩ := zbind hf
    refine z_goF (z_runS h [.int v2] [] zyX12_noGap (c_X12_noGap B q1.2 J hJ v2 _ _ e5) gX12_custom_X12_noGap zrX12_custom_X12_noGap rfl (Nat.le_of_ble_eq_true rfl) ⟨Nat.zero_le _, Nat.zero_le _⟩ rfl dX12_custom_13) rfl ?_
    refine z_if_eq (pc' := 19) h 23 dX12_custom_16 (by decide) rfl (fun c6 => ?_) (fun c6 => ?_)
    · have hf := zitt c6 hf
      refine z_aload_n h 0 dX12_custom_23 rfl (rfl : 23 + 1 = 24) ?_
      refine z_iload_n h 1 dX12_custom_24 rfl (rfl : 24 + 1 = 25) ?_
      refine z_iload_n h 2 dX12_custom_25 rfl (rfl : 25 + 1 = 26) ?_
      obtain ⟨q7, e8, hf⟩ := zbind hf
      refine z_goF (z_runV (C := RX12) (T := TX12) (N := 46) (ci := 11) h [.int v1, .int v2] [] zyX12_customOf (c_X12_customOf B q4.2 J hJ v1 v2 _ _ e8) gX12_custom_X12_customOf rfl rfl rfl zrX12_custom_X12_customOf rfl (Nat.le_of_ble_eq_true rfl) ⟨Nat.zero_le _, Nat.zero_le _⟩ rfl dX12_custom_26) rfl ?_
      refine z_iret h hr dX12_custom_29 ?_
      exact ⟨congrArg Prod.fst (zsome hf), congrArg Prod.snd (zsome hf), rfl⟩
    · have hf := zitf c6 hf
      refine z_iconst h (-1) dX12_custom_19 (by decide) (rfl : 19 + 1 = 20) ?_
      refine z_goto (pc' := 29) h dX12_custom_20 (by decide) ?_
      refine z_iret h hr dX12_custom_29 ?_
      exact ⟨congrArg Prod.fst (zsome hf), congrArg Prod.snd (zsome hf), rfl⟩
noncomputable def f_X12_lacks_57 (J : zJ) (u1 : Int32) (u2 : Int32) (u3 : Int32) (u4 : Int32) (u5 : Int32) : Nat → Int32 → zM → Option ((Int32 × zM) ⊕ (Int32 × zM))
  | 0, _, _ => none
  | n + 1, x6_57, I57 => (if 100 ≤ x6_57 then some (.inr (x6_57, I57)) else (if u4 + x6_57 < I57 147 9 then f_X12_lacks_57 J u1 u2 u3 u4 u5 n (x6_57 + 1) I57 else (if (100 : Int32) * (u5 + x6_57) < (I57 147 10) * (u4 + x6_57) then f_X12_lacks_57 J u1 u2 u3 u4 u5 n (x6_57 + 1) I57 else some (.inl ((x6_57, I57))))))
noncomputable def f_X12_lacks (J : zJ) (v1 : Int32) (v2 : Int32) (v3 : Int32) (I : zM) : Option (Int32 × zM) := ((f_X12_noTrade J v1 (zu I 147 0 0)).bind fun q1 => (if q1.1 = 0 then ((f_X12_noGap J v2 q1.2).bind fun q4 => (if q4.1 = 0 then ((f_X12_in J (Int32.toInt64 v3) 1 5 q4.2).bind fun q7 => (if q7.1 = 0 then some (((-2), q7.2)) else ((f_X12_many J v1 v2 0 q7.2).bind fun q10 => ((f_X12_many J v1 v2 v3 q10.2).bind fun q12 => ((f_X12_lacks_57 J v1 v2 v3 q10.1 q12.1 zF 0 q12.2).bind fun q => Sum.elim (fun a => some a) (fun a16 => some (((-9), a16.2))) q))))) else some (((-1), q4.2)))) else some (((-1), q1.2))))
noncomputable abbrev rmX12_lacks : Room := { frames := 2, cells := 0, slots := 0, locals := 45 }
theorem zyX12_lacks : zY yX12_lacks wsX12_lacks cX12_lacks 7 (some .int) 3 := ⟨⟨_, rfl⟩, by decide +kernel⟩
theorem zrX12_lacks_X12_in : zRm rmX12_in rmX12_lacks 6 := ⟨rfl, rfl, by decide, by decide⟩
theorem zrX12_lacks_X12_many : zRm rmX12_many rmX12_lacks 8 := ⟨rfl, rfl, by decide, by decide⟩
theorem zrX12_lacks_X12_noGap : zRm rmX12_noGap rmX12_lacks 1 := ⟨rfl, rfl, by decide, by decide⟩
theorem zrX12_lacks_X12_noTrade : zRm rmX12_noTrade rmX12_lacks 1 := ⟨rfl, rfl, by decide, by decide⟩
set_option maxHeartbeats 1000000 in
set_option maxRecDepth 100000 in
theorem c_X12_lacks (B : zB) (I : zM) (J : zJ) (hJ : zJok J) (v1 : Int32) (v2 : Int32) (v3 : Int32) (r : Int32) (I' : zM) (hf : f_X12_lacks J v1 v2 v3 I = some (r, I')) : zCi B zKW I J yX12_lacks wsX12_lacks rmX12_lacks [.ref (za B 147), .int v1, .int v2, .int v3] (fun r2 I2 J2 => r2 = r ∧ I2 = I' ∧ J2 = J) := by
  refine z_start (own := RX12) (cc := cX12_lacks) (nL := 7) (ret := (some .int)) rfl (by decide) rfl (Nat.le_of_ble_eq_true rfl) (L := [(0, .ref (za B 147)), (1, .int v1), (2, .int v2), (3, .int v3)]) rfl (fun G h hr => ?_)
  rw [f_X12_lacks] at hf
  refine z_aload_n h 0 dX12_lacks_0 rfl (rfl : 0 + 1 = 1) ?_
  refine z_iconst h 0 dX12_lacks_1 (by decide) (rfl : 1 + 1 = 2) ?_
  refine z_put (ci := 11) (C := RX12) (T := TX12) (N := 46) h 0 tyX12 tyX12_ok nmX12 rfl rfl (fun _ hq => List.mem_cons_of_mem _ (List.mem_append_right _ hq)) (by decide) (List.mem_of_getElem? (i := 1) rfl) rfl rfl rfl dX12_lacks_2 (rfl : 2 + 3 = 5) ?_
  refine z_iload_n h 1 dX12_lacks_5 rfl (rfl : 5 + 1 = 6) ?_
  obtain ⟨q1, e2, hf⟩ := zbind hf
  refine z_goF (z_runS h [.int v1] [] zyX12_noTrade (c_X12_noTrade B (zu I 147 0 0) J hJ v1 _ _ e2) gX12_lacks_X12_noTrade zrX12_lacks_X12_noTrade rfl (Nat.le_of_ble_eq_true rfl) ⟨Nat.zero_le _, Nat.zero_le _⟩ rfl dX12_lacks_6) rfl ?_
  refine z_if_ne (pc' := 12) h 19 dX12_lacks_9 (by decide) rfl (fun c3 => ?_) (fun c3 => ?_)
  · have hf := zitf c3 hf
    refine z_iconst h (-1) dX12_lacks_19 (by decide) (rfl : 19 + 1 = 20) ?_
    refine z_iret h hr dX12_lacks_20 ?_
    exact ⟨congrArg Prod.fst (zsome hf), congrArg Prod.snd (zsome hf), rfl⟩
  · have hf := zitt c3 hf
    refine z_iload_n h 2 dX12_lacks_12 rfl (rfl : 12 + 1 = 13) ?_
    obtain ⟨q4, e5, hf⟩ := zbind hf
    refine z_goF (z_runS h [.int v2] [] zyX12_noGap (c_X12_noGap B q1.2 J hJ v2 _ _ e5) gX12_lacks_X12_noGap zrX12_lacks_X12_noGap rfl (Nat.le_of_ble_eq_true rfl) ⟨Nat.zero_le _, Nat.zero_le _⟩ rfl dX12_lacks_13) rfl ?_
    refine z_if_eq (pc' := 19) h 21 dX12_lacks_16 (by decide) rfl (fun c6 => ?_) (fun c6 => ?_)
    · have hf := zitt c6 hf
      refine z_iload_n h 3 dX12_lacks_21 rfl (rfl : 21 + 1 = 22) ?_
      refine z_i2l h dX12_lacks_22 (rfl : 22 + 1 = 23) ?_
      refine z_lconst h 1 dX12_lacks_23 rfl (rfl : 23 + 1 = 24) ?_
      refine z_ldc2 h 5 (List.mem_of_getElem? (i := 2) rfl) dX12_lacks_24 (rfl : 24 + 3 = 27) ?_
      obtain ⟨q7, e8, hf⟩ := zbind hf
      refine z_goF (z_runS h [.long (Int32.toInt64 v3), .long 1, .long 5] [] zyX12_in (c_X12_in B q4.2 J hJ (Int32.toInt64 v3) 1 5 _ _ e8) gX12_lacks_X12_in zrX12_lacks_X12_in rfl (Nat.le_of_ble_eq_true rfl) ⟨Nat.zero_le _, Nat.zero_le _⟩ rfl dX12_lacks_27) rfl ?_
      refine z_if_ne (pc' := 33) h 36 dX12_lacks_30 (by decide) rfl (fun c9 => ?_) (fun c9 => ?_)
      · have hf := zitf c9 hf
        refine z_aload_n h 0 dX12_lacks_36 rfl (rfl : 36 + 1 = 37) ?_
        refine z_iload_n h 1 dX12_lacks_37 rfl (rfl : 37 + 1 = 38) ?_
        refine z_iload_n h 2 dX12_lacks_38 rfl (rfl : 38 + 1 = 39) ?_
        refine z_iconst h 0 dX12_lacks_39 (by decide) (rfl : 39 + 1 = 40) ?_
        obtain ⟨q10, e11, hf⟩ := zbind hf
        refine z_goF (z_runV (C := RX12) (T := TX12) (N := 46) (ci := 11) h [.int v1, .int v2, .int 0] [] zyX12_many (c_X12_many B q7.2 J hJ v1 v2 0 _ _ e11) gX12_lacks_X12_many rfl rfl rfl zrX12_lacks_X12_many rfl (Nat.le_of_ble_eq_true rfl) ⟨Nat.zero_le _, Nat.zero_le _⟩ rfl dX12_lacks_40) rfl ?_
        refine z_istore h [(4, .int q10.1), (0, .ref (za B 147)), (1, .int v1), (2, .int v2), (3, .int v3)] dX12_lacks_43 (by decide) rfl (rfl : 43 + 2 = 45) ?_
        refine z_aload_n h 1 dX12_lacks_45 rfl (rfl : 45 + 1 = 46) ?_
        refine z_iload_n h 2 dX12_lacks_46 rfl (rfl : 46 + 1 = 47) ?_
        refine z_iload_n h 3 dX12_lacks_47 rfl (rfl : 47 + 1 = 48) ?_
        refine z_iload_n h 4 dX12_lacks_48 rfl (rfl : 48 + 1 = 49) ?_
        obtain ⟨q12, e13, hf⟩ := zbind hf
        refine z_goF (z_runV (C := RX12) (T := TX12) (N := 46) (ci := 11) h [.int v1, .int v2, .int v3] [] zyX12_many (c_X12_many B q10.2 J hJ v1 v2 v3 _ _ e13) gX12_lacks_X12_many rfl rfl rfl zrX12_lacks_X12_many rfl (Nat.le_of_ble_eq_true rfl) ⟨Nat.zero_le _, Nat.zero_le _⟩ rfl dX12_lacks_49) rfl ?_
        refine z_istore h [(5, .int q12.1), (4, .int q10.1), (0, .ref (za B 147)), (1, .int v1), (2, .int v2), (3, .int v3)] dX12_lacks_52 (by decide) rfl (rfl : 52 + 2 = 54) ?_
        refine z_iconst h 0 dX12_lacks_54 (by decide) (rfl : 54 + 1 = 55) ?_
        refine z_istore h [(6, .int 0), (5, .int q12.1), (4, .int q10.1), (0, .ref (za B 147)), (1, .int v1), (2, .int v2), (3, .int v3)] dX12_lacks_55 (by decide) rfl (rfl : 55 + 2 = 57) ?_
        have loop_57_15 : ∀ (n : Nat) (x6_57 : Int32) (I57 : zM) (q : (Int32 × zM) ⊕ (Int32 × zM)), f_X12_lacks_57 J v1 v2 v3 q10.1 q12.1 n x6_57 I57 = some q → (∀ a, q = .inl a → a = (r, I')) → (∀ a : Int32 × zM, q = .inr a → Z B G zKW (a.2) (J) (0, 0) 106 [(0, .ref (za B 147)), (1, .int v1), (2, .int v2), (3, .int v3), (4, .int q10.1), (5, .int q12.1), (6, .int a.1)] []) → Z B G zKW I57 J (0, 0) 57 [(0, .ref (za B 147)), (1, .int v1), (2, .int v2), (3, .int v3), (4, .int q10.1), (5, .int q12.1), (6, .int x6_57)] [] := by
          intro n; induction n with
          | zero => intro x6_57 I57 q hf; exact absurd hf (by rw [f_X12_lacks_57]; exact fun z => by cases z)
          | succ n ih =>
            intro x6_57 I57 q hf hP hE; rw [f_X12_lacks_57] at hf
            refine z_iload h 6 dX12_lacks_57 rfl (rfl : 57 + 2 = 59) ?_
            refine z_bipush h 100 dX12_lacks_59 (by decide) (rfl : 59 + 2 = 61) ?_
            refine z_icmp_ge (pc' := 64) h 106 dX12_lacks_61 (by decide) rfl (fun c16 => ?_) (fun c16 => ?_)
            · have hf := zitt c16 hf
              exact hE (x6_57, I57) (zsome hf).symm
            · have hf := zitf c16 hf
              refine z_iload h 4 dX12_lacks_64 rfl (rfl : 64 + 2 = 66) ?_
              refine z_iload h 6 dX12_lacks_66 rfl (rfl : 66 + 2 = 68) ?_
              refine z_iadd h dX12_lacks_68 (rfl : 68 + 1 = 69) ?_
              refine z_aload_n h 0 dX12_lacks_69 rfl (rfl : 69 + 1 = 70) ?_
              refine z_get (ci := 11) (C := RX12) (T := TX12) (N := 46) h 9 rfl rfl (fun _ hq => List.mem_cons_of_mem _ (List.mem_append_right _ hq)) (by decide) (List.mem_of_getElem? (i := 3) rfl) rfl dX12_lacks_70 (rfl : 70 + 3 = 73) ?_
              refine z_icmp_lt (pc' := 76) h 100 dX12_lacks_73 (by decide) rfl (fun c17 => ?_) (fun c17 => ?_)
              · have hf := zitt c17 hf
                refine z_iinc h 6 (x6_57 + 1) [(6, .int (x6_57 + 1)), (0, .ref (za B 147)), (1, .int v1), (2, .int v2), (3, .int v3), (4, .int q10.1), (5, .int q12.1)] dX12_lacks_100 rfl rfl (by decide) rfl (rfl : 100 + 3 = 103) ?_
                refine z_goto (pc' := 57) h dX12_lacks_103 (by decide) ?_
                refine z_sub (L' := [(0, .ref (za B 147)), (1, .int v1), (2, .int v2), (3, .int v3), (4, .int q10.1), (5, .int q12.1), (6, .int (x6_57 + 1))]) [1, 2, 3, 4, 5, 6, 0] rfl ?_
                exact ih (x6_57 + 1) I57 _ hf hP hE
              · have hf := zitf c17 hf
                refine z_bipush h 100 dX12_lacks_76 (by decide) (rfl : 76 + 2 = 78) ?_
                refine z_iload h 5 dX12_lacks_78 rfl (rfl : 78 + 2 = 80) ?_
                refine z_iload h 6 dX12_lacks_80 rfl (rfl : 80 + 2 = 82) ?_
                refine z_iadd h dX12_lacks_82 (rfl : 82 + 1 = 83) ?_
                refine z_imul h dX12_lacks_83 (rfl : 83 + 1 = 84) ?_
                refine z_aload_n h 0 dX12_lacks_84 rfl (rfl : 84 + 1 = 85) ?_
                refine z_get (ci := 11) (C := RX12) (T := TX12) (N := 46) h 10 rfl rfl (fun _ hq => List.mem_cons_of_mem _ (List.mem_append_right _ hq)) (by decide) (List.mem_of_getElem? (i := 4) rfl) rfl dX12_lacks_85 (rfl : 85 + 3 = 88) ?_
                refine z_iload h 4 dX12_lacks_88 rfl (rfl : 88 + 2 = 90) ?_
                refine z_iload h 6 dX12_lacks_90 rfl (rfl : 90 + 2 = 92) ?_
                refine z_iadd h dX12_lacks_92 (rfl : 92 + 1 = 93) ?_
                refine z_imul h dX12_lacks_93 (rfl : 93 + 1 = 94) ?_
                refine z_icmp_lt (pc' := 97) h 100 dX12_lacks_94 (by decide) rfl (fun c18 => ?_) (fun c18 => ?_)
                · have hf := zitt c18 hf
                  refine z_iinc h 6 (x6_57 + 1) [(6, .int (x6_57 + 1)), (0, .ref (za B 147)), (1, .int v1), (2, .int v2), (3, .int v3), (4, .int q10.1), (5, .int q12.1)] dX12_lacks_100 rfl rfl (by decide) rfl (rfl : 100 + 3 = 103) ?_
                  refine z_goto (pc' := 57) h dX12_lacks_103 (by decide) ?_
                  refine z_sub (L' := [(0, .ref (za B 147)), (1, .int v1), (2, .int v2), (3, .int v3), (4, .int q10.1), (5, .int q12.1), (6, .int (x6_57 + 1))]) [1, 2, 3, 4, 5, 6, 0] rfl ?_
                  exact ih (x6_57 + 1) I57 _ hf hP hE
                · have hf := zitf c18 hf
                  refine z_iload h 6 dX12_lacks_97 rfl (rfl : 97 + 2 = 99) ?_
                  refine z_iret h hr dX12_lacks_99 ?_
                  exact ⟨congrArg Prod.fst (hP _ (zsome hf).symm), congrArg Prod.snd (hP _ (zsome hf).symm), rfl⟩
        refine z_sub (L' := [(0, .ref (za B 147)), (1, .int v1), (2, .int v2), (3, .int v3), (4, .int q10.1), (5, .int q12.1), (6, .int 0)]) [3, 4, 5, 6, 2, 1, 0] rfl ?_
        obtain ⟨q14, e15, hf⟩ := zbind hf
        refine loop_57_15 _ 0 q12.2 q14 e15 (fun a ha => ?_) (fun a19 ha  => ?_)
        · have hf := zell ha hf
          exact zsome hf
        have hf := zelr ha hf
        clear ha loop_57_15
        refine z_bipush h (-9) dX12_lacks_106 (by decide) (rfl : 106 + 2 = 108) ?_
        refine z_iret h hr dX12_lacks_108 ?_
        exact ⟨congrArg Prod.fst (zsome hf), congrArg Prod.snd (zsome hf), rfl⟩
      · have hf := zitt c9 hf
        refine z_bipush h (-2) dX12_lacks_33 (by decide) (rfl : 33 + 2 = 35) ?_
        refine z_iret h hr dX12_lacks_35 ?_
        exact ⟨congrArg Prod.fst (zsome hf), congrArg Prod.snd (zsome hf), rfl⟩
    · have hf := zitf c6 hf
      refine z_iconst h (-1) dX12_lacks_19 (by decide) (rfl : 19 + 1 = 20) ?_
      refine z_iret h hr dX12_lacks_20 ?_
      exact ⟨congrArg Prod.fst (zsome hf), congrArg Prod.snd (zsome hf), rfl⟩
noncomputable def f_X12_write_39 (J : zJ) (u1 : Int32) (u2 : Int64) : Nat → Int32 → zM → Option ((Int32 × zM) ⊕ (Int32 × zM))
  | 0, _, _ => none
  | n + 1, x4_39, I39 => (if x4_39 < 0 then some (.inr (x4_39, I39)) else (if zin (I39 147 12) 24 = true then f_X12_write_39 J u1 u2 n (x4_39 + (-1)) (zu (zu I39 154 (Int32.toNatClampNeg (I39 147 12)) ((Int64.toInt32 (u2 >>> (Int32.toInt64 ((8 : Int32) * x4_39) &&& 63))) &&& (255 : Int32))) 147 12 (((zu I39 154 (Int32.toNatClampNeg (I39 147 12)) ((Int64.toInt32 (u2 >>> (Int32.toInt64 ((8 : Int32) * x4_39) &&& 63))) &&& (255 : Int32))) 147 12) + (1 : Int32))) else none))
noncomputable def f_X12_write (J : zJ) (v1 : Int32) (w2 : Int64) (I : zM) : Option (Int32 × zM) := ((f_X12_in J (Int32.toInt64 v1) 1 8 (zu I 147 0 0)).bind fun q1 => (if q1.1 = 0 then some (((-2), q1.2)) else (if (q1.2 147 12) + v1 ≤ 24 then ((f_X12_write_39 J v1 w2 zF (v1 - (1 : Int32)) q1.2).bind fun q => Sum.elim (fun a => some a) (fun a7 => some ((a7.2 147 12, a7.2))) q) else some (((-4), q1.2)))))
noncomputable abbrev rmX12_write : Room := { frames := 1, cells := 0, slots := 0, locals := 25 }
theorem zyX12_write : zY yX12_write wsX12_write cX12_write 5 (some .int) 2 := ⟨⟨_, rfl⟩, by decide +kernel⟩
theorem zrX12_write_X12_in : zRm rmX12_in rmX12_write 6 := ⟨rfl, rfl, by decide, by decide⟩
set_option maxHeartbeats 1000000 in
set_option maxRecDepth 100000 in
theorem c_X12_write (B : zB) (I : zM) (J : zJ) (hJ : zJok J) (v1 : Int32) (w2 : Int64) (r : Int32) (I' : zM) (hf : f_X12_write J v1 w2 I = some (r, I')) : zCi B zKW I J yX12_write wsX12_write rmX12_write [.ref (za B 147), .int v1, .long w2] (fun r2 I2 J2 => r2 = r ∧ I2 = I' ∧ J2 = J) := by
  refine z_start (own := RX12) (cc := cX12_write) (nL := 5) (ret := (some .int)) rfl (by decide) rfl (Nat.le_of_ble_eq_true rfl) (L := [(0, .ref (za B 147)), (1, .int v1), (2, .long w2)]) rfl (fun G h hr => ?_)
  rw [f_X12_write] at hf
  refine z_aload_n h 0 dX12_write_0 rfl (rfl : 0 + 1 = 1) ?_
  refine z_iconst h 0 dX12_write_1 (by decide) (rfl : 1 + 1 = 2) ?_
  refine z_put (ci := 11) (C := RX12) (T := TX12) (N := 46) h 0 tyX12 tyX12_ok nmX12 rfl rfl (fun _ hq => List.mem_cons_of_mem _ (List.mem_append_right _ hq)) (by decide) (List.mem_of_getElem? (i := 1) rfl) rfl rfl rfl dX12_write_2 (rfl : 2 + 3 = 5) ?_
  refine z_iload_n h 1 dX12_write_5 rfl (rfl : 5 + 1 = 6) ?_
  refine z_i2l h dX12_write_6 (rfl : 6 + 1 = 7) ?_
  refine z_lconst h 1 dX12_write_7 rfl (rfl : 7 + 1 = 8) ?_
  refine z_ldc2 h 8 (List.mem_of_getElem? (i := 2) rfl) dX12_write_8 (rfl : 8 + 3 = 11) ?_
  obtain ⟨q1, e2, hf⟩ := zbind hf
  refine z_goF (z_runS h [.long (Int32.toInt64 v1), .long 1, .long 8] [] zyX12_in (c_X12_in B (zu I 147 0 0) J hJ (Int32.toInt64 v1) 1 8 _ _ e2) gX12_write_X12_in zrX12_write_X12_in rfl (Nat.le_of_ble_eq_true rfl) ⟨Nat.zero_le _, Nat.zero_le _⟩ rfl dX12_write_11) rfl ?_
  refine z_if_ne (pc' := 17) h 20 dX12_write_14 (by decide) rfl (fun c3 => ?_) (fun c3 => ?_)
  · have hf := zitf c3 hf
    refine z_aload_n h 0 dX12_write_20 rfl (rfl : 20 + 1 = 21) ?_
    refine z_get (ci := 11) (C := RX12) (T := TX12) (N := 46) h 12 rfl rfl (fun _ hq => List.mem_cons_of_mem _ (List.mem_append_right _ hq)) (by decide) (List.mem_of_getElem? (i := 3) rfl) rfl dX12_write_21 (rfl : 21 + 3 = 24) ?_
    refine z_iload_n h 1 dX12_write_24 rfl (rfl : 24 + 1 = 25) ?_
    refine z_iadd h dX12_write_25 (rfl : 25 + 1 = 26) ?_
    refine z_bipush h 24 dX12_write_26 (by decide) (rfl : 26 + 2 = 28) ?_
    refine z_icmp_le (pc' := 31) h 34 dX12_write_28 (by decide) rfl (fun c4 => ?_) (fun c4 => ?_)
    · have hf := zitt c4 hf
      refine z_iload_n h 1 dX12_write_34 rfl (rfl : 34 + 1 = 35) ?_
      refine z_iconst h 1 dX12_write_35 (by decide) (rfl : 35 + 1 = 36) ?_
      refine z_isub h dX12_write_36 (rfl : 36 + 1 = 37) ?_
      refine z_istore h [(4, .int (v1 - (1 : Int32))), (0, .ref (za B 147)), (1, .int v1), (2, .long w2)] dX12_write_37 (by decide) rfl (rfl : 37 + 2 = 39) ?_
      have loop_39_6 : ∀ (n : Nat) (x4_39 : Int32) (I39 : zM) (q : (Int32 × zM) ⊕ (Int32 × zM)), f_X12_write_39 J v1 w2 n x4_39 I39 = some q → (∀ a, q = .inl a → a = (r, I')) → (∀ a : Int32 × zM, q = .inr a → Z B G zKW (a.2) (J) (0, 0) 81 [(0, .ref (za B 147)), (1, .int v1), (2, .long w2), (4, .int a.1)] []) → Z B G zKW I39 J (0, 0) 39 [(0, .ref (za B 147)), (1, .int v1), (2, .long w2), (4, .int x4_39)] [] := by
        intro n; induction n with
        | zero => intro x4_39 I39 q hf; exact absurd hf (by rw [f_X12_write_39]; exact fun z => by cases z)
        | succ n ih =>
          intro x4_39 I39 q hf hP hE; rw [f_X12_write_39] at hf
          refine z_iload h 3 dX12_write_39 rfl (rfl : 39 + 2 = 41) ?_
          refine z_if_lt (pc' := 44) h 81 dX12_write_41 (by decide) rfl (fun c7 => ?_) (fun c7 => ?_)
          · have hf := zitt c7 hf
            exact hE (x4_39, I39) (zsome hf).symm
          · have hf := zitf c7 hf
            refine z_aload_n h 0 dX12_write_44 rfl (rfl : 44 + 1 = 45) ?_
            refine z_getr (ci := 11) (C := RX12) (T := TX12) (N := 46) h 11 154 ((hJ.1 147 11 (by decide)).trans rfl) rfl rfl (fun _ hq => List.mem_cons_of_mem _ (List.mem_append_right _ hq)) (by decide) (List.mem_of_getElem? (i := 4) rfl) rfl dX12_write_45 (rfl : 45 + 3 = 48) ?_
            refine z_aload_n h 0 dX12_write_48 rfl (rfl : 48 + 1 = 49) ?_
            refine z_get (ci := 11) (C := RX12) (T := TX12) (N := 46) h 12 rfl rfl (fun _ hq => List.mem_cons_of_mem _ (List.mem_append_right _ hq)) (by decide) (List.mem_of_getElem? (i := 3) rfl) rfl dX12_write_49 (rfl : 49 + 3 = 52) ?_
            refine z_lload_n h 2 dX12_write_52 rfl (rfl : 52 + 1 = 53) ?_
            refine z_bipush h 8 dX12_write_53 (by decide) (rfl : 53 + 2 = 55) ?_
            refine z_iload h 3 dX12_write_55 rfl (rfl : 55 + 2 = 57) ?_
            refine z_imul h dX12_write_57 (rfl : 57 + 1 = 58) ?_
            refine z_lshr h dX12_write_58 (rfl : 58 + 1 = 59) ?_
            refine z_l2i h dX12_write_59 (rfl : 59 + 1 = 60) ?_
            refine z_sipush h 255 dX12_write_60 (by decide) (rfl : 60 + 3 = 63) ?_
            refine z_iand h dX12_write_63 (rfl : 63 + 1 = 64) ?_
            obtain ⟨b8, hf⟩ := zchk hf
            refine z_iast h b8 rfl dX12_write_64 (rfl : 64 + 1 = 65) ?_
            refine z_aload_n h 0 dX12_write_65 rfl (rfl : 65 + 1 = 66) ?_
            refine z_dup h rfl dX12_write_66 (rfl : 66 + 1 = 67) ?_
            refine z_get (ci := 11) (C := RX12) (T := TX12) (N := 46) h 12 rfl rfl (fun _ hq => List.mem_cons_of_mem _ (List.mem_append_right _ hq)) (by decide) (List.mem_of_getElem? (i := 3) rfl) rfl dX12_write_67 (rfl : 67 + 3 = 70) ?_
            refine z_iconst h 1 dX12_write_70 (by decide) (rfl : 70 + 1 = 71) ?_
            refine z_iadd h dX12_write_71 (rfl : 71 + 1 = 72) ?_
            refine z_put (ci := 11) (C := RX12) (T := TX12) (N := 46) h 12 tyX12 tyX12_ok nmX12 rfl rfl (fun _ hq => List.mem_cons_of_mem _ (List.mem_append_right _ hq)) (by decide) (List.mem_of_getElem? (i := 3) rfl) rfl rfl rfl dX12_write_72 (rfl : 72 + 3 = 75) ?_
            refine z_iinc h 3 (x4_39 + (-1)) [(4, .int (x4_39 + (-1))), (0, .ref (za B 147)), (1, .int v1), (2, .long w2)] dX12_write_75 rfl rfl (by decide) rfl (rfl : 75 + 3 = 78) ?_
            refine z_goto (pc' := 39) h dX12_write_78 (by decide) ?_
            refine z_sub (L' := [(0, .ref (za B 147)), (1, .int v1), (2, .long w2), (4, .int (x4_39 + (-1)))]) [1, 2, 3, 0] rfl ?_
            exact ih (x4_39 + (-1)) (zu (zu I39 154 (Int32.toNatClampNeg (I39 147 12)) ((Int64.toInt32 (w2 >>> (Int32.toInt64 ((8 : Int32) * x4_39) &&& 63))) &&& (255 : Int32))) 147 12 (((zu I39 154 (Int32.toNatClampNeg (I39 147 12)) ((Int64.toInt32 (w2 >>> (Int32.toInt64 ((8 : Int32) * x4_39) &&& 63))) &&& (255 : Int32))) 147 12) + (1 : Int32))) _ hf hP hE
      refine z_sub (L' := [(0, .ref (za B 147)), (1, .int v1), (2, .long w2), (4, .int (v1 - (1 : Int32)))]) [1, 2, 3, 0] rfl ?_
      obtain ⟨q5, e6, hf⟩ := zbind hf
      refine loop_39_6 _ (v1 - (1 : Int32)) q1.2 q5 e6 (fun a ha => ?_) (fun a9 ha  => ?_)
      · have hf := zell ha hf
        exact zsome hf
      have hf := zelr ha hf
      clear ha loop_39_6
      refine z_aload_n h 0 dX12_write_81 rfl (rfl : 81 + 1 = 82) ?_
      refine z_get (ci := 11) (C := RX12) (T := TX12) (N := 46) h 12 rfl rfl (fun _ hq => List.mem_cons_of_mem _ (List.mem_append_right _ hq)) (by decide) (List.mem_of_getElem? (i := 3) rfl) rfl dX12_write_82 (rfl : 82 + 3 = 85) ?_
      refine z_iret h hr dX12_write_85 ?_
      exact ⟨congrArg Prod.fst (zsome hf), congrArg Prod.snd (zsome hf), rfl⟩
    · have hf := zitf c4 hf
      refine z_bipush h (-4) dX12_write_31 (by decide) (rfl : 31 + 2 = 33) ?_
      refine z_iret h hr dX12_write_33 ?_
      exact ⟨congrArg Prod.fst (zsome hf), congrArg Prod.snd (zsome hf), rfl⟩
  · have hf := zitt c3 hf
    refine z_bipush h (-2) dX12_write_17 (by decide) (rfl : 17 + 2 = 19) ?_
    refine z_iret h hr dX12_write_19 ?_
    exact ⟨congrArg Prod.fst (zsome hf), congrArg Prod.snd (zsome hf), rfl⟩
noncomputable def f_X12_wipe (J : zJ)  (I : zM) : Option (Int32 × zM) := some (((zu I 147 0 0) 147 12, zu (zu I 147 0 0) 147 12 0))
noncomputable abbrev rmX12_wipe : Room := { frames := 0, cells := 0, slots := 0, locals := 0 }
theorem zyX12_wipe : zY yX12_wipe wsX12_wipe cX12_wipe 2 (some .int) 0 := ⟨⟨_, rfl⟩, by decide +kernel⟩
set_option maxHeartbeats 1000000 in
set_option maxRecDepth 100000 in
theorem c_X12_wipe (B : zB) (I : zM) (J : zJ) (hJ : zJok J)  (r : Int32) (I' : zM) (hf : f_X12_wipe J  I = some (r, I')) : zCi B zKW I J yX12_wipe wsX12_wipe rmX12_wipe [.ref (za B 147)] (fun r2 I2 J2 => r2 = r ∧ I2 = I' ∧ J2 = J) := by
  refine z_start (own := RX12) (cc := cX12_wipe) (nL := 2) (ret := (some .int)) rfl (by decide) rfl (Nat.le_of_ble_eq_true rfl) (L := [(0, .ref (za B 147))]) rfl (fun G h hr => ?_)
  rw [f_X12_wipe] at hf
  refine z_aload_n h 0 dX12_wipe_0 rfl (rfl : 0 + 1 = 1) ?_
  refine z_iconst h 0 dX12_wipe_1 (by decide) (rfl : 1 + 1 = 2) ?_
  refine z_put (ci := 11) (C := RX12) (T := TX12) (N := 46) h 0 tyX12 tyX12_ok nmX12 rfl rfl (fun _ hq => List.mem_cons_of_mem _ (List.mem_append_right _ hq)) (by decide) (List.mem_of_getElem? (i := 1) rfl) rfl rfl rfl dX12_wipe_2 (rfl : 2 + 3 = 5) ?_
  refine z_aload_n h 0 dX12_wipe_5 rfl (rfl : 5 + 1 = 6) ?_
  refine z_get (ci := 11) (C := RX12) (T := TX12) (N := 46) h 12 rfl rfl (fun _ hq => List.mem_cons_of_mem _ (List.mem_append_right _ hq)) (by decide) (List.mem_of_getElem? (i := 2) rfl) rfl dX12_wipe_6 (rfl : 6 + 3 = 9) ?_
  refine z_istore_n h [(1, .int ((zu I 147 0 0) 147 12)), (0, .ref (za B 147))] dX12_wipe_9 (by decide) rfl (rfl : 9 + 1 = 10) ?_
  refine z_aload_n h 1 dX12_wipe_10 rfl (rfl : 10 + 1 = 11) ?_
  refine z_iconst h 0 dX12_wipe_11 (by decide) (rfl : 11 + 1 = 12) ?_
  refine z_put (ci := 11) (C := RX12) (T := TX12) (N := 46) h 12 tyX12 tyX12_ok nmX12 rfl rfl (fun _ hq => List.mem_cons_of_mem _ (List.mem_append_right _ hq)) (by decide) (List.mem_of_getElem? (i := 2) rfl) rfl rfl rfl dX12_wipe_12 (rfl : 12 + 3 = 15) ?_
  refine z_iload_n h 0 dX12_wipe_15 rfl (rfl : 15 + 1 = 16) ?_
  refine z_iret h hr dX12_wipe_16 ?_
  exact ⟨congrArg Prod.fst (zsome hf), congrArg Prod.snd (zsome hf), rfl⟩
noncomputable def f_X12_sign (J : zJ) (v1 : Int32) (I : zM) : Option (Int32 × zM) := (if I 147 12 ≤ I 147 13 then some ((0, zu I 147 13 ((I 147 13) + (0 : Int32)))) else (if zin (I 147 13) 24 = true then (if I 154 (Int32.toNatClampNeg (I 147 13)) = v1 then some ((1, zu I 147 13 ((I 147 13) + (1 : Int32)))) else some ((0, zu I 147 13 ((I 147 13) + (0 : Int32))))) else none))
noncomputable abbrev rmX12_sign : Room := { frames := 0, cells := 0, slots := 0, locals := 0 }
theorem zyX12_sign : zY yX12_sign wsX12_sign cX12_sign 3 (some .boolean) 1 := ⟨⟨_, rfl⟩, by decide +kernel⟩
set_option maxHeartbeats 1000000 in
set_option maxRecDepth 100000 in
theorem c_X12_sign (B : zB) (I : zM) (J : zJ) (hJ : zJok J) (v1 : Int32) (r : Int32) (I' : zM) (hf : f_X12_sign J v1 I = some (r, I')) : zCi B zKW I J yX12_sign wsX12_sign rmX12_sign [.ref (za B 147), .int v1] (fun r2 I2 J2 => r2 = r ∧ I2 = I' ∧ J2 = J) := by
  refine z_start (own := RX12) (cc := cX12_sign) (nL := 3) (ret := (some .boolean)) rfl (by decide) rfl (Nat.le_of_ble_eq_true rfl) (L := [(0, .ref (za B 147)), (1, .int v1)]) rfl (fun G h hr => ?_)
  rw [f_X12_sign] at hf
  refine z_aload_n h 0 dX12_sign_0 rfl (rfl : 0 + 1 = 1) ?_
  refine z_get (ci := 11) (C := RX12) (T := TX12) (N := 46) h 13 rfl rfl (fun _ hq => List.mem_cons_of_mem _ (List.mem_append_right _ hq)) (by decide) (List.mem_of_getElem? (i := 1) rfl) rfl dX12_sign_1 (rfl : 1 + 3 = 4) ?_
  refine z_aload_n h 0 dX12_sign_4 rfl (rfl : 4 + 1 = 5) ?_
  refine z_get (ci := 11) (C := RX12) (T := TX12) (N := 46) h 12 rfl rfl (fun _ hq => List.mem_cons_of_mem _ (List.mem_append_right _ hq)) (by decide) (List.mem_of_getElem? (i := 2) rfl) rfl dX12_sign_5 (rfl : 5 + 3 = 8) ?_
  refine z_icmp_ge (pc' := 11) h 28 dX12_sign_8 (by decide) rfl (fun c1 => ?_) (fun c1 => ?_)
  · have hf := zitt c1 hf
    refine z_iconst h 0 dX12_sign_28 (by decide) (rfl : 28 + 1 = 29) ?_
    refine z_istore_n h [(2, .int 0), (0, .ref (za B 147)), (1, .int v1)] dX12_sign_29 (by decide) rfl (rfl : 29 + 1 = 30) ?_
    refine z_aload_n h 1 dX12_sign_30 rfl (rfl : 30 + 1 = 31) ?_
    refine z_dup h rfl dX12_sign_31 (rfl : 31 + 1 = 32) ?_
    refine z_get (ci := 11) (C := RX12) (T := TX12) (N := 46) h 13 rfl rfl (fun _ hq => List.mem_cons_of_mem _ (List.mem_append_right _ hq)) (by decide) (List.mem_of_getElem? (i := 1) rfl) rfl dX12_sign_32 (rfl : 32 + 3 = 35) ?_
    refine z_iload_n h 0 dX12_sign_35 rfl (rfl : 35 + 1 = 36) ?_
    refine z_if_eq (pc' := 39) h 43 dX12_sign_36 (by decide) rfl (fun _ => ?_) (fun q => absurd q (by decide))
    refine z_iconst h 0 dX12_sign_43 (by decide) (rfl : 43 + 1 = 44) ?_
    refine z_iadd h dX12_sign_44 (rfl : 44 + 1 = 45) ?_
    refine z_put (ci := 11) (C := RX12) (T := TX12) (N := 46) h 13 tyX12 tyX12_ok nmX12 rfl rfl (fun _ hq => List.mem_cons_of_mem _ (List.mem_append_right _ hq)) (by decide) (List.mem_of_getElem? (i := 1) rfl) rfl rfl rfl dX12_sign_45 (rfl : 45 + 3 = 48) ?_
    refine z_iload_n h 0 dX12_sign_48 rfl (rfl : 48 + 1 = 49) ?_
    refine z_zret h hr dX12_sign_49 (Or.inl rfl) ?_
    exact ⟨congrArg Prod.fst (zsome hf), congrArg Prod.snd (zsome hf), rfl⟩
  · have hf := zitf c1 hf
    refine z_aload_n h 0 dX12_sign_11 rfl (rfl : 11 + 1 = 12) ?_
    refine z_getr (ci := 11) (C := RX12) (T := TX12) (N := 46) h 11 154 ((hJ.1 147 11 (by decide)).trans rfl) rfl rfl (fun _ hq => List.mem_cons_of_mem _ (List.mem_append_right _ hq)) (by decide) (List.mem_of_getElem? (i := 3) rfl) rfl dX12_sign_12 (rfl : 12 + 3 = 15) ?_
    refine z_aload_n h 0 dX12_sign_15 rfl (rfl : 15 + 1 = 16) ?_
    refine z_get (ci := 11) (C := RX12) (T := TX12) (N := 46) h 13 rfl rfl (fun _ hq => List.mem_cons_of_mem _ (List.mem_append_right _ hq)) (by decide) (List.mem_of_getElem? (i := 1) rfl) rfl dX12_sign_16 (rfl : 16 + 3 = 19) ?_
    obtain ⟨b2, hf⟩ := zchk hf
    refine z_iald h rfl b2 dX12_sign_19 (rfl : 19 + 1 = 20) ?_
    refine z_iload_n h 1 dX12_sign_20 rfl (rfl : 20 + 1 = 21) ?_
    refine z_icmp_ne (pc' := 24) h 28 dX12_sign_21 (by decide) rfl (fun c3 => ?_) (fun c3 => ?_)
    · have hf := zitf c3 hf
      refine z_iconst h 0 dX12_sign_28 (by decide) (rfl : 28 + 1 = 29) ?_
      refine z_istore_n h [(2, .int 0), (0, .ref (za B 147)), (1, .int v1)] dX12_sign_29 (by decide) rfl (rfl : 29 + 1 = 30) ?_
      refine z_aload_n h 1 dX12_sign_30 rfl (rfl : 30 + 1 = 31) ?_
      refine z_dup h rfl dX12_sign_31 (rfl : 31 + 1 = 32) ?_
      refine z_get (ci := 11) (C := RX12) (T := TX12) (N := 46) h 13 rfl rfl (fun _ hq => List.mem_cons_of_mem _ (List.mem_append_right _ hq)) (by decide) (List.mem_of_getElem? (i := 1) rfl) rfl dX12_sign_32 (rfl : 32 + 3 = 35) ?_
      refine z_iload_n h 0 dX12_sign_35 rfl (rfl : 35 + 1 = 36) ?_
      refine z_if_eq (pc' := 39) h 43 dX12_sign_36 (by decide) rfl (fun _ => ?_) (fun q => absurd q (by decide))
      refine z_iconst h 0 dX12_sign_43 (by decide) (rfl : 43 + 1 = 44) ?_
      refine z_iadd h dX12_sign_44 (rfl : 44 + 1 = 45) ?_
      refine z_put (ci := 11) (C := RX12) (T := TX12) (N := 46) h 13 tyX12 tyX12_ok nmX12 rfl rfl (fun _ hq => List.mem_cons_of_mem _ (List.mem_append_right _ hq)) (by decide) (List.mem_of_getElem? (i := 1) rfl) rfl rfl rfl dX12_sign_45 (rfl : 45 + 3 = 48) ?_
      refine z_iload_n h 0 dX12_sign_48 rfl (rfl : 48 + 1 = 49) ?_
      refine z_zret h hr dX12_sign_49 (Or.inl rfl) ?_
      exact ⟨congrArg Prod.fst (zsome hf), congrArg Prod.snd (zsome hf), rfl⟩
    · have hf := zitt c3 hf
      refine z_iconst h 1 dX12_sign_24 (by decide) (rfl : 24 + 1 = 25) ?_
      refine z_goto (pc' := 29) h dX12_sign_25 (by decide) ?_
      refine z_istore_n h [(2, .int 1), (0, .ref (za B 147)), (1, .int v1)] dX12_sign_29 (by decide) rfl (rfl : 29 + 1 = 30) ?_
      refine z_aload_n h 1 dX12_sign_30 rfl (rfl : 30 + 1 = 31) ?_
      refine z_dup h rfl dX12_sign_31 (rfl : 31 + 1 = 32) ?_
      refine z_get (ci := 11) (C := RX12) (T := TX12) (N := 46) h 13 rfl rfl (fun _ hq => List.mem_cons_of_mem _ (List.mem_append_right _ hq)) (by decide) (List.mem_of_getElem? (i := 1) rfl) rfl dX12_sign_32 (rfl : 32 + 3 = 35) ?_
      refine z_iload_n h 0 dX12_sign_35 rfl (rfl : 35 + 1 = 36) ?_
      refine z_if_eq (pc' := 39) h 43 dX12_sign_36 (by decide) rfl (fun q => absurd q (by decide)) (fun _ => ?_)
      refine z_iconst h 1 dX12_sign_39 (by decide) (rfl : 39 + 1 = 40) ?_
      refine z_goto (pc' := 44) h dX12_sign_40 (by decide) ?_
      refine z_iadd h dX12_sign_44 (rfl : 44 + 1 = 45) ?_
      refine z_put (ci := 11) (C := RX12) (T := TX12) (N := 46) h 13 tyX12 tyX12_ok nmX12 rfl rfl (fun _ hq => List.mem_cons_of_mem _ (List.mem_append_right _ hq)) (by decide) (List.mem_of_getElem? (i := 1) rfl) rfl rfl rfl dX12_sign_45 (rfl : 45 + 3 = 48) ?_
      refine z_iload_n h 0 dX12_sign_48 rfl (rfl : 48 + 1 = 49) ?_
      refine z_zret h hr dX12_sign_49 (Or.inr rfl) ?_
      exact ⟨congrArg Prod.fst (zsome hf), congrArg Prod.snd (zsome hf), rfl⟩
noncomputable def f_X12_figure (J : zJ) (v1 : Int32) (v2 : Int32) (I : zM) : Option (Int32 × zM) := (if I 147 13 = I 147 12 then some (((-9), I)) else (if zin (I 147 13) 24 = true then ((f_X12_in J (Int32.toInt64 ((I 154 (Int32.toNatClampNeg (I 147 13))) - (48 : Int32))) (Int32.toInt64 v1) (Int32.toInt64 v2) I).bind fun q3 => (if q3.1 = 0 then some (((-9), q3.2)) else (if zin (((zu q3.2 147 13 ((q3.2 147 13) + (1 : Int32))) 147 13) - (1 : Int32)) 24 = true then some ((((zu q3.2 147 13 ((q3.2 147 13) + (1 : Int32))) 154 (Int32.toNatClampNeg (((zu q3.2 147 13 ((q3.2 147 13) + (1 : Int32))) 147 13) - (1 : Int32)))) - (48 : Int32), zu q3.2 147 13 ((q3.2 147 13) + (1 : Int32)))) else none))) else none))
noncomputable abbrev rmX12_figure : Room := { frames := 1, cells := 0, slots := 0, locals := 25 }
theorem zyX12_figure : zY yX12_figure wsX12_figure cX12_figure 3 (some .int) 2 := ⟨⟨_, rfl⟩, by decide +kernel⟩
theorem zrX12_figure_X12_in : zRm rmX12_in rmX12_figure 6 := ⟨rfl, rfl, by decide, by decide⟩
set_option maxHeartbeats 1000000 in
set_option maxRecDepth 100000 in
theorem c_X12_figure (B : zB) (I : zM) (J : zJ) (hJ : zJok J) (v1 : Int32) (v2 : Int32) (r : Int32) (I' : zM) (hf : f_X12_figure J v1 v2 I = some (r, I')) : zCi B zKW I J yX12_figure wsX12_figure rmX12_figure [.ref (za B 147), .int v1, .int v2] (fun r2 I2 J2 => r2 = r ∧ I2 = I' ∧ J2 = J) := by
  refine z_start (own := RX12) (cc := cX12_figure) (nL := 3) (ret := (some .int)) rfl (by decide) rfl (Nat.le_of_ble_eq_true rfl) (L := [(0, .ref (za B 147)), (1, .int v1), (2, .int v2)]) rfl (fun G h hr => ?_)
  rw [f_X12_figure] at hf
  refine z_aload_n h 0 dX12_figure_0 rfl (rfl : 0 + 1 = 1) ?_
  refine z_get (ci := 11) (C := RX12) (T := TX12) (N := 46) h 13 rfl rfl (fun _ hq => List.mem_cons_of_mem _ (List.mem_append_right _ hq)) (by decide) (List.mem_of_getElem? (i := 1) rfl) rfl dX12_figure_1 (rfl : 1 + 3 = 4) ?_
  refine z_aload_n h 0 dX12_figure_4 rfl (rfl : 4 + 1 = 5) ?_
  refine z_get (ci := 11) (C := RX12) (T := TX12) (N := 46) h 12 rfl rfl (fun _ hq => List.mem_cons_of_mem _ (List.mem_append_right _ hq)) (by decide) (List.mem_of_getElem? (i := 2) rfl) rfl dX12_figure_5 (rfl : 5 + 3 = 8) ?_
  refine z_icmp_eq (pc' := 11) h 34 dX12_figure_8 (by decide) rfl (fun c1 => ?_) (fun c1 => ?_)
  · have hf := zitt c1 hf
    refine z_bipush h (-9) dX12_figure_34 (by decide) (rfl : 34 + 2 = 36) ?_
    refine z_iret h hr dX12_figure_36 ?_
    exact ⟨congrArg Prod.fst (zsome hf), congrArg Prod.snd (zsome hf), rfl⟩
  · have hf := zitf c1 hf
    refine z_aload_n h 0 dX12_figure_11 rfl (rfl : 11 + 1 = 12) ?_
    refine z_getr (ci := 11) (C := RX12) (T := TX12) (N := 46) h 11 154 ((hJ.1 147 11 (by decide)).trans rfl) rfl rfl (fun _ hq => List.mem_cons_of_mem _ (List.mem_append_right _ hq)) (by decide) (List.mem_of_getElem? (i := 3) rfl) rfl dX12_figure_12 (rfl : 12 + 3 = 15) ?_
    refine z_aload_n h 0 dX12_figure_15 rfl (rfl : 15 + 1 = 16) ?_
    refine z_get (ci := 11) (C := RX12) (T := TX12) (N := 46) h 13 rfl rfl (fun _ hq => List.mem_cons_of_mem _ (List.mem_append_right _ hq)) (by decide) (List.mem_of_getElem? (i := 1) rfl) rfl dX12_figure_16 (rfl : 16 + 3 = 19) ?_
    obtain ⟨b2, hf⟩ := zchk hf
    refine z_iald h rfl b2 dX12_figure_19 (rfl : 19 + 1 = 20) ?_
    refine z_bipush h 48 dX12_figure_20 (by decide) (rfl : 20 + 2 = 22) ?_
    refine z_isub h dX12_figure_22 (rfl : 22 + 1 = 23) ?_
    refine z_i2l h dX12_figure_23 (rfl : 23 + 1 = 24) ?_
    refine z_iload_n h 1 dX12_figure_24 rfl (rfl : 24 + 1 = 25) ?_
    refine z_i2l h dX12_figure_25 (rfl : 25 + 1 = 26) ?_
    refine z_iload_n h 2 dX12_figure_26 rfl (rfl : 26 + 1 = 27) ?_
    refine z_i2l h dX12_figure_27 (rfl : 27 + 1 = 28) ?_
    obtain ⟨q3, e4, hf⟩ := zbind hf
    refine z_goF (z_runS h [.long (Int32.toInt64 ((I 154 (Int32.toNatClampNeg (I 147 13))) - (48 : Int32))), .long (Int32.toInt64 v1), .long (Int32.toInt64 v2)] [] zyX12_in (c_X12_in B I J hJ (Int32.toInt64 ((I 154 (Int32.toNatClampNeg (I 147 13))) - (48 : Int32))) (Int32.toInt64 v1) (Int32.toInt64 v2) _ _ e4) gX12_figure_X12_in zrX12_figure_X12_in rfl (Nat.le_of_ble_eq_true rfl) ⟨Nat.zero_le _, Nat.zero_le _⟩ rfl dX12_figure_28) rfl ?_
    refine z_if_ne (pc' := 34) h 37 dX12_figure_31 (by decide) rfl (fun c5 => ?_) (fun c5 => ?_)
    · have hf := zitf c5 hf
      refine z_aload_n h 0 dX12_figure_37 rfl (rfl : 37 + 1 = 38) ?_
      refine z_dup h rfl dX12_figure_38 (rfl : 38 + 1 = 39) ?_
      refine z_get (ci := 11) (C := RX12) (T := TX12) (N := 46) h 13 rfl rfl (fun _ hq => List.mem_cons_of_mem _ (List.mem_append_right _ hq)) (by decide) (List.mem_of_getElem? (i := 1) rfl) rfl dX12_figure_39 (rfl : 39 + 3 = 42) ?_
      refine z_iconst h 1 dX12_figure_42 (by decide) (rfl : 42 + 1 = 43) ?_
      refine z_iadd h dX12_figure_43 (rfl : 43 + 1 = 44) ?_
      refine z_put (ci := 11) (C := RX12) (T := TX12) (N := 46) h 13 tyX12 tyX12_ok nmX12 rfl rfl (fun _ hq => List.mem_cons_of_mem _ (List.mem_append_right _ hq)) (by decide) (List.mem_of_getElem? (i := 1) rfl) rfl rfl rfl dX12_figure_44 (rfl : 44 + 3 = 47) ?_
      refine z_aload_n h 0 dX12_figure_47 rfl (rfl : 47 + 1 = 48) ?_
      refine z_getr (ci := 11) (C := RX12) (T := TX12) (N := 46) h 11 154 ((hJ.1 147 11 (by decide)).trans rfl) rfl rfl (fun _ hq => List.mem_cons_of_mem _ (List.mem_append_right _ hq)) (by decide) (List.mem_of_getElem? (i := 3) rfl) rfl dX12_figure_48 (rfl : 48 + 3 = 51) ?_
      refine z_aload_n h 0 dX12_figure_51 rfl (rfl : 51 + 1 = 52) ?_
      refine z_get (ci := 11) (C := RX12) (T := TX12) (N := 46) h 13 rfl rfl (fun _ hq => List.mem_cons_of_mem _ (List.mem_append_right _ hq)) (by decide) (List.mem_of_getElem? (i := 1) rfl) rfl dX12_figure_52 (rfl : 52 + 3 = 55) ?_
      refine z_iconst h 1 dX12_figure_55 (by decide) (rfl : 55 + 1 = 56) ?_
      refine z_isub h dX12_figure_56 (rfl : 56 + 1 = 57) ?_
      obtain ⟨b6, hf⟩ := zchk hf
      refine z_iald h rfl b6 dX12_figure_57 (rfl : 57 + 1 = 58) ?_
      refine z_bipush h 48 dX12_figure_58 (by decide) (rfl : 58 + 2 = 60) ?_
      refine z_isub h dX12_figure_60 (rfl : 60 + 1 = 61) ?_
      refine z_iret h hr dX12_figure_61 ?_
      exact ⟨congrArg Prod.fst (zsome hf), congrArg Prod.snd (zsome hf), rfl⟩
    · have hf := zitt c5 hf
      refine z_bipush h (-9) dX12_figure_34 (by decide) (rfl : 34 + 2 = 36) ?_
      refine z_iret h hr dX12_figure_36 ?_
      exact ⟨congrArg Prod.fst (zsome hf), congrArg Prod.snd (zsome hf), rfl⟩
noncomputable def f_X12_readPair (J : zJ) (v1 : Int32) (v2 : Int32) (I : zM) : Option (Int32 × zM) := ((f_X12_figure J 0 5 I).bind fun q1 => (if zin v1 6 = true then (if zin v1 6 = true then (if (zu q1.2 156 (Int32.toNatClampNeg v1) q1.1) 156 (Int32.toNatClampNeg v1) = (-9) then some ((0, zu q1.2 156 (Int32.toNatClampNeg v1) q1.1)) else ((f_X12_sign J 61 (zu q1.2 156 (Int32.toNatClampNeg v1) q1.1)).bind fun q6 => (if q6.1 = 0 then some ((0, q6.2)) else ((f_X12_figure J v2 5 q6.2).bind fun q9 => (if zin (v1 + (1 : Int32)) 6 = true then (if zin (v1 + (1 : Int32)) 6 = true then (if (zu q9.2 156 (Int32.toNatClampNeg (v1 + (1 : Int32))) q9.1) 156 (Int32.toNatClampNeg (v1 + (1 : Int32))) = (-9) then some ((0, zu q9.2 156 (Int32.toNatClampNeg (v1 + (1 : Int32))) q9.1)) else some ((1, zu q9.2 156 (Int32.toNatClampNeg (v1 + (1 : Int32))) q9.1))) else none) else none))))) else none) else none))
noncomputable abbrev rmX12_readPair : Room := { frames := 2, cells := 0, slots := 0, locals := 47 }
theorem zyX12_readPair : zY yX12_readPair wsX12_readPair cX12_readPair 3 (some .boolean) 2 := ⟨⟨_, rfl⟩, by decide +kernel⟩
theorem zrX12_readPair_X12_figure : zRm rmX12_figure rmX12_readPair 3 := ⟨rfl, rfl, by decide, by decide⟩
theorem zrX12_readPair_X12_sign : zRm rmX12_sign rmX12_readPair 3 := ⟨rfl, rfl, by decide, by decide⟩
set_option maxHeartbeats 1000000 in
set_option maxRecDepth 100000 in
theorem c_X12_readPair (B : zB) (I : zM) (J : zJ) (hJ : zJok J) (v1 : Int32) (v2 : Int32) (r : Int32) (I' : zM) (hf : f_X12_readPair J v1 v2 I = some (r, I')) : zCi B zKW I J yX12_readPair wsX12_readPair rmX12_readPair [.ref (za B 147), .int v1, .int v2] (fun r2 I2 J2 => r2 = r ∧ I2 = I' ∧ J2 = J) := by
  refine z_start (own := RX12) (cc := cX12_readPair) (nL := 3) (ret := (some .boolean)) rfl (by decide) rfl (Nat.le_of_ble_eq_true rfl) (L := [(0, .ref (za B 147)), (1, .int v1), (2, .int v2)]) rfl (fun G h hr => ?_)
  rw [f_X12_readPair] at hf
  refine z_aload_n h 0 dX12_readPair_0 rfl (rfl : 0 + 1 = 1) ?_
  refine z_getr (ci := 11) (C := RX12) (T := TX12) (N := 46) h 16 156 ((hJ.1 147 16 (by decide)).trans rfl) rfl rfl (fun _ hq => List.mem_cons_of_mem _ (List.mem_append_right _ hq)) (by decide) (List.mem_of_getElem? (i := 1) rfl) rfl dX12_readPair_1 (rfl : 1 + 3 = 4) ?_
  refine z_iload_n h 1 dX12_readPair_4 rfl (rfl : 4 + 1 = 5) ?_
  refine z_aload_n h 0 dX12_readPair_5 rfl (rfl : 5 + 1 = 6) ?_
  refine z_iconst h 0 dX12_readPair_6 (by decide) (rfl : 6 + 1 = 7) ?_
  refine z_iconst h 5 dX12_readPair_7 (by decide) (rfl : 7 + 1 = 8) ?_
  obtain ⟨q1, e2, hf⟩ := zbind hf
  refine z_goF (z_runV (C := RX12) (T := TX12) (N := 46) (ci := 11) h [.int 0, .int 5] [.int v1, .ref (za B 156)] zyX12_figure (c_X12_figure B I J hJ 0 5 _ _ e2) gX12_readPair_X12_figure rfl rfl rfl zrX12_readPair_X12_figure rfl (Nat.le_of_ble_eq_true rfl) ⟨Nat.zero_le _, Nat.zero_le _⟩ rfl dX12_readPair_8) rfl ?_
  obtain ⟨b3, hf⟩ := zchk hf
  refine z_iast h b3 rfl dX12_readPair_11 (rfl : 11 + 1 = 12) ?_
  refine z_aload_n h 0 dX12_readPair_12 rfl (rfl : 12 + 1 = 13) ?_
  refine z_getr (ci := 11) (C := RX12) (T := TX12) (N := 46) h 16 156 ((hJ.1 147 16 (by decide)).trans rfl) rfl rfl (fun _ hq => List.mem_cons_of_mem _ (List.mem_append_right _ hq)) (by decide) (List.mem_of_getElem? (i := 1) rfl) rfl dX12_readPair_13 (rfl : 13 + 3 = 16) ?_
  refine z_iload_n h 1 dX12_readPair_16 rfl (rfl : 16 + 1 = 17) ?_
  obtain ⟨b4, hf⟩ := zchk hf
  refine z_iald h rfl b4 dX12_readPair_17 (rfl : 17 + 1 = 18) ?_
  refine z_bipush h (-9) dX12_readPair_18 (by decide) (rfl : 18 + 2 = 20) ?_
  refine z_icmp_eq (pc' := 23) h 32 dX12_readPair_20 (by decide) rfl (fun c5 => ?_) (fun c5 => ?_)
  · have hf := zitt c5 hf
    refine z_iconst h 0 dX12_readPair_32 (by decide) (rfl : 32 + 1 = 33) ?_
    refine z_zret h hr dX12_readPair_33 (Or.inl rfl) ?_
    exact ⟨congrArg Prod.fst (zsome hf), congrArg Prod.snd (zsome hf), rfl⟩
  · have hf := zitf c5 hf
    refine z_aload_n h 0 dX12_readPair_23 rfl (rfl : 23 + 1 = 24) ?_
    refine z_bipush h 61 dX12_readPair_24 (by decide) (rfl : 24 + 2 = 26) ?_
    obtain ⟨q6, e7, hf⟩ := zbind hf
    refine z_goF (z_runV (C := RX12) (T := TX12) (N := 46) (ci := 11) h [.int 61] [] zyX12_sign (c_X12_sign B (zu q1.2 156 (Int32.toNatClampNeg v1) q1.1) J hJ 61 _ _ e7) gX12_readPair_X12_sign rfl rfl rfl zrX12_readPair_X12_sign rfl (Nat.le_of_ble_eq_true rfl) ⟨Nat.zero_le _, Nat.zero_le _⟩ rfl dX12_readPair_26) rfl ?_
    refine z_if_ne (pc' := 32) h 34 dX12_readPair_29 (by decide) rfl (fun c8 => ?_) (fun c8 => ?_)
    · have hf := zitf c8 hf
      refine z_aload_n h 0 dX12_readPair_34 rfl (rfl : 34 + 1 = 35) ?_
      refine z_getr (ci := 11) (C := RX12) (T := TX12) (N := 46) h 16 156 ((hJ.1 147 16 (by decide)).trans rfl) rfl rfl (fun _ hq => List.mem_cons_of_mem _ (List.mem_append_right _ hq)) (by decide) (List.mem_of_getElem? (i := 1) rfl) rfl dX12_readPair_35 (rfl : 35 + 3 = 38) ?_
      refine z_iload_n h 1 dX12_readPair_38 rfl (rfl : 38 + 1 = 39) ?_
      refine z_iconst h 1 dX12_readPair_39 (by decide) (rfl : 39 + 1 = 40) ?_
      refine z_iadd h dX12_readPair_40 (rfl : 40 + 1 = 41) ?_
      refine z_aload_n h 0 dX12_readPair_41 rfl (rfl : 41 + 1 = 42) ?_
      refine z_iload_n h 2 dX12_readPair_42 rfl (rfl : 42 + 1 = 43) ?_
      refine z_iconst h 5 dX12_readPair_43 (by decide) (rfl : 43 + 1 = 44) ?_
      obtain ⟨q9, e10, hf⟩ := zbind hf
      refine z_goF (z_runV (C := RX12) (T := TX12) (N := 46) (ci := 11) h [.int v2, .int 5] [.int (v1 + (1 : Int32)), .ref (za B 156)] zyX12_figure (c_X12_figure B q6.2 J hJ v2 5 _ _ e10) gX12_readPair_X12_figure rfl rfl rfl zrX12_readPair_X12_figure rfl (Nat.le_of_ble_eq_true rfl) ⟨Nat.zero_le _, Nat.zero_le _⟩ rfl dX12_readPair_44) rfl ?_
      obtain ⟨b11, hf⟩ := zchk hf
      refine z_iast h b11 rfl dX12_readPair_47 (rfl : 47 + 1 = 48) ?_
      refine z_aload_n h 0 dX12_readPair_48 rfl (rfl : 48 + 1 = 49) ?_
      refine z_getr (ci := 11) (C := RX12) (T := TX12) (N := 46) h 16 156 ((hJ.1 147 16 (by decide)).trans rfl) rfl rfl (fun _ hq => List.mem_cons_of_mem _ (List.mem_append_right _ hq)) (by decide) (List.mem_of_getElem? (i := 1) rfl) rfl dX12_readPair_49 (rfl : 49 + 3 = 52) ?_
      refine z_iload_n h 1 dX12_readPair_52 rfl (rfl : 52 + 1 = 53) ?_
      refine z_iconst h 1 dX12_readPair_53 (by decide) (rfl : 53 + 1 = 54) ?_
      refine z_iadd h dX12_readPair_54 (rfl : 54 + 1 = 55) ?_
      obtain ⟨b12, hf⟩ := zchk hf
      refine z_iald h rfl b12 dX12_readPair_55 (rfl : 55 + 1 = 56) ?_
      refine z_bipush h (-9) dX12_readPair_56 (by decide) (rfl : 56 + 2 = 58) ?_
      refine z_icmp_eq (pc' := 61) h 65 dX12_readPair_58 (by decide) rfl (fun c13 => ?_) (fun c13 => ?_)
      · have hf := zitt c13 hf
        refine z_iconst h 0 dX12_readPair_65 (by decide) (rfl : 65 + 1 = 66) ?_
        refine z_zret h hr dX12_readPair_66 (Or.inl rfl) ?_
        exact ⟨congrArg Prod.fst (zsome hf), congrArg Prod.snd (zsome hf), rfl⟩
      · have hf := zitf c13 hf
        refine z_iconst h 1 dX12_readPair_61 (by decide) (rfl : 61 + 1 = 62) ?_
        refine z_goto (pc' := 66) h dX12_readPair_62 (by decide) ?_
        refine z_zret h hr dX12_readPair_66 (Or.inr rfl) ?_
        exact ⟨congrArg Prod.fst (zsome hf), congrArg Prod.snd (zsome hf), rfl⟩
    · have hf := zitt c8 hf
      refine z_iconst h 0 dX12_readPair_32 (by decide) (rfl : 32 + 1 = 33) ?_
      refine z_zret h hr dX12_readPair_33 (Or.inl rfl) ?_
      exact ⟨congrArg Prod.fst (zsome hf), congrArg Prod.snd (zsome hf), rfl⟩
noncomputable def f_X12_readRule (J : zJ)  (I : zM) : Option (Int32 × zM) := ((f_X12_sign J 76 (zu (zu (zu (zu I 147 13 0) 156 3 (-9)) 156 4 (-9)) 156 5 (-9))).bind fun q1 => (if q1.1 = 0 then ((f_X12_sign J 66 q1.2).bind fun q4 => (if q4.1 = 0 then ((f_X12_sign J 77 q4.2).bind fun q7 => (if q7.1 = 0 then (if (zu q7.2 156 0 (-9)) 156 0 = (-9) then some (((zu q7.2 156 0 (-9)) 147 13, zu q7.2 156 0 (-9))) else ((f_X12_readPair J 1 1 (zu q7.2 156 0 (-9))).bind fun q11 => (if q11.1 = 0 then some ((q11.2 147 13, q11.2)) else ((f_X12_sign J 63 q11.2).bind fun q14 => (if q14.1 = 0 then ((f_X12_sign J 64 q14.2).bind fun q17 => (if q17.1 = 0 then (if q17.2 147 13 = q17.2 147 12 then some (((-9), q17.2)) else some ((q17.2 147 13, q17.2))) else ((f_X12_figure J 0 2 q17.2).bind fun q21 => (if (zu q21.2 156 5 q21.1) 156 5 = (-9) then some (((zu q21.2 156 5 q21.1) 147 13, zu q21.2 156 5 q21.1)) else (if (zu q21.2 156 5 q21.1) 147 13 = (zu q21.2 156 5 q21.1) 147 12 then some (((-9), zu q21.2 156 5 q21.1)) else some (((zu q21.2 156 5 q21.1) 147 13, zu q21.2 156 5 q21.1))))))) else ((f_X12_readPair J 3 0 q14.2).bind fun q25 => (if q25.1 = 0 then some ((q25.2 147 13, q25.2)) else ((f_X12_sign J 64 q25.2).bind fun q28 => (if q28.1 = 0 then (if q28.2 147 13 = q28.2 147 12 then some (((-9), q28.2)) else some ((q28.2 147 13, q28.2))) else ((f_X12_figure J 0 2 q28.2).bind fun q32 => (if (zu q32.2 156 5 q32.1) 156 5 = (-9) then some (((zu q32.2 156 5 q32.1) 147 13, zu q32.2 156 5 q32.1)) else (if (zu q32.2 156 5 q32.1) 147 13 = (zu q32.2 156 5 q32.1) 147 12 then some (((-9), zu q32.2 156 5 q32.1)) else some (((zu q32.2 156 5 q32.1) 147 13, zu q32.2 156 5 q32.1)))))))))))))) else (if (zu q7.2 156 0 2) 156 0 = (-9) then some (((zu q7.2 156 0 2) 147 13, zu q7.2 156 0 2)) else ((f_X12_readPair J 1 1 (zu q7.2 156 0 2)).bind fun q37 => (if q37.1 = 0 then some ((q37.2 147 13, q37.2)) else ((f_X12_sign J 63 q37.2).bind fun q40 => (if q40.1 = 0 then ((f_X12_sign J 64 q40.2).bind fun q43 => (if q43.1 = 0 then (if q43.2 147 13 = q43.2 147 12 then some (((-9), q43.2)) else some ((q43.2 147 13, q43.2))) else ((f_X12_figure J 0 2 q43.2).bind fun q47 => (if (zu q47.2 156 5 q47.1) 156 5 = (-9) then some (((zu q47.2 156 5 q47.1) 147 13, zu q47.2 156 5 q47.1)) else (if (zu q47.2 156 5 q47.1) 147 13 = (zu q47.2 156 5 q47.1) 147 12 then some (((-9), zu q47.2 156 5 q47.1)) else some (((zu q47.2 156 5 q47.1) 147 13, zu q47.2 156 5 q47.1))))))) else ((f_X12_readPair J 3 0 q40.2).bind fun q51 => (if q51.1 = 0 then some ((q51.2 147 13, q51.2)) else ((f_X12_sign J 64 q51.2).bind fun q54 => (if q54.1 = 0 then (if q54.2 147 13 = q54.2 147 12 then some (((-9), q54.2)) else some ((q54.2 147 13, q54.2))) else ((f_X12_figure J 0 2 q54.2).bind fun q58 => (if (zu q58.2 156 5 q58.1) 156 5 = (-9) then some (((zu q58.2 156 5 q58.1) 147 13, zu q58.2 156 5 q58.1)) else (if (zu q58.2 156 5 q58.1) 147 13 = (zu q58.2 156 5 q58.1) 147 12 then some (((-9), zu q58.2 156 5 q58.1)) else some (((zu q58.2 156 5 q58.1) 147 13, zu q58.2 156 5 q58.1)))))))))))))))) else (if (zu q4.2 156 0 1) 156 0 = (-9) then some (((zu q4.2 156 0 1) 147 13, zu q4.2 156 0 1)) else ((f_X12_readPair J 1 1 (zu q4.2 156 0 1)).bind fun q63 => (if q63.1 = 0 then some ((q63.2 147 13, q63.2)) else ((f_X12_sign J 63 q63.2).bind fun q66 => (if q66.1 = 0 then ((f_X12_sign J 64 q66.2).bind fun q69 => (if q69.1 = 0 then (if q69.2 147 13 = q69.2 147 12 then some (((-9), q69.2)) else some ((q69.2 147 13, q69.2))) else ((f_X12_figure J 0 2 q69.2).bind fun q73 => (if (zu q73.2 156 5 q73.1) 156 5 = (-9) then some (((zu q73.2 156 5 q73.1) 147 13, zu q73.2 156 5 q73.1)) else (if (zu q73.2 156 5 q73.1) 147 13 = (zu q73.2 156 5 q73.1) 147 12 then some (((-9), zu q73.2 156 5 q73.1)) else some (((zu q73.2 156 5 q73.1) 147 13, zu q73.2 156 5 q73.1))))))) else ((f_X12_readPair J 3 0 q66.2).bind fun q77 => (if q77.1 = 0 then some ((q77.2 147 13, q77.2)) else ((f_X12_sign J 64 q77.2).bind fun q80 => (if q80.1 = 0 then (if q80.2 147 13 = q80.2 147 12 then some (((-9), q80.2)) else some ((q80.2 147 13, q80.2))) else ((f_X12_figure J 0 2 q80.2).bind fun q84 => (if (zu q84.2 156 5 q84.1) 156 5 = (-9) then some (((zu q84.2 156 5 q84.1) 147 13, zu q84.2 156 5 q84.1)) else (if (zu q84.2 156 5 q84.1) 147 13 = (zu q84.2 156 5 q84.1) 147 12 then some (((-9), zu q84.2 156 5 q84.1)) else some (((zu q84.2 156 5 q84.1) 147 13, zu q84.2 156 5 q84.1)))))))))))))))) else (if (zu q1.2 156 0 0) 156 0 = (-9) then some (((zu q1.2 156 0 0) 147 13, zu q1.2 156 0 0)) else ((f_X12_readPair J 1 1 (zu q1.2 156 0 0)).bind fun q89 => (if q89.1 = 0 then some ((q89.2 147 13, q89.2)) else ((f_X12_sign J 63 q89.2).bind fun q92 => (if q92.1 = 0 then ((f_X12_sign J 64 q92.2).bind fun q95 => (if q95.1 = 0 then (if q95.2 147 13 = q95.2 147 12 then some (((-9), q95.2)) else some ((q95.2 147 13, q95.2))) else ((f_X12_figure J 0 2 q95.2).bind fun q99 => (if (zu q99.2 156 5 q99.1) 156 5 = (-9) then some (((zu q99.2 156 5 q99.1) 147 13, zu q99.2 156 5 q99.1)) else (if (zu q99.2 156 5 q99.1) 147 13 = (zu q99.2 156 5 q99.1) 147 12 then some (((-9), zu q99.2 156 5 q99.1)) else some (((zu q99.2 156 5 q99.1) 147 13, zu q99.2 156 5 q99.1))))))) else ((f_X12_readPair J 3 0 q92.2).bind fun q103 => (if q103.1 = 0 then some ((q103.2 147 13, q103.2)) else ((f_X12_sign J 64 q103.2).bind fun q106 => (if q106.1 = 0 then (if q106.2 147 13 = q106.2 147 12 then some (((-9), q106.2)) else some ((q106.2 147 13, q106.2))) else ((f_X12_figure J 0 2 q106.2).bind fun q110 => (if (zu q110.2 156 5 q110.1) 156 5 = (-9) then some (((zu q110.2 156 5 q110.1) 147 13, zu q110.2 156 5 q110.1)) else (if (zu q110.2 156 5 q110.1) 147 13 = (zu q110.2 156 5 q110.1) 147 12 then some (((-9), zu q110.2 156 5 q110.1)) else some (((zu q110.2 156 5 q110.1) 147 13, zu q110.2 156 5 q110.1))))))))))))))))
noncomputable abbrev rmX12_readRule : Room := { frames := 3, cells := 0, slots := 0, locals := 69 }
theorem zyX12_readRule : zY yX12_readRule wsX12_readRule cX12_readRule 1 (some .int) 0 := ⟨⟨_, rfl⟩, by decide +kernel⟩
theorem zrX12_readRule_X12_figure : zRm rmX12_figure rmX12_readRule 3 := ⟨rfl, rfl, by decide, by decide⟩
theorem zrX12_readRule_X12_readPair : zRm rmX12_readPair rmX12_readRule 3 := ⟨rfl, rfl, by decide, by decide⟩
theorem zrX12_readRule_X12_sign : zRm rmX12_sign rmX12_readRule 3 := ⟨rfl, rfl, by decide, by decide⟩
set_option maxHeartbeats 1000000 in
set_option maxRecDepth 100000 in
theorem c_X12_readRule (B : zB) (I : zM) (J : zJ) (hJ : zJok J)  (r : Int32) (I' : zM) (hf : f_X12_readRule J  I = some (r, I')) : zCi B zKW I J yX12_readRule wsX12_readRule rmX12_readRule [.ref (za B 147)] (fun r2 I2 J2 => r2 = r ∧ I2 = I' ∧ J2 = J) := by
  refine z_start (own := RX12) (cc := cX12_readRule) (nL := 1) (ret := (some .int)) rfl (by decide) rfl (Nat.le_of_ble_eq_true rfl) (L := [(0, .ref (za B 147))]) rfl (fun G h hr => ?_)
  rw [f_X12_readRule] at hf
  refine z_aload_n h 0 dX12_readRule_0 rfl (rfl : 0 + 1 = 1) ?_
  refine z_iconst h 0 dX12_readRule_1 (by decide) (rfl : 1 + 1 = 2) ?_
  refine z_put (ci := 11) (C := RX12) (T := TX12) (N := 46) h 13 tyX12 tyX12_ok nmX12 rfl rfl (fun _ hq => List.mem_cons_of_mem _ (List.mem_append_right _ hq)) (by decide) (List.mem_of_getElem? (i := 1) rfl) rfl rfl rfl dX12_readRule_2 (rfl : 2 + 3 = 5) ?_
  refine z_aload_n h 0 dX12_readRule_5 rfl (rfl : 5 + 1 = 6) ?_
  refine z_getr (ci := 11) (C := RX12) (T := TX12) (N := 46) h 16 156 ((hJ.1 147 16 (by decide)).trans rfl) rfl rfl (fun _ hq => List.mem_cons_of_mem _ (List.mem_append_right _ hq)) (by decide) (List.mem_of_getElem? (i := 2) rfl) rfl dX12_readRule_6 (rfl : 6 + 3 = 9) ?_
  refine z_iconst h 3 dX12_readRule_9 (by decide) (rfl : 9 + 1 = 10) ?_
  refine z_bipush h (-9) dX12_readRule_10 (by decide) (rfl : 10 + 2 = 12) ?_
  refine z_iast h (by decide) rfl dX12_readRule_12 (rfl : 12 + 1 = 13) ?_
  refine z_aload_n h 0 dX12_readRule_13 rfl (rfl : 13 + 1 = 14) ?_
  refine z_getr (ci := 11) (C := RX12) (T := TX12) (N := 46) h 16 156 ((hJ.1 147 16 (by decide)).trans rfl) rfl rfl (fun _ hq => List.mem_cons_of_mem _ (List.mem_append_right _ hq)) (by decide) (List.mem_of_getElem? (i := 2) rfl) rfl dX12_readRule_14 (rfl : 14 + 3 = 17) ?_
  refine z_iconst h 4 dX12_readRule_17 (by decide) (rfl : 17 + 1 = 18) ?_
  refine z_bipush h (-9) dX12_readRule_18 (by decide) (rfl : 18 + 2 = 20) ?_
  refine z_iast h (by decide) rfl dX12_readRule_20 (rfl : 20 + 1 = 21) ?_
  refine z_aload_n h 0 dX12_readRule_21 rfl (rfl : 21 + 1 = 22) ?_
  refine z_getr (ci := 11) (C := RX12) (T := TX12) (N := 46) h 16 156 ((hJ.1 147 16 (by decide)).trans rfl) rfl rfl (fun _ hq => List.mem_cons_of_mem _ (List.mem_append_right _ hq)) (by decide) (List.mem_of_getElem? (i := 2) rfl) rfl dX12_readRule_22 (rfl : 22 + 3 = 25) ?_
  refine z_iconst h 5 dX12_readRule_25 (by decide) (rfl : 25 + 1 = 26) ?_
  refine z_bipush h (-9) dX12_readRule_26 (by decide) (rfl : 26 + 2 = 28) ?_
  refine z_iast h (by decide) rfl dX12_readRule_28 (rfl : 28 + 1 = 29) ?_
  refine z_aload_n h 0 dX12_readRule_29 rfl (rfl : 29 + 1 = 30) ?_
  refine z_getr (ci := 11) (C := RX12) (T := TX12) (N := 46) h 16 156 ((hJ.1 147 16 (by decide)).trans rfl) rfl rfl (fun _ hq => List.mem_cons_of_mem _ (List.mem_append_right _ hq)) (by decide) (List.mem_of_getElem? (i := 2) rfl) rfl dX12_readRule_30 (rfl : 30 + 3 = 33) ?_
  refine z_iconst h 0 dX12_readRule_33 (by decide) (rfl : 33 + 1 = 34) ?_
  refine z_aload_n h 0 dX12_readRule_34 rfl (rfl : 34 + 1 = 35) ?_
  refine z_bipush h 76 dX12_readRule_35 (by decide) (rfl : 35 + 2 = 37) ?_
  obtain ⟨q1, e2, hf⟩ := zbind hf
  refine z_goF (z_runV (C := RX12) (T := TX12) (N := 46) (ci := 11) h [.int 76] [.int 0, .ref (za B 156)] zyX12_sign (c_X12_sign B (zu (zu (zu (zu I 147 13 0) 156 3 (-9)) 156 4 (-9)) 156 5 (-9)) J hJ 76 _ _ e2) gX12_readRule_X12_sign rfl rfl rfl zrX12_readRule_X12_sign rfl (Nat.le_of_ble_eq_true rfl) ⟨Nat.zero_le _, Nat.zero_le _⟩ rfl dX12_readRule_37) rfl ?_
  refine z_if_eq (pc' := 43) h 47 dX12_readRule_40 (by decide) rfl (fun c3 => ?_) (fun c3 => ?_)
  · have hf := zitt c3 hf
    refine z_aload_n h 0 dX12_readRule_47 rfl (rfl : 47 + 1 = 48) ?_
    refine z_bipush h 66 dX12_readRule_48 (by decide) (rfl : 48 + 2 = 50) ?_
    obtain ⟨q4, e5, hf⟩ := zbind hf
    refine z_goF (z_runV (C := RX12) (T := TX12) (N := 46) (ci := 11) h [.int 66] [.int 0, .ref (za B 156)] zyX12_sign (c_X12_sign B q1.2 J hJ 66 _ _ e5) gX12_readRule_X12_sign rfl rfl rfl zrX12_readRule_X12_sign rfl (Nat.le_of_ble_eq_true rfl) ⟨Nat.zero_le _, Nat.zero_le _⟩ rfl dX12_readRule_50) rfl ?_
    refine z_if_eq (pc' := 56) h 60 dX12_readRule_53 (by decide) rfl (fun c6 => ?_) (fun c6 => ?_)
    · have hf := zitt c6 hf
      refine z_aload_n h 0 dX12_readRule_60 rfl (rfl : 60 + 1 = 61) ?_
      refine z_bipush h 77 dX12_readRule_61 (by decide) (rfl : 61 + 2 = 63) ?_
      obtain ⟨q7, e8, hf⟩ := zbind hf
      refine z_goF (z_runV (C := RX12) (T := TX12) (N := 46) (ci := 11) h [.int 77] [.int 0, .ref (za B 156)] zyX12_sign (c_X12_sign B q4.2 J hJ 77 _ _ e8) gX12_readRule_X12_sign rfl rfl rfl zrX12_readRule_X12_sign rfl (Nat.le_of_ble_eq_true rfl) ⟨Nat.zero_le _, Nat.zero_le _⟩ rfl dX12_readRule_63) rfl ?_
      refine z_if_eq (pc' := 69) h 73 dX12_readRule_66 (by decide) rfl (fun c9 => ?_) (fun c9 => ?_)
      · have hf := zitt c9 hf
        refine z_bipush h (-9) dX12_readRule_73 (by decide) (rfl : 73 + 2 = 75) ?_
        refine z_iast h (by decide) rfl dX12_readRule_75 (rfl : 75 + 1 = 76) ?_
        refine z_aload_n h 0 dX12_readRule_76 rfl (rfl : 76 + 1 = 77) ?_
        refine z_getr (ci := 11) (C := RX12) (T := TX12) (N := 46) h 16 156 ((hJ.1 147 16 (by decide)).trans rfl) rfl rfl (fun _ hq => List.mem_cons_of_mem _ (List.mem_append_right _ hq)) (by decide) (List.mem_of_getElem? (i := 2) rfl) rfl dX12_readRule_77 (rfl : 77 + 3 = 80) ?_
        refine z_iconst h 0 dX12_readRule_80 (by decide) (rfl : 80 + 1 = 81) ?_
        refine z_iald h rfl (by decide) dX12_readRule_81 (rfl : 81 + 1 = 82) ?_
        refine z_bipush h (-9) dX12_readRule_82 (by decide) (rfl : 82 + 2 = 84) ?_
        refine z_icmp_eq (pc' := 87) h 96 dX12_readRule_84 (by decide) rfl (fun c10 => ?_) (fun c10 => ?_)
        · have hf := zitt c10 hf
          refine z_aload_n h 0 dX12_readRule_96 rfl (rfl : 96 + 1 = 97) ?_
          refine z_get (ci := 11) (C := RX12) (T := TX12) (N := 46) h 13 rfl rfl (fun _ hq => List.mem_cons_of_mem _ (List.mem_append_right _ hq)) (by decide) (List.mem_of_getElem? (i := 1) rfl) rfl dX12_readRule_97 (rfl : 97 + 3 = 100) ?_
          refine z_iret h hr dX12_readRule_100 ?_
          exact ⟨congrArg Prod.fst (zsome hf), congrArg Prod.snd (zsome hf), rfl⟩
        · have hf := zitf c10 hf
          refine z_aload_n h 0 dX12_readRule_87 rfl (rfl : 87 + 1 = 88) ?_
          refine z_iconst h 1 dX12_readRule_88 (by decide) (rfl : 88 + 1 = 89) ?_
          refine z_iconst h 1 dX12_readRule_89 (by decide) (rfl : 89 + 1 = 90) ?_
          obtain ⟨q11, e12, hf⟩ := zbind hf
          refine z_goF (z_runV (C := RX12) (T := TX12) (N := 46) (ci := 11) h [.int 1, .int 1] [] zyX12_readPair (c_X12_readPair B (zu q7.2 156 0 (-9)) J hJ 1 1 _ _ e12) gX12_readRule_X12_readPair rfl rfl rfl zrX12_readRule_X12_readPair rfl (Nat.le_of_ble_eq_true rfl) ⟨Nat.zero_le _, Nat.zero_le _⟩ rfl dX12_readRule_90) rfl ?_
          refine z_if_ne (pc' := 96) h 101 dX12_readRule_93 (by decide) rfl (fun c13 => ?_) (fun c13 => ?_)
          · have hf := zitf c13 hf
            refine z_aload_n h 0 dX12_readRule_101 rfl (rfl : 101 + 1 = 102) ?_
            refine z_bipush h 63 dX12_readRule_102 (by decide) (rfl : 102 + 2 = 104) ?_
            obtain ⟨q14, e15, hf⟩ := zbind hf
            refine z_goF (z_runV (C := RX12) (T := TX12) (N := 46) (ci := 11) h [.int 63] [] zyX12_sign (c_X12_sign B q11.2 J hJ 63 _ _ e15) gX12_readRule_X12_sign rfl rfl rfl zrX12_readRule_X12_sign rfl (Nat.le_of_ble_eq_true rfl) ⟨Nat.zero_le _, Nat.zero_le _⟩ rfl dX12_readRule_104) rfl ?_
            refine z_if_eq (pc' := 110) h 124 dX12_readRule_107 (by decide) rfl (fun c16 => ?_) (fun c16 => ?_)
            · have hf := zitt c16 hf
              refine z_aload_n h 0 dX12_readRule_124 rfl (rfl : 124 + 1 = 125) ?_
              refine z_bipush h 64 dX12_readRule_125 (by decide) (rfl : 125 + 2 = 127) ?_
              obtain ⟨q17, e18, hf⟩ := zbind hf
              refine z_goF (z_runV (C := RX12) (T := TX12) (N := 46) (ci := 11) h [.int 64] [] zyX12_sign (c_X12_sign B q14.2 J hJ 64 _ _ e18) gX12_readRule_X12_sign rfl rfl rfl zrX12_readRule_X12_sign rfl (Nat.le_of_ble_eq_true rfl) ⟨Nat.zero_le _, Nat.zero_le _⟩ rfl dX12_readRule_127) rfl ?_
              refine z_if_eq (pc' := 133) h 161 dX12_readRule_130 (by decide) rfl (fun c19 => ?_) (fun c19 => ?_)
              · have hf := zitt c19 hf
                refine z_aload_n h 0 dX12_readRule_161 rfl (rfl : 161 + 1 = 162) ?_
                refine z_get (ci := 11) (C := RX12) (T := TX12) (N := 46) h 13 rfl rfl (fun _ hq => List.mem_cons_of_mem _ (List.mem_append_right _ hq)) (by decide) (List.mem_of_getElem? (i := 1) rfl) rfl dX12_readRule_162 (rfl : 162 + 3 = 165) ?_
                refine z_aload_n h 0 dX12_readRule_165 rfl (rfl : 165 + 1 = 166) ?_
                refine z_get (ci := 11) (C := RX12) (T := TX12) (N := 46) h 12 rfl rfl (fun _ hq => List.mem_cons_of_mem _ (List.mem_append_right _ hq)) (by decide) (List.mem_of_getElem? (i := 3) rfl) rfl dX12_readRule_166 (rfl : 166 + 3 = 169) ?_
                refine z_icmp_ne (pc' := 172) h 177 dX12_readRule_169 (by decide) rfl (fun c20 => ?_) (fun c20 => ?_)
                · have hf := zitf c20 hf
                  refine z_aload_n h 0 dX12_readRule_177 rfl (rfl : 177 + 1 = 178) ?_
                  refine z_get (ci := 11) (C := RX12) (T := TX12) (N := 46) h 13 rfl rfl (fun _ hq => List.mem_cons_of_mem _ (List.mem_append_right _ hq)) (by decide) (List.mem_of_getElem? (i := 1) rfl) rfl dX12_readRule_178 (rfl : 178 + 3 = 181) ?_
                  refine z_iret h hr dX12_readRule_181 ?_
                  exact ⟨congrArg Prod.fst (zsome hf), congrArg Prod.snd (zsome hf), rfl⟩
                · have hf := zitt c20 hf
                  refine z_bipush h (-9) dX12_readRule_172 (by decide) (rfl : 172 + 2 = 174) ?_
                  refine z_goto (pc' := 181) h dX12_readRule_174 (by decide) ?_
                  refine z_iret h hr dX12_readRule_181 ?_
                  exact ⟨congrArg Prod.fst (zsome hf), congrArg Prod.snd (zsome hf), rfl⟩
              · have hf := zitf c19 hf
                refine z_aload_n h 0 dX12_readRule_133 rfl (rfl : 133 + 1 = 134) ?_
                refine z_getr (ci := 11) (C := RX12) (T := TX12) (N := 46) h 16 156 ((hJ.1 147 16 (by decide)).trans rfl) rfl rfl (fun _ hq => List.mem_cons_of_mem _ (List.mem_append_right _ hq)) (by decide) (List.mem_of_getElem? (i := 2) rfl) rfl dX12_readRule_134 (rfl : 134 + 3 = 137) ?_
                refine z_iconst h 5 dX12_readRule_137 (by decide) (rfl : 137 + 1 = 138) ?_
                refine z_aload_n h 0 dX12_readRule_138 rfl (rfl : 138 + 1 = 139) ?_
                refine z_iconst h 0 dX12_readRule_139 (by decide) (rfl : 139 + 1 = 140) ?_
                refine z_iconst h 2 dX12_readRule_140 (by decide) (rfl : 140 + 1 = 141) ?_
                obtain ⟨q21, e22, hf⟩ := zbind hf
                refine z_goF (z_runV (C := RX12) (T := TX12) (N := 46) (ci := 11) h [.int 0, .int 2] [.int 5, .ref (za B 156)] zyX12_figure (c_X12_figure B q17.2 J hJ 0 2 _ _ e22) gX12_readRule_X12_figure rfl rfl rfl zrX12_readRule_X12_figure rfl (Nat.le_of_ble_eq_true rfl) ⟨Nat.zero_le _, Nat.zero_le _⟩ rfl dX12_readRule_141) rfl ?_
                refine z_iast h (by decide) rfl dX12_readRule_144 (rfl : 144 + 1 = 145) ?_
                refine z_aload_n h 0 dX12_readRule_145 rfl (rfl : 145 + 1 = 146) ?_
                refine z_getr (ci := 11) (C := RX12) (T := TX12) (N := 46) h 16 156 ((hJ.1 147 16 (by decide)).trans rfl) rfl rfl (fun _ hq => List.mem_cons_of_mem _ (List.mem_append_right _ hq)) (by decide) (List.mem_of_getElem? (i := 2) rfl) rfl dX12_readRule_146 (rfl : 146 + 3 = 149) ?_
                refine z_iconst h 5 dX12_readRule_149 (by decide) (rfl : 149 + 1 = 150) ?_
                refine z_iald h rfl (by decide) dX12_readRule_150 (rfl : 150 + 1 = 151) ?_
                refine z_bipush h (-9) dX12_readRule_151 (by decide) (rfl : 151 + 2 = 153) ?_
                refine z_icmp_ne (pc' := 156) h 161 dX12_readRule_153 (by decide) rfl (fun c23 => ?_) (fun c23 => ?_)
                · have hf := zitf c23 hf
                  refine z_aload_n h 0 dX12_readRule_161 rfl (rfl : 161 + 1 = 162) ?_
                  refine z_get (ci := 11) (C := RX12) (T := TX12) (N := 46) h 13 rfl rfl (fun _ hq => List.mem_cons_of_mem _ (List.mem_append_right _ hq)) (by decide) (List.mem_of_getElem? (i := 1) rfl) rfl dX12_readRule_162 (rfl : 162 + 3 = 165) ?_
                  refine z_aload_n h 0 dX12_readRule_165 rfl (rfl : 165 + 1 = 166) ?_
                  refine z_get (ci := 11) (C := RX12) (T := TX12) (N := 46) h 12 rfl rfl (fun _ hq => List.mem_cons_of_mem _ (List.mem_append_right _ hq)) (by decide) (List.mem_of_getElem? (i := 3) rfl) rfl dX12_readRule_166 (rfl : 166 + 3 = 169) ?_
                  refine z_icmp_ne (pc' := 172) h 177 dX12_readRule_169 (by decide) rfl (fun c24 => ?_) (fun c24 => ?_)
                  · have hf := zitf c24 hf
                    refine z_aload_n h 0 dX12_readRule_177 rfl (rfl : 177 + 1 = 178) ?_
                    refine z_get (ci := 11) (C := RX12) (T := TX12) (N := 46) h 13 rfl rfl (fun _ hq => List.mem_cons_of_mem _ (List.mem_append_right _ hq)) (by decide) (List.mem_of_getElem? (i := 1) rfl) rfl dX12_readRule_178 (rfl : 178 + 3 = 181) ?_
                    refine z_iret h hr dX12_readRule_181 ?_
                    exact ⟨congrArg Prod.fst (zsome hf), congrArg Prod.snd (zsome hf), rfl⟩
                  · have hf := zitt c24 hf
                    refine z_bipush h (-9) dX12_readRule_172 (by decide) (rfl : 172 + 2 = 174) ?_
                    refine z_goto (pc' := 181) h dX12_readRule_174 (by decide) ?_
                    refine z_iret h hr dX12_readRule_181 ?_
                    exact ⟨congrArg Prod.fst (zsome hf), congrArg Prod.snd (zsome hf), rfl⟩
                · have hf := zitt c23 hf
                  refine z_aload_n h 0 dX12_readRule_156 rfl (rfl : 156 + 1 = 157) ?_
                  refine z_get (ci := 11) (C := RX12) (T := TX12) (N := 46) h 13 rfl rfl (fun _ hq => List.mem_cons_of_mem _ (List.mem_append_right _ hq)) (by decide) (List.mem_of_getElem? (i := 1) rfl) rfl dX12_readRule_157 (rfl : 157 + 3 = 160) ?_
                  refine z_iret h hr dX12_readRule_160 ?_
                  exact ⟨congrArg Prod.fst (zsome hf), congrArg Prod.snd (zsome hf), rfl⟩
            · have hf := zitf c16 hf
              refine z_aload_n h 0 dX12_readRule_110 rfl (rfl : 110 + 1 = 111) ?_
              refine z_iconst h 3 dX12_readRule_111 (by decide) (rfl : 111 + 1 = 112) ?_
              refine z_iconst h 0 dX12_readRule_112 (by decide) (rfl : 112 + 1 = 113) ?_
              obtain ⟨q25, e26, hf⟩ := zbind hf
              refine z_goF (z_runV (C := RX12) (T := TX12) (N := 46) (ci := 11) h [.int 3, .int 0] [] zyX12_readPair (c_X12_readPair B q14.2 J hJ 3 0 _ _ e26) gX12_readRule_X12_readPair rfl rfl rfl zrX12_readRule_X12_readPair rfl (Nat.le_of_ble_eq_true rfl) ⟨Nat.zero_le _, Nat.zero_le _⟩ rfl dX12_readRule_113) rfl ?_
              refine z_if_ne (pc' := 119) h 124 dX12_readRule_116 (by decide) rfl (fun c27 => ?_) (fun c27 => ?_)
              · have hf := zitf c27 hf
                refine z_aload_n h 0 dX12_readRule_124 rfl (rfl : 124 + 1 = 125) ?_
                refine z_bipush h 64 dX12_readRule_125 (by decide) (rfl : 125 + 2 = 127) ?_
                obtain ⟨q28, e29, hf⟩ := zbind hf
                refine z_goF (z_runV (C := RX12) (T := TX12) (N := 46) (ci := 11) h [.int 64] [] zyX12_sign (c_X12_sign B q25.2 J hJ 64 _ _ e29) gX12_readRule_X12_sign rfl rfl rfl zrX12_readRule_X12_sign rfl (Nat.le_of_ble_eq_true rfl) ⟨Nat.zero_le _, Nat.zero_le _⟩ rfl dX12_readRule_127) rfl ?_
                refine z_if_eq (pc' := 133) h 161 dX12_readRule_130 (by decide) rfl (fun c30 => ?_) (fun c30 => ?_)
                · have hf := zitt c30 hf
                  refine z_aload_n h 0 dX12_readRule_161 rfl (rfl : 161 + 1 = 162) ?_
                  refine z_get (ci := 11) (C := RX12) (T := TX12) (N := 46) h 13 rfl rfl (fun _ hq => List.mem_cons_of_mem _ (List.mem_append_right _ hq)) (by decide) (List.mem_of_getElem? (i := 1) rfl) rfl dX12_readRule_162 (rfl : 162 + 3 = 165) ?_
                  refine z_aload_n h 0 dX12_readRule_165 rfl (rfl : 165 + 1 = 166) ?_
                  refine z_get (ci := 11) (C := RX12) (T := TX12) (N := 46) h 12 rfl rfl (fun _ hq => List.mem_cons_of_mem _ (List.mem_append_right _ hq)) (by decide) (List.mem_of_getElem? (i := 3) rfl) rfl dX12_readRule_166 (rfl : 166 + 3 = 169) ?_
                  refine z_icmp_ne (pc' := 172) h 177 dX12_readRule_169 (by decide) rfl (fun c31 => ?_) (fun c31 => ?_)
                  · have hf := zitf c31 hf
                    refine z_aload_n h 0 dX12_readRule_177 rfl (rfl : 177 + 1 = 178) ?_
                    refine z_get (ci := 11) (C := RX12) (T := TX12) (N := 46) h 13 rfl rfl (fun _ hq => List.mem_cons_of_mem _ (List.mem_append_right _ hq)) (by decide) (List.mem_of_getElem? (i := 1) rfl) rfl dX12_readRule_178 (rfl : 178 + 3 = 181) ?_
                    refine z_iret h hr dX12_readRule_181 ?_
                    exact ⟨congrArg Prod.fst (zsome hf), congrArg Prod.snd (zsome hf), rfl⟩
                  · have hf := zitt c31 hf
                    refine z_bipush h (-9) dX12_readRule_172 (by decide) (rfl : 172 + 2 = 174) ?_
                    refine z_goto (pc' := 181) h dX12_readRule_174 (by decide) ?_
                    refine z_iret h hr dX12_readRule_181 ?_
                    exact ⟨congrArg Prod.fst (zsome hf), congrArg Prod.snd (zsome hf), rfl⟩
                · have hf := zitf c30 hf
                  refine z_aload_n h 0 dX12_readRule_133 rfl (rfl : 133 + 1 = 134) ?_
                  refine z_getr (ci := 11) (C := RX12) (T := TX12) (N := 46) h 16 156 ((hJ.1 147 16 (by decide)).trans rfl) rfl rfl (fun _ hq => List.mem_cons_of_mem _ (List.mem_append_right _ hq)) (by decide) (List.mem_of_getElem? (i := 2) rfl) rfl dX12_readRule_134 (rfl : 134 + 3 = 137) ?_
                  refine z_iconst h 5 dX12_readRule_137 (by decide) (rfl : 137 + 1 = 138) ?_
                  refine z_aload_n h 0 dX12_readRule_138 rfl (rfl : 138 + 1 = 139) ?_
                  refine z_iconst h 0 dX12_readRule_139 (by decide) (rfl : 139 + 1 = 140) ?_
                  refine z_iconst h 2 dX12_readRule_140 (by decide) (rfl : 140 + 1 = 141) ?_
                  obtain ⟨q32, e33, hf⟩ := zbind hf
                  refine z_goF (z_runV (C := RX12) (T := TX12) (N := 46) (ci := 11) h [.int 0, .int 2] [.int 5, .ref (za B 156)] zyX12_figure (c_X12_figure B q28.2 J hJ 0 2 _ _ e33) gX12_readRule_X12_figure rfl rfl rfl zrX12_readRule_X12_figure rfl (Nat.le_of_ble_eq_true rfl) ⟨Nat.zero_le _, Nat.zero_le _⟩ rfl dX12_readRule_141) rfl ?_
                  refine z_iast h (by decide) rfl dX12_readRule_144 (rfl : 144 + 1 = 145) ?_
                  refine z_aload_n h 0 dX12_readRule_145 rfl (rfl : 145 + 1 = 146) ?_
                  refine z_getr (ci := 11) (C := RX12) (T := TX12) (N := 46) h 16 156 ((hJ.1 147 16 (by decide)).trans rfl) rfl rfl (fun _ hq => List.mem_cons_of_mem _ (List.mem_append_right _ hq)) (by decide) (List.mem_of_getElem? (i := 2) rfl) rfl dX12_readRule_146 (rfl : 146 + 3 = 149) ?_
                  refine z_iconst h 5 dX12_readRule_149 (by decide) (rfl : 149 + 1 = 150) ?_
                  refine z_iald h rfl (by decide) dX12_readRule_150 (rfl : 150 + 1 = 151) ?_
                  refine z_bipush h (-9) dX12_readRule_151 (by decide) (rfl : 151 + 2 = 153) ?_
                  refine z_icmp_ne (pc' := 156) h 161 dX12_readRule_153 (by decide) rfl (fun c34 => ?_) (fun c34 => ?_)
                  · have hf := zitf c34 hf
                    refine z_aload_n h 0 dX12_readRule_161 rfl (rfl : 161 + 1 = 162) ?_
                    refine z_get (ci := 11) (C := RX12) (T := TX12) (N := 46) h 13 rfl rfl (fun _ hq => List.mem_cons_of_mem _ (List.mem_append_right _ hq)) (by decide) (List.mem_of_getElem? (i := 1) rfl) rfl dX12_readRule_162 (rfl : 162 + 3 = 165) ?_
                    refine z_aload_n h 0 dX12_readRule_165 rfl (rfl : 165 + 1 = 166) ?_
                    refine z_get (ci := 11) (C := RX12) (T := TX12) (N := 46) h 12 rfl rfl (fun _ hq => List.mem_cons_of_mem _ (List.mem_append_right _ hq)) (by decide) (List.mem_of_getElem? (i := 3) rfl) rfl dX12_readRule_166 (rfl : 166 + 3 = 169) ?_
                    refine z_icmp_ne (pc' := 172) h 177 dX12_readRule_169 (by decide) rfl (fun c35 => ?_) (fun c35 => ?_)
                    · have hf := zitf c35 hf
                      refine z_aload_n h 0 dX12_readRule_177 rfl (rfl : 177 + 1 = 178) ?_
                      refine z_get (ci := 11) (C := RX12) (T := TX12) (N := 46) h 13 rfl rfl (fun _ hq => List.mem_cons_of_mem _ (List.mem_append_right _ hq)) (by decide) (List.mem_of_getElem? (i := 1) rfl) rfl dX12_readRule_178 (rfl : 178 + 3 = 181) ?_
                      refine z_iret h hr dX12_readRule_181 ?_
                      exact ⟨congrArg Prod.fst (zsome hf), congrArg Prod.snd (zsome hf), rfl⟩
                    · have hf := zitt c35 hf
                      refine z_bipush h (-9) dX12_readRule_172 (by decide) (rfl : 172 + 2 = 174) ?_
                      refine z_goto (pc' := 181) h dX12_readRule_174 (by decide) ?_
                      refine z_iret h hr dX12_readRule_181 ?_
                      exact ⟨congrArg Prod.fst (zsome hf), congrArg Prod.snd (zsome hf), rfl⟩
                  · have hf := zitt c34 hf
                    refine z_aload_n h 0 dX12_readRule_156 rfl (rfl : 156 + 1 = 157) ?_
                    refine z_get (ci := 11) (C := RX12) (T := TX12) (N := 46) h 13 rfl rfl (fun _ hq => List.mem_cons_of_mem _ (List.mem_append_right _ hq)) (by decide) (List.mem_of_getElem? (i := 1) rfl) rfl dX12_readRule_157 (rfl : 157 + 3 = 160) ?_
                    refine z_iret h hr dX12_readRule_160 ?_
                    exact ⟨congrArg Prod.fst (zsome hf), congrArg Prod.snd (zsome hf), rfl⟩
              · have hf := zitt c27 hf
                refine z_aload_n h 0 dX12_readRule_119 rfl (rfl : 119 + 1 = 120) ?_
                refine z_get (ci := 11) (C := RX12) (T := TX12) (N := 46) h 13 rfl rfl (fun _ hq => List.mem_cons_of_mem _ (List.mem_append_right _ hq)) (by decide) (List.mem_of_getElem? (i := 1) rfl) rfl dX12_readRule_120 (rfl : 120 + 3 = 123) ?_
                refine z_iret h hr dX12_readRule_123 ?_
                exact ⟨congrArg Prod.fst (zsome hf), congrArg Prod.snd (zsome hf), rfl⟩
          · have hf := zitt c13 hf
            refine z_aload_n h 0 dX12_readRule_96 rfl (rfl : 96 + 1 = 97) ?_
            refine z_get (ci := 11) (C := RX12) (T := TX12) (N := 46) h 13 rfl rfl (fun _ hq => List.mem_cons_of_mem _ (List.mem_append_right _ hq)) (by decide) (List.mem_of_getElem? (i := 1) rfl) rfl dX12_readRule_97 (rfl : 97 + 3 = 100) ?_
            refine z_iret h hr dX12_readRule_100 ?_
            exact ⟨congrArg Prod.fst (zsome hf), congrArg Prod.snd (zsome hf), rfl⟩
      · have hf := zitf c9 hf
        refine z_iconst h 2 dX12_readRule_69 (by decide) (rfl : 69 + 1 = 70) ?_
        refine z_goto (pc' := 75) h dX12_readRule_70 (by decide) ?_
        refine z_iast h (by decide) rfl dX12_readRule_75 (rfl : 75 + 1 = 76) ?_
        refine z_aload_n h 0 dX12_readRule_76 rfl (rfl : 76 + 1 = 77) ?_
        refine z_getr (ci := 11) (C := RX12) (T := TX12) (N := 46) h 16 156 ((hJ.1 147 16 (by decide)).trans rfl) rfl rfl (fun _ hq => List.mem_cons_of_mem _ (List.mem_append_right _ hq)) (by decide) (List.mem_of_getElem? (i := 2) rfl) rfl dX12_readRule_77 (rfl : 77 + 3 = 80) ?_
        refine z_iconst h 0 dX12_readRule_80 (by decide) (rfl : 80 + 1 = 81) ?_
        refine z_iald h rfl (by decide) dX12_readRule_81 (rfl : 81 + 1 = 82) ?_
        refine z_bipush h (-9) dX12_readRule_82 (by decide) (rfl : 82 + 2 = 84) ?_
        refine z_icmp_eq (pc' := 87) h 96 dX12_readRule_84 (by decide) rfl (fun c36 => ?_) (fun c36 => ?_)
        · have hf := zitt c36 hf
          refine z_aload_n h 0 dX12_readRule_96 rfl (rfl : 96 + 1 = 97) ?_
          refine z_get (ci := 11) (C := RX12) (T := TX12) (N := 46) h 13 rfl rfl (fun _ hq => List.mem_cons_of_mem _ (List.mem_append_right _ hq)) (by decide) (List.mem_of_getElem? (i := 1) rfl) rfl dX12_readRule_97 (rfl : 97 + 3 = 100) ?_
          refine z_iret h hr dX12_readRule_100 ?_
          exact ⟨congrArg Prod.fst (zsome hf), congrArg Prod.snd (zsome hf), rfl⟩
        · have hf := zitf c36 hf
          refine z_aload_n h 0 dX12_readRule_87 rfl (rfl : 87 + 1 = 88) ?_
          refine z_iconst h 1 dX12_readRule_88 (by decide) (rfl : 88 + 1 = 89) ?_
          refine z_iconst h 1 dX12_readRule_89 (by decide) (rfl : 89 + 1 = 90) ?_
          obtain ⟨q37, e38, hf⟩ := zbind hf
          refine z_goF (z_runV (C := RX12) (T := TX12) (N := 46) (ci := 11) h [.int 1, .int 1] [] zyX12_readPair (c_X12_readPair B (zu q7.2 156 0 2) J hJ 1 1 _ _ e38) gX12_readRule_X12_readPair rfl rfl rfl zrX12_readRule_X12_readPair rfl (Nat.le_of_ble_eq_true rfl) ⟨Nat.zero_le _, Nat.zero_le _⟩ rfl dX12_readRule_90) rfl ?_
          refine z_if_ne (pc' := 96) h 101 dX12_readRule_93 (by decide) rfl (fun c39 => ?_) (fun c39 => ?_)
          · have hf := zitf c39 hf
            refine z_aload_n h 0 dX12_readRule_101 rfl (rfl : 101 + 1 = 102) ?_
            refine z_bipush h 63 dX12_readRule_102 (by decide) (rfl : 102 + 2 = 104) ?_
            obtain ⟨q40, e41, hf⟩ := zbind hf
            refine z_goF (z_runV (C := RX12) (T := TX12) (N := 46) (ci := 11) h [.int 63] [] zyX12_sign (c_X12_sign B q37.2 J hJ 63 _ _ e41) gX12_readRule_X12_sign rfl rfl rfl zrX12_readRule_X12_sign rfl (Nat.le_of_ble_eq_true rfl) ⟨Nat.zero_le _, Nat.zero_le _⟩ rfl dX12_readRule_104) rfl ?_
            refine z_if_eq (pc' := 110) h 124 dX12_readRule_107 (by decide) rfl (fun c42 => ?_) (fun c42 => ?_)
            · have hf := zitt c42 hf
              refine z_aload_n h 0 dX12_readRule_124 rfl (rfl : 124 + 1 = 125) ?_
              refine z_bipush h 64 dX12_readRule_125 (by decide) (rfl : 125 + 2 = 127) ?_
              obtain ⟨q43, e44, hf⟩ := zbind hf
              refine z_goF (z_runV (C := RX12) (T := TX12) (N := 46) (ci := 11) h [.int 64] [] zyX12_sign (c_X12_sign B q40.2 J hJ 64 _ _ e44) gX12_readRule_X12_sign rfl rfl rfl zrX12_readRule_X12_sign rfl (Nat.le_of_ble_eq_true rfl) ⟨Nat.zero_le _, Nat.zero_le _⟩ rfl dX12_readRule_127) rfl ?_
              refine z_if_eq (pc' := 133) h 161 dX12_readRule_130 (by decide) rfl (fun c45 => ?_) (fun c45 => ?_)
              · have hf := zitt c45 hf
                refine z_aload_n h 0 dX12_readRule_161 rfl (rfl : 161 + 1 = 162) ?_
                refine z_get (ci := 11) (C := RX12) (T := TX12) (N := 46) h 13 rfl rfl (fun _ hq => List.mem_cons_of_mem _ (List.mem_append_right _ hq)) (by decide) (List.mem_of_getElem? (i := 1) rfl) rfl dX12_readRule_162 (rfl : 162 + 3 = 165) ?_
                refine z_aload_n h 0 dX12_readRule_165 rfl (rfl : 165 + 1 = 166) ?_
                refine z_get (ci := 11) (C := RX12) (T := TX12) (N := 46) h 12 rfl rfl (fun _ hq => List.mem_cons_of_mem _ (List.mem_append_right _ hq)) (by decide) (List.mem_of_getElem? (i := 3) rfl) rfl dX12_readRule_166 (rfl : 166 + 3 = 169) ?_
                refine z_icmp_ne (pc' := 172) h 177 dX12_readRule_169 (by decide) rfl (fun c46 => ?_) (fun c46 => ?_)
                · have hf := zitf c46 hf
                  refine z_aload_n h 0 dX12_readRule_177 rfl (rfl : 177 + 1 = 178) ?_
                  refine z_get (ci := 11) (C := RX12) (T := TX12) (N := 46) h 13 rfl rfl (fun _ hq => List.mem_cons_of_mem _ (List.mem_append_right _ hq)) (by decide) (List.mem_of_getElem? (i := 1) rfl) rfl dX12_readRule_178 (rfl : 178 + 3 = 181) ?_
                  refine z_iret h hr dX12_readRule_181 ?_
                  exact ⟨congrArg Prod.fst (zsome hf), congrArg Prod.snd (zsome hf), rfl⟩
                · have hf := zitt c46 hf
                  refine z_bipush h (-9) dX12_readRule_172 (by decide) (rfl : 172 + 2 = 174) ?_
                  refine z_goto (pc' := 181) h dX12_readRule_174 (by decide) ?_
                  refine z_iret h hr dX12_readRule_181 ?_
                  exact ⟨congrArg Prod.fst (zsome hf), congrArg Prod.snd (zsome hf), rfl⟩
              · have hf := zitf c45 hf
                refine z_aload_n h 0 dX12_readRule_133 rfl (rfl : 133 + 1 = 134) ?_
                refine z_getr (ci := 11) (C := RX12) (T := TX12) (N := 46) h 16 156 ((hJ.1 147 16 (by decide)).trans rfl) rfl rfl (fun _ hq => List.mem_cons_of_mem _ (List.mem_append_right _ hq)) (by decide) (List.mem_of_getElem? (i := 2) rfl) rfl dX12_readRule_134 (rfl : 134 + 3 = 137) ?_
                refine z_iconst h 5 dX12_readRule_137 (by decide) (rfl : 137 + 1 = 138) ?_
                refine z_aload_n h 0 dX12_readRule_138 rfl (rfl : 138 + 1 = 139) ?_
                refine z_iconst h 0 dX12_readRule_139 (by decide) (rfl : 139 + 1 = 140) ?_
                refine z_iconst h 2 dX12_readRule_140 (by decide) (rfl : 140 + 1 = 141) ?_
                obtain ⟨q47, e48, hf⟩ := zbind hf
                refine z_goF (z_runV (C := RX12) (T := TX12) (N := 46) (ci := 11) h [.int 0, .int 2] [.int 5, .ref (za B 156)] zyX12_figure (c_X12_figure B q43.2 J hJ 0 2 _ _ e48) gX12_readRule_X12_figure rfl rfl rfl zrX12_readRule_X12_figure rfl (Nat.le_of_ble_eq_true rfl) ⟨Nat.zero_le _, Nat.zero_le _⟩ rfl dX12_readRule_141) rfl ?_
                refine z_iast h (by decide) rfl dX12_readRule_144 (rfl : 144 + 1 = 145) ?_
                refine z_aload_n h 0 dX12_readRule_145 rfl (rfl : 145 + 1 = 146) ?_
                refine z_getr (ci := 11) (C := RX12) (T := TX12) (N := 46) h 16 156 ((hJ.1 147 16 (by decide)).trans rfl) rfl rfl (fun _ hq => List.mem_cons_of_mem _ (List.mem_append_right _ hq)) (by decide) (List.mem_of_getElem? (i := 2) rfl) rfl dX12_readRule_146 (rfl : 146 + 3 = 149) ?_
                refine z_iconst h 5 dX12_readRule_149 (by decide) (rfl : 149 + 1 = 150) ?_
                refine z_iald h rfl (by decide) dX12_readRule_150 (rfl : 150 + 1 = 151) ?_
                refine z_bipush h (-9) dX12_readRule_151 (by decide) (rfl : 151 + 2 = 153) ?_
                refine z_icmp_ne (pc' := 156) h 161 dX12_readRule_153 (by decide) rfl (fun c49 => ?_) (fun c49 => ?_)
                · have hf := zitf c49 hf
                  refine z_aload_n h 0 dX12_readRule_161 rfl (rfl : 161 + 1 = 162) ?_
                  refine z_get (ci := 11) (C := RX12) (T := TX12) (N := 46) h 13 rfl rfl (fun _ hq => List.mem_cons_of_mem _ (List.mem_append_right _ hq)) (by decide) (List.mem_of_getElem? (i := 1) rfl) rfl dX12_readRule_162 (rfl : 162 + 3 = 165) ?_
                  refine z_aload_n h 0 dX12_readRule_165 rfl (rfl : 165 + 1 = 166) ?_
                  refine z_get (ci := 11) (C := RX12) (T := TX12) (N := 46) h 12 rfl rfl (fun _ hq => List.mem_cons_of_mem _ (List.mem_append_right _ hq)) (by decide) (List.mem_of_getElem? (i := 3) rfl) rfl dX12_readRule_166 (rfl : 166 + 3 = 169) ?_
                  refine z_icmp_ne (pc' := 172) h 177 dX12_readRule_169 (by decide) rfl (fun c50 => ?_) (fun c50 => ?_)
                  · have hf := zitf c50 hf
                    refine z_aload_n h 0 dX12_readRule_177 rfl (rfl : 177 + 1 = 178) ?_
                    refine z_get (ci := 11) (C := RX12) (T := TX12) (N := 46) h 13 rfl rfl (fun _ hq => List.mem_cons_of_mem _ (List.mem_append_right _ hq)) (by decide) (List.mem_of_getElem? (i := 1) rfl) rfl dX12_readRule_178 (rfl : 178 + 3 = 181) ?_
                    refine z_iret h hr dX12_readRule_181 ?_
                    exact ⟨congrArg Prod.fst (zsome hf), congrArg Prod.snd (zsome hf), rfl⟩
                  · have hf := zitt c50 hf
                    refine z_bipush h (-9) dX12_readRule_172 (by decide) (rfl : 172 + 2 = 174) ?_
                    refine z_goto (pc' := 181) h dX12_readRule_174 (by decide) ?_
                    refine z_iret h hr dX12_readRule_181 ?_
                    exact ⟨congrArg Prod.fst (zsome hf), congrArg Prod.snd (zsome hf), rfl⟩
                · have hf := zitt c49 hf
                  refine z_aload_n h 0 dX12_readRule_156 rfl (rfl : 156 + 1 = 157) ?_
                  refine z_get (ci := 11) (C := RX12) (T := TX12) (N := 46) h 13 rfl rfl (fun _ hq => List.mem_cons_of_mem _ (List.mem_append_right _ hq)) (by decide) (List.mem_of_getElem? (i := 1) rfl) rfl dX12_readRule_157 (rfl : 157 + 3 = 160) ?_
                  refine z_iret h hr dX12_readRule_160 ?_
                  exact ⟨congrArg Prod.fst (zsome hf), congrArg Prod.snd (zsome hf), rfl⟩
            · have hf := zitf c42 hf
              refine z_aload_n h 0 dX12_readRule_110 rfl (rfl : 110 + 1 = 111) ?_
              refine z_iconst h 3 dX12_readRule_111 (by decide) (rfl : 111 + 1 = 112) ?_
              refine z_iconst h 0 dX12_readRule_112 (by decide) (rfl : 112 + 1 = 113) ?_
              obtain ⟨q51, e52, hf⟩ := zbind hf
              refine z_goF (z_runV (C := RX12) (T := TX12) (N := 46) (ci := 11) h [.int 3, .int 0] [] zyX12_readPair (c_X12_readPair B q40.2 J hJ 3 0 _ _ e52) gX12_readRule_X12_readPair rfl rfl rfl zrX12_readRule_X12_readPair rfl (Nat.le_of_ble_eq_true rfl) ⟨Nat.zero_le _, Nat.zero_le _⟩ rfl dX12_readRule_113) rfl ?_
              refine z_if_ne (pc' := 119) h 124 dX12_readRule_116 (by decide) rfl (fun c53 => ?_) (fun c53 => ?_)
              · have hf := zitf c53 hf
                refine z_aload_n h 0 dX12_readRule_124 rfl (rfl : 124 + 1 = 125) ?_
                refine z_bipush h 64 dX12_readRule_125 (by decide) (rfl : 125 + 2 = 127) ?_
                obtain ⟨q54, e55, hf⟩ := zbind hf
                refine z_goF (z_runV (C := RX12) (T := TX12) (N := 46) (ci := 11) h [.int 64] [] zyX12_sign (c_X12_sign B q51.2 J hJ 64 _ _ e55) gX12_readRule_X12_sign rfl rfl rfl zrX12_readRule_X12_sign rfl (Nat.le_of_ble_eq_true rfl) ⟨Nat.zero_le _, Nat.zero_le _⟩ rfl dX12_readRule_127) rfl ?_
                refine z_if_eq (pc' := 133) h 161 dX12_readRule_130 (by decide) rfl (fun c56 => ?_) (fun c56 => ?_)
                · have hf := zitt c56 hf
                  refine z_aload_n h 0 dX12_readRule_161 rfl (rfl : 161 + 1 = 162) ?_
                  refine z_get (ci := 11) (C := RX12) (T := TX12) (N := 46) h 13 rfl rfl (fun _ hq => List.mem_cons_of_mem _ (List.mem_append_right _ hq)) (by decide) (List.mem_of_getElem? (i := 1) rfl) rfl dX12_readRule_162 (rfl : 162 + 3 = 165) ?_
                  refine z_aload_n h 0 dX12_readRule_165 rfl (rfl : 165 + 1 = 166) ?_
                  refine z_get (ci := 11) (C := RX12) (T := TX12) (N := 46) h 12 rfl rfl (fun _ hq => List.mem_cons_of_mem _ (List.mem_append_right _ hq)) (by decide) (List.mem_of_getElem? (i := 3) rfl) rfl dX12_readRule_166 (rfl : 166 + 3 = 169) ?_
                  refine z_icmp_ne (pc' := 172) h 177 dX12_readRule_169 (by decide) rfl (fun c57 => ?_) (fun c57 => ?_)
                  · have hf := zitf c57 hf
                    refine z_aload_n h 0 dX12_readRule_177 rfl (rfl : 177 + 1 = 178) ?_
                    refine z_get (ci := 11) (C := RX12) (T := TX12) (N := 46) h 13 rfl rfl (fun _ hq => List.mem_cons_of_mem _ (List.mem_append_right _ hq)) (by decide) (List.mem_of_getElem? (i := 1) rfl) rfl dX12_readRule_178 (rfl : 178 + 3 = 181) ?_
                    refine z_iret h hr dX12_readRule_181 ?_
                    exact ⟨congrArg Prod.fst (zsome hf), congrArg Prod.snd (zsome hf), rfl⟩
                  · have hf := zitt c57 hf
                    refine z_bipush h (-9) dX12_readRule_172 (by decide) (rfl : 172 + 2 = 174) ?_
                    refine z_goto (pc' := 181) h dX12_readRule_174 (by decide) ?_
                    refine z_iret h hr dX12_readRule_181 ?_
                    exact ⟨congrArg Prod.fst (zsome hf), congrArg Prod.snd (zsome hf), rfl⟩
                · have hf := zitf c56 hf
                  refine z_aload_n h 0 dX12_readRule_133 rfl (rfl : 133 + 1 = 134) ?_
                  refine z_getr (ci := 11) (C := RX12) (T := TX12) (N := 46) h 16 156 ((hJ.1 147 16 (by decide)).trans rfl) rfl rfl (fun _ hq => List.mem_cons_of_mem _ (List.mem_append_right _ hq)) (by decide) (List.mem_of_getElem? (i := 2) rfl) rfl dX12_readRule_134 (rfl : 134 + 3 = 137) ?_
                  refine z_iconst h 5 dX12_readRule_137 (by decide) (rfl : 137 + 1 = 138) ?_
                  refine z_aload_n h 0 dX12_readRule_138 rfl (rfl : 138 + 1 = 139) ?_
                  refine z_iconst h 0 dX12_readRule_139 (by decide) (rfl : 139 + 1 = 140) ?_
                  refine z_iconst h 2 dX12_readRule_140 (by decide) (rfl : 140 + 1 = 141) ?_
                  obtain ⟨q58, e59, hf⟩ := zbind hf
                  refine z_goF (z_runV (C := RX12) (T := TX12) (N := 46) (ci := 11) h [.int 0, .int 2] [.int 5, .ref (za B 156)] zyX12_figure (c_X12_figure B q54.2 J hJ 0 2 _ _ e59) gX12_readRule_X12_figure rfl rfl rfl zrX12_readRule_X12_figure rfl (Nat.le_of_ble_eq_true rfl) ⟨Nat.zero_le _, Nat.zero_le _⟩ rfl dX12_readRule_141) rfl ?_
                  refine z_iast h (by decide) rfl dX12_readRule_144 (rfl : 144 + 1 = 145) ?_
                  refine z_aload_n h 0 dX12_readRule_145 rfl (rfl : 145 + 1 = 146) ?_
                  refine z_getr (ci := 11) (C := RX12) (T := TX12) (N := 46) h 16 156 ((hJ.1 147 16 (by decide)).trans rfl) rfl rfl (fun _ hq => List.mem_cons_of_mem _ (List.mem_append_right _ hq)) (by decide) (List.mem_of_getElem? (i := 2) rfl) rfl dX12_readRule_146 (rfl : 146 + 3 = 149) ?_
                  refine z_iconst h 5 dX12_readRule_149 (by decide) (rfl : 149 + 1 = 150) ?_
                  refine z_iald h rfl (by decide) dX12_readRule_150 (rfl : 150 + 1 = 151) ?_
                  refine z_bipush h (-9) dX12_readRule_151 (by decide) (rfl : 151 + 2 = 153) ?_
                  refine z_icmp_ne (pc' := 156) h 161 dX12_readRule_153 (by decide) rfl (fun c60 => ?_) (fun c60 => ?_)
                  · have hf := zitf c60 hf
                    refine z_aload_n h 0 dX12_readRule_161 rfl (rfl : 161 + 1 = 162) ?_
                    refine z_get (ci := 11) (C := RX12) (T := TX12) (N := 46) h 13 rfl rfl (fun _ hq => List.mem_cons_of_mem _ (List.mem_append_right _ hq)) (by decide) (List.mem_of_getElem? (i := 1) rfl) rfl dX12_readRule_162 (rfl : 162 + 3 = 165) ?_
                    refine z_aload_n h 0 dX12_readRule_165 rfl (rfl : 165 + 1 = 166) ?_
                    refine z_get (ci := 11) (C := RX12) (T := TX12) (N := 46) h 12 rfl rfl (fun _ hq => List.mem_cons_of_mem _ (List.mem_append_right _ hq)) (by decide) (List.mem_of_getElem? (i := 3) rfl) rfl dX12_readRule_166 (rfl : 166 + 3 = 169) ?_
                    refine z_icmp_ne (pc' := 172) h 177 dX12_readRule_169 (by decide) rfl (fun c61 => ?_) (fun c61 => ?_)
                    · have hf := zitf c61 hf
                      refine z_aload_n h 0 dX12_readRule_177 rfl (rfl : 177 + 1 = 178) ?_
                      refine z_get (ci := 11) (C := RX12) (T := TX12) (N := 46) h 13 rfl rfl (fun _ hq => List.mem_cons_of_mem _ (List.mem_append_right _ hq)) (by decide) (List.mem_of_getElem? (i := 1) rfl) rfl dX12_readRule_178 (rfl : 178 + 3 = 181) ?_
                      refine z_iret h hr dX12_readRule_181 ?_
                      exact ⟨congrArg Prod.fst (zsome hf), congrArg Prod.snd (zsome hf), rfl⟩
                    · have hf := zitt c61 hf
                      refine z_bipush h (-9) dX12_readRule_172 (by decide) (rfl : 172 + 2 = 174) ?_
                      refine z_goto (pc' := 181) h dX12_readRule_174 (by decide) ?_
                      refine z_iret h hr dX12_readRule_181 ?_
                      exact ⟨congrArg Prod.fst (zsome hf), congrArg Prod.snd (zsome hf), rfl⟩
                  · have hf := zitt c60 hf
                    refine z_aload_n h 0 dX12_readRule_156 rfl (rfl : 156 + 1 = 157) ?_
                    refine z_get (ci := 11) (C := RX12) (T := TX12) (N := 46) h 13 rfl rfl (fun _ hq => List.mem_cons_of_mem _ (List.mem_append_right _ hq)) (by decide) (List.mem_of_getElem? (i := 1) rfl) rfl dX12_readRule_157 (rfl : 157 + 3 = 160) ?_
                    refine z_iret h hr dX12_readRule_160 ?_
                    exact ⟨congrArg Prod.fst (zsome hf), congrArg Prod.snd (zsome hf), rfl⟩
              · have hf := zitt c53 hf
                refine z_aload_n h 0 dX12_readRule_119 rfl (rfl : 119 + 1 = 120) ?_
                refine z_get (ci := 11) (C := RX12) (T := TX12) (N := 46) h 13 rfl rfl (fun _ hq => List.mem_cons_of_mem _ (List.mem_append_right _ hq)) (by decide) (List.mem_of_getElem? (i := 1) rfl) rfl dX12_readRule_120 (rfl : 120 + 3 = 123) ?_
                refine z_iret h hr dX12_readRule_123 ?_
                exact ⟨congrArg Prod.fst (zsome hf), congrArg Prod.snd (zsome hf), rfl⟩
          · have hf := zitt c39 hf
            refine z_aload_n h 0 dX12_readRule_96 rfl (rfl : 96 + 1 = 97) ?_
            refine z_get (ci := 11) (C := RX12) (T := TX12) (N := 46) h 13 rfl rfl (fun _ hq => List.mem_cons_of_mem _ (List.mem_append_right _ hq)) (by decide) (List.mem_of_getElem? (i := 1) rfl) rfl dX12_readRule_97 (rfl : 97 + 3 = 100) ?_
            refine z_iret h hr dX12_readRule_100 ?_
            exact ⟨congrArg Prod.fst (zsome hf), congrArg Prod.snd (zsome hf), rfl⟩
    · have hf := zitf c6 hf
      refine z_iconst h 1 dX12_readRule_56 (by decide) (rfl : 56 + 1 = 57) ?_
      refine z_goto (pc' := 75) h dX12_readRule_57 (by decide) ?_
      refine z_iast h (by decide) rfl dX12_readRule_75 (rfl : 75 + 1 = 76) ?_
      refine z_aload_n h 0 dX12_readRule_76 rfl (rfl : 76 + 1 = 77) ?_
      refine z_getr (ci := 11) (C := RX12) (T := TX12) (N := 46) h 16 156 ((hJ.1 147 16 (by decide)).trans rfl) rfl rfl (fun _ hq => List.mem_cons_of_mem _ (List.mem_append_right _ hq)) (by decide) (List.mem_of_getElem? (i := 2) rfl) rfl dX12_readRule_77 (rfl : 77 + 3 = 80) ?_
      refine z_iconst h 0 dX12_readRule_80 (by decide) (rfl : 80 + 1 = 81) ?_
      refine z_iald h rfl (by decide) dX12_readRule_81 (rfl : 81 + 1 = 82) ?_
      refine z_bipush h (-9) dX12_readRule_82 (by decide) (rfl : 82 + 2 = 84) ?_
      refine z_icmp_eq (pc' := 87) h 96 dX12_readRule_84 (by decide) rfl (fun c62 => ?_) (fun c62 => ?_)
      · have hf := zitt c62 hf
        refine z_aload_n h 0 dX12_readRule_96 rfl (rfl : 96 + 1 = 97) ?_
        refine z_get (ci := 11) (C := RX12) (T := TX12) (N := 46) h 13 rfl rfl (fun _ hq => List.mem_cons_of_mem _ (List.mem_append_right _ hq)) (by decide) (List.mem_of_getElem? (i := 1) rfl) rfl dX12_readRule_97 (rfl : 97 + 3 = 100) ?_
        refine z_iret h hr dX12_readRule_100 ?_
        exact ⟨congrArg Prod.fst (zsome hf), congrArg Prod.snd (zsome hf), rfl⟩
      · have hf := zitf c62 hf
        refine z_aload_n h 0 dX12_readRule_87 rfl (rfl : 87 + 1 = 88) ?_
        refine z_iconst h 1 dX12_readRule_88 (by decide) (rfl : 88 + 1 = 89) ?_
        refine z_iconst h 1 dX12_readRule_89 (by decide) (rfl : 89 + 1 = 90) ?_
        obtain ⟨q63, e64, hf⟩ := zbind hf
        refine z_goF (z_runV (C := RX12) (T := TX12) (N := 46) (ci := 11) h [.int 1, .int 1] [] zyX12_readPair (c_X12_readPair B (zu q4.2 156 0 1) J hJ 1 1 _ _ e64) gX12_readRule_X12_readPair rfl rfl rfl zrX12_readRule_X12_readPair rfl (Nat.le_of_ble_eq_true rfl) ⟨Nat.zero_le _, Nat.zero_le _⟩ rfl dX12_readRule_90) rfl ?_
        refine z_if_ne (pc' := 96) h 101 dX12_readRule_93 (by decide) rfl (fun c65 => ?_) (fun c65 => ?_)
        · have hf := zitf c65 hf
          refine z_aload_n h 0 dX12_readRule_101 rfl (rfl : 101 + 1 = 102) ?_
          refine z_bipush h 63 dX12_readRule_102 (by decide) (rfl : 102 + 2 = 104) ?_
          obtain ⟨q66, e67, hf⟩ := zbind hf
          refine z_goF (z_runV (C := RX12) (T := TX12) (N := 46) (ci := 11) h [.int 63] [] zyX12_sign (c_X12_sign B q63.2 J hJ 63 _ _ e67) gX12_readRule_X12_sign rfl rfl rfl zrX12_readRule_X12_sign rfl (Nat.le_of_ble_eq_true rfl) ⟨Nat.zero_le _, Nat.zero_le _⟩ rfl dX12_readRule_104) rfl ?_
          refine z_if_eq (pc' := 110) h 124 dX12_readRule_107 (by decide) rfl (fun c68 => ?_) (fun c68 => ?_)
          · have hf := zitt c68 hf
            refine z_aload_n h 0 dX12_readRule_124 rfl (rfl : 124 + 1 = 125) ?_
            refine z_bipush h 64 dX12_readRule_125 (by decide) (rfl : 125 + 2 = 127) ?_
            obtain ⟨q69, e70, hf⟩ := zbind hf
            refine z_goF (z_runV (C := RX12) (T := TX12) (N := 46) (ci := 11) h [.int 64] [] zyX12_sign (c_X12_sign B q66.2 J hJ 64 _ _ e70) gX12_readRule_X12_sign rfl rfl rfl zrX12_readRule_X12_sign rfl (Nat.le_of_ble_eq_true rfl) ⟨Nat.zero_le _, Nat.zero_le _⟩ rfl dX12_readRule_127) rfl ?_
            refine z_if_eq (pc' := 133) h 161 dX12_readRule_130 (by decide) rfl (fun c71 => ?_) (fun c71 => ?_)
            · have hf := zitt c71 hf
              refine z_aload_n h 0 dX12_readRule_161 rfl (rfl : 161 + 1 = 162) ?_
              refine z_get (ci := 11) (C := RX12) (T := TX12) (N := 46) h 13 rfl rfl (fun _ hq => List.mem_cons_of_mem _ (List.mem_append_right _ hq)) (by decide) (List.mem_of_getElem? (i := 1) rfl) rfl dX12_readRule_162 (rfl : 162 + 3 = 165) ?_
              refine z_aload_n h 0 dX12_readRule_165 rfl (rfl : 165 + 1 = 166) ?_
              refine z_get (ci := 11) (C := RX12) (T := TX12) (N := 46) h 12 rfl rfl (fun _ hq => List.mem_cons_of_mem _ (List.mem_append_right _ hq)) (by decide) (List.mem_of_getElem? (i := 3) rfl) rfl dX12_readRule_166 (rfl : 166 + 3 = 169) ?_
              refine z_icmp_ne (pc' := 172) h 177 dX12_readRule_169 (by decide) rfl (fun c72 => ?_) (fun c72 => ?_)
              · have hf := zitf c72 hf
                refine z_aload_n h 0 dX12_readRule_177 rfl (rfl : 177 + 1 = 178) ?_
                refine z_get (ci := 11) (C := RX12) (T := TX12) (N := 46) h 13 rfl rfl (fun _ hq => List.mem_cons_of_mem _ (List.mem_append_right _ hq)) (by decide) (List.mem_of_getElem? (i := 1) rfl) rfl dX12_readRule_178 (rfl : 178 + 3 = 181) ?_
                refine z_iret h hr dX12_readRule_181 ?_
                exact ⟨congrArg Prod.fst (zsome hf), congrArg Prod.snd (zsome hf), rfl⟩
              · have hf := zitt c72 hf
                refine z_bipush h (-9) dX12_readRule_172 (by decide) (rfl : 172 + 2 = 174) ?_
                refine z_goto (pc' := 181) h dX12_readRule_174 (by decide) ?_
                refine z_iret h hr dX12_readRule_181 ?_
                exact ⟨congrArg Prod.fst (zsome hf), congrArg Prod.snd (zsome hf), rfl⟩
            · have hf := zitf c71 hf
              refine z_aload_n h 0 dX12_readRule_133 rfl (rfl : 133 + 1 = 134) ?_
              refine z_getr (ci := 11) (C := RX12) (T := TX12) (N := 46) h 16 156 ((hJ.1 147 16 (by decide)).trans rfl) rfl rfl (fun _ hq => List.mem_cons_of_mem _ (List.mem_append_right _ hq)) (by decide) (List.mem_of_getElem? (i := 2) rfl) rfl dX12_readRule_134 (rfl : 134 + 3 = 137) ?_
              refine z_iconst h 5 dX12_readRule_137 (by decide) (rfl : 137 + 1 = 138) ?_
              refine z_aload_n h 0 dX12_readRule_138 rfl (rfl : 138 + 1 = 139) ?_
              refine z_iconst h 0 dX12_readRule_139 (by decide) (rfl : 139 + 1 = 140) ?_
              refine z_iconst h 2 dX12_readRule_140 (by decide) (rfl : 140 + 1 = 141) ?_
              obtain ⟨q73, e74, hf⟩ := zbind hf
              refine z_goF (z_runV (C := RX12) (T := TX12) (N := 46) (ci := 11) h [.int 0, .int 2] [.int 5, .ref (za B 156)] zyX12_figure (c_X12_figure B q69.2 J hJ 0 2 _ _ e74) gX12_readRule_X12_figure rfl rfl rfl zrX12_readRule_X12_figure rfl (Nat.le_of_ble_eq_true rfl) ⟨Nat.zero_le _, Nat.zero_le _⟩ rfl dX12_readRule_141) rfl ?_
              refine z_iast h (by decide) rfl dX12_readRule_144 (rfl : 144 + 1 = 145) ?_
              refine z_aload_n h 0 dX12_readRule_145 rfl (rfl : 145 + 1 = 146) ?_
              refine z_getr (ci := 11) (C := RX12) (T := TX12) (N := 46) h 16 156 ((hJ.1 147 16 (by decide)).trans rfl) rfl rfl (fun _ hq => List.mem_cons_of_mem _ (List.mem_append_right _ hq)) (by decide) (List.mem_of_getElem? (i := 2) rfl) rfl dX12_readRule_146 (rfl : 146 + 3 = 149) ?_
              refine z_iconst h 5 dX12_readRule_149 (by decide) (rfl : 149 + 1 = 150) ?_
              refine z_iald h rfl (by decide) dX12_readRule_150 (rfl : 150 + 1 = 151) ?_
              refine z_bipush h (-9) dX12_readRule_151 (by decide) (rfl : 151 + 2 = 153) ?_
              refine z_icmp_ne (pc' := 156) h 161 dX12_readRule_153 (by decide) rfl (fun c75 => ?_) (fun c75 => ?_)
              · have hf := zitf c75 hf
                refine z_aload_n h 0 dX12_readRule_161 rfl (rfl : 161 + 1 = 162) ?_
                refine z_get (ci := 11) (C := RX12) (T := TX12) (N := 46) h 13 rfl rfl (fun _ hq => List.mem_cons_of_mem _ (List.mem_append_right _ hq)) (by decide) (List.mem_of_getElem? (i := 1) rfl) rfl dX12_readRule_162 (rfl : 162 + 3 = 165) ?_
                refine z_aload_n h 0 dX12_readRule_165 rfl (rfl : 165 + 1 = 166) ?_
                refine z_get (ci := 11) (C := RX12) (T := TX12) (N := 46) h 12 rfl rfl (fun _ hq => List.mem_cons_of_mem _ (List.mem_append_right _ hq)) (by decide) (List.mem_of_getElem? (i := 3) rfl) rfl dX12_readRule_166 (rfl : 166 + 3 = 169) ?_
                refine z_icmp_ne (pc' := 172) h 177 dX12_readRule_169 (by decide) rfl (fun c76 => ?_) (fun c76 => ?_)
                · have hf := zitf c76 hf
                  refine z_aload_n h 0 dX12_readRule_177 rfl (rfl : 177 + 1 = 178) ?_
                  refine z_get (ci := 11) (C := RX12) (T := TX12) (N := 46) h 13 rfl rfl (fun _ hq => List.mem_cons_of_mem _ (List.mem_append_right _ hq)) (by decide) (List.mem_of_getElem? (i := 1) rfl) rfl dX12_readRule_178 (rfl : 178 + 3 = 181) ?_
                  refine z_iret h hr dX12_readRule_181 ?_
                  exact ⟨congrArg Prod.fst (zsome hf), congrArg Prod.snd (zsome hf), rfl⟩
                · have hf := zitt c76 hf
                  refine z_bipush h (-9) dX12_readRule_172 (by decide) (rfl : 172 + 2 = 174) ?_
                  refine z_goto (pc' := 181) h dX12_readRule_174 (by decide) ?_
                  refine z_iret h hr dX12_readRule_181 ?_
                  exact ⟨congrArg Prod.fst (zsome hf), congrArg Prod.snd (zsome hf), rfl⟩
              · have hf := zitt c75 hf
                refine z_aload_n h 0 dX12_readRule_156 rfl (rfl : 156 + 1 = 157) ?_
                refine z_get (ci := 11) (C := RX12) (T := TX12) (N := 46) h 13 rfl rfl (fun _ hq => List.mem_cons_of_mem _ (List.mem_append_right _ hq)) (by decide) (List.mem_of_getElem? (i := 1) rfl) rfl dX12_readRule_157 (rfl : 157 + 3 = 160) ?_
                refine z_iret h hr dX12_readRule_160 ?_
                exact ⟨congrArg Prod.fst (zsome hf), congrArg Prod.snd (zsome hf), rfl⟩
          · have hf := zitf c68 hf
            refine z_aload_n h 0 dX12_readRule_110 rfl (rfl : 110 + 1 = 111) ?_
            refine z_iconst h 3 dX12_readRule_111 (by decide) (rfl : 111 + 1 = 112) ?_
            refine z_iconst h 0 dX12_readRule_112 (by decide) (rfl : 112 + 1 = 113) ?_
            obtain ⟨q77, e78, hf⟩ := zbind hf
            refine z_goF (z_runV (C := RX12) (T := TX12) (N := 46) (ci := 11) h [.int 3, .int 0] [] zyX12_readPair (c_X12_readPair B q66.2 J hJ 3 0 _ _ e78) gX12_readRule_X12_readPair rfl rfl rfl zrX12_readRule_X12_readPair rfl (Nat.le_of_ble_eq_true rfl) ⟨Nat.zero_le _, Nat.zero_le _⟩ rfl dX12_readRule_113) rfl ?_
            refine z_if_ne (pc' := 119) h 124 dX12_readRule_116 (by decide) rfl (fun c79 => ?_) (fun c79 => ?_)
            · have hf := zitf c79 hf
              refine z_aload_n h 0 dX12_readRule_124 rfl (rfl : 124 + 1 = 125) ?_
              refine z_bipush h 64 dX12_readRule_125 (by decide) (rfl : 125 + 2 = 127) ?_
              obtain ⟨q80, e81, hf⟩ := zbind hf
              refine z_goF (z_runV (C := RX12) (T := TX12) (N := 46) (ci := 11) h [.int 64] [] zyX12_sign (c_X12_sign B q77.2 J hJ 64 _ _ e81) gX12_readRule_X12_sign rfl rfl rfl zrX12_readRule_X12_sign rfl (Nat.le_of_ble_eq_true rfl) ⟨Nat.zero_le _, Nat.zero_le _⟩ rfl dX12_readRule_127) rfl ?_
              refine z_if_eq (pc' := 133) h 161 dX12_readRule_130 (by decide) rfl (fun c82 => ?_) (fun c82 => ?_)
              · have hf := zitt c82 hf
                refine z_aload_n h 0 dX12_readRule_161 rfl (rfl : 161 + 1 = 162) ?_
                refine z_get (ci := 11) (C := RX12) (T := TX12) (N := 46) h 13 rfl rfl (fun _ hq => List.mem_cons_of_mem _ (List.mem_append_right _ hq)) (by decide) (List.mem_of_getElem? (i := 1) rfl) rfl dX12_readRule_162 (rfl : 162 + 3 = 165) ?_
                refine z_aload_n h 0 dX12_readRule_165 rfl (rfl : 165 + 1 = 166) ?_
                refine z_get (ci := 11) (C := RX12) (T := TX12) (N := 46) h 12 rfl rfl (fun _ hq => List.mem_cons_of_mem _ (List.mem_append_right _ hq)) (by decide) (List.mem_of_getElem? (i := 3) rfl) rfl dX12_readRule_166 (rfl : 166 + 3 = 169) ?_
                refine z_icmp_ne (pc' := 172) h 177 dX12_readRule_169 (by decide) rfl (fun c83 => ?_) (fun c83 => ?_)
                · have hf := zitf c83 hf
                  refine z_aload_n h 0 dX12_readRule_177 rfl (rfl : 177 + 1 = 178) ?_
                  refine z_get (ci := 11) (C := RX12) (T := TX12) (N := 46) h 13 rfl rfl (fun _ hq => List.mem_cons_of_mem _ (List.mem_append_right _ hq)) (by decide) (List.mem_of_getElem? (i := 1) rfl) rfl dX12_readRule_178 (rfl : 178 + 3 = 181) ?_
                  refine z_iret h hr dX12_readRule_181 ?_
                  exact ⟨congrArg Prod.fst (zsome hf), congrArg Prod.snd (zsome hf), rfl⟩
                · have hf := zitt c83 hf
                  refine z_bipush h (-9) dX12_readRule_172 (by decide) (rfl : 172 + 2 = 174) ?_
                  refine z_goto (pc' := 181) h dX12_readRule_174 (by decide) ?_
                  refine z_iret h hr dX12_readRule_181 ?_
                  exact ⟨congrArg Prod.fst (zsome hf), congrArg Prod.snd (zsome hf), rfl⟩
              · have hf := zitf c82 hf
                refine z_aload_n h 0 dX12_readRule_133 rfl (rfl : 133 + 1 = 134) ?_
                refine z_getr (ci := 11) (C := RX12) (T := TX12) (N := 46) h 16 156 ((hJ.1 147 16 (by decide)).trans rfl) rfl rfl (fun _ hq => List.mem_cons_of_mem _ (List.mem_append_right _ hq)) (by decide) (List.mem_of_getElem? (i := 2) rfl) rfl dX12_readRule_134 (rfl : 134 + 3 = 137) ?_
                refine z_iconst h 5 dX12_readRule_137 (by decide) (rfl : 137 + 1 = 138) ?_
                refine z_aload_n h 0 dX12_readRule_138 rfl (rfl : 138 + 1 = 139) ?_
                refine z_iconst h 0 dX12_readRule_139 (by decide) (rfl : 139 + 1 = 140) ?_
                refine z_iconst h 2 dX12_readRule_140 (by decide) (rfl : 140 + 1 = 141) ?_
                obtain ⟨q84, e85, hf⟩ := zbind hf
                refine z_goF (z_runV (C := RX12) (T := TX12) (N := 46) (ci := 11) h [.int 0, .int 2] [.int 5, .ref (za B 156)] zyX12_figure (c_X12_figure B q80.2 J hJ 0 2 _ _ e85) gX12_readRule_X12_figure rfl rfl rfl zrX12_readRule_X12_figure rfl (Nat.le_of_ble_eq_true rfl) ⟨Nat.zero_le _, Nat.zero_le _⟩ rfl dX12_readRule_141) rfl ?_
                refine z_iast h (by decide) rfl dX12_readRule_144 (rfl : 144 + 1 = 145) ?_
                refine z_aload_n h 0 dX12_readRule_145 rfl (rfl : 145 + 1 = 146) ?_
                refine z_getr (ci := 11) (C := RX12) (T := TX12) (N := 46) h 16 156 ((hJ.1 147 16 (by decide)).trans rfl) rfl rfl (fun _ hq => List.mem_cons_of_mem _ (List.mem_append_right _ hq)) (by decide) (List.mem_of_getElem? (i := 2) rfl) rfl dX12_readRule_146 (rfl : 146 + 3 = 149) ?_
                refine z_iconst h 5 dX12_readRule_149 (by decide) (rfl : 149 + 1 = 150) ?_
                refine z_iald h rfl (by decide) dX12_readRule_150 (rfl : 150 + 1 = 151) ?_
                refine z_bipush h (-9) dX12_readRule_151 (by decide) (rfl : 151 + 2 = 153) ?_
                refine z_icmp_ne (pc' := 156) h 161 dX12_readRule_153 (by decide) rfl (fun c86 => ?_) (fun c86 => ?_)
                · have hf := zitf c86 hf
                  refine z_aload_n h 0 dX12_readRule_161 rfl (rfl : 161 + 1 = 162) ?_
                  refine z_get (ci := 11) (C := RX12) (T := TX12) (N := 46) h 13 rfl rfl (fun _ hq => List.mem_cons_of_mem _ (List.mem_append_right _ hq)) (by decide) (List.mem_of_getElem? (i := 1) rfl) rfl dX12_readRule_162 (rfl : 162 + 3 = 165) ?_
                  refine z_aload_n h 0 dX12_readRule_165 rfl (rfl : 165 + 1 = 166) ?_
                  refine z_get (ci := 11) (C := RX12) (T := TX12) (N := 46) h 12 rfl rfl (fun _ hq => List.mem_cons_of_mem _ (List.mem_append_right _ hq)) (by decide) (List.mem_of_getElem? (i := 3) rfl) rfl dX12_readRule_166 (rfl : 166 + 3 = 169) ?_
                  refine z_icmp_ne (pc' := 172) h 177 dX12_readRule_169 (by decide) rfl (fun c87 => ?_) (fun c87 => ?_)
                  · have hf := zitf c87 hf
                    refine z_aload_n h 0 dX12_readRule_177 rfl (rfl : 177 + 1 = 178) ?_
                    refine z_get (ci := 11) (C := RX12) (T := TX12) (N := 46) h 13 rfl rfl (fun _ hq => List.mem_cons_of_mem _ (List.mem_append_right _ hq)) (by decide) (List.mem_of_getElem? (i := 1) rfl) rfl dX12_readRule_178 (rfl : 178 + 3 = 181) ?_
                    refine z_iret h hr dX12_readRule_181 ?_
                    exact ⟨congrArg Prod.fst (zsome hf), congrArg Prod.snd (zsome hf), rfl⟩
                  · have hf := zitt c87 hf
                    refine z_bipush h (-9) dX12_readRule_172 (by decide) (rfl : 172 + 2 = 174) ?_
                    refine z_goto (pc' := 181) h dX12_readRule_174 (by decide) ?_
                    refine z_iret h hr dX12_readRule_181 ?_
                    exact ⟨congrArg Prod.fst (zsome hf), congrArg Prod.snd (zsome hf), rfl⟩
                · have hf := zitt c86 hf
                  refine z_aload_n h 0 dX12_readRule_156 rfl (rfl : 156 + 1 = 157) ?_
                  refine z_get (ci := 11) (C := RX12) (T := TX12) (N := 46) h 13 rfl rfl (fun _ hq => List.mem_cons_of_mem _ (List.mem_append_right _ hq)) (by decide) (List.mem_of_getElem? (i := 1) rfl) rfl dX12_readRule_157 (rfl : 157 + 3 = 160) ?_
                  refine z_iret h hr dX12_readRule_160 ?_
                  exact ⟨congrArg Prod.fst (zsome hf), congrArg Prod.snd (zsome hf), rfl⟩
            · have hf := zitt c79 hf
              refine z_aload_n h 0 dX12_readRule_119 rfl (rfl : 119 + 1 = 120) ?_
              refine z_get (ci := 11) (C := RX12) (T := TX12) (N := 46) h 13 rfl rfl (fun _ hq => List.mem_cons_of_mem _ (List.mem_append_right _ hq)) (by decide) (List.mem_of_getElem? (i := 1) rfl) rfl dX12_readRule_120 (rfl : 120 + 3 = 123) ?_
              refine z_iret h hr dX12_readRule_123 ?_
              exact ⟨congrArg Prod.fst (zsome hf), congrArg Prod.snd (zsome hf), rfl⟩
        · have hf := zitt c65 hf
          refine z_aload_n h 0 dX12_readRule_96 rfl (rfl : 96 + 1 = 97) ?_
          refine z_get (ci := 11) (C := RX12) (T := TX12) (N := 46) h 13 rfl rfl (fun _ hq => List.mem_cons_of_mem _ (List.mem_append_right _ hq)) (by decide) (List.mem_of_getElem? (i := 1) rfl) rfl dX12_readRule_97 (rfl : 97 + 3 = 100) ?_
          refine z_iret h hr dX12_readRule_100 ?_
          exact ⟨congrArg Prod.fst (zsome hf), congrArg Prod.snd (zsome hf), rfl⟩
  · have hf := zitf c3 hf
    refine z_iconst h 0 dX12_readRule_43 (by decide) (rfl : 43 + 1 = 44) ?_
    refine z_goto (pc' := 75) h dX12_readRule_44 (by decide) ?_
    refine z_iast h (by decide) rfl dX12_readRule_75 (rfl : 75 + 1 = 76) ?_
    refine z_aload_n h 0 dX12_readRule_76 rfl (rfl : 76 + 1 = 77) ?_
    refine z_getr (ci := 11) (C := RX12) (T := TX12) (N := 46) h 16 156 ((hJ.1 147 16 (by decide)).trans rfl) rfl rfl (fun _ hq => List.mem_cons_of_mem _ (List.mem_append_right _ hq)) (by decide) (List.mem_of_getElem? (i := 2) rfl) rfl dX12_readRule_77 (rfl : 77 + 3 = 80) ?_
    refine z_iconst h 0 dX12_readRule_80 (by decide) (rfl : 80 + 1 = 81) ?_
    refine z_iald h rfl (by decide) dX12_readRule_81 (rfl : 81 + 1 = 82) ?_
    refine z_bipush h (-9) dX12_readRule_82 (by decide) (rfl : 82 + 2 = 84) ?_
    refine z_icmp_eq (pc' := 87) h 96 dX12_readRule_84 (by decide) rfl (fun c88 => ?_) (fun c88 => ?_)
    · have hf := zitt c88 hf
      refine z_aload_n h 0 dX12_readRule_96 rfl (rfl : 96 + 1 = 97) ?_
      refine z_get (ci := 11) (C := RX12) (T := TX12) (N := 46) h 13 rfl rfl (fun _ hq => List.mem_cons_of_mem _ (List.mem_append_right _ hq)) (by decide) (List.mem_of_getElem? (i := 1) rfl) rfl dX12_readRule_97 (rfl : 97 + 3 = 100) ?_
      refine z_iret h hr dX12_readRule_100 ?_
      exact ⟨congrArg Prod.fst (zsome hf), congrArg Prod.snd (zsome hf), rfl⟩
    · have hf := zitf c88 hf
      refine z_aload_n h 0 dX12_readRule_87 rfl (rfl : 87 + 1 = 88) ?_
      refine z_iconst h 1 dX12_readRule_88 (by decide) (rfl : 88 + 1 = 89) ?_
      refine z_iconst h 1 dX12_readRule_89 (by decide) (rfl : 89 + 1 = 90) ?_
      obtain ⟨q89, e90, hf⟩ := zbind hf
      refine z_goF (z_runV (C := RX12) (T := TX12) (N := 46) (ci := 11) h [.int 1, .int 1] [] zyX12_readPair (c_X12_readPair B (zu q1.2 156 0 0) J hJ 1 1 _ _ e90) gX12_readRule_X12_readPair rfl rfl rfl zrX12_readRule_X12_readPair rfl (Nat.le_of_ble_eq_true rfl) ⟨Nat.zero_le _, Nat.zero_le _⟩ rfl dX12_readRule_90) rfl ?_
      refine z_if_ne (pc' := 96) h 101 dX12_readRule_93 (by decide) rfl (fun c91 => ?_) (fun c91 => ?_)
      · have hf := zitf c91 hf
        refine z_aload_n h 0 dX12_readRule_101 rfl (rfl : 101 + 1 = 102) ?_
        refine z_bipush h 63 dX12_readRule_102 (by decide) (rfl : 102 + 2 = 104) ?_
        obtain ⟨q92, e93, hf⟩ := zbind hf
        refine z_goF (z_runV (C := RX12) (T := TX12) (N := 46) (ci := 11) h [.int 63] [] zyX12_sign (c_X12_sign B q89.2 J hJ 63 _ _ e93) gX12_readRule_X12_sign rfl rfl rfl zrX12_readRule_X12_sign rfl (Nat.le_of_ble_eq_true rfl) ⟨Nat.zero_le _, Nat.zero_le _⟩ rfl dX12_readRule_104) rfl ?_
        refine z_if_eq (pc' := 110) h 124 dX12_readRule_107 (by decide) rfl (fun c94 => ?_) (fun c94 => ?_)
        · have hf := zitt c94 hf
          refine z_aload_n h 0 dX12_readRule_124 rfl (rfl : 124 + 1 = 125) ?_
          refine z_bipush h 64 dX12_readRule_125 (by decide) (rfl : 125 + 2 = 127) ?_
          obtain ⟨q95, e96, hf⟩ := zbind hf
          refine z_goF (z_runV (C := RX12) (T := TX12) (N := 46) (ci := 11) h [.int 64] [] zyX12_sign (c_X12_sign B q92.2 J hJ 64 _ _ e96) gX12_readRule_X12_sign rfl rfl rfl zrX12_readRule_X12_sign rfl (Nat.le_of_ble_eq_true rfl) ⟨Nat.zero_le _, Nat.zero_le _⟩ rfl dX12_readRule_127) rfl ?_
          refine z_if_eq (pc' := 133) h 161 dX12_readRule_130 (by decide) rfl (fun c97 => ?_) (fun c97 => ?_)
          · have hf := zitt c97 hf
            refine z_aload_n h 0 dX12_readRule_161 rfl (rfl : 161 + 1 = 162) ?_
            refine z_get (ci := 11) (C := RX12) (T := TX12) (N := 46) h 13 rfl rfl (fun _ hq => List.mem_cons_of_mem _ (List.mem_append_right _ hq)) (by decide) (List.mem_of_getElem? (i := 1) rfl) rfl dX12_readRule_162 (rfl : 162 + 3 = 165) ?_
            refine z_aload_n h 0 dX12_readRule_165 rfl (rfl : 165 + 1 = 166) ?_
            refine z_get (ci := 11) (C := RX12) (T := TX12) (N := 46) h 12 rfl rfl (fun _ hq => List.mem_cons_of_mem _ (List.mem_append_right _ hq)) (by decide) (List.mem_of_getElem? (i := 3) rfl) rfl dX12_readRule_166 (rfl : 166 + 3 = 169) ?_
            refine z_icmp_ne (pc' := 172) h 177 dX12_readRule_169 (by decide) rfl (fun c98 => ?_) (fun c98 => ?_)
            · have hf := zitf c98 hf
              refine z_aload_n h 0 dX12_readRule_177 rfl (rfl : 177 + 1 = 178) ?_
              refine z_get (ci := 11) (C := RX12) (T := TX12) (N := 46) h 13 rfl rfl (fun _ hq => List.mem_cons_of_mem _ (List.mem_append_right _ hq)) (by decide) (List.mem_of_getElem? (i := 1) rfl) rfl dX12_readRule_178 (rfl : 178 + 3 = 181) ?_
              refine z_iret h hr dX12_readRule_181 ?_
              exact ⟨congrArg Prod.fst (zsome hf), congrArg Prod.snd (zsome hf), rfl⟩
            · have hf := zitt c98 hf
              refine z_bipush h (-9) dX12_readRule_172 (by decide) (rfl : 172 + 2 = 174) ?_
              refine z_goto (pc' := 181) h dX12_readRule_174 (by decide) ?_
              refine z_iret h hr dX12_readRule_181 ?_
              exact ⟨congrArg Prod.fst (zsome hf), congrArg Prod.snd (zsome hf), rfl⟩
          · have hf := zitf c97 hf
            refine z_aload_n h 0 dX12_readRule_133 rfl (rfl : 133 + 1 = 134) ?_
            refine z_getr (ci := 11) (C := RX12) (T := TX12) (N := 46) h 16 156 ((hJ.1 147 16 (by decide)).trans rfl) rfl rfl (fun _ hq => List.mem_cons_of_mem _ (List.mem_append_right _ hq)) (by decide) (List.mem_of_getElem? (i := 2) rfl) rfl dX12_readRule_134 (rfl : 134 + 3 = 137) ?_
            refine z_iconst h 5 dX12_readRule_137 (by decide) (rfl : 137 + 1 = 138) ?_
            refine z_aload_n h 0 dX12_readRule_138 rfl (rfl : 138 + 1 = 139) ?_
            refine z_iconst h 0 dX12_readRule_139 (by decide) (rfl : 139 + 1 = 140) ?_
            refine z_iconst h 2 dX12_readRule_140 (by decide) (rfl : 140 + 1 = 141) ?_
            obtain ⟨q99, e100, hf⟩ := zbind hf
            refine z_goF (z_runV (C := RX12) (T := TX12) (N := 46) (ci := 11) h [.int 0, .int 2] [.int 5, .ref (za B 156)] zyX12_figure (c_X12_figure B q95.2 J hJ 0 2 _ _ e100) gX12_readRule_X12_figure rfl rfl rfl zrX12_readRule_X12_figure rfl (Nat.le_of_ble_eq_true rfl) ⟨Nat.zero_le _, Nat.zero_le _⟩ rfl dX12_readRule_141) rfl ?_
            refine z_iast h (by decide) rfl dX12_readRule_144 (rfl : 144 + 1 = 145) ?_
            refine z_aload_n h 0 dX12_readRule_145 rfl (rfl : 145 + 1 = 146) ?_
            refine z_getr (ci := 11) (C := RX12) (T := TX12) (N := 46) h 16 156 ((hJ.1 147 16 (by decide)).trans rfl) rfl rfl (fun _ hq => List.mem_cons_of_mem _ (List.mem_append_right _ hq)) (by decide) (List.mem_of_getElem? (i := 2) rfl) rfl dX12_readRule_146 (rfl : 146 + 3 = 149) ?_
            refine z_iconst h 5 dX12_readRule_149 (by decide) (rfl : 149 + 1 = 150) ?_
            refine z_iald h rfl (by decide) dX12_readRule_150 (rfl : 150 + 1 = 151) ?_
            refine z_bipush h (-9) dX12_readRule_151 (by decide) (rfl : 151 + 2 = 153) ?_
            refine z_icmp_ne (pc' := 156) h 161 dX12_readRule_153 (by decide) rfl (fun c101 => ?_) (fun c101 => ?_)
            · have hf := zitf c101 hf
              refine z_aload_n h 0 dX12_readRule_161 rfl (rfl : 161 + 1 = 162) ?_
              refine z_get (ci := 11) (C := RX12) (T := TX12) (N := 46) h 13 rfl rfl (fun _ hq => List.mem_cons_of_mem _ (List.mem_append_right _ hq)) (by decide) (List.mem_of_getElem? (i := 1) rfl) rfl dX12_readRule_162 (rfl : 162 + 3 = 165) ?_
              refine z_aload_n h 0 dX12_readRule_165 rfl (rfl : 165 + 1 = 166) ?_
              refine z_get (ci := 11) (C := RX12) (T := TX12) (N := 46) h 12 rfl rfl (fun _ hq => List.mem_cons_of_mem _ (List.mem_append_right _ hq)) (by decide) (List.mem_of_getElem? (i := 3) rfl) rfl dX12_readRule_166 (rfl : 166 + 3 = 169) ?_
              refine z_icmp_ne (pc' := 172) h 177 dX12_readRule_169 (by decide) rfl (fun c102 => ?_) (fun c102 => ?_)
              · have hf := zitf c102 hf
                refine z_aload_n h 0 dX12_readRule_177 rfl (rfl : 177 + 1 = 178) ?_
                refine z_get (ci := 11) (C := RX12) (T := TX12) (N := 46) h 13 rfl rfl (fun _ hq => List.mem_cons_of_mem _ (List.mem_append_right _ hq)) (by decide) (List.mem_of_getElem? (i := 1) rfl) rfl dX12_readRule_178 (rfl : 178 + 3 = 181) ?_
                refine z_iret h hr dX12_readRule_181 ?_
                exact ⟨congrArg Prod.fst (zsome hf), congrArg Prod.snd (zsome hf), rfl⟩
              · have hf := zitt c102 hf
                refine z_bipush h (-9) dX12_readRule_172 (by decide) (rfl : 172 + 2 = 174) ?_
                refine z_goto (pc' := 181) h dX12_readRule_174 (by decide) ?_
                refine z_iret h hr dX12_readRule_181 ?_
                exact ⟨congrArg Prod.fst (zsome hf), congrArg Prod.snd (zsome hf), rfl⟩
            · have hf := zitt c101 hf
              refine z_aload_n h 0 dX12_readRule_156 rfl (rfl : 156 + 1 = 157) ?_
              refine z_get (ci := 11) (C := RX12) (T := TX12) (N := 46) h 13 rfl rfl (fun _ hq => List.mem_cons_of_mem _ (List.mem_append_right _ hq)) (by decide) (List.mem_of_getElem? (i := 1) rfl) rfl dX12_readRule_157 (rfl : 157 + 3 = 160) ?_
              refine z_iret h hr dX12_readRule_160 ?_
              exact ⟨congrArg Prod.fst (zsome hf), congrArg Prod.snd (zsome hf), rfl⟩
        · have hf := zitf c94 hf
          refine z_aload_n h 0 dX12_readRule_110 rfl (rfl : 110 + 1 = 111) ?_
          refine z_iconst h 3 dX12_readRule_111 (by decide) (rfl : 111 + 1 = 112) ?_
          refine z_iconst h 0 dX12_readRule_112 (by decide) (rfl : 112 + 1 = 113) ?_
          obtain ⟨q103, e104, hf⟩ := zbind hf
          refine z_goF (z_runV (C := RX12) (T := TX12) (N := 46) (ci := 11) h [.int 3, .int 0] [] zyX12_readPair (c_X12_readPair B q92.2 J hJ 3 0 _ _ e104) gX12_readRule_X12_readPair rfl rfl rfl zrX12_readRule_X12_readPair rfl (Nat.le_of_ble_eq_true rfl) ⟨Nat.zero_le _, Nat.zero_le _⟩ rfl dX12_readRule_113) rfl ?_
          refine z_if_ne (pc' := 119) h 124 dX12_readRule_116 (by decide) rfl (fun c105 => ?_) (fun c105 => ?_)
          · have hf := zitf c105 hf
            refine z_aload_n h 0 dX12_readRule_124 rfl (rfl : 124 + 1 = 125) ?_
            refine z_bipush h 64 dX12_readRule_125 (by decide) (rfl : 125 + 2 = 127) ?_
            obtain ⟨q106, e107, hf⟩ := zbind hf
            refine z_goF (z_runV (C := RX12) (T := TX12) (N := 46) (ci := 11) h [.int 64] [] zyX12_sign (c_X12_sign B q103.2 J hJ 64 _ _ e107) gX12_readRule_X12_sign rfl rfl rfl zrX12_readRule_X12_sign rfl (Nat.le_of_ble_eq_true rfl) ⟨Nat.zero_le _, Nat.zero_le _⟩ rfl dX12_readRule_127) rfl ?_
            refine z_if_eq (pc' := 133) h 161 dX12_readRule_130 (by decide) rfl (fun c108 => ?_) (fun c108 => ?_)
            · have hf := zitt c108 hf
              refine z_aload_n h 0 dX12_readRule_161 rfl (rfl : 161 + 1 = 162) ?_
              refine z_get (ci := 11) (C := RX12) (T := TX12) (N := 46) h 13 rfl rfl (fun _ hq => List.mem_cons_of_mem _ (List.mem_append_right _ hq)) (by decide) (List.mem_of_getElem? (i := 1) rfl) rfl dX12_readRule_162 (rfl : 162 + 3 = 165) ?_
              refine z_aload_n h 0 dX12_readRule_165 rfl (rfl : 165 + 1 = 166) ?_
              refine z_get (ci := 11) (C := RX12) (T := TX12) (N := 46) h 12 rfl rfl (fun _ hq => List.mem_cons_of_mem _ (List.mem_append_right _ hq)) (by decide) (List.mem_of_getElem? (i := 3) rfl) rfl dX12_readRule_166 (rfl : 166 + 3 = 169) ?_
              refine z_icmp_ne (pc' := 172) h 177 dX12_readRule_169 (by decide) rfl (fun c109 => ?_) (fun c109 => ?_)
              · have hf := zitf c109 hf
                refine z_aload_n h 0 dX12_readRule_177 rfl (rfl : 177 + 1 = 178) ?_
                refine z_get (ci := 11) (C := RX12) (T := TX12) (N := 46) h 13 rfl rfl (fun _ hq => List.mem_cons_of_mem _ (List.mem_append_right _ hq)) (by decide) (List.mem_of_getElem? (i := 1) rfl) rfl dX12_readRule_178 (rfl : 178 + 3 = 181) ?_
                refine z_iret h hr dX12_readRule_181 ?_
                exact ⟨congrArg Prod.fst (zsome hf), congrArg Prod.snd (zsome hf), rfl⟩
              · have hf := zitt c109 hf
                refine z_bipush h (-9) dX12_readRule_172 (by decide) (rfl : 172 + 2 = 174) ?_
                refine z_goto (pc' := 181) h dX12_readRule_174 (by decide) ?_
                refine z_iret h hr dX12_readRule_181 ?_
                exact ⟨congrArg Prod.fst (zsome hf), congrArg Prod.snd (zsome hf), rfl⟩
            · have hf := zitf c108 hf
              refine z_aload_n h 0 dX12_readRule_133 rfl (rfl : 133 + 1 = 134) ?_
              refine z_getr (ci := 11) (C := RX12) (T := TX12) (N := 46) h 16 156 ((hJ.1 147 16 (by decide)).trans rfl) rfl rfl (fun _ hq => List.mem_cons_of_mem _ (List.mem_append_right _ hq)) (by decide) (List.mem_of_getElem? (i := 2) rfl) rfl dX12_readRule_134 (rfl : 134 + 3 = 137) ?_
              refine z_iconst h 5 dX12_readRule_137 (by decide) (rfl : 137 + 1 = 138) ?_
              refine z_aload_n h 0 dX12_readRule_138 rfl (rfl : 138 + 1 = 139) ?_
              refine z_iconst h 0 dX12_readRule_139 (by decide) (rfl : 139 + 1 = 140) ?_
              refine z_iconst h 2 dX12_readRule_140 (by decide) (rfl : 140 + 1 = 141) ?_
              obtain ⟨q110, e111, hf⟩ := zbind hf
              refine z_goF (z_runV (C := RX12) (T := TX12) (N := 46) (ci := 11) h [.int 0, .int 2] [.int 5, .ref (za B 156)] zyX12_figure (c_X12_figure B q106.2 J hJ 0 2 _ _ e111) gX12_readRule_X12_figure rfl rfl rfl zrX12_readRule_X12_figure rfl (Nat.le_of_ble_eq_true rfl) ⟨Nat.zero_le _, Nat.zero_le _⟩ rfl dX12_readRule_141) rfl ?_
              refine z_iast h (by decide) rfl dX12_readRule_144 (rfl : 144 + 1 = 145) ?_
              refine z_aload_n h 0 dX12_readRule_145 rfl (rfl : 145 + 1 = 146) ?_
              refine z_getr (ci := 11) (C := RX12) (T := TX12) (N := 46) h 16 156 ((hJ.1 147 16 (by decide)).trans rfl) rfl rfl (fun _ hq => List.mem_cons_of_mem _ (List.mem_append_right _ hq)) (by decide) (List.mem_of_getElem? (i := 2) rfl) rfl dX12_readRule_146 (rfl : 146 + 3 = 149) ?_
              refine z_iconst h 5 dX12_readRule_149 (by decide) (rfl : 149 + 1 = 150) ?_
              refine z_iald h rfl (by decide) dX12_readRule_150 (rfl : 150 + 1 = 151) ?_
              refine z_bipush h (-9) dX12_readRule_151 (by decide) (rfl : 151 + 2 = 153) ?_
              refine z_icmp_ne (pc' := 156) h 161 dX12_readRule_153 (by decide) rfl (fun c112 => ?_) (fun c112 => ?_)
              · have hf := zitf c112 hf
                refine z_aload_n h 0 dX12_readRule_161 rfl (rfl : 161 + 1 = 162) ?_
                refine z_get (ci := 11) (C := RX12) (T := TX12) (N := 46) h 13 rfl rfl (fun _ hq => List.mem_cons_of_mem _ (List.mem_append_right _ hq)) (by decide) (List.mem_of_getElem? (i := 1) rfl) rfl dX12_readRule_162 (rfl : 162 + 3 = 165) ?_
                refine z_aload_n h 0 dX12_readRule_165 rfl (rfl : 165 + 1 = 166) ?_
                refine z_get (ci := 11) (C := RX12) (T := TX12) (N := 46) h 12 rfl rfl (fun _ hq => List.mem_cons_of_mem _ (List.mem_append_right _ hq)) (by decide) (List.mem_of_getElem? (i := 3) rfl) rfl dX12_readRule_166 (rfl : 166 + 3 = 169) ?_
                refine z_icmp_ne (pc' := 172) h 177 dX12_readRule_169 (by decide) rfl (fun c113 => ?_) (fun c113 => ?_)
                · have hf := zitf c113 hf
                  refine z_aload_n h 0 dX12_readRule_177 rfl (rfl : 177 + 1 = 178) ?_
                  refine z_get (ci := 11) (C := RX12) (T := TX12) (N := 46) h 13 rfl rfl (fun _ hq => List.mem_cons_of_mem _ (List.mem_append_right _ hq)) (by decide) (List.mem_of_getElem? (i := 1) rfl) rfl dX12_readRule_178 (rfl : 178 + 3 = 181) ?_
                  refine z_iret h hr dX12_readRule_181 ?_
                  exact ⟨congrArg Prod.fst (zsome hf), congrArg Prod.snd (zsome hf), rfl⟩
                · have hf := zitt c113 hf
                  refine z_bipush h (-9) dX12_readRule_172 (by decide) (rfl : 172 + 2 = 174) ?_
                  refine z_goto (pc' := 181) h dX12_readRule_174 (by decide) ?_
                  refine z_iret h hr dX12_readRule_181 ?_
                  exact ⟨congrArg Prod.fst (zsome hf), congrArg Prod.snd (zsome hf), rfl⟩
              · have hf := zitt c112 hf
                refine z_aload_n h 0 dX12_readRule_156 rfl (rfl : 156 + 1 = 157) ?_
                refine z_get (ci := 11) (C := RX12) (T := TX12) (N := 46) h 13 rfl rfl (fun _ hq => List.mem_cons_of_mem _ (List.mem_append_right _ hq)) (by decide) (List.mem_of_getElem? (i := 1) rfl) rfl dX12_readRule_157 (rfl : 157 + 3 = 160) ?_
                refine z_iret h hr dX12_readRule_160 ?_
                exact ⟨congrArg Prod.fst (zsome hf), congrArg Prod.snd (zsome hf), rfl⟩
          · have hf := zitt c105 hf
            refine z_aload_n h 0 dX12_readRule_119 rfl (rfl : 119 + 1 = 120) ?_
            refine z_get (ci := 11) (C := RX12) (T := TX12) (N := 46) h 13 rfl rfl (fun _ hq => List.mem_cons_of_mem _ (List.mem_append_right _ hq)) (by decide) (List.mem_of_getElem? (i := 1) rfl) rfl dX12_readRule_120 (rfl : 120 + 3 = 123) ?_
            refine z_iret h hr dX12_readRule_123 ?_
            exact ⟨congrArg Prod.fst (zsome hf), congrArg Prod.snd (zsome hf), rfl⟩
      · have hf := zitt c91 hf
        refine z_aload_n h 0 dX12_readRule_96 rfl (rfl : 96 + 1 = 97) ?_
        refine z_get (ci := 11) (C := RX12) (T := TX12) (N := 46) h 13 rfl rfl (fun _ hq => List.mem_cons_of_mem _ (List.mem_append_right _ hq)) (by decide) (List.mem_of_getElem? (i := 1) rfl) rfl dX12_readRule_97 (rfl : 97 + 3 = 100) ?_
        refine z_iret h hr dX12_readRule_100 ?_
        exact ⟨congrArg Prod.fst (zsome hf), congrArg Prod.snd (zsome hf), rfl⟩
noncomputable def f_X12_letterOf (J : zJ) (v0 : Int32) (I : zM) : Option (Int32 × zM) := (if v0 = 87 then some ((0, I)) else (if v0 = 68 then some ((1, I)) else (if v0 = 67 then some ((2, I)) else (if v0 = 76 then some ((3, I)) else (if v0 = 77 then some ((4, I)) else some (((-9), I)))))))
noncomputable abbrev rmX12_letterOf : Room := { frames := 0, cells := 0, slots := 0, locals := 0 }
theorem zyX12_letterOf : zY yX12_letterOf wsX12_letterOf cX12_letterOf 1 (some .int) 1 := ⟨⟨_, rfl⟩, by decide +kernel⟩
set_option maxHeartbeats 1000000 in
set_option maxRecDepth 100000 in
theorem c_X12_letterOf (B : zB) (I : zM) (J : zJ) (hJ : zJok J) (v0 : Int32) (r : Int32) (I' : zM) (hf : f_X12_letterOf J v0 I = some (r, I')) : zCi B zKW I J yX12_letterOf wsX12_letterOf rmX12_letterOf [.int v0] (fun r2 I2 J2 => r2 = r ∧ I2 = I' ∧ J2 = J) := by
  refine z_start (own := RX12) (cc := cX12_letterOf) (nL := 1) (ret := (some .int)) rfl (by decide) rfl (Nat.le_of_ble_eq_true rfl) (L := [(0, .int v0)]) rfl (fun G h hr => ?_)
  rw [f_X12_letterOf] at hf
  refine z_iload_n h 0 dX12_letterOf_0 rfl (rfl : 0 + 1 = 1) ?_
  refine z_bipush h 87 dX12_letterOf_1 (by decide) (rfl : 1 + 2 = 3) ?_
  refine z_icmp_ne (pc' := 6) h 10 dX12_letterOf_3 (by decide) rfl (fun c1 => ?_) (fun c1 => ?_)
  · have hf := zitf c1 hf
    refine z_iload_n h 0 dX12_letterOf_10 rfl (rfl : 10 + 1 = 11) ?_
    refine z_bipush h 68 dX12_letterOf_11 (by decide) (rfl : 11 + 2 = 13) ?_
    refine z_icmp_ne (pc' := 16) h 20 dX12_letterOf_13 (by decide) rfl (fun c2 => ?_) (fun c2 => ?_)
    · have hf := zitf c2 hf
      refine z_iload_n h 0 dX12_letterOf_20 rfl (rfl : 20 + 1 = 21) ?_
      refine z_bipush h 67 dX12_letterOf_21 (by decide) (rfl : 21 + 2 = 23) ?_
      refine z_icmp_ne (pc' := 26) h 30 dX12_letterOf_23 (by decide) rfl (fun c3 => ?_) (fun c3 => ?_)
      · have hf := zitf c3 hf
        refine z_iload_n h 0 dX12_letterOf_30 rfl (rfl : 30 + 1 = 31) ?_
        refine z_bipush h 76 dX12_letterOf_31 (by decide) (rfl : 31 + 2 = 33) ?_
        refine z_icmp_ne (pc' := 36) h 40 dX12_letterOf_33 (by decide) rfl (fun c4 => ?_) (fun c4 => ?_)
        · have hf := zitf c4 hf
          refine z_iload_n h 0 dX12_letterOf_40 rfl (rfl : 40 + 1 = 41) ?_
          refine z_bipush h 77 dX12_letterOf_41 (by decide) (rfl : 41 + 2 = 43) ?_
          refine z_icmp_ne (pc' := 46) h 50 dX12_letterOf_43 (by decide) rfl (fun c5 => ?_) (fun c5 => ?_)
          · have hf := zitf c5 hf
            refine z_bipush h (-9) dX12_letterOf_50 (by decide) (rfl : 50 + 2 = 52) ?_
            refine z_iret h hr dX12_letterOf_52 ?_
            exact ⟨congrArg Prod.fst (zsome hf), congrArg Prod.snd (zsome hf), rfl⟩
          · have hf := zitt c5 hf
            refine z_iconst h 4 dX12_letterOf_46 (by decide) (rfl : 46 + 1 = 47) ?_
            refine z_goto (pc' := 52) h dX12_letterOf_47 (by decide) ?_
            refine z_iret h hr dX12_letterOf_52 ?_
            exact ⟨congrArg Prod.fst (zsome hf), congrArg Prod.snd (zsome hf), rfl⟩
        · have hf := zitt c4 hf
          refine z_iconst h 3 dX12_letterOf_36 (by decide) (rfl : 36 + 1 = 37) ?_
          refine z_goto (pc' := 52) h dX12_letterOf_37 (by decide) ?_
          refine z_iret h hr dX12_letterOf_52 ?_
          exact ⟨congrArg Prod.fst (zsome hf), congrArg Prod.snd (zsome hf), rfl⟩
      · have hf := zitt c3 hf
        refine z_iconst h 2 dX12_letterOf_26 (by decide) (rfl : 26 + 1 = 27) ?_
        refine z_goto (pc' := 52) h dX12_letterOf_27 (by decide) ?_
        refine z_iret h hr dX12_letterOf_52 ?_
        exact ⟨congrArg Prod.fst (zsome hf), congrArg Prod.snd (zsome hf), rfl⟩
    · have hf := zitt c2 hf
      refine z_iconst h 1 dX12_letterOf_16 (by decide) (rfl : 16 + 1 = 17) ?_
      refine z_goto (pc' := 52) h dX12_letterOf_17 (by decide) ?_
      refine z_iret h hr dX12_letterOf_52 ?_
      exact ⟨congrArg Prod.fst (zsome hf), congrArg Prod.snd (zsome hf), rfl⟩
  · have hf := zitt c1 hf
    refine z_iconst h 0 dX12_letterOf_6 (by decide) (rfl : 6 + 1 = 7) ?_
    refine z_goto (pc' := 52) h dX12_letterOf_7 (by decide) ?_
    refine z_iret h hr dX12_letterOf_52 ?_
    exact ⟨congrArg Prod.fst (zsome hf), congrArg Prod.snd (zsome hf), rfl⟩
noncomputable def f_X12_readOrder_7 (J : zJ)  : Nat → Int32 → zM → Option ((Int32 × zM) ⊕ (Int32 × zM))
  | 0, _, _ => none
  | n + 1, x1_7, I7 => (if I7 147 12 ≤ I7 147 13 then some (.inr (x1_7, I7)) else (if zin (I7 147 13) 24 = true then ((f_X12_letterOf J (I7 154 (Int32.toNatClampNeg (I7 147 13))) I7).bind fun q3 => (if q3.1 = (-9) then some (.inl ((q3.2 147 13, q3.2))) else (if (x1_7 >>> (q3.1 &&& 31)) &&& (1 : Int32) = 1 then some (.inl ((q3.2 147 13, q3.2))) else f_X12_readOrder_7 J  n (x1_7 ||| ((1 : Int32) <<< (q3.1 &&& 31))) (zu q3.2 147 13 ((q3.2 147 13) + (1 : Int32)))))) else none))
noncomputable def f_X12_readOrder (J : zJ)  (I : zM) : Option (Int32 × zM) := ((f_X12_readOrder_7 J  zF 0 (zu I 147 13 0)).bind fun q => Sum.elim (fun a => some a) (fun a3 => (if a3.2 147 12 = 0 then some ((0, a3.2)) else some (((-9), a3.2)))) q)
noncomputable abbrev rmX12_readOrder : Room := { frames := 1, cells := 0, slots := 0, locals := 20 }
theorem zyX12_readOrder : zY yX12_readOrder wsX12_readOrder cX12_readOrder 3 (some .int) 0 := ⟨⟨_, rfl⟩, by decide +kernel⟩
theorem zrX12_readOrder_X12_letterOf : zRm rmX12_letterOf rmX12_readOrder 1 := ⟨rfl, rfl, by decide, by decide⟩
set_option maxHeartbeats 1000000 in
set_option maxRecDepth 100000 in
theorem c_X12_readOrder (B : zB) (I : zM) (J : zJ) (hJ : zJok J)  (r : Int32) (I' : zM) (hf : f_X12_readOrder J  I = some (r, I')) : zCi B zKW I J yX12_readOrder wsX12_readOrder rmX12_readOrder [.ref (za B 147)] (fun r2 I2 J2 => r2 = r ∧ I2 = I' ∧ J2 = J) := by
  refine z_start (own := RX12) (cc := cX12_readOrder) (nL := 3) (ret := (some .int)) rfl (by decide) rfl (Nat.le_of_ble_eq_true rfl) (L := [(0, .ref (za B 147))]) rfl (fun G h hr => ?_)
  rw [f_X12_readOrder] at hf
  refine z_iconst h 0 dX12_readOrder_0 (by decide) (rfl : 0 + 1 = 1) ?_
  refine z_istore_n h [(1, .int 0), (0, .ref (za B 147))] dX12_readOrder_1 (by decide) rfl (rfl : 1 + 1 = 2) ?_
  refine z_aload_n h 1 dX12_readOrder_2 rfl (rfl : 2 + 1 = 3) ?_
  refine z_iconst h 0 dX12_readOrder_3 (by decide) (rfl : 3 + 1 = 4) ?_
  refine z_put (ci := 11) (C := RX12) (T := TX12) (N := 46) h 13 tyX12 tyX12_ok nmX12 rfl rfl (fun _ hq => List.mem_cons_of_mem _ (List.mem_append_right _ hq)) (by decide) (List.mem_of_getElem? (i := 1) rfl) rfl rfl rfl dX12_readOrder_4 (rfl : 4 + 3 = 7) ?_
  have loop_7_2 : ∀ (n : Nat) (x1_7 : Int32) (I7 : zM) (q : (Int32 × zM) ⊕ (Int32 × zM)), f_X12_readOrder_7 J  n x1_7 I7 = some q → (∀ a, q = .inl a → a = (r, I')) → (∀ a : Int32 × zM, q = .inr a → Z B G zKW (a.2) (J) (0, 0) 70 [(0, .ref (za B 147)), (1, .int a.1)] []) → Z B G zKW I7 J (0, 0) 7 [(0, .ref (za B 147)), (1, .int x1_7)] [] := by
    intro n; induction n with
    | zero => intro x1_7 I7 q hf; exact absurd hf (by rw [f_X12_readOrder_7]; exact fun z => by cases z)
    | succ n ih =>
      intro x1_7 I7 q hf hP hE; rw [f_X12_readOrder_7] at hf
      refine z_aload_n h 0 dX12_readOrder_7 rfl (rfl : 7 + 1 = 8) ?_
      refine z_get (ci := 11) (C := RX12) (T := TX12) (N := 46) h 13 rfl rfl (fun _ hq => List.mem_cons_of_mem _ (List.mem_append_right _ hq)) (by decide) (List.mem_of_getElem? (i := 1) rfl) rfl dX12_readOrder_8 (rfl : 8 + 3 = 11) ?_
      refine z_aload_n h 0 dX12_readOrder_11 rfl (rfl : 11 + 1 = 12) ?_
      refine z_get (ci := 11) (C := RX12) (T := TX12) (N := 46) h 12 rfl rfl (fun _ hq => List.mem_cons_of_mem _ (List.mem_append_right _ hq)) (by decide) (List.mem_of_getElem? (i := 2) rfl) rfl dX12_readOrder_12 (rfl : 12 + 3 = 15) ?_
      refine z_icmp_ge (pc' := 18) h 70 dX12_readOrder_15 (by decide) rfl (fun c3 => ?_) (fun c3 => ?_)
      · have hf := zitt c3 hf
        exact hE (x1_7, I7) (zsome hf).symm
      · have hf := zitf c3 hf
        refine z_aload_n h 0 dX12_readOrder_18 rfl (rfl : 18 + 1 = 19) ?_
        refine z_getr (ci := 11) (C := RX12) (T := TX12) (N := 46) h 11 154 ((hJ.1 147 11 (by decide)).trans rfl) rfl rfl (fun _ hq => List.mem_cons_of_mem _ (List.mem_append_right _ hq)) (by decide) (List.mem_of_getElem? (i := 3) rfl) rfl dX12_readOrder_19 (rfl : 19 + 3 = 22) ?_
        refine z_aload_n h 0 dX12_readOrder_22 rfl (rfl : 22 + 1 = 23) ?_
        refine z_get (ci := 11) (C := RX12) (T := TX12) (N := 46) h 13 rfl rfl (fun _ hq => List.mem_cons_of_mem _ (List.mem_append_right _ hq)) (by decide) (List.mem_of_getElem? (i := 1) rfl) rfl dX12_readOrder_23 (rfl : 23 + 3 = 26) ?_
        obtain ⟨b4, hf⟩ := zchk hf
        refine z_iald h rfl b4 dX12_readOrder_26 (rfl : 26 + 1 = 27) ?_
        obtain ⟨q5, e6, hf⟩ := zbind hf
        refine z_goF (z_runS h [.int (I7 154 (Int32.toNatClampNeg (I7 147 13)))] [] zyX12_letterOf (c_X12_letterOf B I7 J hJ (I7 154 (Int32.toNatClampNeg (I7 147 13))) _ _ e6) gX12_readOrder_X12_letterOf zrX12_readOrder_X12_letterOf rfl (Nat.le_of_ble_eq_true rfl) ⟨Nat.zero_le _, Nat.zero_le _⟩ rfl dX12_readOrder_27) rfl ?_
        refine z_istore_n h [(2, .int q5.1), (0, .ref (za B 147)), (1, .int x1_7)] dX12_readOrder_30 (by decide) rfl (rfl : 30 + 1 = 31) ?_
        refine z_iload_n h 0 dX12_readOrder_31 rfl (rfl : 31 + 1 = 32) ?_
        refine z_bipush h (-9) dX12_readOrder_32 (by decide) (rfl : 32 + 2 = 34) ?_
        refine z_icmp_eq (pc' := 37) h 46 dX12_readOrder_34 (by decide) rfl (fun c7 => ?_) (fun c7 => ?_)
        · have hf := zitt c7 hf
          refine z_aload_n h 1 dX12_readOrder_46 rfl (rfl : 46 + 1 = 47) ?_
          refine z_get (ci := 11) (C := RX12) (T := TX12) (N := 46) h 13 rfl rfl (fun _ hq => List.mem_cons_of_mem _ (List.mem_append_right _ hq)) (by decide) (List.mem_of_getElem? (i := 1) rfl) rfl dX12_readOrder_47 (rfl : 47 + 3 = 50) ?_
          refine z_iret h hr dX12_readOrder_50 ?_
          exact ⟨congrArg Prod.fst (hP _ (zsome hf).symm), congrArg Prod.snd (hP _ (zsome hf).symm), rfl⟩
        · have hf := zitf c7 hf
          refine z_iload_n h 2 dX12_readOrder_37 rfl (rfl : 37 + 1 = 38) ?_
          refine z_iload_n h 0 dX12_readOrder_38 rfl (rfl : 38 + 1 = 39) ?_
          refine z_ishr h dX12_readOrder_39 (rfl : 39 + 1 = 40) ?_
          refine z_iconst h 1 dX12_readOrder_40 (by decide) (rfl : 40 + 1 = 41) ?_
          refine z_iand h dX12_readOrder_41 (rfl : 41 + 1 = 42) ?_
          refine z_iconst h 1 dX12_readOrder_42 (by decide) (rfl : 42 + 1 = 43) ?_
          refine z_icmp_ne (pc' := 46) h 51 dX12_readOrder_43 (by decide) rfl (fun c8 => ?_) (fun c8 => ?_)
          · have hf := zitf c8 hf
            refine z_iload_n h 2 dX12_readOrder_51 rfl (rfl : 51 + 1 = 52) ?_
            refine z_iconst h 1 dX12_readOrder_52 (by decide) (rfl : 52 + 1 = 53) ?_
            refine z_iload_n h 0 dX12_readOrder_53 rfl (rfl : 53 + 1 = 54) ?_
            refine z_ishl h dX12_readOrder_54 (rfl : 54 + 1 = 55) ?_
            refine z_ior h dX12_readOrder_55 (rfl : 55 + 1 = 56) ?_
            refine z_istore_n h [(1, .int (x1_7 ||| ((1 : Int32) <<< (q5.1 &&& 31)))), (2, .int q5.1), (0, .ref (za B 147))] dX12_readOrder_56 (by decide) rfl (rfl : 56 + 1 = 57) ?_
            refine z_aload_n h 2 dX12_readOrder_57 rfl (rfl : 57 + 1 = 58) ?_
            refine z_dup h rfl dX12_readOrder_58 (rfl : 58 + 1 = 59) ?_
            refine z_get (ci := 11) (C := RX12) (T := TX12) (N := 46) h 13 rfl rfl (fun _ hq => List.mem_cons_of_mem _ (List.mem_append_right _ hq)) (by decide) (List.mem_of_getElem? (i := 1) rfl) rfl dX12_readOrder_59 (rfl : 59 + 3 = 62) ?_
            refine z_iconst h 1 dX12_readOrder_62 (by decide) (rfl : 62 + 1 = 63) ?_
            refine z_iadd h dX12_readOrder_63 (rfl : 63 + 1 = 64) ?_
            refine z_put (ci := 11) (C := RX12) (T := TX12) (N := 46) h 13 tyX12 tyX12_ok nmX12 rfl rfl (fun _ hq => List.mem_cons_of_mem _ (List.mem_append_right _ hq)) (by decide) (List.mem_of_getElem? (i := 1) rfl) rfl rfl rfl dX12_readOrder_64 (rfl : 64 + 3 = 67) ?_
            refine z_goto (pc' := 7) h dX12_readOrder_67 (by decide) ?_
            refine z_sub (L' := [(0, .ref (za B 147)), (1, .int (x1_7 ||| ((1 : Int32) <<< (q5.1 &&& 31))))]) [2, 0] rfl ?_
            exact ih (x1_7 ||| ((1 : Int32) <<< (q5.1 &&& 31))) (zu q5.2 147 13 ((q5.2 147 13) + (1 : Int32))) _ hf hP hE
          · have hf := zitt c8 hf
            refine z_aload_n h 1 dX12_readOrder_46 rfl (rfl : 46 + 1 = 47) ?_
            refine z_get (ci := 11) (C := RX12) (T := TX12) (N := 46) h 13 rfl rfl (fun _ hq => List.mem_cons_of_mem _ (List.mem_append_right _ hq)) (by decide) (List.mem_of_getElem? (i := 1) rfl) rfl dX12_readOrder_47 (rfl : 47 + 3 = 50) ?_
            refine z_iret h hr dX12_readOrder_50 ?_
            exact ⟨congrArg Prod.fst (hP _ (zsome hf).symm), congrArg Prod.snd (hP _ (zsome hf).symm), rfl⟩
  refine z_sub (L' := [(0, .ref (za B 147)), (1, .int 0)]) [1, 0] rfl ?_
  obtain ⟨q1, e2, hf⟩ := zbind hf
  refine loop_7_2 _ 0 (zu I 147 13 0) q1 e2 (fun a ha => ?_) (fun a9 ha  => ?_)
  · have hf := zell ha hf
    exact zsome hf
  have hf := zelr ha hf
  clear ha loop_7_2
  refine z_aload_n h 0 dX12_readOrder_70 rfl (rfl : 70 + 1 = 71) ?_
  refine z_get (ci := 11) (C := RX12) (T := TX12) (N := 46) h 12 rfl rfl (fun _ hq => List.mem_cons_of_mem _ (List.mem_append_right _ hq)) (by decide) (List.mem_of_getElem? (i := 2) rfl) rfl dX12_readOrder_71 (rfl : 71 + 3 = 74) ?_
  refine z_if_ne (pc' := 77) h 81 dX12_readOrder_74 (by decide) rfl (fun c10 => ?_) (fun c10 => ?_)
  · have hf := zitf c10 hf
    refine z_bipush h (-9) dX12_readOrder_81 (by decide) (rfl : 81 + 2 = 83) ?_
    refine z_iret h hr dX12_readOrder_83 ?_
    exact ⟨congrArg Prod.fst (zsome hf), congrArg Prod.snd (zsome hf), rfl⟩
  · have hf := zitt c10 hf
    refine z_iconst h 0 dX12_readOrder_77 (by decide) (rfl : 77 + 1 = 78) ?_
    refine z_goto (pc' := 83) h dX12_readOrder_78 (by decide) ?_
    refine z_iret h hr dX12_readOrder_83 ?_
    exact ⟨congrArg Prod.fst (zsome hf), congrArg Prod.snd (zsome hf), rfl⟩
