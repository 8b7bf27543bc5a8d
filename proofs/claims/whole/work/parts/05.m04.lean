noncomputable def f_X11_differ (J : zJ) (v1 : Int32) (v2 : Int32) (v3 : Int32) (I : zM) : Option (Int32 × zM) := ((f_X11_canRead J v1 v2 I).bind fun q1 => (if q1.1 = 0 then some (((-1), q1.2)) else ((f_X11_isOrder J v3 q1.2).bind fun q4 => (if q4.1 = 0 then some (((-1), q4.2)) else ((f_X11_read J v1 v2 q4.2).bind fun q7 => (if zin v3 4 = true then ((f_X5_read J (zR 33 (Int32.toNatClampNeg v3)) q7).bind fun q10 => ((f_X11_unlike J (q7 39 14) (q10 39 14) q10).bind fun q12 => some ((q12.1, q12.2)))) else none))))))
noncomputable abbrev rmX11_differ : Room := { frames := 6, cells := 0, slots := 0, locals := 139 }
theorem zyX11_differ : zY yX11_differ wsX11_differ cX11_differ 5 (some .int) 3 := ⟨⟨_, rfl⟩, by decide +kernel⟩
theorem zrX11_differ_X11_canRead : zRm rmX11_canRead rmX11_differ 3 := ⟨rfl, rfl, by decide, by decide⟩
theorem zrX11_differ_X11_isOrder : zRm rmX11_isOrder rmX11_differ 1 := ⟨rfl, rfl, by decide, by decide⟩
theorem zrX11_differ_X11_read : zRm rmX11_read rmX11_differ 3 := ⟨rfl, rfl, by decide, by decide⟩
theorem zrX11_differ_X11_unlike : zRm rmX11_unlike rmX11_differ 6 := ⟨rfl, rfl, by decide, by decide⟩
theorem zrX11_differ_X5_read : zRm rmX5_read rmX11_differ 4 := ⟨rfl, rfl, by decide, by decide⟩
set_option maxHeartbeats 1000000 in
set_option maxRecDepth 100000 in
theorem c_X11_differ (B : zB) (I : zM) (J : zJ) (hJ : zJok J) (v1 : Int32) (v2 : Int32) (v3 : Int32) (r : Int32) (I' : zM) (hf : f_X11_differ J v1 v2 v3 I = some (r, I')) : zCi B zKW I J yX11_differ wsX11_differ rmX11_differ [.ref (za B 0), .int v1, .int v2, .int v3] (fun r2 I2 J2 => r2 = r ∧ I2 = I' ∧ J2 = J) := by
  refine z_start (own := RX11) (cc := cX11_differ) (nL := 5) (ret := (some .int)) rfl (by decide) rfl (Nat.le_of_ble_eq_true rfl) (L := [(0, .ref (za B 0)), (1, .int v1), (2, .int v2), (3, .int v3)]) rfl (fun G h hr => ?_)
  rw [f_X11_differ] at hf
  refine z_aload_n h 0 dX11_differ_0 rfl (rfl : 0 + 1 = 1) ?_
  refine z_iload_n h 1 dX11_differ_1 rfl (rfl : 1 + 1 = 2) ?_
  refine z_iload_n h 2 dX11_differ_2 rfl (rfl : 2 + 1 = 3) ?_
  obtain ⟨q1, e2, hf⟩ := zbind hf
  refine z_goF (z_runV (C := RX11) (T := TX11) (N := 13) (ci := 10) h [.int v1, .int v2] [] zyX11_canRead (c_X11_canRead B I J hJ v1 v2 _ _ e2) gX11_differ_X11_canRead rfl rfl rfl zrX11_differ_X11_canRead rfl (Nat.le_of_ble_eq_true rfl) ⟨Nat.zero_le _, Nat.zero_le _⟩ rfl dX11_differ_3) rfl ?_
  refine z_if_eq (pc' := 9) h 16 dX11_differ_6 (by decide) rfl (fun c3 => ?_) (fun c3 => ?_)
  · have hf := zitt c3 hf
    refine z_iconst h (-1) dX11_differ_16 (by decide) (rfl : 16 + 1 = 17) ?_
    refine z_iret h hr dX11_differ_17 ?_
    exact ⟨congrArg Prod.fst (zsome hf), congrArg Prod.snd (zsome hf), rfl⟩
  · have hf := zitf c3 hf
    refine z_iload_n h 3 dX11_differ_9 rfl (rfl : 9 + 1 = 10) ?_
    obtain ⟨q4, e5, hf⟩ := zbind hf
    refine z_goF (z_runS h [.int v3] [] zyX11_isOrder (c_X11_isOrder B q1.2 J hJ v3 _ _ e5) gX11_differ_X11_isOrder zrX11_differ_X11_isOrder rfl (Nat.le_of_ble_eq_true rfl) ⟨Nat.zero_le _, Nat.zero_le _⟩ rfl dX11_differ_10) rfl ?_
    refine z_if_ne (pc' := 16) h 18 dX11_differ_13 (by decide) rfl (fun c6 => ?_) (fun c6 => ?_)
    · have hf := zitf c6 hf
      refine z_aload_n h 0 dX11_differ_18 rfl (rfl : 18 + 1 = 19) ?_
      refine z_iload_n h 1 dX11_differ_19 rfl (rfl : 19 + 1 = 20) ?_
      refine z_iload_n h 2 dX11_differ_20 rfl (rfl : 20 + 1 = 21) ?_
      obtain ⟨q7, e8, hf⟩ := zbind hf
      refine z_goFv (z_runV (C := RX11) (T := TX11) (N := 13) (ci := 10) h [.int v1, .int v2] [] zyX11_read (c_X11_read B q4.2 J hJ v1 v2 _ e8) gX11_differ_X11_read rfl rfl rfl zrX11_differ_X11_read rfl (Nat.le_of_ble_eq_true rfl) ⟨Nat.zero_le _, Nat.zero_le _⟩ rfl dX11_differ_21) rfl ?_
      refine z_aload_n h 0 dX11_differ_24 rfl (rfl : 24 + 1 = 25) ?_
      refine z_getr (ci := 10) (C := RX11) (T := TX11) (N := 13) h 12 39 ((hJ.1 0 12 (by decide)).trans rfl) rfl rfl (fun _ hq => List.mem_cons_of_mem _ (List.mem_append_left _ (List.mem_append_left _ (List.mem_append_left _ (List.mem_append_left _ (List.mem_append_left _ (List.mem_append_left _ (List.mem_append_left _ (List.mem_append_left _ (List.mem_append_left _ (List.mem_append_right _ hq))))))))))) (by decide) (List.mem_of_getElem? (i := 1) rfl) rfl dX11_differ_25 (rfl : 25 + 3 = 28) ?_
      refine z_get (ci := 5) (C := RX5) (T := TX5) (N := 17) h 14 rfl rfl (fun _ hq => List.mem_cons_of_mem _ (List.mem_append_left _ (List.mem_append_left _ (List.mem_append_left _ (List.mem_append_left _ (List.mem_append_left _ (List.mem_append_left _ (List.mem_append_left _ (List.mem_append_left _ (List.mem_append_right _ hq)))))))))) (by decide) (List.mem_of_getElem? (i := 2) rfl) rfl dX11_differ_28 (rfl : 28 + 3 = 31) ?_
      refine z_istore h [(4, .int (q7 39 14)), (0, .ref (za B 0)), (1, .int v1), (2, .int v2), (3, .int v3)] dX11_differ_31 (by decide) rfl (rfl : 31 + 2 = 33) ?_
      refine z_aload_n h 1 dX11_differ_33 rfl (rfl : 33 + 1 = 34) ?_
      refine z_getr (ci := 10) (C := RX11) (T := TX11) (N := 13) h 12 39 ((hJ.1 0 12 (by decide)).trans rfl) rfl rfl (fun _ hq => List.mem_cons_of_mem _ (List.mem_append_left _ (List.mem_append_left _ (List.mem_append_left _ (List.mem_append_left _ (List.mem_append_left _ (List.mem_append_left _ (List.mem_append_left _ (List.mem_append_left _ (List.mem_append_left _ (List.mem_append_right _ hq))))))))))) (by decide) (List.mem_of_getElem? (i := 1) rfl) rfl dX11_differ_34 (rfl : 34 + 3 = 37) ?_
      refine z_aload_n h 1 dX11_differ_37 rfl (rfl : 37 + 1 = 38) ?_
      refine z_getr (ci := 10) (C := RX11) (T := TX11) (N := 13) h 7 33 ((hJ.1 0 7 (by decide)).trans rfl) rfl rfl (fun _ hq => List.mem_cons_of_mem _ (List.mem_append_left _ (List.mem_append_left _ (List.mem_append_left _ (List.mem_append_left _ (List.mem_append_left _ (List.mem_append_left _ (List.mem_append_left _ (List.mem_append_left _ (List.mem_append_left _ (List.mem_append_right _ hq))))))))))) (by decide) (List.mem_of_getElem? (i := 3) rfl) rfl dX11_differ_38 (rfl : 38 + 3 = 41) ?_
      refine z_iload_n h 4 dX11_differ_41 rfl (rfl : 41 + 1 = 42) ?_
      obtain ⟨b9, hf⟩ := zchk hf
      refine z_aldq h (zR 33 (Int32.toNatClampNeg v3)) (ze_6 hJ rfl (zin_lt b9)).1 rfl (by decide) rfl b9 dX11_differ_42 (rfl : 42 + 1 = 43) ?_
      obtain ⟨q10, e11, hf⟩ := zbind hf
      refine z_goFv (z_runV (C := RX5) (T := TX5) (N := 17) (ci := 5) h [.ref (za B (zR 33 (Int32.toNatClampNeg v3)))] [] zyX5_read (c_X5_read B q7 J hJ (zR 33 (Int32.toNatClampNeg v3)) ((ze_6 hJ rfl (zin_lt b9)).2) _ e11) gX11_differ_X5_read rfl rfl rfl zrX11_differ_X5_read rfl (Nat.le_of_ble_eq_true rfl) ⟨Nat.zero_le _, Nat.zero_le _⟩ rfl dX11_differ_43) rfl ?_
      refine z_iload h 0 dX11_differ_46 rfl (rfl : 46 + 2 = 48) ?_
      refine z_aload_n h 1 dX11_differ_48 rfl (rfl : 48 + 1 = 49) ?_
      refine z_getr (ci := 10) (C := RX11) (T := TX11) (N := 13) h 12 39 ((hJ.1 0 12 (by decide)).trans rfl) rfl rfl (fun _ hq => List.mem_cons_of_mem _ (List.mem_append_left _ (List.mem_append_left _ (List.mem_append_left _ (List.mem_append_left _ (List.mem_append_left _ (List.mem_append_left _ (List.mem_append_left _ (List.mem_append_left _ (List.mem_append_left _ (List.mem_append_right _ hq))))))))))) (by decide) (List.mem_of_getElem? (i := 1) rfl) rfl dX11_differ_49 (rfl : 49 + 3 = 52) ?_
      refine z_get (ci := 5) (C := RX5) (T := TX5) (N := 17) h 14 rfl rfl (fun _ hq => List.mem_cons_of_mem _ (List.mem_append_left _ (List.mem_append_left _ (List.mem_append_left _ (List.mem_append_left _ (List.mem_append_left _ (List.mem_append_left _ (List.mem_append_left _ (List.mem_append_left _ (List.mem_append_right _ hq)))))))))) (by decide) (List.mem_of_getElem? (i := 2) rfl) rfl dX11_differ_52 (rfl : 52 + 3 = 55) ?_
      obtain ⟨q12, e13, hf⟩ := zbind hf
      refine z_goF (z_runS h [.int (q7 39 14), .int (q10 39 14)] [] zyX11_unlike (c_X11_unlike B q10 J hJ (q7 39 14) (q10 39 14) _ _ e13) gX11_differ_X11_unlike zrX11_differ_X11_unlike rfl (Nat.le_of_ble_eq_true rfl) ⟨Nat.zero_le _, Nat.zero_le _⟩ rfl dX11_differ_55) rfl ?_
      refine z_iret h hr dX11_differ_58 ?_
      exact ⟨congrArg Prod.fst (zsome hf), congrArg Prod.snd (zsome hf), rfl⟩
    · have hf := zitt c6 hf
      refine z_iconst h (-1) dX11_differ_16 (by decide) (rfl : 16 + 1 = 17) ?_
      refine z_iret h hr dX11_differ_17 ?_
      exact ⟨congrArg Prod.fst (zsome hf), congrArg Prod.snd (zsome hf), rfl⟩
noncomputable def f_J6_bitCount_0f7a4 (J : zJ) (v0 : Int32) (I : zM) : Option (Int32 × zM) := some (((((((((v0 - (((Int32.toUInt32 v0 >>> (Int32.toUInt32 (1 : Int32) &&& Int32.toUInt32 31)).toInt32) &&& (1431655765 : Int32))) &&& (858993459 : Int32)) + (((Int32.toUInt32 (v0 - (((Int32.toUInt32 v0 >>> (Int32.toUInt32 (1 : Int32) &&& Int32.toUInt32 31)).toInt32) &&& (1431655765 : Int32))) >>> (Int32.toUInt32 (2 : Int32) &&& Int32.toUInt32 31)).toInt32) &&& (858993459 : Int32))) + ((Int32.toUInt32 (((v0 - (((Int32.toUInt32 v0 >>> (Int32.toUInt32 (1 : Int32) &&& Int32.toUInt32 31)).toInt32) &&& (1431655765 : Int32))) &&& (858993459 : Int32)) + (((Int32.toUInt32 (v0 - (((Int32.toUInt32 v0 >>> (Int32.toUInt32 (1 : Int32) &&& Int32.toUInt32 31)).toInt32) &&& (1431655765 : Int32))) >>> (Int32.toUInt32 (2 : Int32) &&& Int32.toUInt32 31)).toInt32) &&& (858993459 : Int32))) >>> (Int32.toUInt32 (4 : Int32) &&& Int32.toUInt32 31)).toInt32)) &&& (252645135 : Int32)) + ((Int32.toUInt32 (((((v0 - (((Int32.toUInt32 v0 >>> (Int32.toUInt32 (1 : Int32) &&& Int32.toUInt32 31)).toInt32) &&& (1431655765 : Int32))) &&& (858993459 : Int32)) + (((Int32.toUInt32 (v0 - (((Int32.toUInt32 v0 >>> (Int32.toUInt32 (1 : Int32) &&& Int32.toUInt32 31)).toInt32) &&& (1431655765 : Int32))) >>> (Int32.toUInt32 (2 : Int32) &&& Int32.toUInt32 31)).toInt32) &&& (858993459 : Int32))) + ((Int32.toUInt32 (((v0 - (((Int32.toUInt32 v0 >>> (Int32.toUInt32 (1 : Int32) &&& Int32.toUInt32 31)).toInt32) &&& (1431655765 : Int32))) &&& (858993459 : Int32)) + (((Int32.toUInt32 (v0 - (((Int32.toUInt32 v0 >>> (Int32.toUInt32 (1 : Int32) &&& Int32.toUInt32 31)).toInt32) &&& (1431655765 : Int32))) >>> (Int32.toUInt32 (2 : Int32) &&& Int32.toUInt32 31)).toInt32) &&& (858993459 : Int32))) >>> (Int32.toUInt32 (4 : Int32) &&& Int32.toUInt32 31)).toInt32)) &&& (252645135 : Int32)) >>> (Int32.toUInt32 (8 : Int32) &&& Int32.toUInt32 31)).toInt32)) + ((Int32.toUInt32 ((((((v0 - (((Int32.toUInt32 v0 >>> (Int32.toUInt32 (1 : Int32) &&& Int32.toUInt32 31)).toInt32) &&& (1431655765 : Int32))) &&& (858993459 : Int32)) + (((Int32.toUInt32 (v0 - (((Int32.toUInt32 v0 >>> (Int32.toUInt32 (1 : Int32) &&& Int32.toUInt32 31)).toInt32) &&& (1431655765 : Int32))) >>> (Int32.toUInt32 (2 : Int32) &&& Int32.toUInt32 31)).toInt32) &&& (858993459 : Int32))) + ((Int32.toUInt32 (((v0 - (((Int32.toUInt32 v0 >>> (Int32.toUInt32 (1 : Int32) &&& Int32.toUInt32 31)).toInt32) &&& (1431655765 : Int32))) &&& (858993459 : Int32)) + (((Int32.toUInt32 (v0 - (((Int32.toUInt32 v0 >>> (Int32.toUInt32 (1 : Int32) &&& Int32.toUInt32 31)).toInt32) &&& (1431655765 : Int32))) >>> (Int32.toUInt32 (2 : Int32) &&& Int32.toUInt32 31)).toInt32) &&& (858993459 : Int32))) >>> (Int32.toUInt32 (4 : Int32) &&& Int32.toUInt32 31)).toInt32)) &&& (252645135 : Int32)) + ((Int32.toUInt32 (((((v0 - (((Int32.toUInt32 v0 >>> (Int32.toUInt32 (1 : Int32) &&& Int32.toUInt32 31)).toInt32) &&& (1431655765 : Int32))) &&& (858993459 : Int32)) + (((Int32.toUInt32 (v0 - (((Int32.toUInt32 v0 >>> (Int32.toUInt32 (1 : Int32) &&& Int32.toUInt32 31)).toInt32) &&& (1431655765 : Int32))) >>> (Int32.toUInt32 (2 : Int32) &&& Int32.toUInt32 31)).toInt32) &&& (858993459 : Int32))) + ((Int32.toUInt32 (((v0 - (((Int32.toUInt32 v0 >>> (Int32.toUInt32 (1 : Int32) &&& Int32.toUInt32 31)).toInt32) &&& (1431655765 : Int32))) &&& (858993459 : Int32)) + (((Int32.toUInt32 (v0 - (((Int32.toUInt32 v0 >>> (Int32.toUInt32 (1 : Int32) &&& Int32.toUInt32 31)).toInt32) &&& (1431655765 : Int32))) >>> (Int32.toUInt32 (2 : Int32) &&& Int32.toUInt32 31)).toInt32) &&& (858993459 : Int32))) >>> (Int32.toUInt32 (4 : Int32) &&& Int32.toUInt32 31)).toInt32)) &&& (252645135 : Int32)) >>> (Int32.toUInt32 (8 : Int32) &&& Int32.toUInt32 31)).toInt32)) >>> (Int32.toUInt32 (16 : Int32) &&& Int32.toUInt32 31)).toInt32)) &&& (63 : Int32), I))
noncomputable abbrev rmJ6_bitCount_0f7a4 : Room := { frames := 0, cells := 0, slots := 0, locals := 0 }
theorem zyJ6_bitCount_0f7a4 : zY yJ6_bitCount_0f7a4 wsJ6_bitCount_0f7a4 cJ6_bitCount_0f7a4 1 (some .int) 1 := ⟨⟨_, rfl⟩, by decide +kernel⟩
set_option maxHeartbeats 1000000 in
set_option maxRecDepth 100000 in
theorem c_J6_bitCount_0f7a4 (B : zB) (I : zM) (J : zJ) (hJ : zJok J) (v0 : Int32) (r : Int32) (I' : zM) (hf : f_J6_bitCount_0f7a4 J v0 I = some (r, I')) : zCi B zKW I J yJ6_bitCount_0f7a4 wsJ6_bitCount_0f7a4 rmJ6_bitCount_0f7a4 [.int v0] (fun r2 I2 J2 => r2 = r ∧ I2 = I' ∧ J2 = J) := by
  refine z_start (own := RJ6) (cc := cJ6_bitCount_0f7a4) (nL := 1) (ret := (some .int)) rfl (by decide) rfl (Nat.le_of_ble_eq_true rfl) (L := [(0, .int v0)]) rfl (fun G h hr => ?_)
  rw [f_J6_bitCount_0f7a4] at hf
  refine z_iload_n h 0 dJ6_bitCount_0f7a4_0 rfl (rfl : 0 + 1 = 1) ?_
  refine z_iload_n h 0 dJ6_bitCount_0f7a4_1 rfl (rfl : 1 + 1 = 2) ?_
  refine z_iconst h 1 dJ6_bitCount_0f7a4_2 (by decide) (rfl : 2 + 1 = 3) ?_
  refine z_iushr h dJ6_bitCount_0f7a4_3 (rfl : 3 + 1 = 4) ?_
  refine z_ldcw h 1431655765 (List.mem_of_getElem? (i := 1) rfl) dJ6_bitCount_0f7a4_4 (rfl : 4 + 3 = 7) ?_
  refine z_iand h dJ6_bitCount_0f7a4_7 (rfl : 7 + 1 = 8) ?_
  refine z_isub h dJ6_bitCount_0f7a4_8 (rfl : 8 + 1 = 9) ?_
  refine z_istore_n h [(0, .int (v0 - (((Int32.toUInt32 v0 >>> (Int32.toUInt32 (1 : Int32) &&& Int32.toUInt32 31)).toInt32) &&& (1431655765 : Int32))))] dJ6_bitCount_0f7a4_9 (by decide) rfl (rfl : 9 + 1 = 10) ?_
  refine z_iload_n h 0 dJ6_bitCount_0f7a4_10 rfl (rfl : 10 + 1 = 11) ?_
  refine z_ldcw h 858993459 (List.mem_of_getElem? (i := 2) rfl) dJ6_bitCount_0f7a4_11 (rfl : 11 + 3 = 14) ?_
  refine z_iand h dJ6_bitCount_0f7a4_14 (rfl : 14 + 1 = 15) ?_
  refine z_iload_n h 0 dJ6_bitCount_0f7a4_15 rfl (rfl : 15 + 1 = 16) ?_
  refine z_iconst h 2 dJ6_bitCount_0f7a4_16 (by decide) (rfl : 16 + 1 = 17) ?_
  refine z_iushr h dJ6_bitCount_0f7a4_17 (rfl : 17 + 1 = 18) ?_
  refine z_ldcw h 858993459 (List.mem_of_getElem? (i := 2) rfl) dJ6_bitCount_0f7a4_18 (rfl : 18 + 3 = 21) ?_
  refine z_iand h dJ6_bitCount_0f7a4_21 (rfl : 21 + 1 = 22) ?_
  refine z_iadd h dJ6_bitCount_0f7a4_22 (rfl : 22 + 1 = 23) ?_
  refine z_istore_n h [(0, .int (((v0 - (((Int32.toUInt32 v0 >>> (Int32.toUInt32 (1 : Int32) &&& Int32.toUInt32 31)).toInt32) &&& (1431655765 : Int32))) &&& (858993459 : Int32)) + (((Int32.toUInt32 (v0 - (((Int32.toUInt32 v0 >>> (Int32.toUInt32 (1 : Int32) &&& Int32.toUInt32 31)).toInt32) &&& (1431655765 : Int32))) >>> (Int32.toUInt32 (2 : Int32) &&& Int32.toUInt32 31)).toInt32) &&& (858993459 : Int32))))] dJ6_bitCount_0f7a4_23 (by decide) rfl (rfl : 23 + 1 = 24) ?_
  refine z_iload_n h 0 dJ6_bitCount_0f7a4_24 rfl (rfl : 24 + 1 = 25) ?_
  refine z_iload_n h 0 dJ6_bitCount_0f7a4_25 rfl (rfl : 25 + 1 = 26) ?_
  refine z_iconst h 4 dJ6_bitCount_0f7a4_26 (by decide) (rfl : 26 + 1 = 27) ?_
  refine z_iushr h dJ6_bitCount_0f7a4_27 (rfl : 27 + 1 = 28) ?_
  refine z_iadd h dJ6_bitCount_0f7a4_28 (rfl : 28 + 1 = 29) ?_
  refine z_ldcw h 252645135 (List.mem_of_getElem? (i := 3) rfl) dJ6_bitCount_0f7a4_29 (rfl : 29 + 3 = 32) ?_
  refine z_iand h dJ6_bitCount_0f7a4_32 (rfl : 32 + 1 = 33) ?_
  refine z_istore_n h [(0, .int (((((v0 - (((Int32.toUInt32 v0 >>> (Int32.toUInt32 (1 : Int32) &&& Int32.toUInt32 31)).toInt32) &&& (1431655765 : Int32))) &&& (858993459 : Int32)) + (((Int32.toUInt32 (v0 - (((Int32.toUInt32 v0 >>> (Int32.toUInt32 (1 : Int32) &&& Int32.toUInt32 31)).toInt32) &&& (1431655765 : Int32))) >>> (Int32.toUInt32 (2 : Int32) &&& Int32.toUInt32 31)).toInt32) &&& (858993459 : Int32))) + ((Int32.toUInt32 (((v0 - (((Int32.toUInt32 v0 >>> (Int32.toUInt32 (1 : Int32) &&& Int32.toUInt32 31)).toInt32) &&& (1431655765 : Int32))) &&& (858993459 : Int32)) + (((Int32.toUInt32 (v0 - (((Int32.toUInt32 v0 >>> (Int32.toUInt32 (1 : Int32) &&& Int32.toUInt32 31)).toInt32) &&& (1431655765 : Int32))) >>> (Int32.toUInt32 (2 : Int32) &&& Int32.toUInt32 31)).toInt32) &&& (858993459 : Int32))) >>> (Int32.toUInt32 (4 : Int32) &&& Int32.toUInt32 31)).toInt32)) &&& (252645135 : Int32)))] dJ6_bitCount_0f7a4_33 (by decide) rfl (rfl : 33 + 1 = 34) ?_
  refine z_iload_n h 0 dJ6_bitCount_0f7a4_34 rfl (rfl : 34 + 1 = 35) ?_
  refine z_iload_n h 0 dJ6_bitCount_0f7a4_35 rfl (rfl : 35 + 1 = 36) ?_
  refine z_bipush h 8 dJ6_bitCount_0f7a4_36 (by decide) (rfl : 36 + 2 = 38) ?_
  refine z_iushr h dJ6_bitCount_0f7a4_38 (rfl : 38 + 1 = 39) ?_
  refine z_iadd h dJ6_bitCount_0f7a4_39 (rfl : 39 + 1 = 40) ?_
  refine z_istore_n h [(0, .int ((((((v0 - (((Int32.toUInt32 v0 >>> (Int32.toUInt32 (1 : Int32) &&& Int32.toUInt32 31)).toInt32) &&& (1431655765 : Int32))) &&& (858993459 : Int32)) + (((Int32.toUInt32 (v0 - (((Int32.toUInt32 v0 >>> (Int32.toUInt32 (1 : Int32) &&& Int32.toUInt32 31)).toInt32) &&& (1431655765 : Int32))) >>> (Int32.toUInt32 (2 : Int32) &&& Int32.toUInt32 31)).toInt32) &&& (858993459 : Int32))) + ((Int32.toUInt32 (((v0 - (((Int32.toUInt32 v0 >>> (Int32.toUInt32 (1 : Int32) &&& Int32.toUInt32 31)).toInt32) &&& (1431655765 : Int32))) &&& (858993459 : Int32)) + (((Int32.toUInt32 (v0 - (((Int32.toUInt32 v0 >>> (Int32.toUInt32 (1 : Int32) &&& Int32.toUInt32 31)).toInt32) &&& (1431655765 : Int32))) >>> (Int32.toUInt32 (2 : Int32) &&& Int32.toUInt32 31)).toInt32) &&& (858993459 : Int32))) >>> (Int32.toUInt32 (4 : Int32) &&& Int32.toUInt32 31)).toInt32)) &&& (252645135 : Int32)) + ((Int32.toUInt32 (((((v0 - (((Int32.toUInt32 v0 >>> (Int32.toUInt32 (1 : Int32) &&& Int32.toUInt32 31)).toInt32) &&& (1431655765 : Int32))) &&& (858993459 : Int32)) + (((Int32.toUInt32 (v0 - (((Int32.toUInt32 v0 >>> (Int32.toUInt32 (1 : Int32) &&& Int32.toUInt32 31)).toInt32) &&& (1431655765 : Int32))) >>> (Int32.toUInt32 (2 : Int32) &&& Int32.toUInt32 31)).toInt32) &&& (858993459 : Int32))) + ((Int32.toUInt32 (((v0 - (((Int32.toUInt32 v0 >>> (Int32.toUInt32 (1 : Int32) &&& Int32.toUInt32 31)).toInt32) &&& (1431655765 : Int32))) &&& (858993459 : Int32)) + (((Int32.toUInt32 (v0 - (((Int32.toUInt32 v0 >>> (Int32.toUInt32 (1 : Int32) &&& Int32.toUInt32 31)).toInt32) &&& (1431655765 : Int32))) >>> (Int32.toUInt32 (2 : Int32) &&& Int32.toUInt32 31)).toInt32) &&& (858993459 : Int32))) >>> (Int32.toUInt32 (4 : Int32) &&& Int32.toUInt32 31)).toInt32)) &&& (252645135 : Int32)) >>> (Int32.toUInt32 (8 : Int32) &&& Int32.toUInt32 31)).toInt32)))] dJ6_bitCount_0f7a4_40 (by decide) rfl (rfl : 40 + 1 = 41) ?_
  refine z_iload_n h 0 dJ6_bitCount_0f7a4_41 rfl (rfl : 41 + 1 = 42) ?_
  refine z_iload_n h 0 dJ6_bitCount_0f7a4_42 rfl (rfl : 42 + 1 = 43) ?_
  refine z_bipush h 16 dJ6_bitCount_0f7a4_43 (by decide) (rfl : 43 + 2 = 45) ?_
  refine z_iushr h dJ6_bitCount_0f7a4_45 (rfl : 45 + 1 = 46) ?_
  refine z_iadd h dJ6_bitCount_0f7a4_46 (rfl : 46 + 1 = 47) ?_
  refine z_istore_n h [(0, .int (((((((v0 - (((Int32.toUInt32 v0 >>> (Int32.toUInt32 (1 : Int32) &&& Int32.toUInt32 31)).toInt32) &&& (1431655765 : Int32))) &&& (858993459 : Int32)) + (((Int32.toUInt32 (v0 - (((Int32.toUInt32 v0 >>> (Int32.toUInt32 (1 : Int32) &&& Int32.toUInt32 31)).toInt32) &&& (1431655765 : Int32))) >>> (Int32.toUInt32 (2 : Int32) &&& Int32.toUInt32 31)).toInt32) &&& (858993459 : Int32))) + ((Int32.toUInt32 (((v0 - (((Int32.toUInt32 v0 >>> (Int32.toUInt32 (1 : Int32) &&& Int32.toUInt32 31)).toInt32) &&& (1431655765 : Int32))) &&& (858993459 : Int32)) + (((Int32.toUInt32 (v0 - (((Int32.toUInt32 v0 >>> (Int32.toUInt32 (1 : Int32) &&& Int32.toUInt32 31)).toInt32) &&& (1431655765 : Int32))) >>> (Int32.toUInt32 (2 : Int32) &&& Int32.toUInt32 31)).toInt32) &&& (858993459 : Int32))) >>> (Int32.toUInt32 (4 : Int32) &&& Int32.toUInt32 31)).toInt32)) &&& (252645135 : Int32)) + ((Int32.toUInt32 (((((v0 - (((Int32.toUInt32 v0 >>> (Int32.toUInt32 (1 : Int32) &&& Int32.toUInt32 31)).toInt32) &&& (1431655765 : Int32))) &&& (858993459 : Int32)) + (((Int32.toUInt32 (v0 - (((Int32.toUInt32 v0 >>> (Int32.toUInt32 (1 : Int32) &&& Int32.toUInt32 31)).toInt32) &&& (1431655765 : Int32))) >>> (Int32.toUInt32 (2 : Int32) &&& Int32.toUInt32 31)).toInt32) &&& (858993459 : Int32))) + ((Int32.toUInt32 (((v0 - (((Int32.toUInt32 v0 >>> (Int32.toUInt32 (1 : Int32) &&& Int32.toUInt32 31)).toInt32) &&& (1431655765 : Int32))) &&& (858993459 : Int32)) + (((Int32.toUInt32 (v0 - (((Int32.toUInt32 v0 >>> (Int32.toUInt32 (1 : Int32) &&& Int32.toUInt32 31)).toInt32) &&& (1431655765 : Int32))) >>> (Int32.toUInt32 (2 : Int32) &&& Int32.toUInt32 31)).toInt32) &&& (858993459 : Int32))) >>> (Int32.toUInt32 (4 : Int32) &&& Int32.toUInt32 31)).toInt32)) &&& (252645135 : Int32)) >>> (Int32.toUInt32 (8 : Int32) &&& Int32.toUInt32 31)).toInt32)) + ((Int32.toUInt32 ((((((v0 - (((Int32.toUInt32 v0 >>> (Int32.toUInt32 (1 : Int32) &&& Int32.toUInt32 31)).toInt32) &&& (1431655765 : Int32))) &&& (858993459 : Int32)) + (((Int32.toUInt32 (v0 - (((Int32.toUInt32 v0 >>> (Int32.toUInt32 (1 : Int32) &&& Int32.toUInt32 31)).toInt32) &&& (1431655765 : Int32))) >>> (Int32.toUInt32 (2 : Int32) &&& Int32.toUInt32 31)).toInt32) &&& (858993459 : Int32))) + ((Int32.toUInt32 (((v0 - (((Int32.toUInt32 v0 >>> (Int32.toUInt32 (1 : Int32) &&& Int32.toUInt32 31)).toInt32) &&& (1431655765 : Int32))) &&& (858993459 : Int32)) + (((Int32.toUInt32 (v0 - (((Int32.toUInt32 v0 >>> (Int32.toUInt32 (1 : Int32) &&& Int32.toUInt32 31)).toInt32) &&& (1431655765 : Int32))) >>> (Int32.toUInt32 (2 : Int32) &&& Int32.toUInt32 31)).toInt32) &&& (858993459 : Int32))) >>> (Int32.toUInt32 (4 : Int32) &&& Int32.toUInt32 31)).toInt32)) &&& (252645135 : Int32)) + ((Int32.toUInt32 (((((v0 - (((Int32.toUInt32 v0 >>> (Int32.toUInt32 (1 : Int32) &&& Int32.toUInt32 31)).toInt32) &&& (1431655765 : Int32))) &&& (858993459 : Int32)) + (((Int32.toUInt32 (v0 - (((Int32.toUInt32 v0 >>> (Int32.toUInt32 (1 : Int32) &&& Int32.toUInt32 31)).toInt32) &&& (1431655765 : Int32))) >>> (Int32.toUInt32 (2 : Int32) &&& Int32.toUInt32 31)).toInt32) &&& (858993459 : Int32))) + ((Int32.toUInt32 (((v0 - (((Int32.toUInt32 v0 >>> (Int32.toUInt32 (1 : Int32) &&& Int32.toUInt32 31)).toInt32) &&& (1431655765 : Int32))) &&& (858993459 : Int32)) + (((Int32.toUInt32 (v0 - (((Int32.toUInt32 v0 >>> (Int32.toUInt32 (1 : Int32) &&& Int32.toUInt32 31)).toInt32) &&& (1431655765 : Int32))) >>> (Int32.toUInt32 (2 : Int32) &&& Int32.toUInt32 31)).toInt32) &&& (858993459 : Int32))) >>> (Int32.toUInt32 (4 : Int32) &&& Int32.toUInt32 31)).toInt32)) &&& (252645135 : Int32)) >>> (Int32.toUInt32 (8 : Int32) &&& Int32.toUInt32 31)).toInt32)) >>> (Int32.toUInt32 (16 : Int32) &&& Int32.toUInt32 31)).toInt32)))] dJ6_bitCount_0f7a4_47 (by decide) rfl (rfl : 47 + 1 = 48) ?_
  refine z_iload_n h 0 dJ6_bitCount_0f7a4_48 rfl (rfl : 48 + 1 = 49) ?_
  refine z_bipush h 63 dJ6_bitCount_0f7a4_49 (by decide) (rfl : 49 + 2 = 51) ?_
  refine z_iand h dJ6_bitCount_0f7a4_51 (rfl : 51 + 1 = 52) ?_
  refine z_iret h hr dJ6_bitCount_0f7a4_52 ?_
  exact ⟨congrArg Prod.fst (zsome hf), congrArg Prod.snd (zsome hf), rfl⟩
noncomputable def f_X11_movedBy (J : zJ) (p1 : Nat) (v2 : Int32) (v3 : Int32) (I : zM) : Option (Int32 × zM) := ((f_X4_copy J 35 p1 I).bind fun q1 => ((f_X4_swap J 35 v2 q1).bind fun q3 => ((f_X5_read J 35 q3).bind fun q5 => ((f_X11_unlike J v3 (q5 39 14) q5).bind fun q7 => ((f_J6_bitCount_0f7a4 J q7.1 q7.2).bind fun q9 => some ((q9.1, q9.2)))))))
noncomputable abbrev rmX11_movedBy : Room := { frames := 5, cells := 0, slots := 0, locals := 117 }
theorem zyX11_movedBy : zY yX11_movedBy wsX11_movedBy cX11_movedBy 4 (some .int) 3 := ⟨⟨_, rfl⟩, by decide +kernel⟩
theorem zrX11_movedBy_J6_bitCount_0f7a4 : zRm rmJ6_bitCount_0f7a4 rmX11_movedBy 1 := ⟨rfl, rfl, by decide, by decide⟩
theorem zrX11_movedBy_X11_unlike : zRm rmX11_unlike rmX11_movedBy 6 := ⟨rfl, rfl, by decide, by decide⟩
theorem zrX11_movedBy_X4_copy : zRm rmX4_copy rmX11_movedBy 2 := ⟨rfl, rfl, by decide, by decide⟩
theorem zrX11_movedBy_X4_swap : zRm rmX4_swap rmX11_movedBy 3 := ⟨rfl, rfl, by decide, by decide⟩
theorem zrX11_movedBy_X5_read : zRm rmX5_read rmX11_movedBy 4 := ⟨rfl, rfl, by decide, by decide⟩
set_option maxHeartbeats 1000000 in
set_option maxRecDepth 100000 in
theorem c_X11_movedBy (B : zB) (I : zM) (J : zJ) (hJ : zJok J) (p1 : Nat) (k1 : zKW[p1]? = some (.inr 4)) (v2 : Int32) (v3 : Int32) (r : Int32) (I' : zM) (hf : f_X11_movedBy J p1 v2 v3 I = some (r, I')) : zCi B zKW I J yX11_movedBy wsX11_movedBy rmX11_movedBy [.ref (za B 0), .ref (za B p1), .int v2, .int v3] (fun r2 I2 J2 => r2 = r ∧ I2 = I' ∧ J2 = J) := by
  refine z_start (own := RX11) (cc := cX11_movedBy) (nL := 4) (ret := (some .int)) rfl (by decide) rfl (Nat.le_of_ble_eq_true rfl) (L := [(0, .ref (za B 0)), (1, .ref (za B p1)), (2, .int v2), (3, .int v3)]) rfl (fun G h hr => ?_)
  rw [f_X11_movedBy] at hf
  refine z_aload_n h 0 dX11_movedBy_0 rfl (rfl : 0 + 1 = 1) ?_
  refine z_getr (ci := 10) (C := RX11) (T := TX11) (N := 13) h 10 35 ((hJ.1 0 10 (by decide)).trans rfl) rfl rfl (fun _ hq => List.mem_cons_of_mem _ (List.mem_append_left _ (List.mem_append_left _ (List.mem_append_left _ (List.mem_append_left _ (List.mem_append_left _ (List.mem_append_left _ (List.mem_append_right _ hq)))))))) (by decide) (List.mem_of_getElem? (i := 1) rfl) rfl dX11_movedBy_1 (rfl : 1 + 3 = 4) ?_
  refine z_aload_n h 1 dX11_movedBy_4 rfl (rfl : 4 + 1 = 5) ?_
  obtain ⟨q1, e2, hf⟩ := zbind hf
  refine z_goFv (z_runV (C := RX4) (T := TX4) (N := 2) (ci := 4) h [.ref (za B p1)] [] zyX4_copy (c_X4_copy B I J hJ 35 rfl p1 k1 _ e2) gX11_movedBy_X4_copy rfl rfl rfl zrX11_movedBy_X4_copy rfl (Nat.le_of_ble_eq_true rfl) ⟨Nat.zero_le _, Nat.zero_le _⟩ rfl dX11_movedBy_5) rfl ?_
  refine z_aload_n h 0 dX11_movedBy_8 rfl (rfl : 8 + 1 = 9) ?_
  refine z_getr (ci := 10) (C := RX11) (T := TX11) (N := 13) h 10 35 ((hJ.1 0 10 (by decide)).trans rfl) rfl rfl (fun _ hq => List.mem_cons_of_mem _ (List.mem_append_left _ (List.mem_append_left _ (List.mem_append_left _ (List.mem_append_left _ (List.mem_append_left _ (List.mem_append_left _ (List.mem_append_right _ hq)))))))) (by decide) (List.mem_of_getElem? (i := 1) rfl) rfl dX11_movedBy_9 (rfl : 9 + 3 = 12) ?_
  refine z_iload_n h 2 dX11_movedBy_12 rfl (rfl : 12 + 1 = 13) ?_
  obtain ⟨q3, e4, hf⟩ := zbind hf
  refine z_goFv (z_runV (C := RX4) (T := TX4) (N := 2) (ci := 4) h [.int v2] [] zyX4_swap (c_X4_swap B q1 J hJ 35 rfl v2 _ e4) gX11_movedBy_X4_swap rfl rfl rfl zrX11_movedBy_X4_swap rfl (Nat.le_of_ble_eq_true rfl) ⟨Nat.zero_le _, Nat.zero_le _⟩ rfl dX11_movedBy_13) rfl ?_
  refine z_aload_n h 0 dX11_movedBy_16 rfl (rfl : 16 + 1 = 17) ?_
  refine z_getr (ci := 10) (C := RX11) (T := TX11) (N := 13) h 12 39 ((hJ.1 0 12 (by decide)).trans rfl) rfl rfl (fun _ hq => List.mem_cons_of_mem _ (List.mem_append_left _ (List.mem_append_left _ (List.mem_append_left _ (List.mem_append_left _ (List.mem_append_left _ (List.mem_append_left _ (List.mem_append_right _ hq)))))))) (by decide) (List.mem_of_getElem? (i := 2) rfl) rfl dX11_movedBy_17 (rfl : 17 + 3 = 20) ?_
  refine z_aload_n h 0 dX11_movedBy_20 rfl (rfl : 20 + 1 = 21) ?_
  refine z_getr (ci := 10) (C := RX11) (T := TX11) (N := 13) h 10 35 ((hJ.1 0 10 (by decide)).trans rfl) rfl rfl (fun _ hq => List.mem_cons_of_mem _ (List.mem_append_left _ (List.mem_append_left _ (List.mem_append_left _ (List.mem_append_left _ (List.mem_append_left _ (List.mem_append_left _ (List.mem_append_right _ hq)))))))) (by decide) (List.mem_of_getElem? (i := 1) rfl) rfl dX11_movedBy_21 (rfl : 21 + 3 = 24) ?_
  obtain ⟨q5, e6, hf⟩ := zbind hf
  refine z_goFv (z_runV (C := RX5) (T := TX5) (N := 17) (ci := 5) h [.ref (za B 35)] [] zyX5_read (c_X5_read B q3 J hJ 35 rfl _ e6) gX11_movedBy_X5_read rfl rfl rfl zrX11_movedBy_X5_read rfl (Nat.le_of_ble_eq_true rfl) ⟨Nat.zero_le _, Nat.zero_le _⟩ rfl dX11_movedBy_24) rfl ?_
  refine z_iload_n h 3 dX11_movedBy_27 rfl (rfl : 27 + 1 = 28) ?_
  refine z_aload_n h 0 dX11_movedBy_28 rfl (rfl : 28 + 1 = 29) ?_
  refine z_getr (ci := 10) (C := RX11) (T := TX11) (N := 13) h 12 39 ((hJ.1 0 12 (by decide)).trans rfl) rfl rfl (fun _ hq => List.mem_cons_of_mem _ (List.mem_append_left _ (List.mem_append_left _ (List.mem_append_left _ (List.mem_append_left _ (List.mem_append_left _ (List.mem_append_left _ (List.mem_append_right _ hq)))))))) (by decide) (List.mem_of_getElem? (i := 2) rfl) rfl dX11_movedBy_29 (rfl : 29 + 3 = 32) ?_
  refine z_get (ci := 5) (C := RX5) (T := TX5) (N := 17) h 14 rfl rfl (fun _ hq => List.mem_cons_of_mem _ (List.mem_append_left _ (List.mem_append_left _ (List.mem_append_left _ (List.mem_append_left _ (List.mem_append_left _ (List.mem_append_right _ hq))))))) (by decide) (List.mem_of_getElem? (i := 3) rfl) rfl dX11_movedBy_32 (rfl : 32 + 3 = 35) ?_
  obtain ⟨q7, e8, hf⟩ := zbind hf
  refine z_goF (z_runS h [.int v3, .int (q5 39 14)] [] zyX11_unlike (c_X11_unlike B q5 J hJ v3 (q5 39 14) _ _ e8) gX11_movedBy_X11_unlike zrX11_movedBy_X11_unlike rfl (Nat.le_of_ble_eq_true rfl) ⟨Nat.zero_le _, Nat.zero_le _⟩ rfl dX11_movedBy_35) rfl ?_
  obtain ⟨q9, e10, hf⟩ := zbind hf
  refine z_goF (z_runS h [.int q7.1] [] zyJ6_bitCount_0f7a4 (c_J6_bitCount_0f7a4 B q7.2 J hJ q7.1 _ _ e10) gX11_movedBy_J6_bitCount_0f7a4 zrX11_movedBy_J6_bitCount_0f7a4 rfl (Nat.le_of_ble_eq_true rfl) ⟨Nat.zero_le _, Nat.zero_le _⟩ rfl dX11_movedBy_38) rfl ?_
  refine z_iret h hr dX11_movedBy_41 ?_
  exact ⟨congrArg Prod.fst (zsome hf), congrArg Prod.snd (zsome hf), rfl⟩
noncomputable def f_X11_step_35 (J : zJ) (u1 : Int32) (u2 : Int32) (u3 : Int32) : Nat → Int32 → Int32 → Int32 → zM → Option ((Int32 × zM) ⊕ (Int32 × Int32 × Int32 × zM))
  | 0, _, _, _, _ => none
  | n + 1, x4_35, x5_35, x6_35, I35 => (if zin u2 4 = true then (if I35 (zR 33 (Int32.toNatClampNeg u2)) 1 ≤ x6_35 + (1 : Int32) then some (.inr (x4_35, x5_35, x6_35, I35)) else (if zin u2 4 = true then ((f_X11_movedBy J (zR 33 (Int32.toNatClampNeg u2)) x6_35 u3 I35).bind fun q9 => (if q9.1 ≤ x5_35 then f_X11_step_35 J u1 u2 u3 n x4_35 x5_35 (x6_35 + 1) q9.2 else f_X11_step_35 J u1 u2 u3 n x6_35 q9.1 (x6_35 + 1) q9.2)) else none)) else none)
noncomputable def f_X11_step (J : zJ) (v1 : Int32) (v2 : Int32) (I : zM) : Option (Int32 × zM) := ((f_X11_canRead J v1 v2 I).bind fun q1 => (if q1.1 = 0 then some (((-1), q1.2)) else ((f_X11_read J v1 v2 q1.2).bind fun q4 => ((f_X11_step_35 J v1 v2 (q4 39 14) zF (-9) 0 0 q4).bind fun q => Sum.elim (fun a => some a) (fun a8 => some ((a8.1, a8.2.2.2))) q))))
noncomputable abbrev rmX11_step : Room := { frames := 6, cells := 0, slots := 0, locals := 140 }
theorem zyX11_step : zY yX11_step wsX11_step cX11_step 8 (some .int) 2 := ⟨⟨_, rfl⟩, by decide +kernel⟩
theorem zrX11_step_X11_canRead : zRm rmX11_canRead rmX11_step 3 := ⟨rfl, rfl, by decide, by decide⟩
theorem zrX11_step_X11_movedBy : zRm rmX11_movedBy rmX11_step 4 := ⟨rfl, rfl, by decide, by decide⟩
theorem zrX11_step_X11_read : zRm rmX11_read rmX11_step 3 := ⟨rfl, rfl, by decide, by decide⟩
set_option maxHeartbeats 1000000 in
set_option maxRecDepth 100000 in
theorem c_X11_step (B : zB) (I : zM) (J : zJ) (hJ : zJok J) (v1 : Int32) (v2 : Int32) (r : Int32) (I' : zM) (hf : f_X11_step J v1 v2 I = some (r, I')) : zCi B zKW I J yX11_step wsX11_step rmX11_step [.ref (za B 0), .int v1, .int v2] (fun r2 I2 J2 => r2 = r ∧ I2 = I' ∧ J2 = J) := by
  refine z_start (own := RX11) (cc := cX11_step) (nL := 8) (ret := (some .int)) rfl (by decide) rfl (Nat.le_of_ble_eq_true rfl) (L := [(0, .ref (za B 0)), (1, .int v1), (2, .int v2)]) rfl (fun G h hr => ?_)
  rw [f_X11_step] at hf
  refine z_aload_n h 0 dX11_step_0 rfl (rfl : 0 + 1 = 1) ?_
  refine z_iload_n h 1 dX11_step_1 rfl (rfl : 1 + 1 = 2) ?_
  refine z_iload_n h 2 dX11_step_2 rfl (rfl : 2 + 1 = 3) ?_
  obtain ⟨q1, e2, hf⟩ := zbind hf
  refine z_goF (z_runV (C := RX11) (T := TX11) (N := 13) (ci := 10) h [.int v1, .int v2] [] zyX11_canRead (c_X11_canRead B I J hJ v1 v2 _ _ e2) gX11_step_X11_canRead rfl rfl rfl zrX11_step_X11_canRead rfl (Nat.le_of_ble_eq_true rfl) ⟨Nat.zero_le _, Nat.zero_le _⟩ rfl dX11_step_3) rfl ?_
  refine z_if_ne (pc' := 9) h 11 dX11_step_6 (by decide) rfl (fun c3 => ?_) (fun c3 => ?_)
  · have hf := zitf c3 hf
    refine z_aload_n h 0 dX11_step_11 rfl (rfl : 11 + 1 = 12) ?_
    refine z_iload_n h 1 dX11_step_12 rfl (rfl : 12 + 1 = 13) ?_
    refine z_iload_n h 2 dX11_step_13 rfl (rfl : 13 + 1 = 14) ?_
    obtain ⟨q4, e5, hf⟩ := zbind hf
    refine z_goFv (z_runV (C := RX11) (T := TX11) (N := 13) (ci := 10) h [.int v1, .int v2] [] zyX11_read (c_X11_read B q1.2 J hJ v1 v2 _ e5) gX11_step_X11_read rfl rfl rfl zrX11_step_X11_read rfl (Nat.le_of_ble_eq_true rfl) ⟨Nat.zero_le _, Nat.zero_le _⟩ rfl dX11_step_14) rfl ?_
    refine z_aload_n h 0 dX11_step_17 rfl (rfl : 17 + 1 = 18) ?_
    refine z_getr (ci := 10) (C := RX11) (T := TX11) (N := 13) h 12 39 ((hJ.1 0 12 (by decide)).trans rfl) rfl rfl (fun _ hq => List.mem_cons_of_mem _ (List.mem_append_left _ (List.mem_append_left _ (List.mem_append_left _ (List.mem_append_left _ (List.mem_append_left _ (List.mem_append_left _ (List.mem_append_left _ (List.mem_append_left _ (List.mem_append_left _ (List.mem_append_right _ hq))))))))))) (by decide) (List.mem_of_getElem? (i := 1) rfl) rfl dX11_step_18 (rfl : 18 + 3 = 21) ?_
    refine z_get (ci := 5) (C := RX5) (T := TX5) (N := 17) h 14 rfl rfl (fun _ hq => List.mem_cons_of_mem _ (List.mem_append_left _ (List.mem_append_left _ (List.mem_append_left _ (List.mem_append_left _ (List.mem_append_left _ (List.mem_append_left _ (List.mem_append_left _ (List.mem_append_left _ (List.mem_append_right _ hq)))))))))) (by decide) (List.mem_of_getElem? (i := 2) rfl) rfl dX11_step_21 (rfl : 21 + 3 = 24) ?_
    refine z_istore_n h [(3, .int (q4 39 14)), (0, .ref (za B 0)), (1, .int v1), (2, .int v2)] dX11_step_24 (by decide) rfl (rfl : 24 + 1 = 25) ?_
    refine z_bipush h (-9) dX11_step_25 (by decide) (rfl : 25 + 2 = 27) ?_
    refine z_istore h [(4, .int (-9)), (3, .int (q4 39 14)), (0, .ref (za B 0)), (1, .int v1), (2, .int v2)] dX11_step_27 (by decide) rfl (rfl : 27 + 2 = 29) ?_
    refine z_iconst h 0 dX11_step_29 (by decide) (rfl : 29 + 1 = 30) ?_
    refine z_istore h [(5, .int 0), (4, .int (-9)), (3, .int (q4 39 14)), (0, .ref (za B 0)), (1, .int v1), (2, .int v2)] dX11_step_30 (by decide) rfl (rfl : 30 + 2 = 32) ?_
    refine z_iconst h 0 dX11_step_32 (by decide) (rfl : 32 + 1 = 33) ?_
    refine z_istore h [(6, .int 0), (5, .int 0), (4, .int (-9)), (3, .int (q4 39 14)), (0, .ref (za B 0)), (1, .int v1), (2, .int v2)] dX11_step_33 (by decide) rfl (rfl : 33 + 2 = 35) ?_
    have loop_35_7 : ∀ (n : Nat) (x4_35 : Int32) (x5_35 : Int32) (x6_35 : Int32) (I35 : zM) (q : (Int32 × zM) ⊕ (Int32 × Int32 × Int32 × zM)), f_X11_step_35 J v1 v2 (q4 39 14) n x4_35 x5_35 x6_35 I35 = some q → (∀ a, q = .inl a → a = (r, I')) → (∀ a : Int32 × Int32 × Int32 × zM, q = .inr a → Z B G zKW (a.2.2.2) (J) (0, 0) 87 [(0, .ref (za B 0)), (1, .int v1), (2, .int v2), (3, .int (q4 39 14)), (4, .int a.1), (5, .int a.2.1), (6, .int a.2.2.1)] []) → Z B G zKW I35 J (0, 0) 35 [(0, .ref (za B 0)), (1, .int v1), (2, .int v2), (3, .int (q4 39 14)), (4, .int x4_35), (5, .int x5_35), (6, .int x6_35)] [] := by
      intro n; induction n with
      | zero => intro x4_35 x5_35 x6_35 I35 q hf; exact absurd hf (by rw [f_X11_step_35]; exact fun z => by cases z)
      | succ n ih =>
        intro x4_35 x5_35 x6_35 I35 q hf hP hE; rw [f_X11_step_35] at hf
        refine z_iload h 6 dX11_step_35 rfl (rfl : 35 + 2 = 37) ?_
        refine z_iconst h 1 dX11_step_37 (by decide) (rfl : 37 + 1 = 38) ?_
        refine z_iadd h dX11_step_38 (rfl : 38 + 1 = 39) ?_
        refine z_aload_n h 0 dX11_step_39 rfl (rfl : 39 + 1 = 40) ?_
        refine z_getr (ci := 10) (C := RX11) (T := TX11) (N := 13) h 7 33 ((hJ.1 0 7 (by decide)).trans rfl) rfl rfl (fun _ hq => List.mem_cons_of_mem _ (List.mem_append_left _ (List.mem_append_left _ (List.mem_append_left _ (List.mem_append_left _ (List.mem_append_left _ (List.mem_append_left _ (List.mem_append_left _ (List.mem_append_left _ (List.mem_append_left _ (List.mem_append_right _ hq))))))))))) (by decide) (List.mem_of_getElem? (i := 3) rfl) rfl dX11_step_40 (rfl : 40 + 3 = 43) ?_
        refine z_iload_n h 2 dX11_step_43 rfl (rfl : 43 + 1 = 44) ?_
        obtain ⟨b8, hf⟩ := zchk hf
        refine z_aldq h (zR 33 (Int32.toNatClampNeg v2)) (ze_6 hJ rfl (zin_lt b8)).1 rfl (by decide) rfl b8 dX11_step_44 (rfl : 44 + 1 = 45) ?_
        refine z_get (ci := 4) (C := RX4) (T := TX4) (N := 2) h 1 (ze_6 hJ rfl (zin_lt b8)).2 rfl (fun _ hq => List.mem_cons_of_mem _ (List.mem_append_left _ (List.mem_append_left _ (List.mem_append_left _ (List.mem_append_left _ (List.mem_append_left _ (List.mem_append_left _ (List.mem_append_left _ (List.mem_append_right _ hq))))))))) (by decide) (List.mem_of_getElem? (i := 4) rfl) rfl dX11_step_45 (rfl : 45 + 3 = 48) ?_
        refine z_icmp_ge (pc' := 51) h 87 dX11_step_48 (by decide) rfl (fun c9 => ?_) (fun c9 => ?_)
        · have hf := zitt c9 hf
          exact hE (x4_35, x5_35, x6_35, I35) (zsome hf).symm
        · have hf := zitf c9 hf
          refine z_aload_n h 0 dX11_step_51 rfl (rfl : 51 + 1 = 52) ?_
          refine z_aload_n h 0 dX11_step_52 rfl (rfl : 52 + 1 = 53) ?_
          refine z_getr (ci := 10) (C := RX11) (T := TX11) (N := 13) h 7 33 ((hJ.1 0 7 (by decide)).trans rfl) rfl rfl (fun _ hq => List.mem_cons_of_mem _ (List.mem_append_left _ (List.mem_append_left _ (List.mem_append_left _ (List.mem_append_left _ (List.mem_append_left _ (List.mem_append_left _ (List.mem_append_left _ (List.mem_append_left _ (List.mem_append_left _ (List.mem_append_right _ hq))))))))))) (by decide) (List.mem_of_getElem? (i := 3) rfl) rfl dX11_step_53 (rfl : 53 + 3 = 56) ?_
          refine z_iload_n h 2 dX11_step_56 rfl (rfl : 56 + 1 = 57) ?_
          obtain ⟨b10, hf⟩ := zchk hf
          refine z_aldq h (zR 33 (Int32.toNatClampNeg v2)) (ze_6 hJ rfl (zin_lt b10)).1 rfl (by decide) rfl b10 dX11_step_57 (rfl : 57 + 1 = 58) ?_
          refine z_iload h 6 dX11_step_58 rfl (rfl : 58 + 2 = 60) ?_
          refine z_iload_n h 3 dX11_step_60 rfl (rfl : 60 + 1 = 61) ?_
          obtain ⟨q11, e12, hf⟩ := zbind hf
          refine z_goF (z_runV (C := RX11) (T := TX11) (N := 13) (ci := 10) h [.ref (za B (zR 33 (Int32.toNatClampNeg v2))), .int x6_35, .int (q4 39 14)] [] zyX11_movedBy (c_X11_movedBy B I35 J hJ (zR 33 (Int32.toNatClampNeg v2)) ((ze_6 hJ rfl (zin_lt b10)).2) x6_35 (q4 39 14) _ _ e12) gX11_step_X11_movedBy rfl rfl rfl zrX11_step_X11_movedBy rfl (Nat.le_of_ble_eq_true rfl) ⟨Nat.zero_le _, Nat.zero_le _⟩ rfl dX11_step_61) rfl ?_
          refine z_istore h [(7, .int q11.1), (0, .ref (za B 0)), (1, .int v1), (2, .int v2), (3, .int (q4 39 14)), (4, .int x4_35), (5, .int x5_35), (6, .int x6_35)] dX11_step_64 (by decide) rfl (rfl : 64 + 2 = 66) ?_
          refine z_iload h 0 dX11_step_66 rfl (rfl : 66 + 2 = 68) ?_
          refine z_iload h 6 dX11_step_68 rfl (rfl : 68 + 2 = 70) ?_
          refine z_icmp_le (pc' := 73) h 81 dX11_step_70 (by decide) rfl (fun c13 => ?_) (fun c13 => ?_)
          · have hf := zitt c13 hf
            refine z_iinc h 7 (x6_35 + 1) [(6, .int (x6_35 + 1)), (7, .int q11.1), (0, .ref (za B 0)), (1, .int v1), (2, .int v2), (3, .int (q4 39 14)), (4, .int x4_35), (5, .int x5_35)] dX11_step_81 rfl rfl (by decide) rfl (rfl : 81 + 3 = 84) ?_
            refine z_goto (pc' := 35) h dX11_step_84 (by decide) ?_
            refine z_sub (L' := [(0, .ref (za B 0)), (1, .int v1), (2, .int v2), (3, .int (q4 39 14)), (4, .int x4_35), (5, .int x5_35), (6, .int (x6_35 + 1))]) [2, 3, 4, 5, 6, 7, 0] rfl ?_
            exact ih x4_35 x5_35 (x6_35 + 1) q11.2 _ hf hP hE
          · have hf := zitf c13 hf
            refine z_iload h 0 dX11_step_73 rfl (rfl : 73 + 2 = 75) ?_
            refine z_istore h [(5, .int q11.1), (7, .int q11.1), (0, .ref (za B 0)), (1, .int v1), (2, .int v2), (3, .int (q4 39 14)), (4, .int x4_35), (6, .int x6_35)] dX11_step_75 (by decide) rfl (rfl : 75 + 2 = 77) ?_
            refine z_iload h 7 dX11_step_77 rfl (rfl : 77 + 2 = 79) ?_
            refine z_istore h [(4, .int x6_35), (5, .int q11.1), (7, .int q11.1), (0, .ref (za B 0)), (1, .int v1), (2, .int v2), (3, .int (q4 39 14)), (6, .int x6_35)] dX11_step_79 (by decide) rfl (rfl : 79 + 2 = 81) ?_
            refine z_iinc h 7 (x6_35 + 1) [(6, .int (x6_35 + 1)), (4, .int x6_35), (5, .int q11.1), (7, .int q11.1), (0, .ref (za B 0)), (1, .int v1), (2, .int v2), (3, .int (q4 39 14))] dX11_step_81 rfl rfl (by decide) rfl (rfl : 81 + 3 = 84) ?_
            refine z_goto (pc' := 35) h dX11_step_84 (by decide) ?_
            refine z_sub (L' := [(0, .ref (za B 0)), (1, .int v1), (2, .int v2), (3, .int (q4 39 14)), (4, .int x6_35), (5, .int q11.1), (6, .int (x6_35 + 1))]) [4, 5, 6, 7, 1, 2, 0] rfl ?_
            exact ih x6_35 q11.1 (x6_35 + 1) q11.2 _ hf hP hE
    refine z_sub (L' := [(0, .ref (za B 0)), (1, .int v1), (2, .int v2), (3, .int (q4 39 14)), (4, .int (-9)), (5, .int 0), (6, .int 0)]) [4, 5, 6, 3, 2, 1, 0] rfl ?_
    obtain ⟨q6, e7, hf⟩ := zbind hf
    refine loop_35_7 _ (-9) 0 0 q4 q6 e7 (fun a ha => ?_) (fun a14 ha  => ?_)
    · have hf := zell ha hf
      exact zsome hf
    have hf := zelr ha hf
    clear ha loop_35_7
    refine z_iload h 4 dX11_step_87 rfl (rfl : 87 + 2 = 89) ?_
    refine z_iret h hr dX11_step_89 ?_
    exact ⟨congrArg Prod.fst (zsome hf), congrArg Prod.snd (zsome hf), rfl⟩
  · have hf := zitt c3 hf
    refine z_iconst h (-1) dX11_step_9 (by decide) (rfl : 9 + 1 = 10) ?_
    refine z_iret h hr dX11_step_10 ?_
    exact ⟨congrArg Prod.fst (zsome hf), congrArg Prod.snd (zsome hf), rfl⟩
noncomputable def f_X11_moves_31 (J : zJ) (u1 : Int32) (u2 : Int32) (u3 : Int32) : Nat → Int32 → Int32 → zM → Option ((Int32 × zM) ⊕ (Int32 × Int32 × zM))
  | 0, _, _, _ => none
  | n + 1, x4_31, x5_31, I31 => (if zin u2 4 = true then (if I31 (zR 33 (Int32.toNatClampNeg u2)) 1 ≤ x5_31 + (1 : Int32) then some (.inr (x4_31, x5_31, I31)) else (if zin u2 4 = true then ((f_X11_movedBy J (zR 33 (Int32.toNatClampNeg u2)) x5_31 u3 I31).bind fun q9 => f_X11_moves_31 J u1 u2 u3 n (if x4_31 < q9.1 then q9.1 else x4_31) (x5_31 + 1) q9.2) else none)) else none)
noncomputable def f_X11_moves (J : zJ) (v1 : Int32) (v2 : Int32) (I : zM) : Option (Int32 × zM) := ((f_X11_canRead J v1 v2 I).bind fun q1 => (if q1.1 = 0 then some (((-1), q1.2)) else ((f_X11_read J v1 v2 q1.2).bind fun q4 => ((f_X11_moves_31 J v1 v2 (q4 39 14) zF 0 0 q4).bind fun q => Sum.elim (fun a => some a) (fun a8 => some ((a8.1, a8.2.2))) q))))
noncomputable abbrev rmX11_moves : Room := { frames := 6, cells := 0, slots := 0, locals := 140 }
theorem zyX11_moves : zY yX11_moves wsX11_moves cX11_moves 6 (some .int) 2 := ⟨⟨_, rfl⟩, by decide +kernel⟩
theorem zrX11_moves_X11_canRead : zRm rmX11_canRead rmX11_moves 3 := ⟨rfl, rfl, by decide, by decide⟩
theorem zrX11_moves_X11_movedBy : zRm rmX11_movedBy rmX11_moves 4 := ⟨rfl, rfl, by decide, by decide⟩
theorem zrX11_moves_X11_read : zRm rmX11_read rmX11_moves 3 := ⟨rfl, rfl, by decide, by decide⟩
set_option maxHeartbeats 1000000 in
set_option maxRecDepth 100000 in
theorem c_X11_moves (B : zB) (I : zM) (J : zJ) (hJ : zJok J) (v1 : Int32) (v2 : Int32) (r : Int32) (I' : zM) (hf : f_X11_moves J v1 v2 I = some (r, I')) : zCi B zKW I J yX11_moves wsX11_moves rmX11_moves [.ref (za B 0), .int v1, .int v2] (fun r2 I2 J2 => r2 = r ∧ I2 = I' ∧ J2 = J) := by
  refine z_start (own := RX11) (cc := cX11_moves) (nL := 6) (ret := (some .int)) rfl (by decide) rfl (Nat.le_of_ble_eq_true rfl) (L := [(0, .ref (za B 0)), (1, .int v1), (2, .int v2)]) rfl (fun G h hr => ?_)
  rw [f_X11_moves] at hf
  refine z_aload_n h 0 dX11_moves_0 rfl (rfl : 0 + 1 = 1) ?_
  refine z_iload_n h 1 dX11_moves_1 rfl (rfl : 1 + 1 = 2) ?_
  refine z_iload_n h 2 dX11_moves_2 rfl (rfl : 2 + 1 = 3) ?_
  obtain ⟨q1, e2, hf⟩ := zbind hf
  refine z_goF (z_runV (C := RX11) (T := TX11) (N := 13) (ci := 10) h [.int v1, .int v2] [] zyX11_canRead (c_X11_canRead B I J hJ v1 v2 _ _ e2) gX11_moves_X11_canRead rfl rfl rfl zrX11_moves_X11_canRead rfl (Nat.le_of_ble_eq_true rfl) ⟨Nat.zero_le _, Nat.zero_le _⟩ rfl dX11_moves_3) rfl ?_
  refine z_if_ne (pc' := 9) h 11 dX11_moves_6 (by decide) rfl (fun c3 => ?_) (fun c3 => ?_)
  · have hf := zitf c3 hf
    refine z_aload_n h 0 dX11_moves_11 rfl (rfl : 11 + 1 = 12) ?_
    refine z_iload_n h 1 dX11_moves_12 rfl (rfl : 12 + 1 = 13) ?_
    refine z_iload_n h 2 dX11_moves_13 rfl (rfl : 13 + 1 = 14) ?_
    obtain ⟨q4, e5, hf⟩ := zbind hf
    refine z_goFv (z_runV (C := RX11) (T := TX11) (N := 13) (ci := 10) h [.int v1, .int v2] [] zyX11_read (c_X11_read B q1.2 J hJ v1 v2 _ e5) gX11_moves_X11_read rfl rfl rfl zrX11_moves_X11_read rfl (Nat.le_of_ble_eq_true rfl) ⟨Nat.zero_le _, Nat.zero_le _⟩ rfl dX11_moves_14) rfl ?_
    refine z_aload_n h 0 dX11_moves_17 rfl (rfl : 17 + 1 = 18) ?_
    refine z_getr (ci := 10) (C := RX11) (T := TX11) (N := 13) h 12 39 ((hJ.1 0 12 (by decide)).trans rfl) rfl rfl (fun _ hq => List.mem_cons_of_mem _ (List.mem_append_left _ (List.mem_append_left _ (List.mem_append_left _ (List.mem_append_left _ (List.mem_append_left _ (List.mem_append_left _ (List.mem_append_left _ (List.mem_append_left _ (List.mem_append_left _ (List.mem_append_right _ hq))))))))))) (by decide) (List.mem_of_getElem? (i := 1) rfl) rfl dX11_moves_18 (rfl : 18 + 3 = 21) ?_
    refine z_get (ci := 5) (C := RX5) (T := TX5) (N := 17) h 14 rfl rfl (fun _ hq => List.mem_cons_of_mem _ (List.mem_append_left _ (List.mem_append_left _ (List.mem_append_left _ (List.mem_append_left _ (List.mem_append_left _ (List.mem_append_left _ (List.mem_append_left _ (List.mem_append_left _ (List.mem_append_right _ hq)))))))))) (by decide) (List.mem_of_getElem? (i := 2) rfl) rfl dX11_moves_21 (rfl : 21 + 3 = 24) ?_
    refine z_istore_n h [(3, .int (q4 39 14)), (0, .ref (za B 0)), (1, .int v1), (2, .int v2)] dX11_moves_24 (by decide) rfl (rfl : 24 + 1 = 25) ?_
    refine z_iconst h 0 dX11_moves_25 (by decide) (rfl : 25 + 1 = 26) ?_
    refine z_istore h [(4, .int 0), (3, .int (q4 39 14)), (0, .ref (za B 0)), (1, .int v1), (2, .int v2)] dX11_moves_26 (by decide) rfl (rfl : 26 + 2 = 28) ?_
    refine z_iconst h 0 dX11_moves_28 (by decide) (rfl : 28 + 1 = 29) ?_
    refine z_istore h [(5, .int 0), (4, .int 0), (3, .int (q4 39 14)), (0, .ref (za B 0)), (1, .int v1), (2, .int v2)] dX11_moves_29 (by decide) rfl (rfl : 29 + 2 = 31) ?_
    have loop_31_7 : ∀ (n : Nat) (x4_31 : Int32) (x5_31 : Int32) (I31 : zM) (q : (Int32 × zM) ⊕ (Int32 × Int32 × zM)), f_X11_moves_31 J v1 v2 (q4 39 14) n x4_31 x5_31 I31 = some q → (∀ a, q = .inl a → a = (r, I')) → (∀ a : Int32 × Int32 × zM, q = .inr a → Z B G zKW (a.2.2) (J) (0, 0) 73 [(0, .ref (za B 0)), (1, .int v1), (2, .int v2), (3, .int (q4 39 14)), (4, .int a.1), (5, .int a.2.1)] []) → Z B G zKW I31 J (0, 0) 31 [(0, .ref (za B 0)), (1, .int v1), (2, .int v2), (3, .int (q4 39 14)), (4, .int x4_31), (5, .int x5_31)] [] := by
      intro n; induction n with
      | zero => intro x4_31 x5_31 I31 q hf; exact absurd hf (by rw [f_X11_moves_31]; exact fun z => by cases z)
      | succ n ih =>
        intro x4_31 x5_31 I31 q hf hP hE; rw [f_X11_moves_31] at hf
        refine z_iload h 5 dX11_moves_31 rfl (rfl : 31 + 2 = 33) ?_
        refine z_iconst h 1 dX11_moves_33 (by decide) (rfl : 33 + 1 = 34) ?_
        refine z_iadd h dX11_moves_34 (rfl : 34 + 1 = 35) ?_
        refine z_aload_n h 0 dX11_moves_35 rfl (rfl : 35 + 1 = 36) ?_
        refine z_getr (ci := 10) (C := RX11) (T := TX11) (N := 13) h 7 33 ((hJ.1 0 7 (by decide)).trans rfl) rfl rfl (fun _ hq => List.mem_cons_of_mem _ (List.mem_append_left _ (List.mem_append_left _ (List.mem_append_left _ (List.mem_append_left _ (List.mem_append_left _ (List.mem_append_left _ (List.mem_append_left _ (List.mem_append_left _ (List.mem_append_left _ (List.mem_append_right _ hq))))))))))) (by decide) (List.mem_of_getElem? (i := 3) rfl) rfl dX11_moves_36 (rfl : 36 + 3 = 39) ?_
        refine z_iload_n h 2 dX11_moves_39 rfl (rfl : 39 + 1 = 40) ?_
        obtain ⟨b8, hf⟩ := zchk hf
        refine z_aldq h (zR 33 (Int32.toNatClampNeg v2)) (ze_6 hJ rfl (zin_lt b8)).1 rfl (by decide) rfl b8 dX11_moves_40 (rfl : 40 + 1 = 41) ?_
        refine z_get (ci := 4) (C := RX4) (T := TX4) (N := 2) h 1 (ze_6 hJ rfl (zin_lt b8)).2 rfl (fun _ hq => List.mem_cons_of_mem _ (List.mem_append_left _ (List.mem_append_left _ (List.mem_append_left _ (List.mem_append_left _ (List.mem_append_left _ (List.mem_append_left _ (List.mem_append_left _ (List.mem_append_right _ hq))))))))) (by decide) (List.mem_of_getElem? (i := 4) rfl) rfl dX11_moves_41 (rfl : 41 + 3 = 44) ?_
        refine z_icmp_ge (pc' := 47) h 73 dX11_moves_44 (by decide) rfl (fun c9 => ?_) (fun c9 => ?_)
        · have hf := zitt c9 hf
          exact hE (x4_31, x5_31, I31) (zsome hf).symm
        · have hf := zitf c9 hf
          refine z_iload h 4 dX11_moves_47 rfl (rfl : 47 + 2 = 49) ?_
          refine z_aload_n h 0 dX11_moves_49 rfl (rfl : 49 + 1 = 50) ?_
          refine z_aload_n h 0 dX11_moves_50 rfl (rfl : 50 + 1 = 51) ?_
          refine z_getr (ci := 10) (C := RX11) (T := TX11) (N := 13) h 7 33 ((hJ.1 0 7 (by decide)).trans rfl) rfl rfl (fun _ hq => List.mem_cons_of_mem _ (List.mem_append_left _ (List.mem_append_left _ (List.mem_append_left _ (List.mem_append_left _ (List.mem_append_left _ (List.mem_append_left _ (List.mem_append_left _ (List.mem_append_left _ (List.mem_append_left _ (List.mem_append_right _ hq))))))))))) (by decide) (List.mem_of_getElem? (i := 3) rfl) rfl dX11_moves_51 (rfl : 51 + 3 = 54) ?_
          refine z_iload_n h 2 dX11_moves_54 rfl (rfl : 54 + 1 = 55) ?_
          obtain ⟨b10, hf⟩ := zchk hf
          refine z_aldq h (zR 33 (Int32.toNatClampNeg v2)) (ze_6 hJ rfl (zin_lt b10)).1 rfl (by decide) rfl b10 dX11_moves_55 (rfl : 55 + 1 = 56) ?_
          refine z_iload h 5 dX11_moves_56 rfl (rfl : 56 + 2 = 58) ?_
          refine z_iload_n h 3 dX11_moves_58 rfl (rfl : 58 + 1 = 59) ?_
          obtain ⟨q11, e12, hf⟩ := zbind hf
          refine z_goF (z_runV (C := RX11) (T := TX11) (N := 13) (ci := 10) h [.ref (za B (zR 33 (Int32.toNatClampNeg v2))), .int x5_31, .int (q4 39 14)] [.int x4_31] zyX11_movedBy (c_X11_movedBy B I31 J hJ (zR 33 (Int32.toNatClampNeg v2)) ((ze_6 hJ rfl (zin_lt b10)).2) x5_31 (q4 39 14) _ _ e12) gX11_moves_X11_movedBy rfl rfl rfl zrX11_moves_X11_movedBy rfl (Nat.le_of_ble_eq_true rfl) ⟨Nat.zero_le _, Nat.zero_le _⟩ rfl dX11_moves_59) rfl ?_
          refine z_mmax h (List.mem_of_getElem? (i := 5) rfl) (List.mem_of_getElem? (i := 6) rfl) (List.mem_of_getElem? (i := 7) rfl) (List.mem_of_getElem? (i := 8) rfl) (by decide) ⟨Nat.zero_le _, Nat.zero_le _⟩ dX11_moves_62 (rfl : 62 + 3 = 65) ?_
          refine z_istore h [(4, .int (if x4_31 < q11.1 then q11.1 else x4_31)), (0, .ref (za B 0)), (1, .int v1), (2, .int v2), (3, .int (q4 39 14)), (5, .int x5_31)] dX11_moves_65 (by decide) rfl (rfl : 65 + 2 = 67) ?_
          refine z_iinc h 5 (x5_31 + 1) [(5, .int (x5_31 + 1)), (4, .int (if x4_31 < q11.1 then q11.1 else x4_31)), (0, .ref (za B 0)), (1, .int v1), (2, .int v2), (3, .int (q4 39 14))] dX11_moves_67 rfl rfl (by decide) rfl (rfl : 67 + 3 = 70) ?_
          refine z_goto (pc' := 31) h dX11_moves_70 (by decide) ?_
          refine z_sub (L' := [(0, .ref (za B 0)), (1, .int v1), (2, .int v2), (3, .int (q4 39 14)), (4, .int (if x4_31 < q11.1 then q11.1 else x4_31)), (5, .int (x5_31 + 1))]) [2, 3, 4, 5, 1, 0] rfl ?_
          exact ih (if x4_31 < q11.1 then q11.1 else x4_31) (x5_31 + 1) q11.2 _ hf hP hE
    refine z_sub (L' := [(0, .ref (za B 0)), (1, .int v1), (2, .int v2), (3, .int (q4 39 14)), (4, .int 0), (5, .int 0)]) [3, 4, 5, 2, 1, 0] rfl ?_
    obtain ⟨q6, e7, hf⟩ := zbind hf
    refine loop_31_7 _ 0 0 q4 q6 e7 (fun a ha => ?_) (fun a13 ha  => ?_)
    · have hf := zell ha hf
      exact zsome hf
    have hf := zelr ha hf
    clear ha loop_31_7
    refine z_iload h 4 dX11_moves_73 rfl (rfl : 73 + 2 = 75) ?_
    refine z_iret h hr dX11_moves_75 ?_
    exact ⟨congrArg Prod.fst (zsome hf), congrArg Prod.snd (zsome hf), rfl⟩
  · have hf := zitt c3 hf
    refine z_iconst h (-1) dX11_moves_9 (by decide) (rfl : 9 + 1 = 10) ?_
    refine z_iret h hr dX11_moves_10 ?_
    exact ⟨congrArg Prod.fst (zsome hf), congrArg Prod.snd (zsome hf), rfl⟩
noncomputable def f_X11_isSide (J : zJ) (v0 : Int32) (I : zM) : Option (Int32 × zM) := (if v0 < 0 then some ((0, I)) else (if 2 ≤ v0 then some ((0, I)) else some ((1, I))))
noncomputable abbrev rmX11_isSide : Room := { frames := 0, cells := 0, slots := 0, locals := 0 }
theorem zyX11_isSide : zY yX11_isSide wsX11_isSide cX11_isSide 1 (some .boolean) 1 := ⟨⟨_, rfl⟩, by decide +kernel⟩
set_option maxHeartbeats 1000000 in
set_option maxRecDepth 100000 in
theorem c_X11_isSide (B : zB) (I : zM) (J : zJ) (hJ : zJok J) (v0 : Int32) (r : Int32) (I' : zM) (hf : f_X11_isSide J v0 I = some (r, I')) : zCi B zKW I J yX11_isSide wsX11_isSide rmX11_isSide [.int v0] (fun r2 I2 J2 => r2 = r ∧ I2 = I' ∧ J2 = J) := by
  refine z_start (own := RX11) (cc := cX11_isSide) (nL := 1) (ret := (some .boolean)) rfl (by decide) rfl (Nat.le_of_ble_eq_true rfl) (L := [(0, .int v0)]) rfl (fun G h hr => ?_)
  rw [f_X11_isSide] at hf
  refine z_iload_n h 0 dX11_isSide_0 rfl (rfl : 0 + 1 = 1) ?_
  refine z_if_lt (pc' := 4) h 13 dX11_isSide_1 (by decide) rfl (fun c1 => ?_) (fun c1 => ?_)
  · have hf := zitt c1 hf
    refine z_iconst h 0 dX11_isSide_13 (by decide) (rfl : 13 + 1 = 14) ?_
    refine z_zret h hr dX11_isSide_14 (Or.inl rfl) ?_
    exact ⟨congrArg Prod.fst (zsome hf), congrArg Prod.snd (zsome hf), rfl⟩
  · have hf := zitf c1 hf
    refine z_iload_n h 0 dX11_isSide_4 rfl (rfl : 4 + 1 = 5) ?_
    refine z_iconst h 2 dX11_isSide_5 (by decide) (rfl : 5 + 1 = 6) ?_
    refine z_icmp_ge (pc' := 9) h 13 dX11_isSide_6 (by decide) rfl (fun c2 => ?_) (fun c2 => ?_)
    · have hf := zitt c2 hf
      refine z_iconst h 0 dX11_isSide_13 (by decide) (rfl : 13 + 1 = 14) ?_
      refine z_zret h hr dX11_isSide_14 (Or.inl rfl) ?_
      exact ⟨congrArg Prod.fst (zsome hf), congrArg Prod.snd (zsome hf), rfl⟩
    · have hf := zitf c2 hf
      refine z_iconst h 1 dX11_isSide_9 (by decide) (rfl : 9 + 1 = 10) ?_
      refine z_goto (pc' := 14) h dX11_isSide_10 (by decide) ?_
      refine z_zret h hr dX11_isSide_14 (Or.inr rfl) ?_
      exact ⟨congrArg Prod.fst (zsome hf), congrArg Prod.snd (zsome hf), rfl⟩
noncomputable def f_X11_think (J : zJ) (v1 : Int32) (v2 : Int32) (v3 : Int32) (v4 : Int32) (I : zM) : Option (Int32 × zM) := ((f_X11_isBargain J v1 I).bind fun q1 => (if q1.1 = 0 then some (((-1), q1.2)) else ((f_X11_isGap J v3 q1.2).bind fun q4 => (if q4.1 = 0 then some (((-1), q4.2)) else ((f_X11_isSide J v2 q4.2).bind fun q7 => (if q7.1 = 0 then some (((-2), q7.2)) else (if v4 < 0 then some (((-2), q7.2)) else (if v4 ≤ 5 then (if zin v1 8 = true then (if zin v2 2 = true then (if zin v3 6 = true then (if zin v1 8 = true then (if zin v2 2 = true then (if zin v3 6 = true then some ((q7.2 (zR (zR (zR 34 (Int32.toNatClampNeg v1)) 4) (Int32.toNatClampNeg v2)) (Int32.toNatClampNeg v3), zu q7.2 (zR (zR (zR 34 (Int32.toNatClampNeg v1)) 4) (Int32.toNatClampNeg v2)) (Int32.toNatClampNeg v3) v4)) else none) else none) else none) else none) else none) else none) else some (((-2), q7.2))))))))))
noncomputable abbrev rmX11_think : Room := { frames := 1, cells := 0, slots := 0, locals := 21 }
theorem zyX11_think : zY yX11_think wsX11_think cX11_think 6 (some .int) 4 := ⟨⟨_, rfl⟩, by decide +kernel⟩
theorem zrX11_think_X11_isBargain : zRm rmX11_isBargain rmX11_think 2 := ⟨rfl, rfl, by decide, by decide⟩
theorem zrX11_think_X11_isGap : zRm rmX11_isGap rmX11_think 1 := ⟨rfl, rfl, by decide, by decide⟩
theorem zrX11_think_X11_isSide : zRm rmX11_isSide rmX11_think 1 := ⟨rfl, rfl, by decide, by decide⟩
set_option maxHeartbeats 1000000 in
set_option maxRecDepth 100000 in
theorem c_X11_think (B : zB) (I : zM) (J : zJ) (hJ : zJok J) (v1 : Int32) (v2 : Int32) (v3 : Int32) (v4 : Int32) (r : Int32) (I' : zM) (hf : f_X11_think J v1 v2 v3 v4 I = some (r, I')) : zCi B zKW I J yX11_think wsX11_think rmX11_think [.ref (za B 0), .int v1, .int v2, .int v3, .int v4] (fun r2 I2 J2 => r2 = r ∧ I2 = I' ∧ J2 = J) := by
  refine z_start (own := RX11) (cc := cX11_think) (nL := 6) (ret := (some .int)) rfl (by decide) rfl (Nat.le_of_ble_eq_true rfl) (L := [(0, .ref (za B 0)), (1, .int v1), (2, .int v2), (3, .int v3), (4, .int v4)]) rfl (fun G h hr => ?_)
  rw [f_X11_think] at hf
  refine z_aload_n h 0 dX11_think_0 rfl (rfl : 0 + 1 = 1) ?_
  refine z_iload_n h 1 dX11_think_1 rfl (rfl : 1 + 1 = 2) ?_
  obtain ⟨q1, e2, hf⟩ := zbind hf
  refine z_goF (z_runV (C := RX11) (T := TX11) (N := 13) (ci := 10) h [.int v1] [] zyX11_isBargain (c_X11_isBargain B I J hJ v1 _ _ e2) gX11_think_X11_isBargain rfl rfl rfl zrX11_think_X11_isBargain rfl (Nat.le_of_ble_eq_true rfl) ⟨Nat.zero_le _, Nat.zero_le _⟩ rfl dX11_think_2) rfl ?_
  refine z_if_eq (pc' := 8) h 15 dX11_think_5 (by decide) rfl (fun c3 => ?_) (fun c3 => ?_)
  · have hf := zitt c3 hf
    refine z_iconst h (-1) dX11_think_15 (by decide) (rfl : 15 + 1 = 16) ?_
    refine z_iret h hr dX11_think_16 ?_
    exact ⟨congrArg Prod.fst (zsome hf), congrArg Prod.snd (zsome hf), rfl⟩
  · have hf := zitf c3 hf
    refine z_iload_n h 3 dX11_think_8 rfl (rfl : 8 + 1 = 9) ?_
    obtain ⟨q4, e5, hf⟩ := zbind hf
    refine z_goF (z_runS h [.int v3] [] zyX11_isGap (c_X11_isGap B q1.2 J hJ v3 _ _ e5) gX11_think_X11_isGap zrX11_think_X11_isGap rfl (Nat.le_of_ble_eq_true rfl) ⟨Nat.zero_le _, Nat.zero_le _⟩ rfl dX11_think_9) rfl ?_
    refine z_if_ne (pc' := 15) h 17 dX11_think_12 (by decide) rfl (fun c6 => ?_) (fun c6 => ?_)
    · have hf := zitf c6 hf
      refine z_iload_n h 2 dX11_think_17 rfl (rfl : 17 + 1 = 18) ?_
      obtain ⟨q7, e8, hf⟩ := zbind hf
      refine z_goF (z_runS h [.int v2] [] zyX11_isSide (c_X11_isSide B q4.2 J hJ v2 _ _ e8) gX11_think_X11_isSide zrX11_think_X11_isSide rfl (Nat.le_of_ble_eq_true rfl) ⟨Nat.zero_le _, Nat.zero_le _⟩ rfl dX11_think_18) rfl ?_
      refine z_if_eq (pc' := 24) h 35 dX11_think_21 (by decide) rfl (fun c9 => ?_) (fun c9 => ?_)
      · have hf := zitt c9 hf
        refine z_bipush h (-2) dX11_think_35 (by decide) (rfl : 35 + 2 = 37) ?_
        refine z_iret h hr dX11_think_37 ?_
        exact ⟨congrArg Prod.fst (zsome hf), congrArg Prod.snd (zsome hf), rfl⟩
      · have hf := zitf c9 hf
        refine z_iload h 4 dX11_think_24 rfl (rfl : 24 + 2 = 26) ?_
        refine z_if_lt (pc' := 29) h 35 dX11_think_26 (by decide) rfl (fun c10 => ?_) (fun c10 => ?_)
        · have hf := zitt c10 hf
          refine z_bipush h (-2) dX11_think_35 (by decide) (rfl : 35 + 2 = 37) ?_
          refine z_iret h hr dX11_think_37 ?_
          exact ⟨congrArg Prod.fst (zsome hf), congrArg Prod.snd (zsome hf), rfl⟩
        · have hf := zitf c10 hf
          refine z_iload h 4 dX11_think_29 rfl (rfl : 29 + 2 = 31) ?_
          refine z_iconst h 5 dX11_think_31 (by decide) (rfl : 31 + 1 = 32) ?_
          refine z_icmp_le (pc' := 35) h 38 dX11_think_32 (by decide) rfl (fun c11 => ?_) (fun c11 => ?_)
          · have hf := zitt c11 hf
            refine z_aload_n h 0 dX11_think_38 rfl (rfl : 38 + 1 = 39) ?_
            refine z_getr (ci := 10) (C := RX11) (T := TX11) (N := 13) h 8 34 ((hJ.1 0 8 (by decide)).trans rfl) rfl rfl (fun _ hq => List.mem_cons_of_mem _ (List.mem_append_left _ (List.mem_append_right _ hq))) (by decide) (List.mem_of_getElem? (i := 1) rfl) rfl dX11_think_39 (rfl : 39 + 3 = 42) ?_
            refine z_iload_n h 1 dX11_think_42 rfl (rfl : 42 + 1 = 43) ?_
            obtain ⟨b12, hf⟩ := zchk hf
            refine z_aldq h (zR 34 (Int32.toNatClampNeg v1)) (ze_3 hJ rfl (zin_lt b12)).1 rfl (by decide) rfl b12 dX11_think_43 (rfl : 43 + 1 = 44) ?_
            refine z_getr (ci := 0) (C := RX0) (T := TX0) (N := 5) h 4 (zR (zR 34 (Int32.toNatClampNeg v1)) 4) (zf_0_4 hJ (ze_3 hJ rfl (zin_lt b12)).2).1 (ze_3 hJ rfl (zin_lt b12)).2 rfl (fun _ hq => List.mem_cons_of_mem _ (List.mem_append_right _ hq)) (by decide) (List.mem_of_getElem? (i := 2) rfl) rfl dX11_think_44 (rfl : 44 + 3 = 47) ?_
            refine z_iload_n h 2 dX11_think_47 rfl (rfl : 47 + 1 = 48) ?_
            obtain ⟨b13, hf⟩ := zchk hf
            refine z_aldqA h (zR (zR (zR 34 (Int32.toNatClampNeg v1)) 4) (Int32.toNatClampNeg v2)) (ze_8 hJ (zf_0_4 hJ (ze_3 hJ rfl (zin_lt b12)).2).2 (zin_lt b13)).1 (zf_0_4 hJ (ze_3 hJ rfl (zin_lt b12)).2).2 (by decide) rfl b13 dX11_think_48 (rfl : 48 + 1 = 49) ?_
            refine z_iload_n h 3 dX11_think_49 rfl (rfl : 49 + 1 = 50) ?_
            obtain ⟨b14, hf⟩ := zchk hf
            refine z_iald h (ze_8 hJ (zf_0_4 hJ (ze_3 hJ rfl (zin_lt b12)).2).2 (zin_lt b13)).2 b14 dX11_think_50 (rfl : 50 + 1 = 51) ?_
            refine z_istore h [(5, .int (q7.2 (zR (zR (zR 34 (Int32.toNatClampNeg v1)) 4) (Int32.toNatClampNeg v2)) (Int32.toNatClampNeg v3))), (0, .ref (za B 0)), (1, .int v1), (2, .int v2), (3, .int v3), (4, .int v4)] dX11_think_51 (by decide) rfl (rfl : 51 + 2 = 53) ?_
            refine z_aload_n h 1 dX11_think_53 rfl (rfl : 53 + 1 = 54) ?_
            refine z_getr (ci := 10) (C := RX11) (T := TX11) (N := 13) h 8 34 ((hJ.1 0 8 (by decide)).trans rfl) rfl rfl (fun _ hq => List.mem_cons_of_mem _ (List.mem_append_left _ (List.mem_append_right _ hq))) (by decide) (List.mem_of_getElem? (i := 1) rfl) rfl dX11_think_54 (rfl : 54 + 3 = 57) ?_
            refine z_iload_n h 2 dX11_think_57 rfl (rfl : 57 + 1 = 58) ?_
            obtain ⟨b15, hf⟩ := zchk hf
            refine z_aldq h (zR 34 (Int32.toNatClampNeg v1)) (ze_3 hJ rfl (zin_lt b15)).1 rfl (by decide) rfl b15 dX11_think_58 (rfl : 58 + 1 = 59) ?_
            refine z_getr (ci := 0) (C := RX0) (T := TX0) (N := 5) h 4 (zR (zR 34 (Int32.toNatClampNeg v1)) 4) (zf_0_4 hJ (ze_3 hJ rfl (zin_lt b15)).2).1 (ze_3 hJ rfl (zin_lt b15)).2 rfl (fun _ hq => List.mem_cons_of_mem _ (List.mem_append_right _ hq)) (by decide) (List.mem_of_getElem? (i := 2) rfl) rfl dX11_think_59 (rfl : 59 + 3 = 62) ?_
            refine z_iload_n h 3 dX11_think_62 rfl (rfl : 62 + 1 = 63) ?_
            obtain ⟨b16, hf⟩ := zchk hf
            refine z_aldqA h (zR (zR (zR 34 (Int32.toNatClampNeg v1)) 4) (Int32.toNatClampNeg v2)) (ze_8 hJ (zf_0_4 hJ (ze_3 hJ rfl (zin_lt b15)).2).2 (zin_lt b16)).1 (zf_0_4 hJ (ze_3 hJ rfl (zin_lt b15)).2).2 (by decide) rfl b16 dX11_think_63 (rfl : 63 + 1 = 64) ?_
            refine z_iload_n h 4 dX11_think_64 rfl (rfl : 64 + 1 = 65) ?_
            refine z_iload h 5 dX11_think_65 rfl (rfl : 65 + 2 = 67) ?_
            obtain ⟨b17, hf⟩ := zchk hf
            refine z_iast h b17 (ze_8 hJ (zf_0_4 hJ (ze_3 hJ rfl (zin_lt b15)).2).2 (zin_lt b16)).2 dX11_think_67 (rfl : 67 + 1 = 68) ?_
            refine z_iload h 0 dX11_think_68 rfl (rfl : 68 + 2 = 70) ?_
            refine z_iret h hr dX11_think_70 ?_
            exact ⟨congrArg Prod.fst (zsome hf), congrArg Prod.snd (zsome hf), rfl⟩
          · have hf := zitf c11 hf
            refine z_bipush h (-2) dX11_think_35 (by decide) (rfl : 35 + 2 = 37) ?_
            refine z_iret h hr dX11_think_37 ?_
            exact ⟨congrArg Prod.fst (zsome hf), congrArg Prod.snd (zsome hf), rfl⟩
    · have hf := zitt c6 hf
      refine z_iconst h (-1) dX11_think_15 (by decide) (rfl : 15 + 1 = 16) ?_
      refine z_iret h hr dX11_think_16 ?_
      exact ⟨congrArg Prod.fst (zsome hf), congrArg Prod.snd (zsome hf), rfl⟩
noncomputable def f_X11_part (J : zJ) (v1 : Int32) (I : zM) : Option (Int32 × zM) := ((f_X11_isBargain J v1 I).bind fun q1 => (if q1.1 = 0 then some (((-1), q1.2)) else (if zin v1 8 = true then ((f_X0_parted J (zR 34 (Int32.toNatClampNeg v1)) q1.2).bind fun q5 => some ((q5.1, q5.2))) else none)))
noncomputable abbrev rmX11_part : Room := { frames := 1, cells := 0, slots := 0, locals := 22 }
theorem zyX11_part : zY yX11_part wsX11_part cX11_part 2 (some .int) 1 := ⟨⟨_, rfl⟩, by decide +kernel⟩
theorem zrX11_part_X0_parted : zRm rmX0_parted rmX11_part 3 := ⟨rfl, rfl, by decide, by decide⟩
theorem zrX11_part_X11_isBargain : zRm rmX11_isBargain rmX11_part 2 := ⟨rfl, rfl, by decide, by decide⟩
set_option maxHeartbeats 1000000 in
set_option maxRecDepth 100000 in
theorem c_X11_part (B : zB) (I : zM) (J : zJ) (hJ : zJok J) (v1 : Int32) (r : Int32) (I' : zM) (hf : f_X11_part J v1 I = some (r, I')) : zCi B zKW I J yX11_part wsX11_part rmX11_part [.ref (za B 0), .int v1] (fun r2 I2 J2 => r2 = r ∧ I2 = I' ∧ J2 = J) := by
  refine z_start (own := RX11) (cc := cX11_part) (nL := 2) (ret := (some .int)) rfl (by decide) rfl (Nat.le_of_ble_eq_true rfl) (L := [(0, .ref (za B 0)), (1, .int v1)]) rfl (fun G h hr => ?_)
  rw [f_X11_part] at hf
  refine z_aload_n h 0 dX11_part_0 rfl (rfl : 0 + 1 = 1) ?_
  refine z_iload_n h 1 dX11_part_1 rfl (rfl : 1 + 1 = 2) ?_
  obtain ⟨q1, e2, hf⟩ := zbind hf
  refine z_goF (z_runV (C := RX11) (T := TX11) (N := 13) (ci := 10) h [.int v1] [] zyX11_isBargain (c_X11_isBargain B I J hJ v1 _ _ e2) gX11_part_X11_isBargain rfl rfl rfl zrX11_part_X11_isBargain rfl (Nat.le_of_ble_eq_true rfl) ⟨Nat.zero_le _, Nat.zero_le _⟩ rfl dX11_part_2) rfl ?_
  refine z_if_ne (pc' := 8) h 10 dX11_part_5 (by decide) rfl (fun c3 => ?_) (fun c3 => ?_)
  · have hf := zitf c3 hf
    refine z_aload_n h 0 dX11_part_10 rfl (rfl : 10 + 1 = 11) ?_
    refine z_getr (ci := 10) (C := RX11) (T := TX11) (N := 13) h 8 34 ((hJ.1 0 8 (by decide)).trans rfl) rfl rfl (fun _ hq => List.mem_cons_of_mem _ (List.mem_append_left _ (List.mem_append_right _ hq))) (by decide) (List.mem_of_getElem? (i := 1) rfl) rfl dX11_part_11 (rfl : 11 + 3 = 14) ?_
    refine z_iload_n h 1 dX11_part_14 rfl (rfl : 14 + 1 = 15) ?_
    obtain ⟨b4, hf⟩ := zchk hf
    refine z_aldq h (zR 34 (Int32.toNatClampNeg v1)) (ze_3 hJ rfl (zin_lt b4)).1 rfl (by decide) rfl b4 dX11_part_15 (rfl : 15 + 1 = 16) ?_
    obtain ⟨q5, e6, hf⟩ := zbind hf
    refine z_goF (z_runV (C := RX0) (T := TX0) (N := 5) (ci := 0) h [] [] zyX0_parted (c_X0_parted B q1.2 J hJ (zR 34 (Int32.toNatClampNeg v1)) ((ze_3 hJ rfl (zin_lt b4)).2) _ _ e6) gX11_part_X0_parted rfl (ze_3 hJ rfl (zin_lt b4)).2 rfl zrX11_part_X0_parted rfl (Nat.le_of_ble_eq_true rfl) ⟨Nat.zero_le _, Nat.zero_le _⟩ rfl dX11_part_16) rfl ?_
    refine z_iret h hr dX11_part_19 ?_
    exact ⟨congrArg Prod.fst (zsome hf), congrArg Prod.snd (zsome hf), rfl⟩
  · have hf := zitt c3 hf
    refine z_iconst h (-1) dX11_part_8 (by decide) (rfl : 8 + 1 = 9) ?_
    refine z_iret h hr dX11_part_9 ?_
    exact ⟨congrArg Prod.fst (zsome hf), congrArg Prod.snd (zsome hf), rfl⟩
noncomputable def f_X11_far (J : zJ) (v1 : Int32) (v2 : Int32) (v3 : Int32) (I : zM) : Option (Int32 × zM) := ((f_X11_canRead J v1 v2 I).bind fun q1 => (if q1.1 = 0 then some (((-1), q1.2)) else ((f_X11_isSide J v3 q1.2).bind fun q4 => (if q4.1 = 0 then some (((-2), q4.2)) else ((f_X11_read J v1 v2 q4.2).bind fun q7 => (if zin v1 8 = true then ((f_X0_farFrom J (zR 34 (Int32.toNatClampNeg v1)) v3 (q7 39 14) q7).bind fun q10 => some ((q10.1, q10.2))) else none))))))
noncomputable abbrev rmX11_far : Room := { frames := 6, cells := 0, slots := 0, locals := 139 }
theorem zyX11_far : zY yX11_far wsX11_far cX11_far 4 (some .int) 3 := ⟨⟨_, rfl⟩, by decide +kernel⟩
theorem zrX11_far_X0_farFrom : zRm rmX0_farFrom rmX11_far 6 := ⟨rfl, rfl, by decide, by decide⟩
theorem zrX11_far_X11_canRead : zRm rmX11_canRead rmX11_far 3 := ⟨rfl, rfl, by decide, by decide⟩
theorem zrX11_far_X11_isSide : zRm rmX11_isSide rmX11_far 1 := ⟨rfl, rfl, by decide, by decide⟩
theorem zrX11_far_X11_read : zRm rmX11_read rmX11_far 3 := ⟨rfl, rfl, by decide, by decide⟩
set_option maxHeartbeats 1000000 in
set_option maxRecDepth 100000 in
theorem c_X11_far (B : zB) (I : zM) (J : zJ) (hJ : zJok J) (v1 : Int32) (v2 : Int32) (v3 : Int32) (r : Int32) (I' : zM) (hf : f_X11_far J v1 v2 v3 I = some (r, I')) : zCi B zKW I J yX11_far wsX11_far rmX11_far [.ref (za B 0), .int v1, .int v2, .int v3] (fun r2 I2 J2 => r2 = r ∧ I2 = I' ∧ J2 = J) := by
  refine z_start (own := RX11) (cc := cX11_far) (nL := 4) (ret := (some .int)) rfl (by decide) rfl (Nat.le_of_ble_eq_true rfl) (L := [(0, .ref (za B 0)), (1, .int v1), (2, .int v2), (3, .int v3)]) rfl (fun G h hr => ?_)
  rw [f_X11_far] at hf
  refine z_aload_n h 0 dX11_far_0 rfl (rfl : 0 + 1 = 1) ?_
  refine z_iload_n h 1 dX11_far_1 rfl (rfl : 1 + 1 = 2) ?_
  refine z_iload_n h 2 dX11_far_2 rfl (rfl : 2 + 1 = 3) ?_
  obtain ⟨q1, e2, hf⟩ := zbind hf
  refine z_goF (z_runV (C := RX11) (T := TX11) (N := 13) (ci := 10) h [.int v1, .int v2] [] zyX11_canRead (c_X11_canRead B I J hJ v1 v2 _ _ e2) gX11_far_X11_canRead rfl rfl rfl zrX11_far_X11_canRead rfl (Nat.le_of_ble_eq_true rfl) ⟨Nat.zero_le _, Nat.zero_le _⟩ rfl dX11_far_3) rfl ?_
  refine z_if_ne (pc' := 9) h 11 dX11_far_6 (by decide) rfl (fun c3 => ?_) (fun c3 => ?_)
  · have hf := zitf c3 hf
    refine z_iload_n h 3 dX11_far_11 rfl (rfl : 11 + 1 = 12) ?_
    obtain ⟨q4, e5, hf⟩ := zbind hf
    refine z_goF (z_runS h [.int v3] [] zyX11_isSide (c_X11_isSide B q1.2 J hJ v3 _ _ e5) gX11_far_X11_isSide zrX11_far_X11_isSide rfl (Nat.le_of_ble_eq_true rfl) ⟨Nat.zero_le _, Nat.zero_le _⟩ rfl dX11_far_12) rfl ?_
    refine z_if_ne (pc' := 18) h 21 dX11_far_15 (by decide) rfl (fun c6 => ?_) (fun c6 => ?_)
    · have hf := zitf c6 hf
      refine z_aload_n h 0 dX11_far_21 rfl (rfl : 21 + 1 = 22) ?_
      refine z_iload_n h 1 dX11_far_22 rfl (rfl : 22 + 1 = 23) ?_
      refine z_iload_n h 2 dX11_far_23 rfl (rfl : 23 + 1 = 24) ?_
      obtain ⟨q7, e8, hf⟩ := zbind hf
      refine z_goFv (z_runV (C := RX11) (T := TX11) (N := 13) (ci := 10) h [.int v1, .int v2] [] zyX11_read (c_X11_read B q4.2 J hJ v1 v2 _ e8) gX11_far_X11_read rfl rfl rfl zrX11_far_X11_read rfl (Nat.le_of_ble_eq_true rfl) ⟨Nat.zero_le _, Nat.zero_le _⟩ rfl dX11_far_24) rfl ?_
      refine z_aload_n h 0 dX11_far_27 rfl (rfl : 27 + 1 = 28) ?_
      refine z_getr (ci := 10) (C := RX11) (T := TX11) (N := 13) h 8 34 ((hJ.1 0 8 (by decide)).trans rfl) rfl rfl (fun _ hq => List.mem_cons_of_mem _ (List.mem_append_left _ (List.mem_append_left _ (List.mem_append_left _ (List.mem_append_left _ (List.mem_append_left _ (List.mem_append_left _ (List.mem_append_left _ (List.mem_append_left _ (List.mem_append_left _ (List.mem_append_right _ hq))))))))))) (by decide) (List.mem_of_getElem? (i := 1) rfl) rfl dX11_far_28 (rfl : 28 + 3 = 31) ?_
      refine z_iload_n h 1 dX11_far_31 rfl (rfl : 31 + 1 = 32) ?_
      obtain ⟨b9, hf⟩ := zchk hf
      refine z_aldq h (zR 34 (Int32.toNatClampNeg v1)) (ze_3 hJ rfl (zin_lt b9)).1 rfl (by decide) rfl b9 dX11_far_32 (rfl : 32 + 1 = 33) ?_
      refine z_iload_n h 3 dX11_far_33 rfl (rfl : 33 + 1 = 34) ?_
      refine z_aload_n h 0 dX11_far_34 rfl (rfl : 34 + 1 = 35) ?_
      refine z_getr (ci := 10) (C := RX11) (T := TX11) (N := 13) h 12 39 ((hJ.1 0 12 (by decide)).trans rfl) rfl rfl (fun _ hq => List.mem_cons_of_mem _ (List.mem_append_left _ (List.mem_append_left _ (List.mem_append_left _ (List.mem_append_left _ (List.mem_append_left _ (List.mem_append_left _ (List.mem_append_left _ (List.mem_append_left _ (List.mem_append_left _ (List.mem_append_right _ hq))))))))))) (by decide) (List.mem_of_getElem? (i := 2) rfl) rfl dX11_far_35 (rfl : 35 + 3 = 38) ?_
      refine z_get (ci := 5) (C := RX5) (T := TX5) (N := 17) h 14 rfl rfl (fun _ hq => List.mem_cons_of_mem _ (List.mem_append_left _ (List.mem_append_left _ (List.mem_append_left _ (List.mem_append_left _ (List.mem_append_left _ (List.mem_append_left _ (List.mem_append_left _ (List.mem_append_left _ (List.mem_append_right _ hq)))))))))) (by decide) (List.mem_of_getElem? (i := 3) rfl) rfl dX11_far_38 (rfl : 38 + 3 = 41) ?_
      obtain ⟨q10, e11, hf⟩ := zbind hf
      refine z_goF (z_runV (C := RX0) (T := TX0) (N := 5) (ci := 0) h [.int v3, .int (q7 39 14)] [] zyX0_farFrom (c_X0_farFrom B q7 J hJ (zR 34 (Int32.toNatClampNeg v1)) ((ze_3 hJ rfl (zin_lt b9)).2) v3 (q7 39 14) _ _ e11) gX11_far_X0_farFrom rfl (ze_3 hJ rfl (zin_lt b9)).2 rfl zrX11_far_X0_farFrom rfl (Nat.le_of_ble_eq_true rfl) ⟨Nat.zero_le _, Nat.zero_le _⟩ rfl dX11_far_41) rfl ?_
      refine z_iret h hr dX11_far_44 ?_
      exact ⟨congrArg Prod.fst (zsome hf), congrArg Prod.snd (zsome hf), rfl⟩
    · have hf := zitt c6 hf
      refine z_bipush h (-2) dX11_far_18 (by decide) (rfl : 18 + 2 = 20) ?_
      refine z_iret h hr dX11_far_20 ?_
      exact ⟨congrArg Prod.fst (zsome hf), congrArg Prod.snd (zsome hf), rfl⟩
  · have hf := zitt c3 hf
    refine z_iconst h (-1) dX11_far_9 (by decide) (rfl : 9 + 1 = 10) ?_
    refine z_iret h hr dX11_far_10 ?_
    exact ⟨congrArg Prod.fst (zsome hf), congrArg Prod.snd (zsome hf), rfl⟩
noncomputable def f_X11_isAsThought_12 (J : zJ) (r1 : Nat) (u2 : Int32) (u3 : Int32) : Nat → Int32 → zM → Option ((Int32 × zM) ⊕ (Int32 × zM))
  | 0, _, _ => none
  | n + 1, x4_12, I12 => (if 4 ≤ x4_12 then some (.inr (x4_12, I12)) else ((f_X11_bit J u3 x4_12 I12).bind fun q4 => (if q4.1 = 1 then (if zin x4_12 4 = true then ((f_X5_read J (zR 33 (Int32.toNatClampNeg x4_12)) q4.2).bind fun q8 => ((f_X0_farFrom J r1 0 (q8 39 14) q8).bind fun q10 => ((f_X0_farFrom J r1 1 (q10.2 39 14) q10.2).bind fun q12 => (if q10.1 ||| q12.1 = 0 then f_X11_isAsThought_12 J r1 u2 u3 n (x4_12 + 1) q12.2 else some (.inl ((0, q12.2))))))) else none) else f_X11_isAsThought_12 J r1 u2 u3 n (x4_12 + 1) q4.2)))
noncomputable def f_X11_isAsThought (J : zJ) (p1 : Nat) (v2 : Int32) (v3 : Int32) (I : zM) : Option (Int32 × zM) := ((f_X5_sayToo J p1 v2 I).bind fun q1 => ((f_X11_isAsThought_12 J p1 v2 v3 zF 0 q1).bind fun q => Sum.elim (fun a => some a) (fun a5 => some ((1, a5.2))) q))
noncomputable abbrev rmX11_isAsThought : Room := { frames := 5, cells := 0, slots := 0, locals := 117 }
theorem zyX11_isAsThought : zY yX11_isAsThought wsX11_isAsThought cX11_isAsThought 6 (some .boolean) 3 := ⟨⟨_, rfl⟩, by decide +kernel⟩
theorem zrX11_isAsThought_X0_farFrom : zRm rmX0_farFrom rmX11_isAsThought 6 := ⟨rfl, rfl, by decide, by decide⟩
theorem zrX11_isAsThought_X11_bit : zRm rmX11_bit rmX11_isAsThought 2 := ⟨rfl, rfl, by decide, by decide⟩
theorem zrX11_isAsThought_X5_read : zRm rmX5_read rmX11_isAsThought 4 := ⟨rfl, rfl, by decide, by decide⟩
theorem zrX11_isAsThought_X5_sayToo : zRm rmX5_sayToo rmX11_isAsThought 4 := ⟨rfl, rfl, by decide, by decide⟩
set_option maxHeartbeats 1000000 in
set_option maxRecDepth 100000 in
theorem c_X11_isAsThought (B : zB) (I : zM) (J : zJ) (hJ : zJok J) (p1 : Nat) (k1 : zKW[p1]? = some (.inr 0)) (v2 : Int32) (v3 : Int32) (r : Int32) (I' : zM) (hf : f_X11_isAsThought J p1 v2 v3 I = some (r, I')) : zCi B zKW I J yX11_isAsThought wsX11_isAsThought rmX11_isAsThought [.ref (za B 0), .ref (za B p1), .int v2, .int v3] (fun r2 I2 J2 => r2 = r ∧ I2 = I' ∧ J2 = J) := by
  refine z_start (own := RX11) (cc := cX11_isAsThought) (nL := 6) (ret := (some .boolean)) rfl (by decide) rfl (Nat.le_of_ble_eq_true rfl) (L := [(0, .ref (za B 0)), (1, .ref (za B p1)), (2, .int v2), (3, .int v3)]) rfl (fun G h hr => ?_)
  rw [f_X11_isAsThought] at hf
  refine z_aload_n h 0 dX11_isAsThought_0 rfl (rfl : 0 + 1 = 1) ?_
  refine z_getr (ci := 10) (C := RX11) (T := TX11) (N := 13) h 12 39 ((hJ.1 0 12 (by decide)).trans rfl) rfl rfl (fun _ hq => List.mem_cons_of_mem _ (List.mem_append_left _ (List.mem_append_left _ (List.mem_append_left _ (List.mem_append_left _ (List.mem_append_left _ (List.mem_append_left _ (List.mem_append_left _ (List.mem_append_left _ (List.mem_append_right _ hq)))))))))) (by decide) (List.mem_of_getElem? (i := 1) rfl) rfl dX11_isAsThought_1 (rfl : 1 + 3 = 4) ?_
  refine z_aload_n h 1 dX11_isAsThought_4 rfl (rfl : 4 + 1 = 5) ?_
  refine z_iload_n h 2 dX11_isAsThought_5 rfl (rfl : 5 + 1 = 6) ?_
  obtain ⟨q1, e2, hf⟩ := zbind hf
  refine z_goFv (z_runV (C := RX5) (T := TX5) (N := 17) (ci := 5) h [.ref (za B p1), .int v2] [] zyX5_sayToo (c_X5_sayToo B I J hJ p1 k1 v2 _ e2) gX11_isAsThought_X5_sayToo rfl rfl rfl zrX11_isAsThought_X5_sayToo rfl (Nat.le_of_ble_eq_true rfl) ⟨Nat.zero_le _, Nat.zero_le _⟩ rfl dX11_isAsThought_6) rfl ?_
  refine z_iconst h 0 dX11_isAsThought_9 (by decide) (rfl : 9 + 1 = 10) ?_
  refine z_istore h [(4, .int 0), (0, .ref (za B 0)), (1, .ref (za B p1)), (2, .int v2), (3, .int v3)] dX11_isAsThought_10 (by decide) rfl (rfl : 10 + 2 = 12) ?_
  have loop_12_4 : ∀ (n : Nat) (x4_12 : Int32) (I12 : zM) (q : (Int32 × zM) ⊕ (Int32 × zM)), f_X11_isAsThought_12 J p1 v2 v3 n x4_12 I12 = some q → (∀ a, q = .inl a → a = (r, I')) → (∀ a : Int32 × zM, q = .inr a → Z B G zKW (a.2) (J) (0, 0) 82 [(0, .ref (za B 0)), (1, .ref (za B p1)), (2, .int v2), (3, .int v3), (4, .int a.1)] []) → Z B G zKW I12 J (0, 0) 12 [(0, .ref (za B 0)), (1, .ref (za B p1)), (2, .int v2), (3, .int v3), (4, .int x4_12)] [] := by
    intro n; induction n with
    | zero => intro x4_12 I12 q hf; exact absurd hf (by rw [f_X11_isAsThought_12]; exact fun z => by cases z)
    | succ n ih =>
      intro x4_12 I12 q hf hP hE; rw [f_X11_isAsThought_12] at hf
      refine z_iload h 4 dX11_isAsThought_12 rfl (rfl : 12 + 2 = 14) ?_
      refine z_iconst h 4 dX11_isAsThought_14 (by decide) (rfl : 14 + 1 = 15) ?_
      refine z_icmp_ge (pc' := 18) h 82 dX11_isAsThought_15 (by decide) rfl (fun c5 => ?_) (fun c5 => ?_)
      · have hf := zitt c5 hf
        exact hE (x4_12, I12) (zsome hf).symm
      · have hf := zitf c5 hf
        refine z_iload_n h 3 dX11_isAsThought_18 rfl (rfl : 18 + 1 = 19) ?_
        refine z_iload h 4 dX11_isAsThought_19 rfl (rfl : 19 + 2 = 21) ?_
        obtain ⟨q6, e7, hf⟩ := zbind hf
        refine z_goF (z_runS h [.int v3, .int x4_12] [] zyX11_bit (c_X11_bit B I12 J hJ v3 x4_12 _ _ e7) gX11_isAsThought_X11_bit zrX11_isAsThought_X11_bit rfl (Nat.le_of_ble_eq_true rfl) ⟨Nat.zero_le _, Nat.zero_le _⟩ rfl dX11_isAsThought_21) rfl ?_
        refine z_iconst h 1 dX11_isAsThought_24 (by decide) (rfl : 24 + 1 = 25) ?_
        refine z_icmp_ne (pc' := 28) h 76 dX11_isAsThought_25 (by decide) rfl (fun c8 => ?_) (fun c8 => ?_)
        · have hf := zitf c8 hf
          refine z_iinc h 4 (x4_12 + 1) [(4, .int (x4_12 + 1)), (0, .ref (za B 0)), (1, .ref (za B p1)), (2, .int v2), (3, .int v3)] dX11_isAsThought_76 rfl rfl (by decide) rfl (rfl : 76 + 3 = 79) ?_
          refine z_goto (pc' := 12) h dX11_isAsThought_79 (by decide) ?_
          refine z_sub (L' := [(0, .ref (za B 0)), (1, .ref (za B p1)), (2, .int v2), (3, .int v3), (4, .int (x4_12 + 1))]) [1, 2, 3, 4, 0] rfl ?_
          exact ih (x4_12 + 1) q6.2 _ hf hP hE
        · have hf := zitt c8 hf
          refine z_aload_n h 0 dX11_isAsThought_28 rfl (rfl : 28 + 1 = 29) ?_
          refine z_getr (ci := 10) (C := RX11) (T := TX11) (N := 13) h 12 39 ((hJ.1 0 12 (by decide)).trans rfl) rfl rfl (fun _ hq => List.mem_cons_of_mem _ (List.mem_append_left _ (List.mem_append_left _ (List.mem_append_left _ (List.mem_append_left _ (List.mem_append_left _ (List.mem_append_left _ (List.mem_append_left _ (List.mem_append_left _ (List.mem_append_right _ hq)))))))))) (by decide) (List.mem_of_getElem? (i := 1) rfl) rfl dX11_isAsThought_29 (rfl : 29 + 3 = 32) ?_
          refine z_aload_n h 0 dX11_isAsThought_32 rfl (rfl : 32 + 1 = 33) ?_
          refine z_getr (ci := 10) (C := RX11) (T := TX11) (N := 13) h 7 33 ((hJ.1 0 7 (by decide)).trans rfl) rfl rfl (fun _ hq => List.mem_cons_of_mem _ (List.mem_append_left _ (List.mem_append_left _ (List.mem_append_left _ (List.mem_append_left _ (List.mem_append_left _ (List.mem_append_left _ (List.mem_append_left _ (List.mem_append_left _ (List.mem_append_right _ hq)))))))))) (by decide) (List.mem_of_getElem? (i := 2) rfl) rfl dX11_isAsThought_33 (rfl : 33 + 3 = 36) ?_
          refine z_iload h 4 dX11_isAsThought_36 rfl (rfl : 36 + 2 = 38) ?_
          obtain ⟨b9, hf⟩ := zchk hf
          refine z_aldq h (zR 33 (Int32.toNatClampNeg x4_12)) (ze_6 hJ rfl (zin_lt b9)).1 rfl (by decide) rfl b9 dX11_isAsThought_38 (rfl : 38 + 1 = 39) ?_
          obtain ⟨q10, e11, hf⟩ := zbind hf
          refine z_goFv (z_runV (C := RX5) (T := TX5) (N := 17) (ci := 5) h [.ref (za B (zR 33 (Int32.toNatClampNeg x4_12)))] [] zyX5_read (c_X5_read B q6.2 J hJ (zR 33 (Int32.toNatClampNeg x4_12)) ((ze_6 hJ rfl (zin_lt b9)).2) _ e11) gX11_isAsThought_X5_read rfl rfl rfl zrX11_isAsThought_X5_read rfl (Nat.le_of_ble_eq_true rfl) ⟨Nat.zero_le _, Nat.zero_le _⟩ rfl dX11_isAsThought_39) rfl ?_
          refine z_aload_n h 1 dX11_isAsThought_42 rfl (rfl : 42 + 1 = 43) ?_
          refine z_iconst h 0 dX11_isAsThought_43 (by decide) (rfl : 43 + 1 = 44) ?_
          refine z_aload_n h 0 dX11_isAsThought_44 rfl (rfl : 44 + 1 = 45) ?_
          refine z_getr (ci := 10) (C := RX11) (T := TX11) (N := 13) h 12 39 ((hJ.1 0 12 (by decide)).trans rfl) rfl rfl (fun _ hq => List.mem_cons_of_mem _ (List.mem_append_left _ (List.mem_append_left _ (List.mem_append_left _ (List.mem_append_left _ (List.mem_append_left _ (List.mem_append_left _ (List.mem_append_left _ (List.mem_append_left _ (List.mem_append_right _ hq)))))))))) (by decide) (List.mem_of_getElem? (i := 1) rfl) rfl dX11_isAsThought_45 (rfl : 45 + 3 = 48) ?_
          refine z_get (ci := 5) (C := RX5) (T := TX5) (N := 17) h 14 rfl rfl (fun _ hq => List.mem_cons_of_mem _ (List.mem_append_left _ (List.mem_append_left _ (List.mem_append_left _ (List.mem_append_left _ (List.mem_append_left _ (List.mem_append_left _ (List.mem_append_left _ (List.mem_append_right _ hq))))))))) (by decide) (List.mem_of_getElem? (i := 3) rfl) rfl dX11_isAsThought_48 (rfl : 48 + 3 = 51) ?_
          obtain ⟨q12, e13, hf⟩ := zbind hf
          refine z_goF (z_runV (C := RX0) (T := TX0) (N := 5) (ci := 0) h [.int 0, .int (q10 39 14)] [] zyX0_farFrom (c_X0_farFrom B q10 J hJ p1 k1 0 (q10 39 14) _ _ e13) gX11_isAsThought_X0_farFrom rfl k1 rfl zrX11_isAsThought_X0_farFrom rfl (Nat.le_of_ble_eq_true rfl) ⟨Nat.zero_le _, Nat.zero_le _⟩ rfl dX11_isAsThought_51) rfl ?_
          refine z_aload_n h 1 dX11_isAsThought_54 rfl (rfl : 54 + 1 = 55) ?_
          refine z_iconst h 1 dX11_isAsThought_55 (by decide) (rfl : 55 + 1 = 56) ?_
          refine z_aload_n h 0 dX11_isAsThought_56 rfl (rfl : 56 + 1 = 57) ?_
          refine z_getr (ci := 10) (C := RX11) (T := TX11) (N := 13) h 12 39 ((hJ.1 0 12 (by decide)).trans rfl) rfl rfl (fun _ hq => List.mem_cons_of_mem _ (List.mem_append_left _ (List.mem_append_left _ (List.mem_append_left _ (List.mem_append_left _ (List.mem_append_left _ (List.mem_append_left _ (List.mem_append_left _ (List.mem_append_left _ (List.mem_append_right _ hq)))))))))) (by decide) (List.mem_of_getElem? (i := 1) rfl) rfl dX11_isAsThought_57 (rfl : 57 + 3 = 60) ?_
          refine z_get (ci := 5) (C := RX5) (T := TX5) (N := 17) h 14 rfl rfl (fun _ hq => List.mem_cons_of_mem _ (List.mem_append_left _ (List.mem_append_left _ (List.mem_append_left _ (List.mem_append_left _ (List.mem_append_left _ (List.mem_append_left _ (List.mem_append_left _ (List.mem_append_right _ hq))))))))) (by decide) (List.mem_of_getElem? (i := 3) rfl) rfl dX11_isAsThought_60 (rfl : 60 + 3 = 63) ?_
          obtain ⟨q14, e15, hf⟩ := zbind hf
          refine z_goF (z_runV (C := RX0) (T := TX0) (N := 5) (ci := 0) h [.int 1, .int (q12.2 39 14)] [.int q12.1] zyX0_farFrom (c_X0_farFrom B q12.2 J hJ p1 k1 1 (q12.2 39 14) _ _ e15) gX11_isAsThought_X0_farFrom rfl k1 rfl zrX11_isAsThought_X0_farFrom rfl (Nat.le_of_ble_eq_true rfl) ⟨Nat.zero_le _, Nat.zero_le _⟩ rfl dX11_isAsThought_63) rfl ?_
          refine z_ior h dX11_isAsThought_66 (rfl : 66 + 1 = 67) ?_
          refine z_istore h [(5, .int (q12.1 ||| q14.1)), (0, .ref (za B 0)), (1, .ref (za B p1)), (2, .int v2), (3, .int v3), (4, .int x4_12)] dX11_isAsThought_67 (by decide) rfl (rfl : 67 + 2 = 69) ?_
          refine z_iload h 0 dX11_isAsThought_69 rfl (rfl : 69 + 2 = 71) ?_
          refine z_if_eq (pc' := 74) h 76 dX11_isAsThought_71 (by decide) rfl (fun c16 => ?_) (fun c16 => ?_)
          · have hf := zitt c16 hf
            refine z_iinc h 5 (x4_12 + 1) [(4, .int (x4_12 + 1)), (5, .int (q12.1 ||| q14.1)), (0, .ref (za B 0)), (1, .ref (za B p1)), (2, .int v2), (3, .int v3)] dX11_isAsThought_76 rfl rfl (by decide) rfl (rfl : 76 + 3 = 79) ?_
            refine z_goto (pc' := 12) h dX11_isAsThought_79 (by decide) ?_
            refine z_sub (L' := [(0, .ref (za B 0)), (1, .ref (za B p1)), (2, .int v2), (3, .int v3), (4, .int (x4_12 + 1))]) [2, 3, 4, 5, 0] rfl ?_
            exact ih (x4_12 + 1) q14.2 _ hf hP hE
          · have hf := zitf c16 hf
            refine z_iconst h 0 dX11_isAsThought_74 (by decide) (rfl : 74 + 1 = 75) ?_
            refine z_zret h hr dX11_isAsThought_75 (Or.inl rfl) ?_
            exact ⟨congrArg Prod.fst (hP _ (zsome hf).symm), congrArg Prod.snd (hP _ (zsome hf).symm), rfl⟩
  refine z_sub (L' := [(0, .ref (za B 0)), (1, .ref (za B p1)), (2, .int v2), (3, .int v3), (4, .int 0)]) [1, 2, 3, 4, 0] rfl ?_
  obtain ⟨q3, e4, hf⟩ := zbind hf
  refine loop_12_4 _ 0 q1 q3 e4 (fun a ha => ?_) (fun a17 ha  => ?_)
  · have hf := zell ha hf
    exact zsome hf
  have hf := zelr ha hf
  clear ha loop_12_4
  refine z_iconst h 1 dX11_isAsThought_82 (by decide) (rfl : 82 + 1 = 83) ?_
  refine z_zret h hr dX11_isAsThought_83 (Or.inr rfl) ?_
  exact ⟨congrArg Prod.fst (zsome hf), congrArg Prod.snd (zsome hf), rfl⟩
noncomputable def f_X11_words_64 (J : zJ) (u1 : Int32) (u2 : Int32) (u3 : Int32) (u4 : Int32) : Nat → Int32 → zM → Option ((Int32 × zM) ⊕ (Int32 × zM))
  | 0, _, _ => none
  | n + 1, x5_64, I64 => (if 64 ≤ x5_64 then some (.inr (x5_64, I64)) else ((f_J6_bitCount_0f7a4 J x5_64 I64).bind fun q14 => (if q14.1 = u4 then (if x5_64 &&& (u3 ^^^ ((-1) : Int32)) = 0 then (if zin u1 8 = true then ((f_X11_isAsThought J (zR 34 (Int32.toNatClampNeg u1)) x5_64 u2 q14.2).bind fun q19 => (if q19.1 = 0 then f_X11_words_64 J u1 u2 u3 u4 n (x5_64 + 1) q19.2 else some (.inl ((x5_64, q19.2))))) else none) else f_X11_words_64 J u1 u2 u3 u4 n (x5_64 + 1) q14.2) else f_X11_words_64 J u1 u2 u3 u4 n (x5_64 + 1) q14.2)))
noncomputable def f_X11_words_54 (J : zJ) (u1 : Int32) (u2 : Int32) (u3 : Int32) : Nat → Int32 → zM → Option ((Int32 × zM) ⊕ (Int32 × zM))
  | 0, _, _ => none
  | n + 1, x4_54, I54 => (if 6 < x4_54 then some (.inr (x4_54, I54)) else ((f_X11_words_64 J u1 u2 u3 x4_54 zF 0 I54).bind fun q => Sum.elim (fun a => some (.inl a)) (fun a15 => f_X11_words_54 J u1 u2 u3 n (x4_54 + 1) a15.2) q))
noncomputable def f_X11_words (J : zJ) (v1 : Int32) (v2 : Int32) (I : zM) : Option (Int32 × zM) := ((f_X11_isBargain J v1 I).bind fun q1 => (if q1.1 = 0 then some (((-1), q1.2)) else (if v2 < 1 then some (((-2), q1.2)) else (if v2 < 16 then (if zin v1 8 = true then ((f_X5_take J (zR 34 (Int32.toNatClampNeg v1)) 6 q1.2).bind fun q7 => (if zin v1 8 = true then ((f_X0_sayable J (zR 34 (Int32.toNatClampNeg v1)) q7).bind fun q10 => ((f_X11_words_54 J v1 v2 q10.1 zF 0 q10.2).bind fun q => Sum.elim (fun a => some a) (fun a14 => some (((-9), a14.2))) q)) else none)) else none) else some (((-2), q1.2))))))
noncomputable abbrev rmX11_words : Room := { frames := 6, cells := 0, slots := 0, locals := 142 }
theorem zyX11_words : zY yX11_words wsX11_words cX11_words 7 (some .int) 2 := ⟨⟨_, rfl⟩, by decide +kernel⟩
theorem zrX11_words_J6_bitCount_0f7a4 : zRm rmJ6_bitCount_0f7a4 rmX11_words 1 := ⟨rfl, rfl, by decide, by decide⟩
theorem zrX11_words_X0_sayable : zRm rmX0_sayable rmX11_words 3 := ⟨rfl, rfl, by decide, by decide⟩
theorem zrX11_words_X11_isAsThought : zRm rmX11_isAsThought rmX11_words 6 := ⟨rfl, rfl, by decide, by decide⟩
theorem zrX11_words_X11_isBargain : zRm rmX11_isBargain rmX11_words 2 := ⟨rfl, rfl, by decide, by decide⟩
theorem zrX11_words_X5_take : zRm rmX5_take rmX11_words 5 := ⟨rfl, rfl, by decide, by decide⟩
set_option maxHeartbeats 1000000 in
set_option maxRecDepth 100000 in
theorem c_X11_words (B : zB) (I : zM) (J : zJ) (hJ : zJok J) (v1 : Int32) (v2 : Int32) (r : Int32) (I' : zM) (hf : f_X11_words J v1 v2 I = some (r, I')) : zCi B zKW I J yX11_words wsX11_words rmX11_words [.ref (za B 0), .int v1, .int v2] (fun r2 I2 J2 => r2 = r ∧ I2 = I' ∧ J2 = J) := by
  refine z_start (own := RX11) (cc := cX11_words) (nL := 7) (ret := (some .int)) rfl (by decide) rfl (Nat.le_of_ble_eq_true rfl) (L := [(0, .ref (za B 0)), (1, .int v1), (2, .int v2)]) rfl (fun G h hr => ?_)
  rw [f_X11_words] at hf
  refine z_aload_n h 0 dX11_words_0 rfl (rfl : 0 + 1 = 1) ?_
  refine z_iload_n h 1 dX11_words_1 rfl (rfl : 1 + 1 = 2) ?_
  obtain ⟨q1, e2, hf⟩ := zbind hf
  refine z_goF (z_runV (C := RX11) (T := TX11) (N := 13) (ci := 10) h [.int v1] [] zyX11_isBargain (c_X11_isBargain B I J hJ v1 _ _ e2) gX11_words_X11_isBargain rfl rfl rfl zrX11_words_X11_isBargain rfl (Nat.le_of_ble_eq_true rfl) ⟨Nat.zero_le _, Nat.zero_le _⟩ rfl dX11_words_2) rfl ?_
  refine z_if_ne (pc' := 8) h 10 dX11_words_5 (by decide) rfl (fun c3 => ?_) (fun c3 => ?_)
  · have hf := zitf c3 hf
    refine z_iload_n h 2 dX11_words_10 rfl (rfl : 10 + 1 = 11) ?_
    refine z_iconst h 1 dX11_words_11 (by decide) (rfl : 11 + 1 = 12) ?_
    refine z_icmp_lt (pc' := 15) h 21 dX11_words_12 (by decide) rfl (fun c4 => ?_) (fun c4 => ?_)
    · have hf := zitt c4 hf
      refine z_bipush h (-2) dX11_words_21 (by decide) (rfl : 21 + 2 = 23) ?_
      refine z_iret h hr dX11_words_23 ?_
      exact ⟨congrArg Prod.fst (zsome hf), congrArg Prod.snd (zsome hf), rfl⟩
    · have hf := zitf c4 hf
      refine z_iload_n h 2 dX11_words_15 rfl (rfl : 15 + 1 = 16) ?_
      refine z_bipush h 16 dX11_words_16 (by decide) (rfl : 16 + 2 = 18) ?_
      refine z_icmp_lt (pc' := 21) h 24 dX11_words_18 (by decide) rfl (fun c5 => ?_) (fun c5 => ?_)
      · have hf := zitt c5 hf
        refine z_aload_n h 0 dX11_words_24 rfl (rfl : 24 + 1 = 25) ?_
        refine z_getr (ci := 10) (C := RX11) (T := TX11) (N := 13) h 12 39 ((hJ.1 0 12 (by decide)).trans rfl) rfl rfl (fun _ hq => List.mem_cons_of_mem _ (List.mem_append_left _ (List.mem_append_left _ (List.mem_append_left _ (List.mem_append_left _ (List.mem_append_left _ (List.mem_append_left _ (List.mem_append_left _ (List.mem_append_left _ (List.mem_append_left _ (List.mem_append_right _ hq))))))))))) (by decide) (List.mem_of_getElem? (i := 1) rfl) rfl dX11_words_25 (rfl : 25 + 3 = 28) ?_
        refine z_aload_n h 0 dX11_words_28 rfl (rfl : 28 + 1 = 29) ?_
        refine z_getr (ci := 10) (C := RX11) (T := TX11) (N := 13) h 8 34 ((hJ.1 0 8 (by decide)).trans rfl) rfl rfl (fun _ hq => List.mem_cons_of_mem _ (List.mem_append_left _ (List.mem_append_left _ (List.mem_append_left _ (List.mem_append_left _ (List.mem_append_left _ (List.mem_append_left _ (List.mem_append_left _ (List.mem_append_left _ (List.mem_append_left _ (List.mem_append_right _ hq))))))))))) (by decide) (List.mem_of_getElem? (i := 2) rfl) rfl dX11_words_29 (rfl : 29 + 3 = 32) ?_
        refine z_iload_n h 1 dX11_words_32 rfl (rfl : 32 + 1 = 33) ?_
        obtain ⟨b6, hf⟩ := zchk hf
        refine z_aldq h (zR 34 (Int32.toNatClampNeg v1)) (ze_3 hJ rfl (zin_lt b6)).1 rfl (by decide) rfl b6 dX11_words_33 (rfl : 33 + 1 = 34) ?_
        refine z_aload_n h 0 dX11_words_34 rfl (rfl : 34 + 1 = 35) ?_
        refine z_getr (ci := 10) (C := RX11) (T := TX11) (N := 13) h 2 6 ((hJ.1 0 2 (by decide)).trans rfl) rfl rfl (fun _ hq => List.mem_cons_of_mem _ (List.mem_append_left _ (List.mem_append_left _ (List.mem_append_left _ (List.mem_append_left _ (List.mem_append_left _ (List.mem_append_left _ (List.mem_append_left _ (List.mem_append_left _ (List.mem_append_left _ (List.mem_append_right _ hq))))))))))) (by decide) (List.mem_of_getElem? (i := 3) rfl) rfl dX11_words_35 (rfl : 35 + 3 = 38) ?_
        obtain ⟨q7, e8, hf⟩ := zbind hf
        refine z_goFv (z_runV (C := RX5) (T := TX5) (N := 17) (ci := 5) h [.ref (za B (zR 34 (Int32.toNatClampNeg v1))), .ref (za B 6)] [] zyX5_take (c_X5_take B q1.2 J hJ (zR 34 (Int32.toNatClampNeg v1)) ((ze_3 hJ rfl (zin_lt b6)).2) 6 rfl _ e8) gX11_words_X5_take rfl rfl rfl zrX11_words_X5_take rfl (Nat.le_of_ble_eq_true rfl) ⟨Nat.zero_le _, Nat.zero_le _⟩ rfl dX11_words_38) rfl ?_
        refine z_aload_n h 0 dX11_words_41 rfl (rfl : 41 + 1 = 42) ?_
        refine z_getr (ci := 10) (C := RX11) (T := TX11) (N := 13) h 8 34 ((hJ.1 0 8 (by decide)).trans rfl) rfl rfl (fun _ hq => List.mem_cons_of_mem _ (List.mem_append_left _ (List.mem_append_left _ (List.mem_append_left _ (List.mem_append_left _ (List.mem_append_left _ (List.mem_append_left _ (List.mem_append_left _ (List.mem_append_left _ (List.mem_append_left _ (List.mem_append_right _ hq))))))))))) (by decide) (List.mem_of_getElem? (i := 2) rfl) rfl dX11_words_42 (rfl : 42 + 3 = 45) ?_
        refine z_iload_n h 1 dX11_words_45 rfl (rfl : 45 + 1 = 46) ?_
        obtain ⟨b9, hf⟩ := zchk hf
        refine z_aldq h (zR 34 (Int32.toNatClampNeg v1)) (ze_3 hJ rfl (zin_lt b9)).1 rfl (by decide) rfl b9 dX11_words_46 (rfl : 46 + 1 = 47) ?_
        obtain ⟨q10, e11, hf⟩ := zbind hf
        refine z_goF (z_runV (C := RX0) (T := TX0) (N := 5) (ci := 0) h [] [] zyX0_sayable (c_X0_sayable B q7 J hJ (zR 34 (Int32.toNatClampNeg v1)) ((ze_3 hJ rfl (zin_lt b9)).2) _ _ e11) gX11_words_X0_sayable rfl (ze_3 hJ rfl (zin_lt b9)).2 rfl zrX11_words_X0_sayable rfl (Nat.le_of_ble_eq_true rfl) ⟨Nat.zero_le _, Nat.zero_le _⟩ rfl dX11_words_47) rfl ?_
        refine z_istore_n h [(3, .int q10.1), (0, .ref (za B 0)), (1, .int v1), (2, .int v2)] dX11_words_50 (by decide) rfl (rfl : 50 + 1 = 51) ?_
        refine z_iconst h 0 dX11_words_51 (by decide) (rfl : 51 + 1 = 52) ?_
        refine z_istore h [(4, .int 0), (3, .int q10.1), (0, .ref (za B 0)), (1, .int v1), (2, .int v2)] dX11_words_52 (by decide) rfl (rfl : 52 + 2 = 54) ?_
        have loop_54_13 : ∀ (n : Nat) (x4_54 : Int32) (I54 : zM) (q : (Int32 × zM) ⊕ (Int32 × zM)), f_X11_words_54 J v1 v2 q10.1 n x4_54 I54 = some q → (∀ a, q = .inl a → a = (r, I')) → (∀ a : Int32 × zM, q = .inr a → Z B G zKW (a.2) (J) (0, 0) 133 [(0, .ref (za B 0)), (1, .int v1), (2, .int v2), (3, .int q10.1), (4, .int a.1)] []) → Z B G zKW I54 J (0, 0) 54 [(0, .ref (za B 0)), (1, .int v1), (2, .int v2), (3, .int q10.1), (4, .int x4_54)] [] := by
          intro n; induction n with
          | zero => intro x4_54 I54 q hf; exact absurd hf (by rw [f_X11_words_54]; exact fun z => by cases z)
          | succ n ih =>
            intro x4_54 I54 q hf hP hE; rw [f_X11_words_54] at hf
            refine z_iload h 4 dX11_words_54 rfl (rfl : 54 + 2 = 56) ?_
            refine z_bipush h 6 dX11_words_56 (by decide) (rfl : 56 + 2 = 58) ?_
            refine z_icmp_gt (pc' := 61) h 133 dX11_words_58 (by decide) rfl (fun c14 => ?_) (fun c14 => ?_)
            · have hf := zitt c14 hf
              exact hE (x4_54, I54) (zsome hf).symm
            · have hf := zitf c14 hf
              refine z_iconst h 0 dX11_words_61 (by decide) (rfl : 61 + 1 = 62) ?_
              refine z_istore h [(5, .int 0), (0, .ref (za B 0)), (1, .int v1), (2, .int v2), (3, .int q10.1), (4, .int x4_54)] dX11_words_62 (by decide) rfl (rfl : 62 + 2 = 64) ?_
              have loop_64_16 : ∀ (n : Nat) (x5_64 : Int32) (I64 : zM) (q : (Int32 × zM) ⊕ (Int32 × zM)), f_X11_words_64 J v1 v2 q10.1 x4_54 n x5_64 I64 = some q → (∀ a, q = .inl a → a = (r, I')) → (∀ a : Int32 × zM, q = .inr a → Z B G zKW (a.2) (J) (0, 0) 127 [(0, .ref (za B 0)), (1, .int v1), (2, .int v2), (3, .int q10.1), (4, .int x4_54), (5, .int a.1)] []) → Z B G zKW I64 J (0, 0) 64 [(0, .ref (za B 0)), (1, .int v1), (2, .int v2), (3, .int q10.1), (4, .int x4_54), (5, .int x5_64)] [] := by
                intro n; induction n with
                | zero => intro x5_64 I64 q hf; exact absurd hf (by rw [f_X11_words_64]; exact fun z => by cases z)
                | succ n ih =>
                  intro x5_64 I64 q hf hP hE; rw [f_X11_words_64] at hf
                  refine z_iload h 5 dX11_words_64 rfl (rfl : 64 + 2 = 66) ?_
                  refine z_bipush h 64 dX11_words_66 (by decide) (rfl : 66 + 2 = 68) ?_
                  refine z_icmp_ge (pc' := 71) h 127 dX11_words_68 (by decide) rfl (fun c17 => ?_) (fun c17 => ?_)
                  · have hf := zitt c17 hf
                    exact hE (x5_64, I64) (zsome hf).symm
                  · have hf := zitf c17 hf
                    refine z_iload h 5 dX11_words_71 rfl (rfl : 71 + 2 = 73) ?_
                    obtain ⟨q18, e19, hf⟩ := zbind hf
                    refine z_goF (z_runS h [.int x5_64] [] zyJ6_bitCount_0f7a4 (c_J6_bitCount_0f7a4 B I64 J hJ x5_64 _ _ e19) gX11_words_J6_bitCount_0f7a4 zrX11_words_J6_bitCount_0f7a4 rfl (Nat.le_of_ble_eq_true rfl) ⟨Nat.zero_le _, Nat.zero_le _⟩ rfl dX11_words_73) rfl ?_
                    refine z_iload h 4 dX11_words_76 rfl (rfl : 76 + 2 = 78) ?_
                    refine z_icmp_ne (pc' := 81) h 94 dX11_words_78 (by decide) rfl (fun c20 => ?_) (fun c20 => ?_)
                    · have hf := zitf c20 hf
                      refine z_iconst h 0 dX11_words_94 (by decide) (rfl : 94 + 1 = 95) ?_
                      refine z_istore h [(6, .int 0), (0, .ref (za B 0)), (1, .int v1), (2, .int v2), (3, .int q10.1), (4, .int x4_54), (5, .int x5_64)] dX11_words_95 (by decide) rfl (rfl : 95 + 2 = 97) ?_
                      refine z_iload h 0 dX11_words_97 rfl (rfl : 97 + 2 = 99) ?_
                      refine z_if_eq (pc' := 102) h 121 dX11_words_99 (by decide) rfl (fun _ => ?_) (fun q => absurd q (by decide))
                      refine z_iinc h 6 (x5_64 + 1) [(5, .int (x5_64 + 1)), (6, .int 0), (0, .ref (za B 0)), (1, .int v1), (2, .int v2), (3, .int q10.1), (4, .int x4_54)] dX11_words_121 rfl rfl (by decide) rfl (rfl : 121 + 3 = 124) ?_
                      refine z_goto (pc' := 64) h dX11_words_124 (by decide) ?_
                      refine z_sub (L' := [(0, .ref (za B 0)), (1, .int v1), (2, .int v2), (3, .int q10.1), (4, .int x4_54), (5, .int (x5_64 + 1))]) [2, 3, 4, 5, 6, 0] rfl ?_
                      exact ih (x5_64 + 1) q18.2 _ hf hP hE
                    · have hf := zitt c20 hf
                      refine z_iload h 5 dX11_words_81 rfl (rfl : 81 + 2 = 83) ?_
                      refine z_iload_n h 3 dX11_words_83 rfl (rfl : 83 + 1 = 84) ?_
                      refine z_iconst h (-1) dX11_words_84 (by decide) (rfl : 84 + 1 = 85) ?_
                      refine z_ixor h dX11_words_85 (rfl : 85 + 1 = 86) ?_
                      refine z_iand h dX11_words_86 (rfl : 86 + 1 = 87) ?_
                      refine z_if_ne (pc' := 90) h 94 dX11_words_87 (by decide) rfl (fun c21 => ?_) (fun c21 => ?_)
                      · have hf := zitf c21 hf
                        refine z_iconst h 0 dX11_words_94 (by decide) (rfl : 94 + 1 = 95) ?_
                        refine z_istore h [(6, .int 0), (0, .ref (za B 0)), (1, .int v1), (2, .int v2), (3, .int q10.1), (4, .int x4_54), (5, .int x5_64)] dX11_words_95 (by decide) rfl (rfl : 95 + 2 = 97) ?_
                        refine z_iload h 0 dX11_words_97 rfl (rfl : 97 + 2 = 99) ?_
                        refine z_if_eq (pc' := 102) h 121 dX11_words_99 (by decide) rfl (fun _ => ?_) (fun q => absurd q (by decide))
                        refine z_iinc h 6 (x5_64 + 1) [(5, .int (x5_64 + 1)), (6, .int 0), (0, .ref (za B 0)), (1, .int v1), (2, .int v2), (3, .int q10.1), (4, .int x4_54)] dX11_words_121 rfl rfl (by decide) rfl (rfl : 121 + 3 = 124) ?_
                        refine z_goto (pc' := 64) h dX11_words_124 (by decide) ?_
                        refine z_sub (L' := [(0, .ref (za B 0)), (1, .int v1), (2, .int v2), (3, .int q10.1), (4, .int x4_54), (5, .int (x5_64 + 1))]) [2, 3, 4, 5, 6, 0] rfl ?_
                        exact ih (x5_64 + 1) q18.2 _ hf hP hE
                      · have hf := zitt c21 hf
                        refine z_iconst h 1 dX11_words_90 (by decide) (rfl : 90 + 1 = 91) ?_
                        refine z_goto (pc' := 95) h dX11_words_91 (by decide) ?_
                        refine z_istore h [(6, .int 1), (0, .ref (za B 0)), (1, .int v1), (2, .int v2), (3, .int q10.1), (4, .int x4_54), (5, .int x5_64)] dX11_words_95 (by decide) rfl (rfl : 95 + 2 = 97) ?_
                        refine z_iload h 0 dX11_words_97 rfl (rfl : 97 + 2 = 99) ?_
                        refine z_if_eq (pc' := 102) h 121 dX11_words_99 (by decide) rfl (fun q => absurd q (by decide)) (fun _ => ?_)
                        refine z_aload_n h 1 dX11_words_102 rfl (rfl : 102 + 1 = 103) ?_
                        refine z_aload_n h 1 dX11_words_103 rfl (rfl : 103 + 1 = 104) ?_
                        refine z_getr (ci := 10) (C := RX11) (T := TX11) (N := 13) h 8 34 ((hJ.1 0 8 (by decide)).trans rfl) rfl rfl (fun _ hq => List.mem_cons_of_mem _ (List.mem_append_left _ (List.mem_append_left _ (List.mem_append_left _ (List.mem_append_left _ (List.mem_append_left _ (List.mem_append_left _ (List.mem_append_left _ (List.mem_append_left _ (List.mem_append_left _ (List.mem_append_right _ hq))))))))))) (by decide) (List.mem_of_getElem? (i := 2) rfl) rfl dX11_words_104 (rfl : 104 + 3 = 107) ?_
                        refine z_iload_n h 2 dX11_words_107 rfl (rfl : 107 + 1 = 108) ?_
                        obtain ⟨b22, hf⟩ := zchk hf
                        refine z_aldq h (zR 34 (Int32.toNatClampNeg v1)) (ze_3 hJ rfl (zin_lt b22)).1 rfl (by decide) rfl b22 dX11_words_108 (rfl : 108 + 1 = 109) ?_
                        refine z_iload h 6 dX11_words_109 rfl (rfl : 109 + 2 = 111) ?_
                        refine z_iload_n h 3 dX11_words_111 rfl (rfl : 111 + 1 = 112) ?_
                        obtain ⟨q23, e24, hf⟩ := zbind hf
                        refine z_goF (z_runV (C := RX11) (T := TX11) (N := 13) (ci := 10) h [.ref (za B (zR 34 (Int32.toNatClampNeg v1))), .int x5_64, .int v2] [] zyX11_isAsThought (c_X11_isAsThought B q18.2 J hJ (zR 34 (Int32.toNatClampNeg v1)) ((ze_3 hJ rfl (zin_lt b22)).2) x5_64 v2 _ _ e24) gX11_words_X11_isAsThought rfl rfl rfl zrX11_words_X11_isAsThought rfl (Nat.le_of_ble_eq_true rfl) ⟨Nat.zero_le _, Nat.zero_le _⟩ rfl dX11_words_112) rfl ?_
                        refine z_if_eq (pc' := 118) h 121 dX11_words_115 (by decide) rfl (fun c25 => ?_) (fun c25 => ?_)
                        · have hf := zitt c25 hf
                          refine z_iinc h 6 (x5_64 + 1) [(5, .int (x5_64 + 1)), (6, .int 1), (0, .ref (za B 0)), (1, .int v1), (2, .int v2), (3, .int q10.1), (4, .int x4_54)] dX11_words_121 rfl rfl (by decide) rfl (rfl : 121 + 3 = 124) ?_
                          refine z_goto (pc' := 64) h dX11_words_124 (by decide) ?_
                          refine z_sub (L' := [(0, .ref (za B 0)), (1, .int v1), (2, .int v2), (3, .int q10.1), (4, .int x4_54), (5, .int (x5_64 + 1))]) [2, 3, 4, 5, 6, 0] rfl ?_
                          exact ih (x5_64 + 1) q23.2 _ hf hP hE
                        · have hf := zitf c25 hf
                          refine z_iload h 6 dX11_words_118 rfl (rfl : 118 + 2 = 120) ?_
                          refine z_iret h hr dX11_words_120 ?_
                          exact ⟨congrArg Prod.fst (hP _ (zsome hf).symm), congrArg Prod.snd (hP _ (zsome hf).symm), rfl⟩
              refine z_sub (L' := [(0, .ref (za B 0)), (1, .int v1), (2, .int v2), (3, .int q10.1), (4, .int x4_54), (5, .int 0)]) [1, 2, 3, 4, 5, 0] rfl ?_
              obtain ⟨q15, e16, hf⟩ := zbind hf
              refine loop_64_16 _ 0 I54 q15 e16 (fun a ha => ?_) (fun a26 ha  => ?_)
              · have hf := zell ha hf
                exact hP _ (zsome hf).symm
              have hf := zelr ha hf
              clear ha loop_64_16
              refine z_iinc h 4 (x4_54 + 1) [(4, .int (x4_54 + 1)), (0, .ref (za B 0)), (1, .int v1), (2, .int v2), (3, .int q10.1), (5, .int a26.1)] dX11_words_127 rfl rfl (by decide) rfl (rfl : 127 + 3 = 130) ?_
              refine z_goto (pc' := 54) h dX11_words_130 (by decide) ?_
              refine z_sub (L' := [(0, .ref (za B 0)), (1, .int v1), (2, .int v2), (3, .int q10.1), (4, .int (x4_54 + 1))]) [1, 2, 3, 4, 0] rfl ?_
              exact ih (x4_54 + 1) a26.2 _ hf hP hE
        refine z_sub (L' := [(0, .ref (za B 0)), (1, .int v1), (2, .int v2), (3, .int q10.1), (4, .int 0)]) [2, 3, 4, 1, 0] rfl ?_
        obtain ⟨q12, e13, hf⟩ := zbind hf
        refine loop_54_13 _ 0 q10.2 q12 e13 (fun a ha => ?_) (fun a27 ha  => ?_)
        · have hf := zell ha hf
          exact zsome hf
        have hf := zelr ha hf
        clear ha loop_54_13
        refine z_bipush h (-9) dX11_words_133 (by decide) (rfl : 133 + 2 = 135) ?_
        refine z_iret h hr dX11_words_135 ?_
        exact ⟨congrArg Prod.fst (zsome hf), congrArg Prod.snd (zsome hf), rfl⟩
      · have hf := zitf c5 hf
        refine z_bipush h (-2) dX11_words_21 (by decide) (rfl : 21 + 2 = 23) ?_
        refine z_iret h hr dX11_words_23 ?_
        exact ⟨congrArg Prod.fst (zsome hf), congrArg Prod.snd (zsome hf), rfl⟩
  · have hf := zitt c3 hf
    refine z_iconst h (-1) dX11_words_8 (by decide) (rfl : 8 + 1 = 9) ?_
    refine z_iret h hr dX11_words_9 ?_
    exact ⟨congrArg Prod.fst (zsome hf), congrArg Prod.snd (zsome hf), rfl⟩
noncomputable def f_X11_worthOf_22 (J : zJ) (u1 : Int32) (u2 : Int32) (u3 : Int32) : Nat → Int32 → Int32 → zM → Option ((Int32 × zM) ⊕ (Int32 × Int32 × zM))
  | 0, _, _, _ => none
  | n + 1, x4_22, x5_22, I22 => (if I22 0 9 ≤ x5_22 then some (.inr (x4_22, x5_22, I22)) else (if zin x5_22 8 = true then ((f_X0_commonThought J (zR 34 (Int32.toNatClampNeg x5_22)) u2 I22).bind fun q3 => (if q3.1 = 0 then f_X11_worthOf_22 J u1 u2 u3 n x4_22 (x5_22 + 1) q3.2 else (if zin x5_22 8 = true then ((f_X5_take J (zR 34 (Int32.toNatClampNeg x5_22)) 6 q3.2).bind fun q7 => (if zin u1 4 = true then ((f_X5_read J (zR 33 (Int32.toNatClampNeg u1)) q7).bind fun q10 => ((f_X11_valueAt J (q10 39 14) u2 q10).bind fun q12 => (if q12.1 = q3.1 then f_X11_worthOf_22 J u1 u2 u3 n (x4_22 + (1 : Int32)) (x5_22 + 1) q12.2 else f_X11_worthOf_22 J u1 u2 u3 n (x4_22 + (0 : Int32)) (x5_22 + 1) q12.2))) else none)) else none))) else none))
noncomputable def f_X11_worthOf (J : zJ) (v1 : Int32) (v2 : Int32) (v3 : Int32) (I : zM) : Option (Int32 × zM) := ((f_X11_worthOf_22 J v1 v2 v3 zF 0 0 (zu (zu I 39 3 v2) 39 4 v3)).bind fun q => Sum.elim (fun a => some a) (fun a3 => some ((a3.1, zu a3.2.2 39 3 (-9)))) q)
noncomputable abbrev rmX11_worthOf : Room := { frames := 5, cells := 0, slots := 0, locals := 117 }
theorem zyX11_worthOf : zY yX11_worthOf wsX11_worthOf cX11_worthOf 7 (some .int) 3 := ⟨⟨_, rfl⟩, by decide +kernel⟩
theorem zrX11_worthOf_X0_commonThought : zRm rmX0_commonThought rmX11_worthOf 2 := ⟨rfl, rfl, by decide, by decide⟩
theorem zrX11_worthOf_X11_valueAt : zRm rmX11_valueAt rmX11_worthOf 4 := ⟨rfl, rfl, by decide, by decide⟩
theorem zrX11_worthOf_X5_read : zRm rmX5_read rmX11_worthOf 4 := ⟨rfl, rfl, by decide, by decide⟩
theorem zrX11_worthOf_X5_take : zRm rmX5_take rmX11_worthOf 5 := ⟨rfl, rfl, by decide, by decide⟩
set_option maxHeartbeats 1000000 in
set_option maxRecDepth 100000 in
theorem c_X11_worthOf (B : zB) (I : zM) (J : zJ) (hJ : zJok J) (v1 : Int32) (v2 : Int32) (v3 : Int32) (r : Int32) (I' : zM) (hf : f_X11_worthOf J v1 v2 v3 I = some (r, I')) : zCi B zKW I J yX11_worthOf wsX11_worthOf rmX11_worthOf [.ref (za B 0), .int v1, .int v2, .int v3] (fun r2 I2 J2 => r2 = r ∧ I2 = I' ∧ J2 = J) := by
  refine z_start (own := RX11) (cc := cX11_worthOf) (nL := 7) (ret := (some .int)) rfl (by decide) rfl (Nat.le_of_ble_eq_true rfl) (L := [(0, .ref (za B 0)), (1, .int v1), (2, .int v2), (3, .int v3)]) rfl (fun G h hr => ?_)
  rw [f_X11_worthOf] at hf
  refine z_aload_n h 0 dX11_worthOf_0 rfl (rfl : 0 + 1 = 1) ?_
  refine z_getr (ci := 10) (C := RX11) (T := TX11) (N := 13) h 12 39 ((hJ.1 0 12 (by decide)).trans rfl) rfl rfl (fun _ hq => List.mem_cons_of_mem _ (List.mem_append_left _ (List.mem_append_left _ (List.mem_append_left _ (List.mem_append_left _ (List.mem_append_left _ (List.mem_append_left _ (List.mem_append_left _ (List.mem_append_left _ (List.mem_append_left _ (List.mem_append_right _ hq))))))))))) (by decide) (List.mem_of_getElem? (i := 1) rfl) rfl dX11_worthOf_1 (rfl : 1 + 3 = 4) ?_
  refine z_iload_n h 2 dX11_worthOf_4 rfl (rfl : 4 + 1 = 5) ?_
  refine z_put (ci := 5) (C := RX5) (T := TX5) (N := 17) h 3 tyX5 tyX5_ok nmX5 rfl rfl (fun _ hq => List.mem_cons_of_mem _ (List.mem_append_left _ (List.mem_append_left _ (List.mem_append_left _ (List.mem_append_left _ (List.mem_append_left _ (List.mem_append_left _ (List.mem_append_left _ (List.mem_append_left _ (List.mem_append_right _ hq)))))))))) (by decide) (List.mem_of_getElem? (i := 2) rfl) rfl rfl rfl dX11_worthOf_5 (rfl : 5 + 3 = 8) ?_
  refine z_aload_n h 0 dX11_worthOf_8 rfl (rfl : 8 + 1 = 9) ?_
  refine z_getr (ci := 10) (C := RX11) (T := TX11) (N := 13) h 12 39 ((hJ.1 0 12 (by decide)).trans rfl) rfl rfl (fun _ hq => List.mem_cons_of_mem _ (List.mem_append_left _ (List.mem_append_left _ (List.mem_append_left _ (List.mem_append_left _ (List.mem_append_left _ (List.mem_append_left _ (List.mem_append_left _ (List.mem_append_left _ (List.mem_append_left _ (List.mem_append_right _ hq))))))))))) (by decide) (List.mem_of_getElem? (i := 1) rfl) rfl dX11_worthOf_9 (rfl : 9 + 3 = 12) ?_
  refine z_iload_n h 3 dX11_worthOf_12 rfl (rfl : 12 + 1 = 13) ?_
  refine z_put (ci := 5) (C := RX5) (T := TX5) (N := 17) h 4 tyX5 tyX5_ok nmX5 rfl rfl (fun _ hq => List.mem_cons_of_mem _ (List.mem_append_left _ (List.mem_append_left _ (List.mem_append_left _ (List.mem_append_left _ (List.mem_append_left _ (List.mem_append_left _ (List.mem_append_left _ (List.mem_append_left _ (List.mem_append_right _ hq)))))))))) (by decide) (List.mem_of_getElem? (i := 3) rfl) rfl rfl rfl dX11_worthOf_13 (rfl : 13 + 3 = 16) ?_
  refine z_iconst h 0 dX11_worthOf_16 (by decide) (rfl : 16 + 1 = 17) ?_
  refine z_istore h [(4, .int 0), (0, .ref (za B 0)), (1, .int v1), (2, .int v2), (3, .int v3)] dX11_worthOf_17 (by decide) rfl (rfl : 17 + 2 = 19) ?_
  refine z_iconst h 0 dX11_worthOf_19 (by decide) (rfl : 19 + 1 = 20) ?_
  refine z_istore h [(5, .int 0), (4, .int 0), (0, .ref (za B 0)), (1, .int v1), (2, .int v2), (3, .int v3)] dX11_worthOf_20 (by decide) rfl (rfl : 20 + 2 = 22) ?_
  have loop_22_2 : ∀ (n : Nat) (x4_22 : Int32) (x5_22 : Int32) (I22 : zM) (q : (Int32 × zM) ⊕ (Int32 × Int32 × zM)), f_X11_worthOf_22 J v1 v2 v3 n x4_22 x5_22 I22 = some q → (∀ a, q = .inl a → a = (r, I')) → (∀ a : Int32 × Int32 × zM, q = .inr a → Z B G zKW (a.2.2) (J) (0, 0) 112 [(0, .ref (za B 0)), (1, .int v1), (2, .int v2), (3, .int v3), (4, .int a.1), (5, .int a.2.1)] []) → Z B G zKW I22 J (0, 0) 22 [(0, .ref (za B 0)), (1, .int v1), (2, .int v2), (3, .int v3), (4, .int x4_22), (5, .int x5_22)] [] := by
    intro n; induction n with
    | zero => intro x4_22 x5_22 I22 q hf; exact absurd hf (by rw [f_X11_worthOf_22]; exact fun z => by cases z)
    | succ n ih =>
      intro x4_22 x5_22 I22 q hf hP hE; rw [f_X11_worthOf_22] at hf
      refine z_iload h 5 dX11_worthOf_22 rfl (rfl : 22 + 2 = 24) ?_
      refine z_aload_n h 0 dX11_worthOf_24 rfl (rfl : 24 + 1 = 25) ?_
      refine z_get (ci := 10) (C := RX11) (T := TX11) (N := 13) h 9 rfl rfl (fun _ hq => List.mem_cons_of_mem _ (List.mem_append_left _ (List.mem_append_left _ (List.mem_append_left _ (List.mem_append_left _ (List.mem_append_left _ (List.mem_append_left _ (List.mem_append_left _ (List.mem_append_left _ (List.mem_append_left _ (List.mem_append_right _ hq))))))))))) (by decide) (List.mem_of_getElem? (i := 4) rfl) rfl dX11_worthOf_25 (rfl : 25 + 3 = 28) ?_
      refine z_icmp_ge (pc' := 31) h 112 dX11_worthOf_28 (by decide) rfl (fun c3 => ?_) (fun c3 => ?_)
      · have hf := zitt c3 hf
        exact hE (x4_22, x5_22, I22) (zsome hf).symm
      · have hf := zitf c3 hf
        refine z_aload_n h 0 dX11_worthOf_31 rfl (rfl : 31 + 1 = 32) ?_
        refine z_getr (ci := 10) (C := RX11) (T := TX11) (N := 13) h 8 34 ((hJ.1 0 8 (by decide)).trans rfl) rfl rfl (fun _ hq => List.mem_cons_of_mem _ (List.mem_append_left _ (List.mem_append_left _ (List.mem_append_left _ (List.mem_append_left _ (List.mem_append_left _ (List.mem_append_left _ (List.mem_append_left _ (List.mem_append_left _ (List.mem_append_left _ (List.mem_append_right _ hq))))))))))) (by decide) (List.mem_of_getElem? (i := 5) rfl) rfl dX11_worthOf_32 (rfl : 32 + 3 = 35) ?_
        refine z_iload h 5 dX11_worthOf_35 rfl (rfl : 35 + 2 = 37) ?_
        obtain ⟨b4, hf⟩ := zchk hf
        refine z_aldq h (zR 34 (Int32.toNatClampNeg x5_22)) (ze_3 hJ rfl (zin_lt b4)).1 rfl (by decide) rfl b4 dX11_worthOf_37 (rfl : 37 + 1 = 38) ?_
        refine z_iload_n h 2 dX11_worthOf_38 rfl (rfl : 38 + 1 = 39) ?_
        obtain ⟨q5, e6, hf⟩ := zbind hf
        refine z_goF (z_runV (C := RX0) (T := TX0) (N := 5) (ci := 0) h [.int v2] [] zyX0_commonThought (c_X0_commonThought B I22 J hJ (zR 34 (Int32.toNatClampNeg x5_22)) ((ze_3 hJ rfl (zin_lt b4)).2) v2 _ _ e6) gX11_worthOf_X0_commonThought rfl (ze_3 hJ rfl (zin_lt b4)).2 rfl zrX11_worthOf_X0_commonThought rfl (Nat.le_of_ble_eq_true rfl) ⟨Nat.zero_le _, Nat.zero_le _⟩ rfl dX11_worthOf_39) rfl ?_
        refine z_istore h [(6, .int q5.1), (0, .ref (za B 0)), (1, .int v1), (2, .int v2), (3, .int v3), (4, .int x4_22), (5, .int x5_22)] dX11_worthOf_42 (by decide) rfl (rfl : 42 + 2 = 44) ?_
        refine z_iload h 0 dX11_worthOf_44 rfl (rfl : 44 + 2 = 46) ?_
        refine z_if_eq (pc' := 49) h 106 dX11_worthOf_46 (by decide) rfl (fun c7 => ?_) (fun c7 => ?_)
        · have hf := zitt c7 hf
          refine z_iinc h 6 (x5_22 + 1) [(5, .int (x5_22 + 1)), (6, .int q5.1), (0, .ref (za B 0)), (1, .int v1), (2, .int v2), (3, .int v3), (4, .int x4_22)] dX11_worthOf_106 rfl rfl (by decide) rfl (rfl : 106 + 3 = 109) ?_
          refine z_goto (pc' := 22) h dX11_worthOf_109 (by decide) ?_
          refine z_sub (L' := [(0, .ref (za B 0)), (1, .int v1), (2, .int v2), (3, .int v3), (4, .int x4_22), (5, .int (x5_22 + 1))]) [2, 3, 4, 5, 6, 0] rfl ?_
          exact ih x4_22 (x5_22 + 1) q5.2 _ hf hP hE
        · have hf := zitf c7 hf
          refine z_aload_n h 1 dX11_worthOf_49 rfl (rfl : 49 + 1 = 50) ?_
          refine z_getr (ci := 10) (C := RX11) (T := TX11) (N := 13) h 12 39 ((hJ.1 0 12 (by decide)).trans rfl) rfl rfl (fun _ hq => List.mem_cons_of_mem _ (List.mem_append_left _ (List.mem_append_left _ (List.mem_append_left _ (List.mem_append_left _ (List.mem_append_left _ (List.mem_append_left _ (List.mem_append_left _ (List.mem_append_left _ (List.mem_append_left _ (List.mem_append_right _ hq))))))))))) (by decide) (List.mem_of_getElem? (i := 1) rfl) rfl dX11_worthOf_50 (rfl : 50 + 3 = 53) ?_
          refine z_aload_n h 1 dX11_worthOf_53 rfl (rfl : 53 + 1 = 54) ?_
          refine z_getr (ci := 10) (C := RX11) (T := TX11) (N := 13) h 8 34 ((hJ.1 0 8 (by decide)).trans rfl) rfl rfl (fun _ hq => List.mem_cons_of_mem _ (List.mem_append_left _ (List.mem_append_left _ (List.mem_append_left _ (List.mem_append_left _ (List.mem_append_left _ (List.mem_append_left _ (List.mem_append_left _ (List.mem_append_left _ (List.mem_append_left _ (List.mem_append_right _ hq))))))))))) (by decide) (List.mem_of_getElem? (i := 5) rfl) rfl dX11_worthOf_54 (rfl : 54 + 3 = 57) ?_
          refine z_iload h 6 dX11_worthOf_57 rfl (rfl : 57 + 2 = 59) ?_
          obtain ⟨b8, hf⟩ := zchk hf
          refine z_aldq h (zR 34 (Int32.toNatClampNeg x5_22)) (ze_3 hJ rfl (zin_lt b8)).1 rfl (by decide) rfl b8 dX11_worthOf_59 (rfl : 59 + 1 = 60) ?_
          refine z_aload_n h 1 dX11_worthOf_60 rfl (rfl : 60 + 1 = 61) ?_
          refine z_getr (ci := 10) (C := RX11) (T := TX11) (N := 13) h 2 6 ((hJ.1 0 2 (by decide)).trans rfl) rfl rfl (fun _ hq => List.mem_cons_of_mem _ (List.mem_append_left _ (List.mem_append_left _ (List.mem_append_left _ (List.mem_append_left _ (List.mem_append_left _ (List.mem_append_left _ (List.mem_append_left _ (List.mem_append_left _ (List.mem_append_left _ (List.mem_append_right _ hq))))))))))) (by decide) (List.mem_of_getElem? (i := 6) rfl) rfl dX11_worthOf_61 (rfl : 61 + 3 = 64) ?_
          obtain ⟨q9, e10, hf⟩ := zbind hf
          refine z_goFv (z_runV (C := RX5) (T := TX5) (N := 17) (ci := 5) h [.ref (za B (zR 34 (Int32.toNatClampNeg x5_22))), .ref (za B 6)] [] zyX5_take (c_X5_take B q5.2 J hJ (zR 34 (Int32.toNatClampNeg x5_22)) ((ze_3 hJ rfl (zin_lt b8)).2) 6 rfl _ e10) gX11_worthOf_X5_take rfl rfl rfl zrX11_worthOf_X5_take rfl (Nat.le_of_ble_eq_true rfl) ⟨Nat.zero_le _, Nat.zero_le _⟩ rfl dX11_worthOf_64) rfl ?_
          refine z_aload_n h 1 dX11_worthOf_67 rfl (rfl : 67 + 1 = 68) ?_
          refine z_getr (ci := 10) (C := RX11) (T := TX11) (N := 13) h 12 39 ((hJ.1 0 12 (by decide)).trans rfl) rfl rfl (fun _ hq => List.mem_cons_of_mem _ (List.mem_append_left _ (List.mem_append_left _ (List.mem_append_left _ (List.mem_append_left _ (List.mem_append_left _ (List.mem_append_left _ (List.mem_append_left _ (List.mem_append_left _ (List.mem_append_left _ (List.mem_append_right _ hq))))))))))) (by decide) (List.mem_of_getElem? (i := 1) rfl) rfl dX11_worthOf_68 (rfl : 68 + 3 = 71) ?_
          refine z_aload_n h 1 dX11_worthOf_71 rfl (rfl : 71 + 1 = 72) ?_
          refine z_getr (ci := 10) (C := RX11) (T := TX11) (N := 13) h 7 33 ((hJ.1 0 7 (by decide)).trans rfl) rfl rfl (fun _ hq => List.mem_cons_of_mem _ (List.mem_append_left _ (List.mem_append_left _ (List.mem_append_left _ (List.mem_append_left _ (List.mem_append_left _ (List.mem_append_left _ (List.mem_append_left _ (List.mem_append_left _ (List.mem_append_left _ (List.mem_append_right _ hq))))))))))) (by decide) (List.mem_of_getElem? (i := 7) rfl) rfl dX11_worthOf_72 (rfl : 72 + 3 = 75) ?_
          refine z_iload_n h 2 dX11_worthOf_75 rfl (rfl : 75 + 1 = 76) ?_
          obtain ⟨b11, hf⟩ := zchk hf
          refine z_aldq h (zR 33 (Int32.toNatClampNeg v1)) (ze_6 hJ rfl (zin_lt b11)).1 rfl (by decide) rfl b11 dX11_worthOf_76 (rfl : 76 + 1 = 77) ?_
          obtain ⟨q12, e13, hf⟩ := zbind hf
          refine z_goFv (z_runV (C := RX5) (T := TX5) (N := 17) (ci := 5) h [.ref (za B (zR 33 (Int32.toNatClampNeg v1)))] [] zyX5_read (c_X5_read B q9 J hJ (zR 33 (Int32.toNatClampNeg v1)) ((ze_6 hJ rfl (zin_lt b11)).2) _ e13) gX11_worthOf_X5_read rfl rfl rfl zrX11_worthOf_X5_read rfl (Nat.le_of_ble_eq_true rfl) ⟨Nat.zero_le _, Nat.zero_le _⟩ rfl dX11_worthOf_77) rfl ?_
          refine z_iload h 5 dX11_worthOf_80 rfl (rfl : 80 + 2 = 82) ?_
          refine z_aload_n h 1 dX11_worthOf_82 rfl (rfl : 82 + 1 = 83) ?_
          refine z_getr (ci := 10) (C := RX11) (T := TX11) (N := 13) h 12 39 ((hJ.1 0 12 (by decide)).trans rfl) rfl rfl (fun _ hq => List.mem_cons_of_mem _ (List.mem_append_left _ (List.mem_append_left _ (List.mem_append_left _ (List.mem_append_left _ (List.mem_append_left _ (List.mem_append_left _ (List.mem_append_left _ (List.mem_append_left _ (List.mem_append_left _ (List.mem_append_right _ hq))))))))))) (by decide) (List.mem_of_getElem? (i := 1) rfl) rfl dX11_worthOf_83 (rfl : 83 + 3 = 86) ?_
          refine z_get (ci := 5) (C := RX5) (T := TX5) (N := 17) h 14 rfl rfl (fun _ hq => List.mem_cons_of_mem _ (List.mem_append_left _ (List.mem_append_left _ (List.mem_append_left _ (List.mem_append_left _ (List.mem_append_left _ (List.mem_append_left _ (List.mem_append_left _ (List.mem_append_left _ (List.mem_append_right _ hq)))))))))) (by decide) (List.mem_of_getElem? (i := 8) rfl) rfl dX11_worthOf_86 (rfl : 86 + 3 = 89) ?_
          refine z_iload_n h 3 dX11_worthOf_89 rfl (rfl : 89 + 1 = 90) ?_
          obtain ⟨q14, e15, hf⟩ := zbind hf
          refine z_goF (z_runS h [.int (q12 39 14), .int v2] [.int x4_22] zyX11_valueAt (c_X11_valueAt B q12 J hJ (q12 39 14) v2 _ _ e15) gX11_worthOf_X11_valueAt zrX11_worthOf_X11_valueAt rfl (Nat.le_of_ble_eq_true rfl) ⟨Nat.zero_le _, Nat.zero_le _⟩ rfl dX11_worthOf_90) rfl ?_
          refine z_iload h 0 dX11_worthOf_93 rfl (rfl : 93 + 2 = 95) ?_
          refine z_icmp_ne (pc' := 98) h 102 dX11_worthOf_95 (by decide) rfl (fun c16 => ?_) (fun c16 => ?_)
          · have hf := zitf c16 hf
            refine z_iconst h 0 dX11_worthOf_102 (by decide) (rfl : 102 + 1 = 103) ?_
            refine z_iadd h dX11_worthOf_103 (rfl : 103 + 1 = 104) ?_
            refine z_istore h [(4, .int (x4_22 + (0 : Int32))), (6, .int q5.1), (0, .ref (za B 0)), (1, .int v1), (2, .int v2), (3, .int v3), (5, .int x5_22)] dX11_worthOf_104 (by decide) rfl (rfl : 104 + 2 = 106) ?_
            refine z_iinc h 6 (x5_22 + 1) [(5, .int (x5_22 + 1)), (4, .int (x4_22 + (0 : Int32))), (6, .int q5.1), (0, .ref (za B 0)), (1, .int v1), (2, .int v2), (3, .int v3)] dX11_worthOf_106 rfl rfl (by decide) rfl (rfl : 106 + 3 = 109) ?_
            refine z_goto (pc' := 22) h dX11_worthOf_109 (by decide) ?_
            refine z_sub (L' := [(0, .ref (za B 0)), (1, .int v1), (2, .int v2), (3, .int v3), (4, .int (x4_22 + (0 : Int32))), (5, .int (x5_22 + 1))]) [3, 4, 5, 6, 1, 0] rfl ?_
            exact ih (x4_22 + (0 : Int32)) (x5_22 + 1) q14.2 _ hf hP hE
          · have hf := zitt c16 hf
            refine z_iconst h 1 dX11_worthOf_98 (by decide) (rfl : 98 + 1 = 99) ?_
            refine z_goto (pc' := 103) h dX11_worthOf_99 (by decide) ?_
            refine z_iadd h dX11_worthOf_103 (rfl : 103 + 1 = 104) ?_
            refine z_istore h [(4, .int (x4_22 + (1 : Int32))), (6, .int q5.1), (0, .ref (za B 0)), (1, .int v1), (2, .int v2), (3, .int v3), (5, .int x5_22)] dX11_worthOf_104 (by decide) rfl (rfl : 104 + 2 = 106) ?_
            refine z_iinc h 6 (x5_22 + 1) [(5, .int (x5_22 + 1)), (4, .int (x4_22 + (1 : Int32))), (6, .int q5.1), (0, .ref (za B 0)), (1, .int v1), (2, .int v2), (3, .int v3)] dX11_worthOf_106 rfl rfl (by decide) rfl (rfl : 106 + 3 = 109) ?_
            refine z_goto (pc' := 22) h dX11_worthOf_109 (by decide) ?_
            refine z_sub (L' := [(0, .ref (za B 0)), (1, .int v1), (2, .int v2), (3, .int v3), (4, .int (x4_22 + (1 : Int32))), (5, .int (x5_22 + 1))]) [3, 4, 5, 6, 1, 0] rfl ?_
            exact ih (x4_22 + (1 : Int32)) (x5_22 + 1) q14.2 _ hf hP hE
  refine z_sub (L' := [(0, .ref (za B 0)), (1, .int v1), (2, .int v2), (3, .int v3), (4, .int 0), (5, .int 0)]) [2, 3, 4, 5, 1, 0] rfl ?_
  obtain ⟨q1, e2, hf⟩ := zbind hf
  refine loop_22_2 _ 0 0 (zu (zu I 39 3 v2) 39 4 v3) q1 e2 (fun a ha => ?_) (fun a17 ha  => ?_)
  · have hf := zell ha hf
    exact zsome hf
  have hf := zelr ha hf
  clear ha loop_22_2
  refine z_aload_n h 0 dX11_worthOf_112 rfl (rfl : 112 + 1 = 113) ?_
  refine z_getr (ci := 10) (C := RX11) (T := TX11) (N := 13) h 12 39 ((hJ.1 0 12 (by decide)).trans rfl) rfl rfl (fun _ hq => List.mem_cons_of_mem _ (List.mem_append_left _ (List.mem_append_left _ (List.mem_append_left _ (List.mem_append_left _ (List.mem_append_left _ (List.mem_append_left _ (List.mem_append_left _ (List.mem_append_left _ (List.mem_append_left _ (List.mem_append_right _ hq))))))))))) (by decide) (List.mem_of_getElem? (i := 1) rfl) rfl dX11_worthOf_113 (rfl : 113 + 3 = 116) ?_
  refine z_bipush h (-9) dX11_worthOf_116 (by decide) (rfl : 116 + 2 = 118) ?_
  refine z_put (ci := 5) (C := RX5) (T := TX5) (N := 17) h 3 tyX5 tyX5_ok nmX5 rfl rfl (fun _ hq => List.mem_cons_of_mem _ (List.mem_append_left _ (List.mem_append_left _ (List.mem_append_left _ (List.mem_append_left _ (List.mem_append_left _ (List.mem_append_left _ (List.mem_append_left _ (List.mem_append_left _ (List.mem_append_right _ hq)))))))))) (by decide) (List.mem_of_getElem? (i := 2) rfl) rfl rfl rfl dX11_worthOf_118 (rfl : 118 + 3 = 121) ?_
  refine z_iload h 4 dX11_worthOf_121 rfl (rfl : 121 + 2 = 123) ?_
  refine z_iret h hr dX11_worthOf_123 ?_
  exact ⟨congrArg Prod.fst (zsome hf), congrArg Prod.snd (zsome hf), rfl⟩
noncomputable def f_X11_worth (J : zJ) (v1 : Int32) (v2 : Int32) (v3 : Int32) (I : zM) : Option (Int32 × zM) := ((f_X11_isOrder J v1 I).bind fun q1 => (if q1.1 = 0 then some (((-1), q1.2)) else ((f_X11_isGap J v2 q1.2).bind fun q4 => (if q4.1 = 0 then some (((-1), q4.2)) else ((f_X11_isValue J v3 q4.2).bind fun q7 => (if q7.1 = 0 then some (((-2), q7.2)) else ((f_X11_worthOf J v1 v2 v3 q7.2).bind fun q10 => some ((q10.1, q10.2)))))))))
noncomputable abbrev rmX11_worth : Room := { frames := 6, cells := 0, slots := 0, locals := 143 }
theorem zyX11_worth : zY yX11_worth wsX11_worth cX11_worth 4 (some .int) 3 := ⟨⟨_, rfl⟩, by decide +kernel⟩
theorem zrX11_worth_X11_isGap : zRm rmX11_isGap rmX11_worth 1 := ⟨rfl, rfl, by decide, by decide⟩
theorem zrX11_worth_X11_isOrder : zRm rmX11_isOrder rmX11_worth 1 := ⟨rfl, rfl, by decide, by decide⟩
theorem zrX11_worth_X11_isValue : zRm rmX11_isValue rmX11_worth 1 := ⟨rfl, rfl, by decide, by decide⟩
theorem zrX11_worth_X11_worthOf : zRm rmX11_worthOf rmX11_worth 7 := ⟨rfl, rfl, by decide, by decide⟩
set_option maxHeartbeats 1000000 in
set_option maxRecDepth 100000 in
theorem c_X11_worth (B : zB) (I : zM) (J : zJ) (hJ : zJok J) (v1 : Int32) (v2 : Int32) (v3 : Int32) (r : Int32) (I' : zM) (hf : f_X11_worth J v1 v2 v3 I = some (r, I')) : zCi B zKW I J yX11_worth wsX11_worth rmX11_worth [.ref (za B 0), .int v1, .int v2, .int v3] (fun r2 I2 J2 => r2 = r ∧ I2 = I' ∧ J2 = J) := by
  refine z_start (own := RX11) (cc := cX11_worth) (nL := 4) (ret := (some .int)) rfl (by decide) rfl (Nat.le_of_ble_eq_true rfl) (L := [(0, .ref (za B 0)), (1, .int v1), (2, .int v2), (3, .int v3)]) rfl (fun G h hr => ?_)
  rw [f_X11_worth] at hf
  refine z_iload_n h 1 dX11_worth_0 rfl (rfl : 0 + 1 = 1) ?_
  obtain ⟨q1, e2, hf⟩ := zbind hf
  refine z_goF (z_runS h [.int v1] [] zyX11_isOrder (c_X11_isOrder B I J hJ v1 _ _ e2) gX11_worth_X11_isOrder zrX11_worth_X11_isOrder rfl (Nat.le_of_ble_eq_true rfl) ⟨Nat.zero_le _, Nat.zero_le _⟩ rfl dX11_worth_1) rfl ?_
  refine z_if_eq (pc' := 7) h 14 dX11_worth_4 (by decide) rfl (fun c3 => ?_) (fun c3 => ?_)
  · have hf := zitt c3 hf
    refine z_iconst h (-1) dX11_worth_14 (by decide) (rfl : 14 + 1 = 15) ?_
    refine z_iret h hr dX11_worth_15 ?_
    exact ⟨congrArg Prod.fst (zsome hf), congrArg Prod.snd (zsome hf), rfl⟩
  · have hf := zitf c3 hf
    refine z_iload_n h 2 dX11_worth_7 rfl (rfl : 7 + 1 = 8) ?_
    obtain ⟨q4, e5, hf⟩ := zbind hf
    refine z_goF (z_runS h [.int v2] [] zyX11_isGap (c_X11_isGap B q1.2 J hJ v2 _ _ e5) gX11_worth_X11_isGap zrX11_worth_X11_isGap rfl (Nat.le_of_ble_eq_true rfl) ⟨Nat.zero_le _, Nat.zero_le _⟩ rfl dX11_worth_8) rfl ?_
    refine z_if_ne (pc' := 14) h 16 dX11_worth_11 (by decide) rfl (fun c6 => ?_) (fun c6 => ?_)
    · have hf := zitf c6 hf
      refine z_iload_n h 3 dX11_worth_16 rfl (rfl : 16 + 1 = 17) ?_
      obtain ⟨q7, e8, hf⟩ := zbind hf
      refine z_goF (z_runS h [.int v3] [] zyX11_isValue (c_X11_isValue B q4.2 J hJ v3 _ _ e8) gX11_worth_X11_isValue zrX11_worth_X11_isValue rfl (Nat.le_of_ble_eq_true rfl) ⟨Nat.zero_le _, Nat.zero_le _⟩ rfl dX11_worth_17) rfl ?_
      refine z_if_ne (pc' := 23) h 26 dX11_worth_20 (by decide) rfl (fun c9 => ?_) (fun c9 => ?_)
      · have hf := zitf c9 hf
        refine z_aload_n h 0 dX11_worth_26 rfl (rfl : 26 + 1 = 27) ?_
        refine z_iload_n h 1 dX11_worth_27 rfl (rfl : 27 + 1 = 28) ?_
        refine z_iload_n h 2 dX11_worth_28 rfl (rfl : 28 + 1 = 29) ?_
        refine z_iload_n h 3 dX11_worth_29 rfl (rfl : 29 + 1 = 30) ?_
        obtain ⟨q10, e11, hf⟩ := zbind hf
        refine z_goF (z_runV (C := RX11) (T := TX11) (N := 13) (ci := 10) h [.int v1, .int v2, .int v3] [] zyX11_worthOf (c_X11_worthOf B q7.2 J hJ v1 v2 v3 _ _ e11) gX11_worth_X11_worthOf rfl rfl rfl zrX11_worth_X11_worthOf rfl (Nat.le_of_ble_eq_true rfl) ⟨Nat.zero_le _, Nat.zero_le _⟩ rfl dX11_worth_30) rfl ?_
        refine z_iret h hr dX11_worth_33 ?_
        exact ⟨congrArg Prod.fst (zsome hf), congrArg Prod.snd (zsome hf), rfl⟩
      · have hf := zitt c9 hf
        refine z_bipush h (-2) dX11_worth_23 (by decide) (rfl : 23 + 2 = 25) ?_
        refine z_iret h hr dX11_worth_25 ?_
        exact ⟨congrArg Prod.fst (zsome hf), congrArg Prod.snd (zsome hf), rfl⟩
    · have hf := zitt c6 hf
      refine z_iconst h (-1) dX11_worth_14 (by decide) (rfl : 14 + 1 = 15) ?_
      refine z_iret h hr dX11_worth_15 ?_
      exact ⟨congrArg Prod.fst (zsome hf), congrArg Prod.snd (zsome hf), rfl⟩
noncomputable def f_X11_best_25 (J : zJ) (u1 : Int32) (u2 : Int32) : Nat → Int32 → Int32 → Int32 → zM → Option ((Int32 × zM) ⊕ (Int32 × Int32 × Int32 × zM))
  | 0, _, _, _, _ => none
  | n + 1, x3_25, x4_25, x5_25, I25 => (if zin u2 6 = true then (if I25 2 (Int32.toNatClampNeg u2) < x5_25 then some (.inr (x3_25, x4_25, x5_25, I25)) else ((f_X11_worthOf J u1 u2 x5_25 I25).bind fun q9 => (if q9.1 ≤ x4_25 then f_X11_best_25 J u1 u2 n x3_25 x4_25 (x5_25 + 1) q9.2 else f_X11_best_25 J u1 u2 n x5_25 q9.1 (x5_25 + 1) q9.2))) else none)
noncomputable def f_X11_best (J : zJ) (v1 : Int32) (v2 : Int32) (I : zM) : Option (Int32 × zM) := ((f_X11_isOrder J v1 I).bind fun q1 => (if q1.1 = 0 then some (((-1), q1.2)) else ((f_X11_isGap J v2 q1.2).bind fun q4 => (if q4.1 = 0 then some (((-1), q4.2)) else ((f_X11_best_25 J v1 v2 zF (-9) (-1) 1 q4.2).bind fun q => Sum.elim (fun a => some a) (fun a9 => some ((a9.1, a9.2.2.2))) q)))))
noncomputable abbrev rmX11_best : Room := { frames := 6, cells := 0, slots := 0, locals := 143 }
theorem zyX11_best : zY yX11_best wsX11_best cX11_best 7 (some .int) 2 := ⟨⟨_, rfl⟩, by decide +kernel⟩
theorem zrX11_best_X11_isGap : zRm rmX11_isGap rmX11_best 1 := ⟨rfl, rfl, by decide, by decide⟩
theorem zrX11_best_X11_isOrder : zRm rmX11_isOrder rmX11_best 1 := ⟨rfl, rfl, by decide, by decide⟩
theorem zrX11_best_X11_worthOf : zRm rmX11_worthOf rmX11_best 7 := ⟨rfl, rfl, by decide, by decide⟩
set_option maxHeartbeats 1000000 in
set_option maxRecDepth 100000 in
theorem c_X11_best (B : zB) (I : zM) (J : zJ) (hJ : zJok J) (v1 : Int32) (v2 : Int32) (r : Int32) (I' : zM) (hf : f_X11_best J v1 v2 I = some (r, I')) : zCi B zKW I J yX11_best wsX11_best rmX11_best [.ref (za B 0), .int v1, .int v2] (fun r2 I2 J2 => r2 = r ∧ I2 = I' ∧ J2 = J) := by
  refine z_start (own := RX11) (cc := cX11_best) (nL := 7) (ret := (some .int)) rfl (by decide) rfl (Nat.le_of_ble_eq_true rfl) (L := [(0, .ref (za B 0)), (1, .int v1), (2, .int v2)]) rfl (fun G h hr => ?_)
  rw [f_X11_best] at hf
  refine z_iload_n h 1 dX11_best_0 rfl (rfl : 0 + 1 = 1) ?_
  obtain ⟨q1, e2, hf⟩ := zbind hf
  refine z_goF (z_runS h [.int v1] [] zyX11_isOrder (c_X11_isOrder B I J hJ v1 _ _ e2) gX11_best_X11_isOrder zrX11_best_X11_isOrder rfl (Nat.le_of_ble_eq_true rfl) ⟨Nat.zero_le _, Nat.zero_le _⟩ rfl dX11_best_1) rfl ?_
  refine z_if_eq (pc' := 7) h 14 dX11_best_4 (by decide) rfl (fun c3 => ?_) (fun c3 => ?_)
  · have hf := zitt c3 hf
    refine z_iconst h (-1) dX11_best_14 (by decide) (rfl : 14 + 1 = 15) ?_
    refine z_iret h hr dX11_best_15 ?_
    exact ⟨congrArg Prod.fst (zsome hf), congrArg Prod.snd (zsome hf), rfl⟩
  · have hf := zitf c3 hf
    refine z_iload_n h 2 dX11_best_7 rfl (rfl : 7 + 1 = 8) ?_
    obtain ⟨q4, e5, hf⟩ := zbind hf
    refine z_goF (z_runS h [.int v2] [] zyX11_isGap (c_X11_isGap B q1.2 J hJ v2 _ _ e5) gX11_best_X11_isGap zrX11_best_X11_isGap rfl (Nat.le_of_ble_eq_true rfl) ⟨Nat.zero_le _, Nat.zero_le _⟩ rfl dX11_best_8) rfl ?_
    refine z_if_ne (pc' := 14) h 16 dX11_best_11 (by decide) rfl (fun c6 => ?_) (fun c6 => ?_)
    · have hf := zitf c6 hf
      refine z_bipush h (-9) dX11_best_16 (by decide) (rfl : 16 + 2 = 18) ?_
      refine z_istore_n h [(3, .int (-9)), (0, .ref (za B 0)), (1, .int v1), (2, .int v2)] dX11_best_18 (by decide) rfl (rfl : 18 + 1 = 19) ?_
      refine z_iconst h (-1) dX11_best_19 (by decide) (rfl : 19 + 1 = 20) ?_
      refine z_istore h [(4, .int (-1)), (3, .int (-9)), (0, .ref (za B 0)), (1, .int v1), (2, .int v2)] dX11_best_20 (by decide) rfl (rfl : 20 + 2 = 22) ?_
      refine z_iconst h 1 dX11_best_22 (by decide) (rfl : 22 + 1 = 23) ?_
      refine z_istore h [(5, .int 1), (4, .int (-1)), (3, .int (-9)), (0, .ref (za B 0)), (1, .int v1), (2, .int v2)] dX11_best_23 (by decide) rfl (rfl : 23 + 2 = 25) ?_
      have loop_25_8 : ∀ (n : Nat) (x3_25 : Int32) (x4_25 : Int32) (x5_25 : Int32) (I25 : zM) (q : (Int32 × zM) ⊕ (Int32 × Int32 × Int32 × zM)), f_X11_best_25 J v1 v2 n x3_25 x4_25 x5_25 I25 = some q → (∀ a, q = .inl a → a = (r, I')) → (∀ a : Int32 × Int32 × Int32 × zM, q = .inr a → Z B G zKW (a.2.2.2) (J) (0, 0) 69 [(0, .ref (za B 0)), (1, .int v1), (2, .int v2), (3, .int a.1), (4, .int a.2.1), (5, .int a.2.2.1)] []) → Z B G zKW I25 J (0, 0) 25 [(0, .ref (za B 0)), (1, .int v1), (2, .int v2), (3, .int x3_25), (4, .int x4_25), (5, .int x5_25)] [] := by
        intro n; induction n with
        | zero => intro x3_25 x4_25 x5_25 I25 q hf; exact absurd hf (by rw [f_X11_best_25]; exact fun z => by cases z)
        | succ n ih =>
          intro x3_25 x4_25 x5_25 I25 q hf hP hE; rw [f_X11_best_25] at hf
          refine z_iload h 5 dX11_best_25 rfl (rfl : 25 + 2 = 27) ?_
          refine z_aload_n h 0 dX11_best_27 rfl (rfl : 27 + 1 = 28) ?_
          refine z_getr (ci := 10) (C := RX11) (T := TX11) (N := 13) h 0 1 ((hJ.1 0 0 (by decide)).trans rfl) rfl rfl (fun _ hq => List.mem_cons_of_mem _ (List.mem_append_left _ (List.mem_append_left _ (List.mem_append_left _ (List.mem_append_left _ (List.mem_append_left _ (List.mem_append_left _ (List.mem_append_left _ (List.mem_append_left _ (List.mem_append_left _ (List.mem_append_right _ hq))))))))))) (by decide) (List.mem_of_getElem? (i := 1) rfl) rfl dX11_best_28 (rfl : 28 + 3 = 31) ?_
          refine z_getr (ci := 3) (C := RX3) (T := TX3) (N := 4) h 0 2 ((hJ.1 1 0 (by decide)).trans rfl) rfl rfl (fun _ hq => List.mem_cons_of_mem _ (List.mem_append_left _ (List.mem_append_left _ (List.mem_append_left _ (List.mem_append_left _ (List.mem_append_left _ (List.mem_append_left _ (List.mem_append_left _ (List.mem_append_left _ (List.mem_append_right _ hq)))))))))) (by decide) (List.mem_of_getElem? (i := 2) rfl) rfl dX11_best_31 (rfl : 31 + 3 = 34) ?_
          refine z_iload_n h 2 dX11_best_34 rfl (rfl : 34 + 1 = 35) ?_
          obtain ⟨b9, hf⟩ := zchk hf
          refine z_iald h rfl b9 dX11_best_35 (rfl : 35 + 1 = 36) ?_
          refine z_icmp_gt (pc' := 39) h 69 dX11_best_36 (by decide) rfl (fun c10 => ?_) (fun c10 => ?_)
          · have hf := zitt c10 hf
            exact hE (x3_25, x4_25, x5_25, I25) (zsome hf).symm
          · have hf := zitf c10 hf
            refine z_aload_n h 0 dX11_best_39 rfl (rfl : 39 + 1 = 40) ?_
            refine z_iload_n h 1 dX11_best_40 rfl (rfl : 40 + 1 = 41) ?_
            refine z_iload_n h 2 dX11_best_41 rfl (rfl : 41 + 1 = 42) ?_
            refine z_iload h 5 dX11_best_42 rfl (rfl : 42 + 2 = 44) ?_
            obtain ⟨q11, e12, hf⟩ := zbind hf
            refine z_goF (z_runV (C := RX11) (T := TX11) (N := 13) (ci := 10) h [.int v1, .int v2, .int x5_25] [] zyX11_worthOf (c_X11_worthOf B I25 J hJ v1 v2 x5_25 _ _ e12) gX11_best_X11_worthOf rfl rfl rfl zrX11_best_X11_worthOf rfl (Nat.le_of_ble_eq_true rfl) ⟨Nat.zero_le _, Nat.zero_le _⟩ rfl dX11_best_44) rfl ?_
            refine z_istore h [(6, .int q11.1), (0, .ref (za B 0)), (1, .int v1), (2, .int v2), (3, .int x3_25), (4, .int x4_25), (5, .int x5_25)] dX11_best_47 (by decide) rfl (rfl : 47 + 2 = 49) ?_
            refine z_iload h 0 dX11_best_49 rfl (rfl : 49 + 2 = 51) ?_
            refine z_iload h 5 dX11_best_51 rfl (rfl : 51 + 2 = 53) ?_
            refine z_icmp_le (pc' := 56) h 63 dX11_best_53 (by decide) rfl (fun c13 => ?_) (fun c13 => ?_)
            · have hf := zitt c13 hf
              refine z_iinc h 6 (x5_25 + 1) [(5, .int (x5_25 + 1)), (6, .int q11.1), (0, .ref (za B 0)), (1, .int v1), (2, .int v2), (3, .int x3_25), (4, .int x4_25)] dX11_best_63 rfl rfl (by decide) rfl (rfl : 63 + 3 = 66) ?_
              refine z_goto (pc' := 25) h dX11_best_66 (by decide) ?_
              refine z_sub (L' := [(0, .ref (za B 0)), (1, .int v1), (2, .int v2), (3, .int x3_25), (4, .int x4_25), (5, .int (x5_25 + 1))]) [2, 3, 4, 5, 6, 0] rfl ?_
              exact ih x3_25 x4_25 (x5_25 + 1) q11.2 _ hf hP hE
            · have hf := zitf c13 hf
              refine z_iload h 0 dX11_best_56 rfl (rfl : 56 + 2 = 58) ?_
              refine z_istore h [(4, .int q11.1), (6, .int q11.1), (0, .ref (za B 0)), (1, .int v1), (2, .int v2), (3, .int x3_25), (5, .int x5_25)] dX11_best_58 (by decide) rfl (rfl : 58 + 2 = 60) ?_
              refine z_iload h 6 dX11_best_60 rfl (rfl : 60 + 2 = 62) ?_
              refine z_istore_n h [(3, .int x5_25), (4, .int q11.1), (6, .int q11.1), (0, .ref (za B 0)), (1, .int v1), (2, .int v2), (5, .int x5_25)] dX11_best_62 (by decide) rfl (rfl : 62 + 1 = 63) ?_
              refine z_iinc h 6 (x5_25 + 1) [(5, .int (x5_25 + 1)), (3, .int x5_25), (4, .int q11.1), (6, .int q11.1), (0, .ref (za B 0)), (1, .int v1), (2, .int v2)] dX11_best_63 rfl rfl (by decide) rfl (rfl : 63 + 3 = 66) ?_
              refine z_goto (pc' := 25) h dX11_best_66 (by decide) ?_
              refine z_sub (L' := [(0, .ref (za B 0)), (1, .int v1), (2, .int v2), (3, .int x5_25), (4, .int q11.1), (5, .int (x5_25 + 1))]) [4, 5, 6, 1, 2, 0] rfl ?_
              exact ih x5_25 q11.1 (x5_25 + 1) q11.2 _ hf hP hE
      refine z_sub (L' := [(0, .ref (za B 0)), (1, .int v1), (2, .int v2), (3, .int (-9)), (4, .int (-1)), (5, .int 1)]) [3, 4, 5, 2, 1, 0] rfl ?_
      obtain ⟨q7, e8, hf⟩ := zbind hf
      refine loop_25_8 _ (-9) (-1) 1 q4.2 q7 e8 (fun a ha => ?_) (fun a14 ha  => ?_)
      · have hf := zell ha hf
        exact zsome hf
      have hf := zelr ha hf
      clear ha loop_25_8
      refine z_iload_n h 3 dX11_best_69 rfl (rfl : 69 + 1 = 70) ?_
      refine z_iret h hr dX11_best_70 ?_
      exact ⟨congrArg Prod.fst (zsome hf), congrArg Prod.snd (zsome hf), rfl⟩
    · have hf := zitt c6 hf
      refine z_iconst h (-1) dX11_best_14 (by decide) (rfl : 14 + 1 = 15) ?_
      refine z_iret h hr dX11_best_15 ?_
      exact ⟨congrArg Prod.fst (zsome hf), congrArg Prod.snd (zsome hf), rfl⟩
noncomputable def f_X11_isSlot (J : zJ) (v0 : Int32) (I : zM) : Option (Int32 × zM) := (if v0 < 0 then some ((0, I)) else (if 2 ≤ v0 then some ((0, I)) else some ((1, I))))
noncomputable abbrev rmX11_isSlot : Room := { frames := 0, cells := 0, slots := 0, locals := 0 }
theorem zyX11_isSlot : zY yX11_isSlot wsX11_isSlot cX11_isSlot 1 (some .boolean) 1 := ⟨⟨_, rfl⟩, by decide +kernel⟩
set_option maxHeartbeats 1000000 in
set_option maxRecDepth 100000 in
theorem c_X11_isSlot (B : zB) (I : zM) (J : zJ) (hJ : zJok J) (v0 : Int32) (r : Int32) (I' : zM) (hf : f_X11_isSlot J v0 I = some (r, I')) : zCi B zKW I J yX11_isSlot wsX11_isSlot rmX11_isSlot [.int v0] (fun r2 I2 J2 => r2 = r ∧ I2 = I' ∧ J2 = J) := by
  refine z_start (own := RX11) (cc := cX11_isSlot) (nL := 1) (ret := (some .boolean)) rfl (by decide) rfl (Nat.le_of_ble_eq_true rfl) (L := [(0, .int v0)]) rfl (fun G h hr => ?_)
  rw [f_X11_isSlot] at hf
  refine z_iload_n h 0 dX11_isSlot_0 rfl (rfl : 0 + 1 = 1) ?_
  refine z_if_lt (pc' := 4) h 13 dX11_isSlot_1 (by decide) rfl (fun c1 => ?_) (fun c1 => ?_)
  · have hf := zitt c1 hf
    refine z_iconst h 0 dX11_isSlot_13 (by decide) (rfl : 13 + 1 = 14) ?_
    refine z_zret h hr dX11_isSlot_14 (Or.inl rfl) ?_
    exact ⟨congrArg Prod.fst (zsome hf), congrArg Prod.snd (zsome hf), rfl⟩
  · have hf := zitf c1 hf
    refine z_iload_n h 0 dX11_isSlot_4 rfl (rfl : 4 + 1 = 5) ?_
    refine z_iconst h 2 dX11_isSlot_5 (by decide) (rfl : 5 + 1 = 6) ?_
    refine z_icmp_ge (pc' := 9) h 13 dX11_isSlot_6 (by decide) rfl (fun c2 => ?_) (fun c2 => ?_)
    · have hf := zitt c2 hf
      refine z_iconst h 0 dX11_isSlot_13 (by decide) (rfl : 13 + 1 = 14) ?_
      refine z_zret h hr dX11_isSlot_14 (Or.inl rfl) ?_
      exact ⟨congrArg Prod.fst (zsome hf), congrArg Prod.snd (zsome hf), rfl⟩
    · have hf := zitf c2 hf
      refine z_iconst h 1 dX11_isSlot_9 (by decide) (rfl : 9 + 1 = 10) ?_
      refine z_goto (pc' := 14) h dX11_isSlot_10 (by decide) ?_
      refine z_zret h hr dX11_isSlot_14 (Or.inr rfl) ?_
      exact ⟨congrArg Prod.fst (zsome hf), congrArg Prod.snd (zsome hf), rfl⟩
noncomputable def f_X11_keep (J : zJ) (v1 : Int32) (I : zM) : Option (Int32 × zM) := ((f_X11_isSlot J v1 I).bind fun q1 => (if q1.1 = 0 then some (((-1), q1.2)) else (if zin v1 2 = true then ((f_X1_copy J (zR 14 (Int32.toNatClampNeg v1)) 6 q1.2).bind fun q5 => (if zin v1 2 = true then some (((zu q5 15 (Int32.toNatClampNeg v1) 1) 6 6, zu q5 15 (Int32.toNatClampNeg v1) 1)) else none)) else none)))
noncomputable abbrev rmX11_keep : Room := { frames := 2, cells := 0, slots := 0, locals := 47 }
theorem zyX11_keep : zY yX11_keep wsX11_keep cX11_keep 2 (some .int) 1 := ⟨⟨_, rfl⟩, by decide +kernel⟩
theorem zrX11_keep_X11_isSlot : zRm rmX11_isSlot rmX11_keep 1 := ⟨rfl, rfl, by decide, by decide⟩
theorem zrX11_keep_X1_copy : zRm rmX1_copy rmX11_keep 2 := ⟨rfl, rfl, by decide, by decide⟩
set_option maxHeartbeats 1000000 in
set_option maxRecDepth 100000 in
theorem c_X11_keep (B : zB) (I : zM) (J : zJ) (hJ : zJok J) (v1 : Int32) (r : Int32) (I' : zM) (hf : f_X11_keep J v1 I = some (r, I')) : zCi B zKW I J yX11_keep wsX11_keep rmX11_keep [.ref (za B 0), .int v1] (fun r2 I2 J2 => r2 = r ∧ I2 = I' ∧ J2 = J) := by
  refine z_start (own := RX11) (cc := cX11_keep) (nL := 2) (ret := (some .int)) rfl (by decide) rfl (Nat.le_of_ble_eq_true rfl) (L := [(0, .ref (za B 0)), (1, .int v1)]) rfl (fun G h hr => ?_)
  rw [f_X11_keep] at hf
  refine z_iload_n h 1 dX11_keep_0 rfl (rfl : 0 + 1 = 1) ?_
  obtain ⟨q1, e2, hf⟩ := zbind hf
  refine z_goF (z_runS h [.int v1] [] zyX11_isSlot (c_X11_isSlot B I J hJ v1 _ _ e2) gX11_keep_X11_isSlot zrX11_keep_X11_isSlot rfl (Nat.le_of_ble_eq_true rfl) ⟨Nat.zero_le _, Nat.zero_le _⟩ rfl dX11_keep_1) rfl ?_
  refine z_if_ne (pc' := 7) h 9 dX11_keep_4 (by decide) rfl (fun c3 => ?_) (fun c3 => ?_)
  · have hf := zitf c3 hf
    refine z_aload_n h 0 dX11_keep_9 rfl (rfl : 9 + 1 = 10) ?_
    refine z_getr (ci := 10) (C := RX11) (T := TX11) (N := 13) h 3 14 ((hJ.1 0 3 (by decide)).trans rfl) rfl rfl (fun _ hq => List.mem_cons_of_mem _ (List.mem_append_left _ (List.mem_append_right _ hq))) (by decide) (List.mem_of_getElem? (i := 1) rfl) rfl dX11_keep_10 (rfl : 10 + 3 = 13) ?_
    refine z_iload_n h 1 dX11_keep_13 rfl (rfl : 13 + 1 = 14) ?_
    obtain ⟨b4, hf⟩ := zchk hf
    refine z_aldq h (zR 14 (Int32.toNatClampNeg v1)) (ze_4 hJ rfl (zin_lt b4)).1 rfl (by decide) rfl b4 dX11_keep_14 (rfl : 14 + 1 = 15) ?_
    refine z_aload_n h 0 dX11_keep_15 rfl (rfl : 15 + 1 = 16) ?_
    refine z_getr (ci := 10) (C := RX11) (T := TX11) (N := 13) h 2 6 ((hJ.1 0 2 (by decide)).trans rfl) rfl rfl (fun _ hq => List.mem_cons_of_mem _ (List.mem_append_left _ (List.mem_append_right _ hq))) (by decide) (List.mem_of_getElem? (i := 2) rfl) rfl dX11_keep_16 (rfl : 16 + 3 = 19) ?_
    obtain ⟨q5, e6, hf⟩ := zbind hf
    refine z_goFv (z_runV (C := RX1) (T := TX1) (N := 9) (ci := 1) h [.ref (za B 6)] [] zyX1_copy (c_X1_copy B q1.2 J hJ (zR 14 (Int32.toNatClampNeg v1)) ((ze_4 hJ rfl (zin_lt b4)).2) 6 rfl _ e6) gX11_keep_X1_copy rfl (ze_4 hJ rfl (zin_lt b4)).2 rfl zrX11_keep_X1_copy rfl (Nat.le_of_ble_eq_true rfl) ⟨Nat.zero_le _, Nat.zero_le _⟩ rfl dX11_keep_19) rfl ?_
    refine z_aload_n h 0 dX11_keep_22 rfl (rfl : 22 + 1 = 23) ?_
    refine z_getr (ci := 10) (C := RX11) (T := TX11) (N := 13) h 4 15 ((hJ.1 0 4 (by decide)).trans rfl) rfl rfl (fun _ hq => List.mem_cons_of_mem _ (List.mem_append_left _ (List.mem_append_right _ hq))) (by decide) (List.mem_of_getElem? (i := 3) rfl) rfl dX11_keep_23 (rfl : 23 + 3 = 26) ?_
    refine z_iload_n h 1 dX11_keep_26 rfl (rfl : 26 + 1 = 27) ?_
    refine z_iconst h 1 dX11_keep_27 (by decide) (rfl : 27 + 1 = 28) ?_
    obtain ⟨b7, hf⟩ := zchk hf
    refine z_zast h b7 rfl rfl dX11_keep_28 (rfl : 28 + 1 = 29) ?_
    refine z_aload_n h 0 dX11_keep_29 rfl (rfl : 29 + 1 = 30) ?_
    refine z_getr (ci := 10) (C := RX11) (T := TX11) (N := 13) h 2 6 ((hJ.1 0 2 (by decide)).trans rfl) rfl rfl (fun _ hq => List.mem_cons_of_mem _ (List.mem_append_left _ (List.mem_append_right _ hq))) (by decide) (List.mem_of_getElem? (i := 2) rfl) rfl dX11_keep_30 (rfl : 30 + 3 = 33) ?_
    refine z_get (ci := 1) (C := RX1) (T := TX1) (N := 9) h 6 rfl rfl (fun _ hq => List.mem_cons_of_mem _ (List.mem_append_right _ hq)) (by decide) (List.mem_of_getElem? (i := 4) rfl) rfl dX11_keep_33 (rfl : 33 + 3 = 36) ?_
    refine z_iret h hr dX11_keep_36 ?_
    exact ⟨congrArg Prod.fst (zsome hf), congrArg Prod.snd (zsome hf), rfl⟩
  · have hf := zitt c3 hf
    refine z_iconst h (-1) dX11_keep_7 (by decide) (rfl : 7 + 1 = 8) ?_
    refine z_iret h hr dX11_keep_8 ?_
    exact ⟨congrArg Prod.fst (zsome hf), congrArg Prod.snd (zsome hf), rfl⟩
noncomputable def f_X11_again (J : zJ) (v1 : Int32) (I : zM) : Option (Int32 × zM) := ((f_X11_isSlot J v1 I).bind fun q1 => (if q1.1 = 0 then some (((-1), q1.2)) else (if zin v1 2 = true then (if q1.2 15 (Int32.toNatClampNeg v1) = 0 then some (((-3), q1.2)) else (if zin v1 2 = true then ((f_X1_copy J 6 (zR 14 (Int32.toNatClampNeg v1)) q1.2).bind fun q7 => some ((q7 6 6, q7))) else none)) else none)))
noncomputable abbrev rmX11_again : Room := { frames := 2, cells := 0, slots := 0, locals := 47 }
theorem zyX11_again : zY yX11_again wsX11_again cX11_again 2 (some .int) 1 := ⟨⟨_, rfl⟩, by decide +kernel⟩
theorem zrX11_again_X11_isSlot : zRm rmX11_isSlot rmX11_again 1 := ⟨rfl, rfl, by decide, by decide⟩
theorem zrX11_again_X1_copy : zRm rmX1_copy rmX11_again 2 := ⟨rfl, rfl, by decide, by decide⟩
set_option maxHeartbeats 1000000 in
set_option maxRecDepth 100000 in
theorem c_X11_again (B : zB) (I : zM) (J : zJ) (hJ : zJok J) (v1 : Int32) (r : Int32) (I' : zM) (hf : f_X11_again J v1 I = some (r, I')) : zCi B zKW I J yX11_again wsX11_again rmX11_again [.ref (za B 0), .int v1] (fun r2 I2 J2 => r2 = r ∧ I2 = I' ∧ J2 = J) := by
  refine z_start (own := RX11) (cc := cX11_again) (nL := 2) (ret := (some .int)) rfl (by decide) rfl (Nat.le_of_ble_eq_true rfl) (L := [(0, .ref (za B 0)), (1, .int v1)]) rfl (fun G h hr => ?_)
  rw [f_X11_again] at hf
  refine z_iload_n h 1 dX11_again_0 rfl (rfl : 0 + 1 = 1) ?_
  obtain ⟨q1, e2, hf⟩ := zbind hf
  refine z_goF (z_runS h [.int v1] [] zyX11_isSlot (c_X11_isSlot B I J hJ v1 _ _ e2) gX11_again_X11_isSlot zrX11_again_X11_isSlot rfl (Nat.le_of_ble_eq_true rfl) ⟨Nat.zero_le _, Nat.zero_le _⟩ rfl dX11_again_1) rfl ?_
  refine z_if_ne (pc' := 7) h 9 dX11_again_4 (by decide) rfl (fun c3 => ?_) (fun c3 => ?_)
  · have hf := zitf c3 hf
    refine z_aload_n h 0 dX11_again_9 rfl (rfl : 9 + 1 = 10) ?_
    refine z_getr (ci := 10) (C := RX11) (T := TX11) (N := 13) h 4 15 ((hJ.1 0 4 (by decide)).trans rfl) rfl rfl (fun _ hq => List.mem_cons_of_mem _ (List.mem_append_left _ (List.mem_append_right _ hq))) (by decide) (List.mem_of_getElem? (i := 1) rfl) rfl dX11_again_10 (rfl : 10 + 3 = 13) ?_
    refine z_iload_n h 1 dX11_again_13 rfl (rfl : 13 + 1 = 14) ?_
    obtain ⟨b4, hf⟩ := zchk hf
    refine z_zald h rfl b4 dX11_again_14 (rfl : 14 + 1 = 15) ?_
    refine z_if_ne (pc' := 18) h 21 dX11_again_15 (by decide) rfl (fun c5 => ?_) (fun c5 => ?_)
    · have hf := zitf c5 hf
      refine z_aload_n h 0 dX11_again_21 rfl (rfl : 21 + 1 = 22) ?_
      refine z_getr (ci := 10) (C := RX11) (T := TX11) (N := 13) h 2 6 ((hJ.1 0 2 (by decide)).trans rfl) rfl rfl (fun _ hq => List.mem_cons_of_mem _ (List.mem_append_left _ (List.mem_append_right _ hq))) (by decide) (List.mem_of_getElem? (i := 2) rfl) rfl dX11_again_22 (rfl : 22 + 3 = 25) ?_
      refine z_aload_n h 0 dX11_again_25 rfl (rfl : 25 + 1 = 26) ?_
      refine z_getr (ci := 10) (C := RX11) (T := TX11) (N := 13) h 3 14 ((hJ.1 0 3 (by decide)).trans rfl) rfl rfl (fun _ hq => List.mem_cons_of_mem _ (List.mem_append_left _ (List.mem_append_right _ hq))) (by decide) (List.mem_of_getElem? (i := 3) rfl) rfl dX11_again_26 (rfl : 26 + 3 = 29) ?_
      refine z_iload_n h 1 dX11_again_29 rfl (rfl : 29 + 1 = 30) ?_
      obtain ⟨b6, hf⟩ := zchk hf
      refine z_aldq h (zR 14 (Int32.toNatClampNeg v1)) (ze_4 hJ rfl (zin_lt b6)).1 rfl (by decide) rfl b6 dX11_again_30 (rfl : 30 + 1 = 31) ?_
      obtain ⟨q7, e8, hf⟩ := zbind hf
      refine z_goFv (z_runV (C := RX1) (T := TX1) (N := 9) (ci := 1) h [.ref (za B (zR 14 (Int32.toNatClampNeg v1)))] [] zyX1_copy (c_X1_copy B q1.2 J hJ 6 rfl (zR 14 (Int32.toNatClampNeg v1)) ((ze_4 hJ rfl (zin_lt b6)).2) _ e8) gX11_again_X1_copy rfl rfl rfl zrX11_again_X1_copy rfl (Nat.le_of_ble_eq_true rfl) ⟨Nat.zero_le _, Nat.zero_le _⟩ rfl dX11_again_31) rfl ?_
      refine z_aload_n h 0 dX11_again_34 rfl (rfl : 34 + 1 = 35) ?_
      refine z_getr (ci := 10) (C := RX11) (T := TX11) (N := 13) h 2 6 ((hJ.1 0 2 (by decide)).trans rfl) rfl rfl (fun _ hq => List.mem_cons_of_mem _ (List.mem_append_left _ (List.mem_append_right _ hq))) (by decide) (List.mem_of_getElem? (i := 2) rfl) rfl dX11_again_35 (rfl : 35 + 3 = 38) ?_
      refine z_get (ci := 1) (C := RX1) (T := TX1) (N := 9) h 6 rfl rfl (fun _ hq => List.mem_cons_of_mem _ (List.mem_append_right _ hq)) (by decide) (List.mem_of_getElem? (i := 4) rfl) rfl dX11_again_38 (rfl : 38 + 3 = 41) ?_
      refine z_iret h hr dX11_again_41 ?_
      exact ⟨congrArg Prod.fst (zsome hf), congrArg Prod.snd (zsome hf), rfl⟩
    · have hf := zitt c5 hf
      refine z_bipush h (-3) dX11_again_18 (by decide) (rfl : 18 + 2 = 20) ?_
      refine z_iret h hr dX11_again_20 ?_
      exact ⟨congrArg Prod.fst (zsome hf), congrArg Prod.snd (zsome hf), rfl⟩
  · have hf := zitt c3 hf
    refine z_iconst h (-1) dX11_again_7 (by decide) (rfl : 7 + 1 = 8) ?_
    refine z_iret h hr dX11_again_8 ?_
    exact ⟨congrArg Prod.fst (zsome hf), congrArg Prod.snd (zsome hf), rfl⟩
noncomputable def f_X11_since_33 (J : zJ) (u1 : Int32) (u2 : Int32) : Nat → Int32 → Int32 → zM → Option ((Int32 × zM) ⊕ (Int32 × Int32 × zM))
  | 0, _, _, _ => none
  | n + 1, x3_33, x4_33, I33 => (if I33 0 9 ≤ x4_33 then some (.inr (x3_33, x4_33, I33)) else ((f_X11_read J x4_33 u1 I33).bind fun q10 => (if zin x4_33 8 = true then (if zin u2 2 = true then ((f_X5_take J (zR 34 (Int32.toNatClampNeg x4_33)) (zR 14 (Int32.toNatClampNeg u2)) q10).bind fun q14 => (if zin u1 4 = true then ((f_X5_read J (zR 33 (Int32.toNatClampNeg u1)) q14).bind fun q17 => (if q17 39 14 = q10 39 14 then f_X11_since_33 J u1 u2 n x3_33 (x4_33 + 1) q17 else f_X11_since_33 J u1 u2 n (x3_33 + 1) (x4_33 + 1) q17)) else none)) else none) else none)))
noncomputable def f_X11_since (J : zJ) (v1 : Int32) (v2 : Int32) (I : zM) : Option (Int32 × zM) := ((f_X11_isOrder J v1 I).bind fun q1 => (if q1.1 = 0 then some (((-1), q1.2)) else ((f_X11_isSlot J v2 q1.2).bind fun q4 => (if q4.1 = 0 then some (((-1), q4.2)) else (if zin v2 2 = true then (if q4.2 15 (Int32.toNatClampNeg v2) = 0 then some (((-3), q4.2)) else ((f_X11_since_33 J v1 v2 zF 0 0 q4.2).bind fun q => Sum.elim (fun a => some a) (fun a11 => some ((a11.1, a11.2.2))) q)) else none)))))
noncomputable abbrev rmX11_since : Room := { frames := 6, cells := 0, slots := 0, locals := 139 }
theorem zyX11_since : zY yX11_since wsX11_since cX11_since 6 (some .int) 2 := ⟨⟨_, rfl⟩, by decide +kernel⟩
theorem zrX11_since_X11_isOrder : zRm rmX11_isOrder rmX11_since 1 := ⟨rfl, rfl, by decide, by decide⟩
theorem zrX11_since_X11_isSlot : zRm rmX11_isSlot rmX11_since 1 := ⟨rfl, rfl, by decide, by decide⟩
theorem zrX11_since_X11_read : zRm rmX11_read rmX11_since 3 := ⟨rfl, rfl, by decide, by decide⟩
theorem zrX11_since_X5_read : zRm rmX5_read rmX11_since 4 := ⟨rfl, rfl, by decide, by decide⟩
theorem zrX11_since_X5_take : zRm rmX5_take rmX11_since 5 := ⟨rfl, rfl, by decide, by decide⟩
set_option maxHeartbeats 1000000 in
set_option maxRecDepth 100000 in
theorem c_X11_since (B : zB) (I : zM) (J : zJ) (hJ : zJok J) (v1 : Int32) (v2 : Int32) (r : Int32) (I' : zM) (hf : f_X11_since J v1 v2 I = some (r, I')) : zCi B zKW I J yX11_since wsX11_since rmX11_since [.ref (za B 0), .int v1, .int v2] (fun r2 I2 J2 => r2 = r ∧ I2 = I' ∧ J2 = J) := by
  refine z_start (own := RX11) (cc := cX11_since) (nL := 6) (ret := (some .int)) rfl (by decide) rfl (Nat.le_of_ble_eq_true rfl) (L := [(0, .ref (za B 0)), (1, .int v1), (2, .int v2)]) rfl (fun G h hr => ?_)
  rw [f_X11_since] at hf
  refine z_iload_n h 1 dX11_since_0 rfl (rfl : 0 + 1 = 1) ?_
  obtain ⟨q1, e2, hf⟩ := zbind hf
  refine z_goF (z_runS h [.int v1] [] zyX11_isOrder (c_X11_isOrder B I J hJ v1 _ _ e2) gX11_since_X11_isOrder zrX11_since_X11_isOrder rfl (Nat.le_of_ble_eq_true rfl) ⟨Nat.zero_le _, Nat.zero_le _⟩ rfl dX11_since_1) rfl ?_
  refine z_if_eq (pc' := 7) h 14 dX11_since_4 (by decide) rfl (fun c3 => ?_) (fun c3 => ?_)
  · have hf := zitt c3 hf
    refine z_iconst h (-1) dX11_since_14 (by decide) (rfl : 14 + 1 = 15) ?_
    refine z_iret h hr dX11_since_15 ?_
    exact ⟨congrArg Prod.fst (zsome hf), congrArg Prod.snd (zsome hf), rfl⟩
  · have hf := zitf c3 hf
    refine z_iload_n h 2 dX11_since_7 rfl (rfl : 7 + 1 = 8) ?_
    obtain ⟨q4, e5, hf⟩ := zbind hf
    refine z_goF (z_runS h [.int v2] [] zyX11_isSlot (c_X11_isSlot B q1.2 J hJ v2 _ _ e5) gX11_since_X11_isSlot zrX11_since_X11_isSlot rfl (Nat.le_of_ble_eq_true rfl) ⟨Nat.zero_le _, Nat.zero_le _⟩ rfl dX11_since_8) rfl ?_
    refine z_if_ne (pc' := 14) h 16 dX11_since_11 (by decide) rfl (fun c6 => ?_) (fun c6 => ?_)
    · have hf := zitf c6 hf
      refine z_aload_n h 0 dX11_since_16 rfl (rfl : 16 + 1 = 17) ?_
      refine z_getr (ci := 10) (C := RX11) (T := TX11) (N := 13) h 4 15 ((hJ.1 0 4 (by decide)).trans rfl) rfl rfl (fun _ hq => List.mem_cons_of_mem _ (List.mem_append_left _ (List.mem_append_left _ (List.mem_append_left _ (List.mem_append_left _ (List.mem_append_left _ (List.mem_append_left _ (List.mem_append_left _ (List.mem_append_left _ (List.mem_append_left _ (List.mem_append_right _ hq))))))))))) (by decide) (List.mem_of_getElem? (i := 1) rfl) rfl dX11_since_17 (rfl : 17 + 3 = 20) ?_
      refine z_iload_n h 2 dX11_since_20 rfl (rfl : 20 + 1 = 21) ?_
      obtain ⟨b7, hf⟩ := zchk hf
      refine z_zald h rfl b7 dX11_since_21 (rfl : 21 + 1 = 22) ?_
      refine z_if_ne (pc' := 25) h 28 dX11_since_22 (by decide) rfl (fun c8 => ?_) (fun c8 => ?_)
      · have hf := zitf c8 hf
        refine z_iconst h 0 dX11_since_28 (by decide) (rfl : 28 + 1 = 29) ?_
        refine z_istore_n h [(3, .int 0), (0, .ref (za B 0)), (1, .int v1), (2, .int v2)] dX11_since_29 (by decide) rfl (rfl : 29 + 1 = 30) ?_
        refine z_iconst h 0 dX11_since_30 (by decide) (rfl : 30 + 1 = 31) ?_
        refine z_istore h [(4, .int 0), (3, .int 0), (0, .ref (za B 0)), (1, .int v1), (2, .int v2)] dX11_since_31 (by decide) rfl (rfl : 31 + 2 = 33) ?_
        have loop_33_10 : ∀ (n : Nat) (x3_33 : Int32) (x4_33 : Int32) (I33 : zM) (q : (Int32 × zM) ⊕ (Int32 × Int32 × zM)), f_X11_since_33 J v1 v2 n x3_33 x4_33 I33 = some q → (∀ a, q = .inl a → a = (r, I')) → (∀ a : Int32 × Int32 × zM, q = .inr a → Z B G zKW (a.2.2) (J) (0, 0) 112 [(0, .ref (za B 0)), (1, .int v1), (2, .int v2), (3, .int a.1), (4, .int a.2.1)] []) → Z B G zKW I33 J (0, 0) 33 [(0, .ref (za B 0)), (1, .int v1), (2, .int v2), (3, .int x3_33), (4, .int x4_33)] [] := by
          intro n; induction n with
          | zero => intro x3_33 x4_33 I33 q hf; exact absurd hf (by rw [f_X11_since_33]; exact fun z => by cases z)
          | succ n ih =>
            intro x3_33 x4_33 I33 q hf hP hE; rw [f_X11_since_33] at hf
            refine z_iload h 4 dX11_since_33 rfl (rfl : 33 + 2 = 35) ?_
            refine z_aload_n h 0 dX11_since_35 rfl (rfl : 35 + 1 = 36) ?_
            refine z_get (ci := 10) (C := RX11) (T := TX11) (N := 13) h 9 rfl rfl (fun _ hq => List.mem_cons_of_mem _ (List.mem_append_left _ (List.mem_append_left _ (List.mem_append_left _ (List.mem_append_left _ (List.mem_append_left _ (List.mem_append_left _ (List.mem_append_left _ (List.mem_append_left _ (List.mem_append_left _ (List.mem_append_right _ hq))))))))))) (by decide) (List.mem_of_getElem? (i := 2) rfl) rfl dX11_since_36 (rfl : 36 + 3 = 39) ?_
            refine z_icmp_ge (pc' := 42) h 112 dX11_since_39 (by decide) rfl (fun c11 => ?_) (fun c11 => ?_)
            · have hf := zitt c11 hf
              exact hE (x3_33, x4_33, I33) (zsome hf).symm
            · have hf := zitf c11 hf
              refine z_aload_n h 0 dX11_since_42 rfl (rfl : 42 + 1 = 43) ?_
              refine z_iload h 4 dX11_since_43 rfl (rfl : 43 + 2 = 45) ?_
              refine z_iload_n h 1 dX11_since_45 rfl (rfl : 45 + 1 = 46) ?_
              obtain ⟨q12, e13, hf⟩ := zbind hf
              refine z_goFv (z_runV (C := RX11) (T := TX11) (N := 13) (ci := 10) h [.int x4_33, .int v1] [] zyX11_read (c_X11_read B I33 J hJ x4_33 v1 _ e13) gX11_since_X11_read rfl rfl rfl zrX11_since_X11_read rfl (Nat.le_of_ble_eq_true rfl) ⟨Nat.zero_le _, Nat.zero_le _⟩ rfl dX11_since_46) rfl ?_
              refine z_aload_n h 0 dX11_since_49 rfl (rfl : 49 + 1 = 50) ?_
              refine z_getr (ci := 10) (C := RX11) (T := TX11) (N := 13) h 12 39 ((hJ.1 0 12 (by decide)).trans rfl) rfl rfl (fun _ hq => List.mem_cons_of_mem _ (List.mem_append_left _ (List.mem_append_left _ (List.mem_append_left _ (List.mem_append_left _ (List.mem_append_left _ (List.mem_append_left _ (List.mem_append_left _ (List.mem_append_left _ (List.mem_append_left _ (List.mem_append_right _ hq))))))))))) (by decide) (List.mem_of_getElem? (i := 3) rfl) rfl dX11_since_50 (rfl : 50 + 3 = 53) ?_
              refine z_get (ci := 5) (C := RX5) (T := TX5) (N := 17) h 14 rfl rfl (fun _ hq => List.mem_cons_of_mem _ (List.mem_append_left _ (List.mem_append_left _ (List.mem_append_left _ (List.mem_append_left _ (List.mem_append_left _ (List.mem_append_left _ (List.mem_append_left _ (List.mem_append_left _ (List.mem_append_right _ hq)))))))))) (by decide) (List.mem_of_getElem? (i := 4) rfl) rfl dX11_since_53 (rfl : 53 + 3 = 56) ?_
              refine z_istore h [(5, .int (q12 39 14)), (0, .ref (za B 0)), (1, .int v1), (2, .int v2), (3, .int x3_33), (4, .int x4_33)] dX11_since_56 (by decide) rfl (rfl : 56 + 2 = 58) ?_
              refine z_aload_n h 1 dX11_since_58 rfl (rfl : 58 + 1 = 59) ?_
              refine z_getr (ci := 10) (C := RX11) (T := TX11) (N := 13) h 12 39 ((hJ.1 0 12 (by decide)).trans rfl) rfl rfl (fun _ hq => List.mem_cons_of_mem _ (List.mem_append_left _ (List.mem_append_left _ (List.mem_append_left _ (List.mem_append_left _ (List.mem_append_left _ (List.mem_append_left _ (List.mem_append_left _ (List.mem_append_left _ (List.mem_append_left _ (List.mem_append_right _ hq))))))))))) (by decide) (List.mem_of_getElem? (i := 3) rfl) rfl dX11_since_59 (rfl : 59 + 3 = 62) ?_
              refine z_aload_n h 1 dX11_since_62 rfl (rfl : 62 + 1 = 63) ?_
              refine z_getr (ci := 10) (C := RX11) (T := TX11) (N := 13) h 8 34 ((hJ.1 0 8 (by decide)).trans rfl) rfl rfl (fun _ hq => List.mem_cons_of_mem _ (List.mem_append_left _ (List.mem_append_left _ (List.mem_append_left _ (List.mem_append_left _ (List.mem_append_left _ (List.mem_append_left _ (List.mem_append_left _ (List.mem_append_left _ (List.mem_append_left _ (List.mem_append_right _ hq))))))))))) (by decide) (List.mem_of_getElem? (i := 5) rfl) rfl dX11_since_63 (rfl : 63 + 3 = 66) ?_
              refine z_iload h 5 dX11_since_66 rfl (rfl : 66 + 2 = 68) ?_
              obtain ⟨b14, hf⟩ := zchk hf
              refine z_aldq h (zR 34 (Int32.toNatClampNeg x4_33)) (ze_3 hJ rfl (zin_lt b14)).1 rfl (by decide) rfl b14 dX11_since_68 (rfl : 68 + 1 = 69) ?_
              refine z_aload_n h 1 dX11_since_69 rfl (rfl : 69 + 1 = 70) ?_
              refine z_getr (ci := 10) (C := RX11) (T := TX11) (N := 13) h 3 14 ((hJ.1 0 3 (by decide)).trans rfl) rfl rfl (fun _ hq => List.mem_cons_of_mem _ (List.mem_append_left _ (List.mem_append_left _ (List.mem_append_left _ (List.mem_append_left _ (List.mem_append_left _ (List.mem_append_left _ (List.mem_append_left _ (List.mem_append_left _ (List.mem_append_left _ (List.mem_append_right _ hq))))))))))) (by decide) (List.mem_of_getElem? (i := 6) rfl) rfl dX11_since_70 (rfl : 70 + 3 = 73) ?_
              refine z_iload_n h 3 dX11_since_73 rfl (rfl : 73 + 1 = 74) ?_
              obtain ⟨b15, hf⟩ := zchk hf
              refine z_aldq h (zR 14 (Int32.toNatClampNeg v2)) (ze_4 hJ rfl (zin_lt b15)).1 rfl (by decide) rfl b15 dX11_since_74 (rfl : 74 + 1 = 75) ?_
              obtain ⟨q16, e17, hf⟩ := zbind hf
              refine z_goFv (z_runV (C := RX5) (T := TX5) (N := 17) (ci := 5) h [.ref (za B (zR 34 (Int32.toNatClampNeg x4_33))), .ref (za B (zR 14 (Int32.toNatClampNeg v2)))] [] zyX5_take (c_X5_take B q12 J hJ (zR 34 (Int32.toNatClampNeg x4_33)) ((ze_3 hJ rfl (zin_lt b14)).2) (zR 14 (Int32.toNatClampNeg v2)) ((ze_4 hJ rfl (zin_lt b15)).2) _ e17) gX11_since_X5_take rfl rfl rfl zrX11_since_X5_take rfl (Nat.le_of_ble_eq_true rfl) ⟨Nat.zero_le _, Nat.zero_le _⟩ rfl dX11_since_75) rfl ?_
              refine z_aload_n h 1 dX11_since_78 rfl (rfl : 78 + 1 = 79) ?_
              refine z_getr (ci := 10) (C := RX11) (T := TX11) (N := 13) h 12 39 ((hJ.1 0 12 (by decide)).trans rfl) rfl rfl (fun _ hq => List.mem_cons_of_mem _ (List.mem_append_left _ (List.mem_append_left _ (List.mem_append_left _ (List.mem_append_left _ (List.mem_append_left _ (List.mem_append_left _ (List.mem_append_left _ (List.mem_append_left _ (List.mem_append_left _ (List.mem_append_right _ hq))))))))))) (by decide) (List.mem_of_getElem? (i := 3) rfl) rfl dX11_since_79 (rfl : 79 + 3 = 82) ?_
              refine z_aload_n h 1 dX11_since_82 rfl (rfl : 82 + 1 = 83) ?_
              refine z_getr (ci := 10) (C := RX11) (T := TX11) (N := 13) h 7 33 ((hJ.1 0 7 (by decide)).trans rfl) rfl rfl (fun _ hq => List.mem_cons_of_mem _ (List.mem_append_left _ (List.mem_append_left _ (List.mem_append_left _ (List.mem_append_left _ (List.mem_append_left _ (List.mem_append_left _ (List.mem_append_left _ (List.mem_append_left _ (List.mem_append_left _ (List.mem_append_right _ hq))))))))))) (by decide) (List.mem_of_getElem? (i := 7) rfl) rfl dX11_since_83 (rfl : 83 + 3 = 86) ?_
              refine z_iload_n h 2 dX11_since_86 rfl (rfl : 86 + 1 = 87) ?_
              obtain ⟨b18, hf⟩ := zchk hf
              refine z_aldq h (zR 33 (Int32.toNatClampNeg v1)) (ze_6 hJ rfl (zin_lt b18)).1 rfl (by decide) rfl b18 dX11_since_87 (rfl : 87 + 1 = 88) ?_
              obtain ⟨q19, e20, hf⟩ := zbind hf
              refine z_goFv (z_runV (C := RX5) (T := TX5) (N := 17) (ci := 5) h [.ref (za B (zR 33 (Int32.toNatClampNeg v1)))] [] zyX5_read (c_X5_read B q16 J hJ (zR 33 (Int32.toNatClampNeg v1)) ((ze_6 hJ rfl (zin_lt b18)).2) _ e20) gX11_since_X5_read rfl rfl rfl zrX11_since_X5_read rfl (Nat.le_of_ble_eq_true rfl) ⟨Nat.zero_le _, Nat.zero_le _⟩ rfl dX11_since_88) rfl ?_
              refine z_aload_n h 1 dX11_since_91 rfl (rfl : 91 + 1 = 92) ?_
              refine z_getr (ci := 10) (C := RX11) (T := TX11) (N := 13) h 12 39 ((hJ.1 0 12 (by decide)).trans rfl) rfl rfl (fun _ hq => List.mem_cons_of_mem _ (List.mem_append_left _ (List.mem_append_left _ (List.mem_append_left _ (List.mem_append_left _ (List.mem_append_left _ (List.mem_append_left _ (List.mem_append_left _ (List.mem_append_left _ (List.mem_append_left _ (List.mem_append_right _ hq))))))))))) (by decide) (List.mem_of_getElem? (i := 3) rfl) rfl dX11_since_92 (rfl : 92 + 3 = 95) ?_
              refine z_get (ci := 5) (C := RX5) (T := TX5) (N := 17) h 14 rfl rfl (fun _ hq => List.mem_cons_of_mem _ (List.mem_append_left _ (List.mem_append_left _ (List.mem_append_left _ (List.mem_append_left _ (List.mem_append_left _ (List.mem_append_left _ (List.mem_append_left _ (List.mem_append_left _ (List.mem_append_right _ hq)))))))))) (by decide) (List.mem_of_getElem? (i := 4) rfl) rfl dX11_since_95 (rfl : 95 + 3 = 98) ?_
              refine z_iload h 0 dX11_since_98 rfl (rfl : 98 + 2 = 100) ?_
              refine z_icmp_eq (pc' := 103) h 106 dX11_since_100 (by decide) rfl (fun c21 => ?_) (fun c21 => ?_)
              · have hf := zitt c21 hf
                refine z_iinc h 5 (x4_33 + 1) [(4, .int (x4_33 + 1)), (5, .int (q12 39 14)), (0, .ref (za B 0)), (1, .int v1), (2, .int v2), (3, .int x3_33)] dX11_since_106 rfl rfl (by decide) rfl (rfl : 106 + 3 = 109) ?_
                refine z_goto (pc' := 33) h dX11_since_109 (by decide) ?_
                refine z_sub (L' := [(0, .ref (za B 0)), (1, .int v1), (2, .int v2), (3, .int x3_33), (4, .int (x4_33 + 1))]) [2, 3, 4, 5, 0] rfl ?_
                exact ih x3_33 (x4_33 + 1) q19 _ hf hP hE
              · have hf := zitf c21 hf
                refine z_iinc h 4 (x3_33 + 1) [(3, .int (x3_33 + 1)), (5, .int (q12 39 14)), (0, .ref (za B 0)), (1, .int v1), (2, .int v2), (4, .int x4_33)] dX11_since_103 rfl rfl (by decide) rfl (rfl : 103 + 3 = 106) ?_
                refine z_iinc h 5 (x4_33 + 1) [(4, .int (x4_33 + 1)), (3, .int (x3_33 + 1)), (5, .int (q12 39 14)), (0, .ref (za B 0)), (1, .int v1), (2, .int v2)] dX11_since_106 rfl rfl (by decide) rfl (rfl : 106 + 3 = 109) ?_
                refine z_goto (pc' := 33) h dX11_since_109 (by decide) ?_
                refine z_sub (L' := [(0, .ref (za B 0)), (1, .int v1), (2, .int v2), (3, .int (x3_33 + 1)), (4, .int (x4_33 + 1))]) [3, 4, 5, 1, 0] rfl ?_
                exact ih (x3_33 + 1) (x4_33 + 1) q19 _ hf hP hE
        refine z_sub (L' := [(0, .ref (za B 0)), (1, .int v1), (2, .int v2), (3, .int 0), (4, .int 0)]) [2, 3, 4, 1, 0] rfl ?_
        obtain ⟨q9, e10, hf⟩ := zbind hf
        refine loop_33_10 _ 0 0 q4.2 q9 e10 (fun a ha => ?_) (fun a22 ha  => ?_)
        · have hf := zell ha hf
          exact zsome hf
        have hf := zelr ha hf
        clear ha loop_33_10
        refine z_iload_n h 3 dX11_since_112 rfl (rfl : 112 + 1 = 113) ?_
        refine z_iret h hr dX11_since_113 ?_
        exact ⟨congrArg Prod.fst (zsome hf), congrArg Prod.snd (zsome hf), rfl⟩
      · have hf := zitt c8 hf
        refine z_bipush h (-3) dX11_since_25 (by decide) (rfl : 25 + 2 = 27) ?_
        refine z_iret h hr dX11_since_27 ?_
        exact ⟨congrArg Prod.fst (zsome hf), congrArg Prod.snd (zsome hf), rfl⟩
    · have hf := zitt c6 hf
      refine z_iconst h (-1) dX11_since_14 (by decide) (rfl : 14 + 1 = 15) ?_
      refine z_iret h hr dX11_since_15 ?_
      exact ⟨congrArg Prod.fst (zsome hf), congrArg Prod.snd (zsome hf), rfl⟩
noncomputable def f_X11_count (J : zJ) (v1 : Int32) (I : zM) : Option (Int32 × zM) := (if v1 = 0 then ((f_X3_present J  I).bind fun q2 => some ((q2.1, q2.2))) else (if v1 = 1 then some ((I 6 6, I)) else (if v1 = 2 then some ((I 16 1, I)) else (if v1 = 3 then some ((I 18 1, I)) else (if v1 = 4 then some ((I 0 9, I)) else some (((-2), I)))))))
noncomputable abbrev rmX11_count : Room := { frames := 1, cells := 0, slots := 0, locals := 25 }
theorem zyX11_count : zY yX11_count wsX11_count cX11_count 2 (some .int) 1 := ⟨⟨_, rfl⟩, by decide +kernel⟩
theorem zrX11_count_X3_present : zRm rmX3_present rmX11_count 6 := ⟨rfl, rfl, by decide, by decide⟩
set_option maxHeartbeats 1000000 in
set_option maxRecDepth 100000 in
theorem c_X11_count (B : zB) (I : zM) (J : zJ) (hJ : zJok J) (v1 : Int32) (r : Int32) (I' : zM) (hf : f_X11_count J v1 I = some (r, I')) : zCi B zKW I J yX11_count wsX11_count rmX11_count [.ref (za B 0), .int v1] (fun r2 I2 J2 => r2 = r ∧ I2 = I' ∧ J2 = J) := by
  refine z_start (own := RX11) (cc := cX11_count) (nL := 2) (ret := (some .int)) rfl (by decide) rfl (Nat.le_of_ble_eq_true rfl) (L := [(0, .ref (za B 0)), (1, .int v1)]) rfl (fun G h hr => ?_)
  rw [f_X11_count] at hf
  refine z_iload_n h 1 dX11_count_0 rfl (rfl : 0 + 1 = 1) ?_
  by_cases c1 : v1 = 0
  · have hf := zitt c1 hf
    refine z_tabIn h 36 dX11_count_1 (by rw [c1]; decide) (by rw [c1]; decide) (by rw [c1]; rfl) (by decide) ?_
    refine z_aload_n h 0 dX11_count_36 rfl (rfl : 36 + 1 = 37) ?_
    refine z_getr (ci := 10) (C := RX11) (T := TX11) (N := 13) h 0 1 ((hJ.1 0 0 (by decide)).trans rfl) rfl rfl (fun _ hq => List.mem_cons_of_mem _ (List.mem_append_left _ (List.mem_append_left _ (List.mem_append_left _ (List.mem_append_left _ (List.mem_append_right _ hq)))))) (by decide) (List.mem_of_getElem? (i := 1) rfl) rfl dX11_count_37 (rfl : 37 + 3 = 40) ?_
    obtain ⟨q2, e3, hf⟩ := zbind hf
    refine z_goF (z_runV (C := RX3) (T := TX3) (N := 4) (ci := 3) h [] [] zyX3_present (c_X3_present B I J hJ  _ _ e3) gX11_count_X3_present rfl rfl rfl zrX11_count_X3_present rfl (Nat.le_of_ble_eq_true rfl) ⟨Nat.zero_le _, Nat.zero_le _⟩ rfl dX11_count_40) rfl ?_
    refine z_iret h hr dX11_count_43 ?_
    exact ⟨congrArg Prod.fst (zsome hf), congrArg Prod.snd (zsome hf), rfl⟩
  have hf := zitf c1 hf
  by_cases c4 : v1 = 1
  · have hf := zitt c4 hf
    refine z_tabIn h 44 dX11_count_1 (by rw [c4]; decide) (by rw [c4]; decide) (by rw [c4]; rfl) (by decide) ?_
    refine z_aload_n h 0 dX11_count_44 rfl (rfl : 44 + 1 = 45) ?_
    refine z_getr (ci := 10) (C := RX11) (T := TX11) (N := 13) h 2 6 ((hJ.1 0 2 (by decide)).trans rfl) rfl rfl (fun _ hq => List.mem_cons_of_mem _ (List.mem_append_left _ (List.mem_append_left _ (List.mem_append_left _ (List.mem_append_left _ (List.mem_append_right _ hq)))))) (by decide) (List.mem_of_getElem? (i := 2) rfl) rfl dX11_count_45 (rfl : 45 + 3 = 48) ?_
    refine z_get (ci := 1) (C := RX1) (T := TX1) (N := 9) h 6 rfl rfl (fun _ hq => List.mem_cons_of_mem _ (List.mem_append_left _ (List.mem_append_left _ (List.mem_append_left _ (List.mem_append_right _ hq))))) (by decide) (List.mem_of_getElem? (i := 3) rfl) rfl dX11_count_48 (rfl : 48 + 3 = 51) ?_
    refine z_iret h hr dX11_count_51 ?_
    exact ⟨congrArg Prod.fst (zsome hf), congrArg Prod.snd (zsome hf), rfl⟩
  have hf := zitf c4 hf
  by_cases c5 : v1 = 2
  · have hf := zitt c5 hf
    refine z_tabIn h 52 dX11_count_1 (by rw [c5]; decide) (by rw [c5]; decide) (by rw [c5]; rfl) (by decide) ?_
    refine z_aload_n h 0 dX11_count_52 rfl (rfl : 52 + 1 = 53) ?_
    refine z_getr (ci := 10) (C := RX11) (T := TX11) (N := 13) h 5 16 ((hJ.1 0 5 (by decide)).trans rfl) rfl rfl (fun _ hq => List.mem_cons_of_mem _ (List.mem_append_left _ (List.mem_append_left _ (List.mem_append_left _ (List.mem_append_left _ (List.mem_append_right _ hq)))))) (by decide) (List.mem_of_getElem? (i := 4) rfl) rfl dX11_count_53 (rfl : 53 + 3 = 56) ?_
    refine z_get (ci := 9) (C := RX9) (T := TX9) (N := 2) h 1 rfl rfl (fun _ hq => List.mem_cons_of_mem _ (List.mem_append_left _ (List.mem_append_left _ (List.mem_append_right _ hq)))) (by decide) (List.mem_of_getElem? (i := 5) rfl) rfl dX11_count_56 (rfl : 56 + 3 = 59) ?_
    refine z_iret h hr dX11_count_59 ?_
    exact ⟨congrArg Prod.fst (zsome hf), congrArg Prod.snd (zsome hf), rfl⟩
  have hf := zitf c5 hf
  by_cases c6 : v1 = 3
  · have hf := zitt c6 hf
    refine z_tabIn h 60 dX11_count_1 (by rw [c6]; decide) (by rw [c6]; decide) (by rw [c6]; rfl) (by decide) ?_
    refine z_aload_n h 0 dX11_count_60 rfl (rfl : 60 + 1 = 61) ?_
    refine z_getr (ci := 10) (C := RX11) (T := TX11) (N := 13) h 6 18 ((hJ.1 0 6 (by decide)).trans rfl) rfl rfl (fun _ hq => List.mem_cons_of_mem _ (List.mem_append_left _ (List.mem_append_left _ (List.mem_append_left _ (List.mem_append_left _ (List.mem_append_right _ hq)))))) (by decide) (List.mem_of_getElem? (i := 6) rfl) rfl dX11_count_61 (rfl : 61 + 3 = 64) ?_
    refine z_get (ci := 7) (C := RX7) (T := TX7) (N := 2) h 1 rfl rfl (fun _ hq => List.mem_cons_of_mem _ (List.mem_append_left _ (List.mem_append_right _ hq))) (by decide) (List.mem_of_getElem? (i := 7) rfl) rfl dX11_count_64 (rfl : 64 + 3 = 67) ?_
    refine z_iret h hr dX11_count_67 ?_
    exact ⟨congrArg Prod.fst (zsome hf), congrArg Prod.snd (zsome hf), rfl⟩
  have hf := zitf c6 hf
  by_cases c7 : v1 = 4
  · have hf := zitt c7 hf
    refine z_tabIn h 68 dX11_count_1 (by rw [c7]; decide) (by rw [c7]; decide) (by rw [c7]; rfl) (by decide) ?_
    refine z_aload_n h 0 dX11_count_68 rfl (rfl : 68 + 1 = 69) ?_
    refine z_get (ci := 10) (C := RX11) (T := TX11) (N := 13) h 9 rfl rfl (fun _ hq => List.mem_cons_of_mem _ (List.mem_append_left _ (List.mem_append_left _ (List.mem_append_left _ (List.mem_append_left _ (List.mem_append_right _ hq)))))) (by decide) (List.mem_of_getElem? (i := 8) rfl) rfl dX11_count_69 (rfl : 69 + 3 = 72) ?_
    refine z_iret h hr dX11_count_72 ?_
    exact ⟨congrArg Prod.fst (zsome hf), congrArg Prod.snd (zsome hf), rfl⟩
  have hf := zitf c7 hf
  refine z_tabOut h 73 dX11_count_1 (zt_5 c1 c4 c5 c6 c7) (by decide) ?_
  refine z_bipush h (-2) dX11_count_73 (by decide) (rfl : 73 + 2 = 75) ?_
  refine z_iret h hr dX11_count_75 ?_
  exact ⟨congrArg Prod.fst (zsome hf), congrArg Prod.snd (zsome hf), rfl⟩
noncomputable def f_X12_in (J : zJ) (w0 : Int64) (w2 : Int64) (w4 : Int64) (I : zM) : Option (Int32 × zM) := (if lg_cmp w0 w2 < 0 then some ((0, I)) else (if 0 < lg_cmp w0 w4 then some ((0, I)) else some ((1, I))))
noncomputable abbrev rmX12_in : Room := { frames := 0, cells := 0, slots := 0, locals := 0 }
theorem zyX12_in : zY yX12_in wsX12_in cX12_in 6 (some .boolean) 3 := ⟨⟨_, rfl⟩, by decide +kernel⟩
set_option maxHeartbeats 1000000 in
set_option maxRecDepth 100000 in
theorem c_X12_in (B : zB) (I : zM) (J : zJ) (hJ : zJok J) (w0 : Int64) (w2 : Int64) (w4 : Int64) (r : Int32) (I' : zM) (hf : f_X12_in J w0 w2 w4 I = some (r, I')) : zCi B zKW I J yX12_in wsX12_in rmX12_in [.long w0, .long w2, .long w4] (fun r2 I2 J2 => r2 = r ∧ I2 = I' ∧ J2 = J) := by
  refine z_start (own := RX12) (cc := cX12_in) (nL := 6) (ret := (some .boolean)) rfl (by decide) rfl (Nat.le_of_ble_eq_true rfl) (L := [(0, .long w0), (2, .long w2), (4, .long w4)]) rfl (fun G h hr => ?_)
  rw [f_X12_in] at hf
  refine z_lload_n h 0 dX12_in_0 rfl (rfl : 0 + 1 = 1) ?_
  refine z_lload_n h 1 dX12_in_1 rfl (rfl : 1 + 1 = 2) ?_
  refine z_lcmp h dX12_in_2 (rfl : 2 + 1 = 3) ?_
  refine z_if_lt (pc' := 6) h 17 dX12_in_3 (by decide) rfl (fun c1 => ?_) (fun c1 => ?_)
  · have hf := zitt c1 hf
    refine z_iconst h 0 dX12_in_17 (by decide) (rfl : 17 + 1 = 18) ?_
    refine z_zret h hr dX12_in_18 (Or.inl rfl) ?_
    exact ⟨congrArg Prod.fst (zsome hf), congrArg Prod.snd (zsome hf), rfl⟩
  · have hf := zitf c1 hf
    refine z_lload_n h 0 dX12_in_6 rfl (rfl : 6 + 1 = 7) ?_
    refine z_lload h 2 dX12_in_7 rfl (rfl : 7 + 2 = 9) ?_
    refine z_lcmp h dX12_in_9 (rfl : 9 + 1 = 10) ?_
    refine z_if_gt (pc' := 13) h 17 dX12_in_10 (by decide) rfl (fun c2 => ?_) (fun c2 => ?_)
    · have hf := zitt c2 hf
      refine z_iconst h 0 dX12_in_17 (by decide) (rfl : 17 + 1 = 18) ?_
      refine z_zret h hr dX12_in_18 (Or.inl rfl) ?_
      exact ⟨congrArg Prod.fst (zsome hf), congrArg Prod.snd (zsome hf), rfl⟩
    · have hf := zitf c2 hf
      refine z_iconst h 1 dX12_in_13 (by decide) (rfl : 13 + 1 = 14) ?_
      refine z_goto (pc' := 18) h dX12_in_14 (by decide) ?_
      refine z_zret h hr dX12_in_18 (Or.inr rfl) ?_
      exact ⟨congrArg Prod.fst (zsome hf), congrArg Prod.snd (zsome hf), rfl⟩
noncomputable def f_X12_noGap (J : zJ) (v0 : Int32) (I : zM) : Option (Int32 × zM) := ((f_X12_in J (Int32.toInt64 v0) 0 5 I).bind fun q1 => (if q1.1 = 0 then some ((1, q1.2)) else some ((0, q1.2))))
noncomputable abbrev rmX12_noGap : Room := { frames := 1, cells := 0, slots := 0, locals := 25 }
theorem zyX12_noGap : zY yX12_noGap wsX12_noGap cX12_noGap 1 (some .boolean) 1 := ⟨⟨_, rfl⟩, by decide +kernel⟩
theorem zrX12_noGap_X12_in : zRm rmX12_in rmX12_noGap 6 := ⟨rfl, rfl, by decide, by decide⟩
set_option maxHeartbeats 1000000 in
set_option maxRecDepth 100000 in
theorem c_X12_noGap (B : zB) (I : zM) (J : zJ) (hJ : zJok J) (v0 : Int32) (r : Int32) (I' : zM) (hf : f_X12_noGap J v0 I = some (r, I')) : zCi B zKW I J yX12_noGap wsX12_noGap rmX12_noGap [.int v0] (fun r2 I2 J2 => r2 = r ∧ I2 = I' ∧ J2 = J) := by
  refine z_start (own := RX12) (cc := cX12_noGap) (nL := 1) (ret := (some .boolean)) rfl (by decide) rfl (Nat.le_of_ble_eq_true rfl) (L := [(0, .int v0)]) rfl (fun G h hr => ?_)
  rw [f_X12_noGap] at hf
  refine z_iload_n h 0 dX12_noGap_0 rfl (rfl : 0 + 1 = 1) ?_
  refine z_i2l h dX12_noGap_1 (rfl : 1 + 1 = 2) ?_
  refine z_lconst h 0 dX12_noGap_2 rfl (rfl : 2 + 1 = 3) ?_
  refine z_ldc2 h 5 (List.mem_of_getElem? (i := 1) rfl) dX12_noGap_3 (rfl : 3 + 3 = 6) ?_
  obtain ⟨q1, e2, hf⟩ := zbind hf
  refine z_goF (z_runS h [.long (Int32.toInt64 v0), .long 0, .long 5] [] zyX12_in (c_X12_in B I J hJ (Int32.toInt64 v0) 0 5 _ _ e2) gX12_noGap_X12_in zrX12_noGap_X12_in rfl (Nat.le_of_ble_eq_true rfl) ⟨Nat.zero_le _, Nat.zero_le _⟩ rfl dX12_noGap_6) rfl ?_
  refine z_if_ne (pc' := 12) h 16 dX12_noGap_9 (by decide) rfl (fun c3 => ?_) (fun c3 => ?_)
  · have hf := zitf c3 hf
    refine z_iconst h 0 dX12_noGap_16 (by decide) (rfl : 16 + 1 = 17) ?_
    refine z_zret h hr dX12_noGap_17 (Or.inl rfl) ?_
    exact ⟨congrArg Prod.fst (zsome hf), congrArg Prod.snd (zsome hf), rfl⟩
  · have hf := zitt c3 hf
    refine z_iconst h 1 dX12_noGap_12 (by decide) (rfl : 12 + 1 = 13) ?_
    refine z_goto (pc' := 17) h dX12_noGap_13 (by decide) ?_
    refine z_zret h hr dX12_noGap_17 (Or.inr rfl) ?_
    exact ⟨congrArg Prod.fst (zsome hf), congrArg Prod.snd (zsome hf), rfl⟩
noncomputable def f_X12_noPerson (J : zJ) (v0 : Int32) (I : zM) : Option (Int32 × zM) := ((f_X12_in J (Int32.toInt64 v0) 0 4 I).bind fun q1 => (if q1.1 = 0 then some ((1, q1.2)) else some ((0, q1.2))))
noncomputable abbrev rmX12_noPerson : Room := { frames := 1, cells := 0, slots := 0, locals := 25 }
theorem zyX12_noPerson : zY yX12_noPerson wsX12_noPerson cX12_noPerson 1 (some .boolean) 1 := ⟨⟨_, rfl⟩, by decide +kernel⟩
theorem zrX12_noPerson_X12_in : zRm rmX12_in rmX12_noPerson 6 := ⟨rfl, rfl, by decide, by decide⟩
set_option maxHeartbeats 1000000 in
set_option maxRecDepth 100000 in
theorem c_X12_noPerson (B : zB) (I : zM) (J : zJ) (hJ : zJok J) (v0 : Int32) (r : Int32) (I' : zM) (hf : f_X12_noPerson J v0 I = some (r, I')) : zCi B zKW I J yX12_noPerson wsX12_noPerson rmX12_noPerson [.int v0] (fun r2 I2 J2 => r2 = r ∧ I2 = I' ∧ J2 = J) := by
  refine z_start (own := RX12) (cc := cX12_noPerson) (nL := 1) (ret := (some .boolean)) rfl (by decide) rfl (Nat.le_of_ble_eq_true rfl) (L := [(0, .int v0)]) rfl (fun G h hr => ?_)
  rw [f_X12_noPerson] at hf
  refine z_iload_n h 0 dX12_noPerson_0 rfl (rfl : 0 + 1 = 1) ?_
  refine z_i2l h dX12_noPerson_1 (rfl : 1 + 1 = 2) ?_
  refine z_lconst h 0 dX12_noPerson_2 rfl (rfl : 2 + 1 = 3) ?_
  refine z_ldc2 h 4 (List.mem_of_getElem? (i := 1) rfl) dX12_noPerson_3 (rfl : 3 + 3 = 6) ?_
  obtain ⟨q1, e2, hf⟩ := zbind hf
  refine z_goF (z_runS h [.long (Int32.toInt64 v0), .long 0, .long 4] [] zyX12_in (c_X12_in B I J hJ (Int32.toInt64 v0) 0 4 _ _ e2) gX12_noPerson_X12_in zrX12_noPerson_X12_in rfl (Nat.le_of_ble_eq_true rfl) ⟨Nat.zero_le _, Nat.zero_le _⟩ rfl dX12_noPerson_6) rfl ?_
  refine z_if_ne (pc' := 12) h 16 dX12_noPerson_9 (by decide) rfl (fun c3 => ?_) (fun c3 => ?_)
  · have hf := zitf c3 hf
    refine z_iconst h 0 dX12_noPerson_16 (by decide) (rfl : 16 + 1 = 17) ?_
    refine z_zret h hr dX12_noPerson_17 (Or.inl rfl) ?_
    exact ⟨congrArg Prod.fst (zsome hf), congrArg Prod.snd (zsome hf), rfl⟩
  · have hf := zitt c3 hf
    refine z_iconst h 1 dX12_noPerson_12 (by decide) (rfl : 12 + 1 = 13) ?_
    refine z_goto (pc' := 17) h dX12_noPerson_13 (by decide) ?_
    refine z_zret h hr dX12_noPerson_17 (Or.inr rfl) ?_
    exact ⟨congrArg Prod.fst (zsome hf), congrArg Prod.snd (zsome hf), rfl⟩
noncomputable def f_X12_noTrade (J : zJ) (v0 : Int32) (I : zM) : Option (Int32 × zM) := ((f_X12_in J (Int32.toInt64 v0) 0 2 I).bind fun q1 => (if q1.1 = 0 then some ((1, q1.2)) else some ((0, q1.2))))
noncomputable abbrev rmX12_noTrade : Room := { frames := 1, cells := 0, slots := 0, locals := 25 }
theorem zyX12_noTrade : zY yX12_noTrade wsX12_noTrade cX12_noTrade 1 (some .boolean) 1 := ⟨⟨_, rfl⟩, by decide +kernel⟩
theorem zrX12_noTrade_X12_in : zRm rmX12_in rmX12_noTrade 6 := ⟨rfl, rfl, by decide, by decide⟩
set_option maxHeartbeats 1000000 in
set_option maxRecDepth 100000 in
theorem c_X12_noTrade (B : zB) (I : zM) (J : zJ) (hJ : zJok J) (v0 : Int32) (r : Int32) (I' : zM) (hf : f_X12_noTrade J v0 I = some (r, I')) : zCi B zKW I J yX12_noTrade wsX12_noTrade rmX12_noTrade [.int v0] (fun r2 I2 J2 => r2 = r ∧ I2 = I' ∧ J2 = J) := by
  refine z_start (own := RX12) (cc := cX12_noTrade) (nL := 1) (ret := (some .boolean)) rfl (by decide) rfl (Nat.le_of_ble_eq_true rfl) (L := [(0, .int v0)]) rfl (fun G h hr => ?_)
  rw [f_X12_noTrade] at hf
  refine z_iload_n h 0 dX12_noTrade_0 rfl (rfl : 0 + 1 = 1) ?_
  refine z_i2l h dX12_noTrade_1 (rfl : 1 + 1 = 2) ?_
  refine z_lconst h 0 dX12_noTrade_2 rfl (rfl : 2 + 1 = 3) ?_
  refine z_ldc2 h 2 (List.mem_of_getElem? (i := 1) rfl) dX12_noTrade_3 (rfl : 3 + 3 = 6) ?_
  obtain ⟨q1, e2, hf⟩ := zbind hf
  refine z_goF (z_runS h [.long (Int32.toInt64 v0), .long 0, .long 2] [] zyX12_in (c_X12_in B I J hJ (Int32.toInt64 v0) 0 2 _ _ e2) gX12_noTrade_X12_in zrX12_noTrade_X12_in rfl (Nat.le_of_ble_eq_true rfl) ⟨Nat.zero_le _, Nat.zero_le _⟩ rfl dX12_noTrade_6) rfl ?_
  refine z_if_ne (pc' := 12) h 16 dX12_noTrade_9 (by decide) rfl (fun c3 => ?_) (fun c3 => ?_)
  · have hf := zitf c3 hf
    refine z_iconst h 0 dX12_noTrade_16 (by decide) (rfl : 16 + 1 = 17) ?_
    refine z_zret h hr dX12_noTrade_17 (Or.inl rfl) ?_
    exact ⟨congrArg Prod.fst (zsome hf), congrArg Prod.snd (zsome hf), rfl⟩
  · have hf := zitt c3 hf
    refine z_iconst h 1 dX12_noTrade_12 (by decide) (rfl : 12 + 1 = 13) ?_
    refine z_goto (pc' := 17) h dX12_noTrade_13 (by decide) ?_
    refine z_zret h hr dX12_noTrade_17 (Or.inr rfl) ?_
    exact ⟨congrArg Prod.fst (zsome hf), congrArg Prod.snd (zsome hf), rfl⟩
noncomputable def f_X12_noOrder (J : zJ) (v0 : Int32) (I : zM) : Option (Int32 × zM) := ((f_X12_in J (Int32.toInt64 v0) 0 3 I).bind fun q1 => (if q1.1 = 0 then some ((1, q1.2)) else some ((0, q1.2))))
noncomputable abbrev rmX12_noOrder : Room := { frames := 1, cells := 0, slots := 0, locals := 25 }
theorem zyX12_noOrder : zY yX12_noOrder wsX12_noOrder cX12_noOrder 1 (some .boolean) 1 := ⟨⟨_, rfl⟩, by decide +kernel⟩
theorem zrX12_noOrder_X12_in : zRm rmX12_in rmX12_noOrder 6 := ⟨rfl, rfl, by decide, by decide⟩
set_option maxHeartbeats 1000000 in
set_option maxRecDepth 100000 in
theorem c_X12_noOrder (B : zB) (I : zM) (J : zJ) (hJ : zJok J) (v0 : Int32) (r : Int32) (I' : zM) (hf : f_X12_noOrder J v0 I = some (r, I')) : zCi B zKW I J yX12_noOrder wsX12_noOrder rmX12_noOrder [.int v0] (fun r2 I2 J2 => r2 = r ∧ I2 = I' ∧ J2 = J) := by
  refine z_start (own := RX12) (cc := cX12_noOrder) (nL := 1) (ret := (some .boolean)) rfl (by decide) rfl (Nat.le_of_ble_eq_true rfl) (L := [(0, .int v0)]) rfl (fun G h hr => ?_)
  rw [f_X12_noOrder] at hf
  refine z_iload_n h 0 dX12_noOrder_0 rfl (rfl : 0 + 1 = 1) ?_
  refine z_i2l h dX12_noOrder_1 (rfl : 1 + 1 = 2) ?_
  refine z_lconst h 0 dX12_noOrder_2 rfl (rfl : 2 + 1 = 3) ?_
  refine z_ldc2 h 3 (List.mem_of_getElem? (i := 1) rfl) dX12_noOrder_3 (rfl : 3 + 3 = 6) ?_
  obtain ⟨q1, e2, hf⟩ := zbind hf
  refine z_goF (z_runS h [.long (Int32.toInt64 v0), .long 0, .long 3] [] zyX12_in (c_X12_in B I J hJ (Int32.toInt64 v0) 0 3 _ _ e2) gX12_noOrder_X12_in zrX12_noOrder_X12_in rfl (Nat.le_of_ble_eq_true rfl) ⟨Nat.zero_le _, Nat.zero_le _⟩ rfl dX12_noOrder_6) rfl ?_
  refine z_if_ne (pc' := 12) h 16 dX12_noOrder_9 (by decide) rfl (fun c3 => ?_) (fun c3 => ?_)
  · have hf := zitf c3 hf
    refine z_iconst h 0 dX12_noOrder_16 (by decide) (rfl : 16 + 1 = 17) ?_
    refine z_zret h hr dX12_noOrder_17 (Or.inl rfl) ?_
    exact ⟨congrArg Prod.fst (zsome hf), congrArg Prod.snd (zsome hf), rfl⟩
  · have hf := zitt c3 hf
    refine z_iconst h 1 dX12_noOrder_12 (by decide) (rfl : 12 + 1 = 13) ?_
    refine z_goto (pc' := 17) h dX12_noOrder_13 (by decide) ?_
    refine z_zret h hr dX12_noOrder_17 (Or.inr rfl) ?_
    exact ⟨congrArg Prod.fst (zsome hf), congrArg Prod.snd (zsome hf), rfl⟩
