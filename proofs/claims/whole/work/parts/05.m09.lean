noncomputable def f_X11_reword (J : zJ) (v1 : Int32) (I : zM) : Option (Int32 × zM) := ((f_X11_isBargain J v1 I).bind fun q1 => (if q1.1 = 0 then some (((-1), q1.2)) else ((f_X10_readFrom_X8 J 37 q1.2).bind fun q4 => (if q4.1 = (-9) then (if zin v1 8 = true then ((f_X8_copy J (zR (zR 34 (Int32.toNatClampNeg v1)) 3) 37 q4.2).bind fun q8 => ((f_X8_gapCount J 37 q8).bind fun q10 => some ((q10.1, q10.2)))) else none) else some (((-3), q4.2))))))
noncomputable abbrev rmX11_reword : Room := { frames := 10, cells := 0, slots := 0, locals := 226 }
theorem zyX11_reword : zY yX11_reword wsX11_reword cX11_reword 2 (some .int) 1 := ⟨⟨_, rfl⟩, by decide +kernel⟩
theorem zrX11_reword_X10_readFrom : zRm rmX10_readFrom rmX11_reword 4 := ⟨rfl, rfl, by decide, by decide⟩
theorem zrX11_reword_X11_isBargain : zRm rmX11_isBargain rmX11_reword 2 := ⟨rfl, rfl, by decide, by decide⟩
theorem zrX11_reword_X8_copy : zRm rmX8_copy rmX11_reword 2 := ⟨rfl, rfl, by decide, by decide⟩
theorem zrX11_reword_X8_gapCount : zRm rmX8_gapCount rmX11_reword 6 := ⟨rfl, rfl, by decide, by decide⟩
set_option maxHeartbeats 1000000 in
set_option maxRecDepth 100000 in
theorem c_X11_reword (B : zB) (I : zM) (J : zJ) (hJ : zJok J) (v1 : Int32) (r : Int32) (I' : zM) (hf : f_X11_reword J v1 I = some (r, I')) : zCi B zKW I J yX11_reword wsX11_reword rmX11_reword [.ref (za B 0), .int v1] (fun r2 I2 J2 => r2 = r ∧ I2 = I' ∧ J2 = J) := by
  refine z_start (own := RX11) (cc := cX11_reword) (nL := 2) (ret := (some .int)) rfl (by decide) rfl (Nat.le_of_ble_eq_true rfl) (L := [(0, .ref (za B 0)), (1, .int v1)]) rfl (fun G h hr => ?_)
  rw [f_X11_reword] at hf
  refine z_aload_n h 0 dX11_reword_0 rfl (rfl : 0 + 1 = 1) ?_
  refine z_iload_n h 1 dX11_reword_1 rfl (rfl : 1 + 1 = 2) ?_
  obtain ⟨q1, e2, hf⟩ := zbind hf
  refine z_goF (z_runV (C := RX11) (T := TX11) (N := 13) (ci := 10) h [.int v1] [] zyX11_isBargain (c_X11_isBargain B I J hJ v1 _ _ e2) gX11_reword_X11_isBargain rfl rfl rfl zrX11_reword_X11_isBargain rfl (Nat.le_of_ble_eq_true rfl) ⟨Nat.zero_le _, Nat.zero_le _⟩ rfl dX11_reword_2) rfl ?_
  refine z_if_ne (pc' := 8) h 10 dX11_reword_5 (by decide) rfl (fun c3 => ?_) (fun c3 => ?_)
  · have hf := zitf c3 hf
    refine z_aload_n h 0 dX11_reword_10 rfl (rfl : 10 + 1 = 11) ?_
    refine z_getr (ci := 10) (C := RX11) (T := TX11) (N := 13) h 11 37 ((hJ.1 0 11 (by decide)).trans rfl) rfl rfl (fun _ hq => List.mem_cons_of_mem _ (List.mem_append_left _ (List.mem_append_left _ (List.mem_append_left _ (List.mem_append_left _ (List.mem_append_left _ (List.mem_append_right _ hq))))))) (by decide) (List.mem_of_getElem? (i := 1) rfl) rfl dX11_reword_11 (rfl : 11 + 3 = 14) ?_
    refine z_aload_n h 0 dX11_reword_14 rfl (rfl : 14 + 1 = 15) ?_
    refine z_getr (ci := 10) (C := RX11) (T := TX11) (N := 13) h 5 16 ((hJ.1 0 5 (by decide)).trans rfl) rfl rfl (fun _ hq => List.mem_cons_of_mem _ (List.mem_append_left _ (List.mem_append_left _ (List.mem_append_left _ (List.mem_append_left _ (List.mem_append_left _ (List.mem_append_right _ hq))))))) (by decide) (List.mem_of_getElem? (i := 2) rfl) rfl dX11_reword_15 (rfl : 15 + 3 = 18) ?_
    obtain ⟨q4, e5, hf⟩ := zbind hf
    refine z_goF (z_runU (C := RX8) (T := TX8) (N := 3) (ci := 8) h [.ref (za B 16)] [] zyX10_readFrom (c_X10_readFrom_X8 B q1.2 J hJ 37 rfl _ _ e5) gX11_reword_X10_readFrom_u178X8 (List.mem_of_getElem? (i := 21) rfl) ⟨rfl, by decide, by decide⟩ rfl rfl zrX11_reword_X10_readFrom rfl (Nat.le_of_ble_eq_true rfl) ⟨Nat.zero_le _, Nat.zero_le _⟩ rfl dX11_reword_18) rfl ?_
    refine z_bipush h (-9) dX11_reword_21 (by decide) (rfl : 21 + 2 = 23) ?_
    refine z_icmp_eq (pc' := 26) h 29 dX11_reword_23 (by decide) rfl (fun c6 => ?_) (fun c6 => ?_)
    · have hf := zitt c6 hf
      refine z_aload_n h 0 dX11_reword_29 rfl (rfl : 29 + 1 = 30) ?_
      refine z_getr (ci := 10) (C := RX11) (T := TX11) (N := 13) h 8 34 ((hJ.1 0 8 (by decide)).trans rfl) rfl rfl (fun _ hq => List.mem_cons_of_mem _ (List.mem_append_left _ (List.mem_append_left _ (List.mem_append_left _ (List.mem_append_left _ (List.mem_append_left _ (List.mem_append_right _ hq))))))) (by decide) (List.mem_of_getElem? (i := 3) rfl) rfl dX11_reword_30 (rfl : 30 + 3 = 33) ?_
      refine z_iload_n h 1 dX11_reword_33 rfl (rfl : 33 + 1 = 34) ?_
      obtain ⟨b7, hf⟩ := zchk hf
      refine z_aldq h (zR 34 (Int32.toNatClampNeg v1)) (ze_3 hJ rfl (zin_lt b7)).1 rfl (by decide) rfl b7 dX11_reword_34 (rfl : 34 + 1 = 35) ?_
      refine z_getr (ci := 0) (C := RX0) (T := TX0) (N := 5) h 3 (zR (zR 34 (Int32.toNatClampNeg v1)) 3) (zf_0_3 hJ (ze_3 hJ rfl (zin_lt b7)).2).1 (ze_3 hJ rfl (zin_lt b7)).2 rfl (fun _ hq => List.mem_cons_of_mem _ (List.mem_append_left _ (List.mem_append_left _ (List.mem_append_left _ (List.mem_append_left _ (List.mem_append_right _ hq)))))) (by decide) (List.mem_of_getElem? (i := 4) rfl) rfl dX11_reword_35 (rfl : 35 + 3 = 38) ?_
      refine z_aload_n h 0 dX11_reword_38 rfl (rfl : 38 + 1 = 39) ?_
      refine z_getr (ci := 10) (C := RX11) (T := TX11) (N := 13) h 11 37 ((hJ.1 0 11 (by decide)).trans rfl) rfl rfl (fun _ hq => List.mem_cons_of_mem _ (List.mem_append_left _ (List.mem_append_left _ (List.mem_append_left _ (List.mem_append_left _ (List.mem_append_left _ (List.mem_append_right _ hq))))))) (by decide) (List.mem_of_getElem? (i := 1) rfl) rfl dX11_reword_39 (rfl : 39 + 3 = 42) ?_
      obtain ⟨q8, e9, hf⟩ := zbind hf
      refine z_goFv (z_runV (C := RX8) (T := TX8) (N := 3) (ci := 8) h [.ref (za B 37)] [] zyX8_copy (c_X8_copy B q4.2 J hJ (zR (zR 34 (Int32.toNatClampNeg v1)) 3) ((zf_0_3 hJ (ze_3 hJ rfl (zin_lt b7)).2).2) 37 rfl _ e9) gX11_reword_X8_copy rfl (zf_0_3 hJ (ze_3 hJ rfl (zin_lt b7)).2).2 rfl zrX11_reword_X8_copy rfl (Nat.le_of_ble_eq_true rfl) ⟨Nat.zero_le _, Nat.zero_le _⟩ rfl dX11_reword_42) rfl ?_
      refine z_aload_n h 0 dX11_reword_45 rfl (rfl : 45 + 1 = 46) ?_
      refine z_getr (ci := 10) (C := RX11) (T := TX11) (N := 13) h 11 37 ((hJ.1 0 11 (by decide)).trans rfl) rfl rfl (fun _ hq => List.mem_cons_of_mem _ (List.mem_append_left _ (List.mem_append_left _ (List.mem_append_left _ (List.mem_append_left _ (List.mem_append_left _ (List.mem_append_right _ hq))))))) (by decide) (List.mem_of_getElem? (i := 1) rfl) rfl dX11_reword_46 (rfl : 46 + 3 = 49) ?_
      obtain ⟨q10, e11, hf⟩ := zbind hf
      refine z_goF (z_runV (C := RX8) (T := TX8) (N := 3) (ci := 8) h [] [] zyX8_gapCount (c_X8_gapCount B q8 J hJ 37 rfl _ _ e11) gX11_reword_X8_gapCount rfl rfl rfl zrX11_reword_X8_gapCount rfl (Nat.le_of_ble_eq_true rfl) ⟨Nat.zero_le _, Nat.zero_le _⟩ rfl dX11_reword_49) rfl ?_
      refine z_iret h hr dX11_reword_52 ?_
      exact ⟨congrArg Prod.fst (zsome hf), congrArg Prod.snd (zsome hf), rfl⟩
    · have hf := zitf c6 hf
      refine z_bipush h (-3) dX11_reword_26 (by decide) (rfl : 26 + 2 = 28) ?_
      refine z_iret h hr dX11_reword_28 ?_
      exact ⟨congrArg Prod.fst (zsome hf), congrArg Prod.snd (zsome hf), rfl⟩
  · have hf := zitt c3 hf
    refine z_iconst h (-1) dX11_reword_8 (by decide) (rfl : 8 + 1 = 9) ?_
    refine z_iret h hr dX11_reword_9 ?_
    exact ⟨congrArg Prod.fst (zsome hf), congrArg Prod.snd (zsome hf), rfl⟩
