noncomputable def f_X11_before (J : zJ) (v1 : Int32) (v2 : Int32) (v3 : Int32) (I : zM) : Option (Int32 × zM) := ((f_X11_isPerson J v1 I).bind fun q1 => (if q1.1 = 0 then some (((-1), q1.2)) else ((f_X11_isPerson J v2 q1.2).bind fun q4 => (if q4.1 = 0 then some (((-1), q4.2)) else ((f_X11_isGap J v3 q4.2).bind fun q7 => (if q7.1 = 0 then some (((-1), q7.2)) else (if v1 = v2 then some (((-2), q7.2)) else ((f_X1_valueBefore J 6 v1 v2 v3 (q7.2 5 0) q7.2).bind fun q11 => some ((q11.1, q11.2))))))))))
noncomputable abbrev rmX11_before : Room := { frames := 2, cells := 0, slots := 0, locals := 50 }
theorem zyX11_before : zY yX11_before wsX11_before cX11_before 4 (some .int) 3 := ⟨⟨_, rfl⟩, by decide +kernel⟩
theorem zrX11_before_X11_isGap : zRm rmX11_isGap rmX11_before 1 := ⟨rfl, rfl, by decide, by decide⟩
theorem zrX11_before_X11_isPerson : zRm rmX11_isPerson rmX11_before 1 := ⟨rfl, rfl, by decide, by decide⟩
theorem zrX11_before_X1_valueBefore : zRm rmX1_valueBefore rmX11_before 8 := ⟨rfl, rfl, by decide, by decide⟩
set_option maxHeartbeats 1000000 in
set_option maxRecDepth 100000 in
theorem c_X11_before (B : zB) (I : zM) (J : zJ) (hJ : zJok J) (v1 : Int32) (v2 : Int32) (v3 : Int32) (r : Int32) (I' : zM) (hf : f_X11_before J v1 v2 v3 I = some (r, I')) : zCi B zKW I J yX11_before wsX11_before rmX11_before [.ref (za B 0), .int v1, .int v2, .int v3] (fun r2 I2 J2 => r2 = r ∧ I2 = I' ∧ J2 = J) := by
  refine z_start (own := RX11) (cc := cX11_before) (nL := 4) (ret := (some .int)) rfl (by decide) rfl (Nat.le_of_ble_eq_true rfl) (L := [(0, .ref (za B 0)), (1, .int v1), (2, .int v2), (3, .int v3)]) rfl (fun G h hr => ?_)
  rw [f_X11_before] at hf
  refine z_iload_n h 1 dX11_before_0 rfl (rfl : 0 + 1 = 1) ?_
  obtain ⟨q1, e2, hf⟩ := zbind hf
  refine z_goF (z_runS h [.int v1] [] zyX11_isPerson (c_X11_isPerson B I J hJ v1 _ _ e2) gX11_before_X11_isPerson zrX11_before_X11_isPerson rfl (Nat.le_of_ble_eq_true rfl) ⟨Nat.zero_le _, Nat.zero_le _⟩ rfl dX11_before_1) rfl ?_
  refine z_if_eq (pc' := 7) h 21 dX11_before_4 (by decide) rfl (fun c3 => ?_) (fun c3 => ?_)
  · have hf := zitt c3 hf
    refine z_iconst h (-1) dX11_before_21 (by decide) (rfl : 21 + 1 = 22) ?_
    refine z_iret h hr dX11_before_22 ?_
    exact ⟨congrArg Prod.fst (zsome hf), congrArg Prod.snd (zsome hf), rfl⟩
  · have hf := zitf c3 hf
    refine z_iload_n h 2 dX11_before_7 rfl (rfl : 7 + 1 = 8) ?_
    obtain ⟨q4, e5, hf⟩ := zbind hf
    refine z_goF (z_runS h [.int v2] [] zyX11_isPerson (c_X11_isPerson B q1.2 J hJ v2 _ _ e5) gX11_before_X11_isPerson zrX11_before_X11_isPerson rfl (Nat.le_of_ble_eq_true rfl) ⟨Nat.zero_le _, Nat.zero_le _⟩ rfl dX11_before_8) rfl ?_
    refine z_if_eq (pc' := 14) h 21 dX11_before_11 (by decide) rfl (fun c6 => ?_) (fun c6 => ?_)
    · have hf := zitt c6 hf
      refine z_iconst h (-1) dX11_before_21 (by decide) (rfl : 21 + 1 = 22) ?_
      refine z_iret h hr dX11_before_22 ?_
      exact ⟨congrArg Prod.fst (zsome hf), congrArg Prod.snd (zsome hf), rfl⟩
    · have hf := zitf c6 hf
      refine z_iload_n h 3 dX11_before_14 rfl (rfl : 14 + 1 = 15) ?_
      obtain ⟨q7, e8, hf⟩ := zbind hf
      refine z_goF (z_runS h [.int v3] [] zyX11_isGap (c_X11_isGap B q4.2 J hJ v3 _ _ e8) gX11_before_X11_isGap zrX11_before_X11_isGap rfl (Nat.le_of_ble_eq_true rfl) ⟨Nat.zero_le _, Nat.zero_le _⟩ rfl dX11_before_15) rfl ?_
      refine z_if_ne (pc' := 21) h 23 dX11_before_18 (by decide) rfl (fun c9 => ?_) (fun c9 => ?_)
      · have hf := zitf c9 hf
        refine z_iload_n h 1 dX11_before_23 rfl (rfl : 23 + 1 = 24) ?_
        refine z_iload_n h 2 dX11_before_24 rfl (rfl : 24 + 1 = 25) ?_
        refine z_icmp_ne (pc' := 28) h 31 dX11_before_25 (by decide) rfl (fun c10 => ?_) (fun c10 => ?_)
        · have hf := zitf c10 hf
          refine z_aload_n h 0 dX11_before_31 rfl (rfl : 31 + 1 = 32) ?_
          refine z_getr (ci := 10) (C := RX11) (T := TX11) (N := 13) h 2 6 ((hJ.1 0 2 (by decide)).trans rfl) rfl rfl (fun _ hq => List.mem_cons_of_mem _ (List.mem_append_left _ (List.mem_append_right _ hq))) (by decide) (List.mem_of_getElem? (i := 1) rfl) rfl dX11_before_32 (rfl : 32 + 3 = 35) ?_
          refine z_iload_n h 1 dX11_before_35 rfl (rfl : 35 + 1 = 36) ?_
          refine z_iload_n h 2 dX11_before_36 rfl (rfl : 36 + 1 = 37) ?_
          refine z_iload_n h 3 dX11_before_37 rfl (rfl : 37 + 1 = 38) ?_
          refine z_aload_n h 0 dX11_before_38 rfl (rfl : 38 + 1 = 39) ?_
          refine z_getr (ci := 10) (C := RX11) (T := TX11) (N := 13) h 1 5 ((hJ.1 0 1 (by decide)).trans rfl) rfl rfl (fun _ hq => List.mem_cons_of_mem _ (List.mem_append_left _ (List.mem_append_right _ hq))) (by decide) (List.mem_of_getElem? (i := 2) rfl) rfl dX11_before_39 (rfl : 39 + 3 = 42) ?_
          refine z_iconst h 0 dX11_before_42 (by decide) (rfl : 42 + 1 = 43) ?_
          refine z_iald h rfl (by decide) dX11_before_43 (rfl : 43 + 1 = 44) ?_
          obtain ⟨q11, e12, hf⟩ := zbind hf
          refine z_goF (z_runV (C := RX1) (T := TX1) (N := 9) (ci := 1) h [.int v1, .int v2, .int v3, .int (q7.2 5 0)] [] zyX1_valueBefore (c_X1_valueBefore B q7.2 J hJ 6 rfl v1 v2 v3 (q7.2 5 0) _ _ e12) gX11_before_X1_valueBefore rfl rfl rfl zrX11_before_X1_valueBefore rfl (Nat.le_of_ble_eq_true rfl) ⟨Nat.zero_le _, Nat.zero_le _⟩ rfl dX11_before_44) rfl ?_
          refine z_iret h hr dX11_before_47 ?_
          exact ⟨congrArg Prod.fst (zsome hf), congrArg Prod.snd (zsome hf), rfl⟩
        · have hf := zitt c10 hf
          refine z_bipush h (-2) dX11_before_28 (by decide) (rfl : 28 + 2 = 30) ?_
          refine z_iret h hr dX11_before_30 ?_
          exact ⟨congrArg Prod.fst (zsome hf), congrArg Prod.snd (zsome hf), rfl⟩
      · have hf := zitt c9 hf
        refine z_iconst h (-1) dX11_before_21 (by decide) (rfl : 21 + 1 = 22) ?_
        refine z_iret h hr dX11_before_22 ?_
        exact ⟨congrArg Prod.fst (zsome hf), congrArg Prod.snd (zsome hf), rfl⟩
noncomputable def f_X11_custom (J : zJ) (v1 : Int32) (v2 : Int32) (I : zM) : Option (Int32 × zM) := ((f_X11_isTrade J v1 I).bind fun q1 => (if q1.1 = 0 then some (((-1), q1.2)) else ((f_X11_isGap J v2 q1.2).bind fun q4 => (if q4.1 = 0 then some (((-1), q4.2)) else ((f_X1_customOf J 6 v1 v2 q4.2).bind fun q7 => some ((q7.1, q7.2)))))))
noncomputable abbrev rmX11_custom : Room := { frames := 2, cells := 0, slots := 0, locals := 49 }
theorem zyX11_custom : zY yX11_custom wsX11_custom cX11_custom 3 (some .int) 2 := ⟨⟨_, rfl⟩, by decide +kernel⟩
theorem zrX11_custom_X11_isGap : zRm rmX11_isGap rmX11_custom 1 := ⟨rfl, rfl, by decide, by decide⟩
theorem zrX11_custom_X11_isTrade : zRm rmX11_isTrade rmX11_custom 1 := ⟨rfl, rfl, by decide, by decide⟩
theorem zrX11_custom_X1_customOf : zRm rmX1_customOf rmX11_custom 6 := ⟨rfl, rfl, by decide, by decide⟩
set_option maxHeartbeats 1000000 in
set_option maxRecDepth 100000 in
theorem c_X11_custom (B : zB) (I : zM) (J : zJ) (hJ : zJok J) (v1 : Int32) (v2 : Int32) (r : Int32) (I' : zM) (hf : f_X11_custom J v1 v2 I = some (r, I')) : zCi B zKW I J yX11_custom wsX11_custom rmX11_custom [.ref (za B 0), .int v1, .int v2] (fun r2 I2 J2 => r2 = r ∧ I2 = I' ∧ J2 = J) := by
  refine z_start (own := RX11) (cc := cX11_custom) (nL := 3) (ret := (some .int)) rfl (by decide) rfl (Nat.le_of_ble_eq_true rfl) (L := [(0, .ref (za B 0)), (1, .int v1), (2, .int v2)]) rfl (fun G h hr => ?_)
  rw [f_X11_custom] at hf
  refine z_iload_n h 1 dX11_custom_0 rfl (rfl : 0 + 1 = 1) ?_
  obtain ⟨q1, e2, hf⟩ := zbind hf
  refine z_goF (z_runS h [.int v1] [] zyX11_isTrade (c_X11_isTrade B I J hJ v1 _ _ e2) gX11_custom_X11_isTrade zrX11_custom_X11_isTrade rfl (Nat.le_of_ble_eq_true rfl) ⟨Nat.zero_le _, Nat.zero_le _⟩ rfl dX11_custom_1) rfl ?_
  refine z_if_eq (pc' := 7) h 14 dX11_custom_4 (by decide) rfl (fun c3 => ?_) (fun c3 => ?_)
  · have hf := zitt c3 hf
    refine z_iconst h (-1) dX11_custom_14 (by decide) (rfl : 14 + 1 = 15) ?_
    refine z_iret h hr dX11_custom_15 ?_
    exact ⟨congrArg Prod.fst (zsome hf), congrArg Prod.snd (zsome hf), rfl⟩
  · have hf := zitf c3 hf
    refine z_iload_n h 2 dX11_custom_7 rfl (rfl : 7 + 1 = 8) ?_
    obtain ⟨q4, e5, hf⟩ := zbind hf
    refine z_goF (z_runS h [.int v2] [] zyX11_isGap (c_X11_isGap B q1.2 J hJ v2 _ _ e5) gX11_custom_X11_isGap zrX11_custom_X11_isGap rfl (Nat.le_of_ble_eq_true rfl) ⟨Nat.zero_le _, Nat.zero_le _⟩ rfl dX11_custom_8) rfl ?_
    refine z_if_ne (pc' := 14) h 16 dX11_custom_11 (by decide) rfl (fun c6 => ?_) (fun c6 => ?_)
    · have hf := zitf c6 hf
      refine z_aload_n h 0 dX11_custom_16 rfl (rfl : 16 + 1 = 17) ?_
      refine z_getr (ci := 10) (C := RX11) (T := TX11) (N := 13) h 2 6 ((hJ.1 0 2 (by decide)).trans rfl) rfl rfl (fun _ hq => List.mem_cons_of_mem _ (List.mem_append_left _ (List.mem_append_right _ hq))) (by decide) (List.mem_of_getElem? (i := 1) rfl) rfl dX11_custom_17 (rfl : 17 + 3 = 20) ?_
      refine z_iload_n h 1 dX11_custom_20 rfl (rfl : 20 + 1 = 21) ?_
      refine z_iload_n h 2 dX11_custom_21 rfl (rfl : 21 + 1 = 22) ?_
      refine z_aload_n h 0 dX11_custom_22 rfl (rfl : 22 + 1 = 23) ?_
      refine z_getr (ci := 10) (C := RX11) (T := TX11) (N := 13) h 1 5 ((hJ.1 0 1 (by decide)).trans rfl) rfl rfl (fun _ hq => List.mem_cons_of_mem _ (List.mem_append_left _ (List.mem_append_right _ hq))) (by decide) (List.mem_of_getElem? (i := 2) rfl) rfl dX11_custom_23 (rfl : 23 + 3 = 26) ?_
      obtain ⟨q7, e8, hf⟩ := zbind hf
      refine z_goF (z_runV (C := RX1) (T := TX1) (N := 9) (ci := 1) h [.int v1, .int v2, .ref (za B 5)] [] zyX1_customOf (c_X1_customOf B q4.2 J hJ 6 rfl v1 v2 _ _ e8) gX11_custom_X1_customOf rfl rfl rfl zrX11_custom_X1_customOf rfl (Nat.le_of_ble_eq_true rfl) ⟨Nat.zero_le _, Nat.zero_le _⟩ rfl dX11_custom_26) rfl ?_
      refine z_iret h hr dX11_custom_29 ?_
      exact ⟨congrArg Prod.fst (zsome hf), congrArg Prod.snd (zsome hf), rfl⟩
    · have hf := zitt c6 hf
      refine z_iconst h (-1) dX11_custom_14 (by decide) (rfl : 14 + 1 = 15) ?_
      refine z_iret h hr dX11_custom_15 ?_
      exact ⟨congrArg Prod.fst (zsome hf), congrArg Prod.snd (zsome hf), rfl⟩
noncomputable def f_X11_lacks (J : zJ) (v1 : Int32) (v2 : Int32) (v3 : Int32) (I : zM) : Option (Int32 × zM) := ((f_X11_isTrade J v1 I).bind fun q1 => (if q1.1 = 0 then some (((-1), q1.2)) else ((f_X11_isGap J v2 q1.2).bind fun q4 => (if q4.1 = 0 then some (((-1), q4.2)) else ((f_X11_isValue J v3 q4.2).bind fun q7 => (if q7.1 = 0 then some (((-2), q7.2)) else ((f_X1_lacking J 6 v1 v2 v3 q7.2).bind fun q10 => some ((q10.1, q10.2)))))))))
noncomputable abbrev rmX11_lacks : Room := { frames := 2, cells := 0, slots := 0, locals := 50 }
theorem zyX11_lacks : zY yX11_lacks wsX11_lacks cX11_lacks 4 (some .int) 3 := ⟨⟨_, rfl⟩, by decide +kernel⟩
theorem zrX11_lacks_X11_isGap : zRm rmX11_isGap rmX11_lacks 1 := ⟨rfl, rfl, by decide, by decide⟩
theorem zrX11_lacks_X11_isTrade : zRm rmX11_isTrade rmX11_lacks 1 := ⟨rfl, rfl, by decide, by decide⟩
theorem zrX11_lacks_X11_isValue : zRm rmX11_isValue rmX11_lacks 1 := ⟨rfl, rfl, by decide, by decide⟩
theorem zrX11_lacks_X1_lacking : zRm rmX1_lacking rmX11_lacks 7 := ⟨rfl, rfl, by decide, by decide⟩
set_option maxHeartbeats 1000000 in
set_option maxRecDepth 100000 in
theorem c_X11_lacks (B : zB) (I : zM) (J : zJ) (hJ : zJok J) (v1 : Int32) (v2 : Int32) (v3 : Int32) (r : Int32) (I' : zM) (hf : f_X11_lacks J v1 v2 v3 I = some (r, I')) : zCi B zKW I J yX11_lacks wsX11_lacks rmX11_lacks [.ref (za B 0), .int v1, .int v2, .int v3] (fun r2 I2 J2 => r2 = r ∧ I2 = I' ∧ J2 = J) := by
  refine z_start (own := RX11) (cc := cX11_lacks) (nL := 4) (ret := (some .int)) rfl (by decide) rfl (Nat.le_of_ble_eq_true rfl) (L := [(0, .ref (za B 0)), (1, .int v1), (2, .int v2), (3, .int v3)]) rfl (fun G h hr => ?_)
  rw [f_X11_lacks] at hf
  refine z_iload_n h 1 dX11_lacks_0 rfl (rfl : 0 + 1 = 1) ?_
  obtain ⟨q1, e2, hf⟩ := zbind hf
  refine z_goF (z_runS h [.int v1] [] zyX11_isTrade (c_X11_isTrade B I J hJ v1 _ _ e2) gX11_lacks_X11_isTrade zrX11_lacks_X11_isTrade rfl (Nat.le_of_ble_eq_true rfl) ⟨Nat.zero_le _, Nat.zero_le _⟩ rfl dX11_lacks_1) rfl ?_
  refine z_if_eq (pc' := 7) h 14 dX11_lacks_4 (by decide) rfl (fun c3 => ?_) (fun c3 => ?_)
  · have hf := zitt c3 hf
    refine z_iconst h (-1) dX11_lacks_14 (by decide) (rfl : 14 + 1 = 15) ?_
    refine z_iret h hr dX11_lacks_15 ?_
    exact ⟨congrArg Prod.fst (zsome hf), congrArg Prod.snd (zsome hf), rfl⟩
  · have hf := zitf c3 hf
    refine z_iload_n h 2 dX11_lacks_7 rfl (rfl : 7 + 1 = 8) ?_
    obtain ⟨q4, e5, hf⟩ := zbind hf
    refine z_goF (z_runS h [.int v2] [] zyX11_isGap (c_X11_isGap B q1.2 J hJ v2 _ _ e5) gX11_lacks_X11_isGap zrX11_lacks_X11_isGap rfl (Nat.le_of_ble_eq_true rfl) ⟨Nat.zero_le _, Nat.zero_le _⟩ rfl dX11_lacks_8) rfl ?_
    refine z_if_ne (pc' := 14) h 16 dX11_lacks_11 (by decide) rfl (fun c6 => ?_) (fun c6 => ?_)
    · have hf := zitf c6 hf
      refine z_iload_n h 3 dX11_lacks_16 rfl (rfl : 16 + 1 = 17) ?_
      obtain ⟨q7, e8, hf⟩ := zbind hf
      refine z_goF (z_runS h [.int v3] [] zyX11_isValue (c_X11_isValue B q4.2 J hJ v3 _ _ e8) gX11_lacks_X11_isValue zrX11_lacks_X11_isValue rfl (Nat.le_of_ble_eq_true rfl) ⟨Nat.zero_le _, Nat.zero_le _⟩ rfl dX11_lacks_17) rfl ?_
      refine z_if_ne (pc' := 23) h 26 dX11_lacks_20 (by decide) rfl (fun c9 => ?_) (fun c9 => ?_)
      · have hf := zitf c9 hf
        refine z_aload_n h 0 dX11_lacks_26 rfl (rfl : 26 + 1 = 27) ?_
        refine z_getr (ci := 10) (C := RX11) (T := TX11) (N := 13) h 2 6 ((hJ.1 0 2 (by decide)).trans rfl) rfl rfl (fun _ hq => List.mem_cons_of_mem _ (List.mem_append_left _ (List.mem_append_right _ hq))) (by decide) (List.mem_of_getElem? (i := 1) rfl) rfl dX11_lacks_27 (rfl : 27 + 3 = 30) ?_
        refine z_iload_n h 1 dX11_lacks_30 rfl (rfl : 30 + 1 = 31) ?_
        refine z_iload_n h 2 dX11_lacks_31 rfl (rfl : 31 + 1 = 32) ?_
        refine z_iload_n h 3 dX11_lacks_32 rfl (rfl : 32 + 1 = 33) ?_
        refine z_aload_n h 0 dX11_lacks_33 rfl (rfl : 33 + 1 = 34) ?_
        refine z_getr (ci := 10) (C := RX11) (T := TX11) (N := 13) h 1 5 ((hJ.1 0 1 (by decide)).trans rfl) rfl rfl (fun _ hq => List.mem_cons_of_mem _ (List.mem_append_left _ (List.mem_append_right _ hq))) (by decide) (List.mem_of_getElem? (i := 2) rfl) rfl dX11_lacks_34 (rfl : 34 + 3 = 37) ?_
        obtain ⟨q10, e11, hf⟩ := zbind hf
        refine z_goF (z_runV (C := RX1) (T := TX1) (N := 9) (ci := 1) h [.int v1, .int v2, .int v3, .ref (za B 5)] [] zyX1_lacking (c_X1_lacking B q7.2 J hJ 6 rfl v1 v2 v3 _ _ e11) gX11_lacks_X1_lacking rfl rfl rfl zrX11_lacks_X1_lacking rfl (Nat.le_of_ble_eq_true rfl) ⟨Nat.zero_le _, Nat.zero_le _⟩ rfl dX11_lacks_37) rfl ?_
        refine z_iret h hr dX11_lacks_40 ?_
        exact ⟨congrArg Prod.fst (zsome hf), congrArg Prod.snd (zsome hf), rfl⟩
      · have hf := zitt c9 hf
        refine z_bipush h (-2) dX11_lacks_23 (by decide) (rfl : 23 + 2 = 25) ?_
        refine z_iret h hr dX11_lacks_25 ?_
        exact ⟨congrArg Prod.fst (zsome hf), congrArg Prod.snd (zsome hf), rfl⟩
    · have hf := zitt c6 hf
      refine z_iconst h (-1) dX11_lacks_14 (by decide) (rfl : 14 + 1 = 15) ?_
      refine z_iret h hr dX11_lacks_15 ?_
      exact ⟨congrArg Prod.fst (zsome hf), congrArg Prod.snd (zsome hf), rfl⟩
noncomputable def f_X11_write (J : zJ) (v1 : Int32) (w2 : Int64) (I : zM) : Option (Int32 × zM) := (if v1 < 1 then some (((-2), I)) else (if v1 ≤ 8 then (if (I 16 1) + v1 ≤ 24 then ((f_X9_append J v1 w2 I).bind fun q4 => some ((q4 16 1, q4))) else some (((-4), I))) else some (((-2), I))))
noncomputable abbrev rmX11_write : Room := { frames := 1, cells := 0, slots := 0, locals := 24 }
theorem zyX11_write : zY yX11_write wsX11_write cX11_write 4 (some .int) 2 := ⟨⟨_, rfl⟩, by decide +kernel⟩
theorem zrX11_write_X9_append : zRm rmX9_append rmX11_write 5 := ⟨rfl, rfl, by decide, by decide⟩
set_option maxHeartbeats 1000000 in
set_option maxRecDepth 100000 in
theorem c_X11_write (B : zB) (I : zM) (J : zJ) (hJ : zJok J) (v1 : Int32) (w2 : Int64) (r : Int32) (I' : zM) (hf : f_X11_write J v1 w2 I = some (r, I')) : zCi B zKW I J yX11_write wsX11_write rmX11_write [.ref (za B 0), .int v1, .long w2] (fun r2 I2 J2 => r2 = r ∧ I2 = I' ∧ J2 = J) := by
  refine z_start (own := RX11) (cc := cX11_write) (nL := 4) (ret := (some .int)) rfl (by decide) rfl (Nat.le_of_ble_eq_true rfl) (L := [(0, .ref (za B 0)), (1, .int v1), (2, .long w2)]) rfl (fun G h hr => ?_)
  rw [f_X11_write] at hf
  refine z_iload_n h 1 dX11_write_0 rfl (rfl : 0 + 1 = 1) ?_
  refine z_iconst h 1 dX11_write_1 (by decide) (rfl : 1 + 1 = 2) ?_
  refine z_icmp_lt (pc' := 5) h 11 dX11_write_2 (by decide) rfl (fun c1 => ?_) (fun c1 => ?_)
  · have hf := zitt c1 hf
    refine z_bipush h (-2) dX11_write_11 (by decide) (rfl : 11 + 2 = 13) ?_
    refine z_iret h hr dX11_write_13 ?_
    exact ⟨congrArg Prod.fst (zsome hf), congrArg Prod.snd (zsome hf), rfl⟩
  · have hf := zitf c1 hf
    refine z_iload_n h 1 dX11_write_5 rfl (rfl : 5 + 1 = 6) ?_
    refine z_bipush h 8 dX11_write_6 (by decide) (rfl : 6 + 2 = 8) ?_
    refine z_icmp_le (pc' := 11) h 14 dX11_write_8 (by decide) rfl (fun c2 => ?_) (fun c2 => ?_)
    · have hf := zitt c2 hf
      refine z_aload_n h 0 dX11_write_14 rfl (rfl : 14 + 1 = 15) ?_
      refine z_getr (ci := 10) (C := RX11) (T := TX11) (N := 13) h 5 16 ((hJ.1 0 5 (by decide)).trans rfl) rfl rfl (fun _ hq => List.mem_cons_of_mem _ (List.mem_append_left _ (List.mem_append_right _ hq))) (by decide) (List.mem_of_getElem? (i := 1) rfl) rfl dX11_write_15 (rfl : 15 + 3 = 18) ?_
      refine z_get (ci := 9) (C := RX9) (T := TX9) (N := 2) h 1 rfl rfl (fun _ hq => List.mem_cons_of_mem _ (List.mem_append_right _ hq)) (by decide) (List.mem_of_getElem? (i := 2) rfl) rfl dX11_write_18 (rfl : 18 + 3 = 21) ?_
      refine z_iload_n h 1 dX11_write_21 rfl (rfl : 21 + 1 = 22) ?_
      refine z_iadd h dX11_write_22 (rfl : 22 + 1 = 23) ?_
      refine z_bipush h 24 dX11_write_23 (by decide) (rfl : 23 + 2 = 25) ?_
      refine z_icmp_le (pc' := 28) h 31 dX11_write_25 (by decide) rfl (fun c3 => ?_) (fun c3 => ?_)
      · have hf := zitt c3 hf
        refine z_aload_n h 0 dX11_write_31 rfl (rfl : 31 + 1 = 32) ?_
        refine z_getr (ci := 10) (C := RX11) (T := TX11) (N := 13) h 5 16 ((hJ.1 0 5 (by decide)).trans rfl) rfl rfl (fun _ hq => List.mem_cons_of_mem _ (List.mem_append_left _ (List.mem_append_right _ hq))) (by decide) (List.mem_of_getElem? (i := 1) rfl) rfl dX11_write_32 (rfl : 32 + 3 = 35) ?_
        refine z_iload_n h 1 dX11_write_35 rfl (rfl : 35 + 1 = 36) ?_
        refine z_lload_n h 2 dX11_write_36 rfl (rfl : 36 + 1 = 37) ?_
        obtain ⟨q4, e5, hf⟩ := zbind hf
        refine z_goFv (z_runV (C := RX9) (T := TX9) (N := 2) (ci := 9) h [.int v1, .long w2] [] zyX9_append (c_X9_append B I J hJ v1 w2 _ e5) gX11_write_X9_append rfl rfl rfl zrX11_write_X9_append rfl (Nat.le_of_ble_eq_true rfl) ⟨Nat.zero_le _, Nat.zero_le _⟩ rfl dX11_write_37) rfl ?_
        refine z_aload_n h 0 dX11_write_40 rfl (rfl : 40 + 1 = 41) ?_
        refine z_getr (ci := 10) (C := RX11) (T := TX11) (N := 13) h 5 16 ((hJ.1 0 5 (by decide)).trans rfl) rfl rfl (fun _ hq => List.mem_cons_of_mem _ (List.mem_append_left _ (List.mem_append_right _ hq))) (by decide) (List.mem_of_getElem? (i := 1) rfl) rfl dX11_write_41 (rfl : 41 + 3 = 44) ?_
        refine z_get (ci := 9) (C := RX9) (T := TX9) (N := 2) h 1 rfl rfl (fun _ hq => List.mem_cons_of_mem _ (List.mem_append_right _ hq)) (by decide) (List.mem_of_getElem? (i := 2) rfl) rfl dX11_write_44 (rfl : 44 + 3 = 47) ?_
        refine z_iret h hr dX11_write_47 ?_
        exact ⟨congrArg Prod.fst (zsome hf), congrArg Prod.snd (zsome hf), rfl⟩
      · have hf := zitf c3 hf
        refine z_bipush h (-4) dX11_write_28 (by decide) (rfl : 28 + 2 = 30) ?_
        refine z_iret h hr dX11_write_30 ?_
        exact ⟨congrArg Prod.fst (zsome hf), congrArg Prod.snd (zsome hf), rfl⟩
    · have hf := zitf c2 hf
      refine z_bipush h (-2) dX11_write_11 (by decide) (rfl : 11 + 2 = 13) ?_
      refine z_iret h hr dX11_write_13 ?_
      exact ⟨congrArg Prod.fst (zsome hf), congrArg Prod.snd (zsome hf), rfl⟩
noncomputable def f_X11_wipe (J : zJ)  (I : zM) : Option (Int32 × zM) := some ((I 16 1, zu I 16 1 0))
noncomputable abbrev rmX11_wipe : Room := { frames := 0, cells := 0, slots := 0, locals := 0 }
theorem zyX11_wipe : zY yX11_wipe wsX11_wipe cX11_wipe 2 (some .int) 0 := ⟨⟨_, rfl⟩, by decide +kernel⟩
set_option maxHeartbeats 1000000 in
set_option maxRecDepth 100000 in
theorem c_X11_wipe (B : zB) (I : zM) (J : zJ) (hJ : zJok J)  (r : Int32) (I' : zM) (hf : f_X11_wipe J  I = some (r, I')) : zCi B zKW I J yX11_wipe wsX11_wipe rmX11_wipe [.ref (za B 0)] (fun r2 I2 J2 => r2 = r ∧ I2 = I' ∧ J2 = J) := by
  refine z_start (own := RX11) (cc := cX11_wipe) (nL := 2) (ret := (some .int)) rfl (by decide) rfl (Nat.le_of_ble_eq_true rfl) (L := [(0, .ref (za B 0))]) rfl (fun G h hr => ?_)
  rw [f_X11_wipe] at hf
  refine z_aload_n h 0 dX11_wipe_0 rfl (rfl : 0 + 1 = 1) ?_
  refine z_getr (ci := 10) (C := RX11) (T := TX11) (N := 13) h 5 16 ((hJ.1 0 5 (by decide)).trans rfl) rfl rfl (fun _ hq => List.mem_cons_of_mem _ (List.mem_append_left _ (List.mem_append_right _ hq))) (by decide) (List.mem_of_getElem? (i := 1) rfl) rfl dX11_wipe_1 (rfl : 1 + 3 = 4) ?_
  refine z_get (ci := 9) (C := RX9) (T := TX9) (N := 2) h 1 rfl rfl (fun _ hq => List.mem_cons_of_mem _ (List.mem_append_right _ hq)) (by decide) (List.mem_of_getElem? (i := 2) rfl) rfl dX11_wipe_4 (rfl : 4 + 3 = 7) ?_
  refine z_istore_n h [(1, .int (I 16 1)), (0, .ref (za B 0))] dX11_wipe_7 (by decide) rfl (rfl : 7 + 1 = 8) ?_
  refine z_aload_n h 1 dX11_wipe_8 rfl (rfl : 8 + 1 = 9) ?_
  refine z_getr (ci := 10) (C := RX11) (T := TX11) (N := 13) h 5 16 ((hJ.1 0 5 (by decide)).trans rfl) rfl rfl (fun _ hq => List.mem_cons_of_mem _ (List.mem_append_left _ (List.mem_append_right _ hq))) (by decide) (List.mem_of_getElem? (i := 1) rfl) rfl dX11_wipe_9 (rfl : 9 + 3 = 12) ?_
  refine z_iconst h 0 dX11_wipe_12 (by decide) (rfl : 12 + 1 = 13) ?_
  refine z_put (ci := 9) (C := RX9) (T := TX9) (N := 2) h 1 tyX9 tyX9_ok nmX9 rfl rfl (fun _ hq => List.mem_cons_of_mem _ (List.mem_append_right _ hq)) (by decide) (List.mem_of_getElem? (i := 2) rfl) rfl rfl rfl dX11_wipe_13 (rfl : 13 + 3 = 16) ?_
  refine z_iload_n h 0 dX11_wipe_16 rfl (rfl : 16 + 1 = 17) ?_
  refine z_iret h hr dX11_wipe_17 ?_
  exact ⟨congrArg Prod.fst (zsome hf), congrArg Prod.snd (zsome hf), rfl⟩
noncomputable def f_X11_isRule (J : zJ) (v1 : Int32) (I : zM) : Option (Int32 × zM) := (if v1 < 0 then some ((0, I)) else (if I 18 1 ≤ v1 then some ((0, I)) else some ((1, I))))
noncomputable abbrev rmX11_isRule : Room := { frames := 0, cells := 0, slots := 0, locals := 0 }
theorem zyX11_isRule : zY yX11_isRule wsX11_isRule cX11_isRule 2 (some .boolean) 1 := ⟨⟨_, rfl⟩, by decide +kernel⟩
set_option maxHeartbeats 1000000 in
set_option maxRecDepth 100000 in
theorem c_X11_isRule (B : zB) (I : zM) (J : zJ) (hJ : zJok J) (v1 : Int32) (r : Int32) (I' : zM) (hf : f_X11_isRule J v1 I = some (r, I')) : zCi B zKW I J yX11_isRule wsX11_isRule rmX11_isRule [.ref (za B 0), .int v1] (fun r2 I2 J2 => r2 = r ∧ I2 = I' ∧ J2 = J) := by
  refine z_start (own := RX11) (cc := cX11_isRule) (nL := 2) (ret := (some .boolean)) rfl (by decide) rfl (Nat.le_of_ble_eq_true rfl) (L := [(0, .ref (za B 0)), (1, .int v1)]) rfl (fun G h hr => ?_)
  rw [f_X11_isRule] at hf
  refine z_iload_n h 1 dX11_isRule_0 rfl (rfl : 0 + 1 = 1) ?_
  refine z_if_lt (pc' := 4) h 19 dX11_isRule_1 (by decide) rfl (fun c1 => ?_) (fun c1 => ?_)
  · have hf := zitt c1 hf
    refine z_iconst h 0 dX11_isRule_19 (by decide) (rfl : 19 + 1 = 20) ?_
    refine z_zret h hr dX11_isRule_20 (Or.inl rfl) ?_
    exact ⟨congrArg Prod.fst (zsome hf), congrArg Prod.snd (zsome hf), rfl⟩
  · have hf := zitf c1 hf
    refine z_iload_n h 1 dX11_isRule_4 rfl (rfl : 4 + 1 = 5) ?_
    refine z_aload_n h 0 dX11_isRule_5 rfl (rfl : 5 + 1 = 6) ?_
    refine z_getr (ci := 10) (C := RX11) (T := TX11) (N := 13) h 6 18 ((hJ.1 0 6 (by decide)).trans rfl) rfl rfl (fun _ hq => List.mem_cons_of_mem _ (List.mem_append_left _ (List.mem_append_right _ hq))) (by decide) (List.mem_of_getElem? (i := 1) rfl) rfl dX11_isRule_6 (rfl : 6 + 3 = 9) ?_
    refine z_get (ci := 7) (C := RX7) (T := TX7) (N := 2) h 1 rfl rfl (fun _ hq => List.mem_cons_of_mem _ (List.mem_append_right _ hq)) (by decide) (List.mem_of_getElem? (i := 2) rfl) rfl dX11_isRule_9 (rfl : 9 + 3 = 12) ?_
    refine z_icmp_ge (pc' := 15) h 19 dX11_isRule_12 (by decide) rfl (fun c2 => ?_) (fun c2 => ?_)
    · have hf := zitt c2 hf
      refine z_iconst h 0 dX11_isRule_19 (by decide) (rfl : 19 + 1 = 20) ?_
      refine z_zret h hr dX11_isRule_20 (Or.inl rfl) ?_
      exact ⟨congrArg Prod.fst (zsome hf), congrArg Prod.snd (zsome hf), rfl⟩
    · have hf := zitf c2 hf
      refine z_iconst h 1 dX11_isRule_15 (by decide) (rfl : 15 + 1 = 16) ?_
      refine z_goto (pc' := 20) h dX11_isRule_16 (by decide) ?_
      refine z_zret h hr dX11_isRule_20 (Or.inr rfl) ?_
      exact ⟨congrArg Prod.fst (zsome hf), congrArg Prod.snd (zsome hf), rfl⟩
noncomputable def f_X11_unrule (J : zJ) (v1 : Int32) (I : zM) : Option (Int32 × zM × zJ) := ((f_X11_isRule J v1 I).bind fun q1 => (if q1.1 = 0 then some (((-1), (q1.2, J))) else ((f_X7_remove J v1 q1.2).bind fun q4 => some ((q4.1 18 1, (q4.1, q4.2))))))
noncomputable abbrev rmX11_unrule : Room := { frames := 1, cells := 0, slots := 0, locals := 23 }
theorem zyX11_unrule : zY yX11_unrule wsX11_unrule cX11_unrule 2 (some .int) 1 := ⟨⟨_, rfl⟩, by decide +kernel⟩
theorem zrX11_unrule_X11_isRule : zRm rmX11_isRule rmX11_unrule 2 := ⟨rfl, rfl, by decide, by decide⟩
theorem zrX11_unrule_X7_remove : zRm rmX7_remove rmX11_unrule 4 := ⟨rfl, rfl, by decide, by decide⟩
set_option maxHeartbeats 1000000 in
set_option maxRecDepth 100000 in
theorem c_X11_unrule (B : zB) (I : zM) (J : zJ) (hJ : zJok J) (v1 : Int32) (r : Int32) (I' : zM) (J' : zJ) (hf : f_X11_unrule J v1 I = some (r, (I', J'))) : zCi B zKW I J yX11_unrule wsX11_unrule rmX11_unrule [.ref (za B 0), .int v1] (fun r2 I2 J2 => r2 = r ∧ I2 = I' ∧ J2 = J') := by
  refine z_start (own := RX11) (cc := cX11_unrule) (nL := 2) (ret := (some .int)) rfl (by decide) rfl (Nat.le_of_ble_eq_true rfl) (L := [(0, .ref (za B 0)), (1, .int v1)]) rfl (fun G h hr => ?_)
  rw [f_X11_unrule] at hf
  refine z_aload_n h 0 dX11_unrule_0 rfl (rfl : 0 + 1 = 1) ?_
  refine z_iload_n h 1 dX11_unrule_1 rfl (rfl : 1 + 1 = 2) ?_
  obtain ⟨q1, e2, hf⟩ := zbind hf
  refine z_goF (z_runV (C := RX11) (T := TX11) (N := 13) (ci := 10) h [.int v1] [] zyX11_isRule (c_X11_isRule B I J hJ v1 _ _ e2) gX11_unrule_X11_isRule rfl rfl rfl zrX11_unrule_X11_isRule rfl (Nat.le_of_ble_eq_true rfl) ⟨Nat.zero_le _, Nat.zero_le _⟩ rfl dX11_unrule_2) rfl ?_
  refine z_if_ne (pc' := 8) h 10 dX11_unrule_5 (by decide) rfl (fun c3 => ?_) (fun c3 => ?_)
  · have hf := zitf c3 hf
    refine z_aload_n h 0 dX11_unrule_10 rfl (rfl : 10 + 1 = 11) ?_
    refine z_getr (ci := 10) (C := RX11) (T := TX11) (N := 13) h 6 18 ((hJ.1 0 6 (by decide)).trans rfl) rfl rfl (fun _ hq => List.mem_cons_of_mem _ (List.mem_append_left _ (List.mem_append_right _ hq))) (by decide) (List.mem_of_getElem? (i := 1) rfl) rfl dX11_unrule_11 (rfl : 11 + 3 = 14) ?_
    refine z_iload_n h 1 dX11_unrule_14 rfl (rfl : 14 + 1 = 15) ?_
    obtain ⟨q4, e5, hf⟩ := zbind hf
    refine z_goFvJ (z_runV (C := RX7) (T := TX7) (N := 2) (ci := 7) h [.int v1] [] zyX7_remove (c_X7_remove B q1.2 J hJ v1 _ _ e5) gX11_unrule_X7_remove rfl rfl rfl zrX11_unrule_X7_remove rfl (Nat.le_of_ble_eq_true rfl) ⟨Nat.zero_le _, Nat.zero_le _⟩ rfl dX11_unrule_15) rfl ?_
    refine z_aload_n h 0 dX11_unrule_18 rfl (rfl : 18 + 1 = 19) ?_
    refine z_getr (ci := 10) (C := RX11) (T := TX11) (N := 13) h 6 18 (((k_X7_remove hJ e5).1 0 6 (by decide)).trans rfl) rfl rfl (fun _ hq => List.mem_cons_of_mem _ (List.mem_append_left _ (List.mem_append_right _ hq))) (by decide) (List.mem_of_getElem? (i := 1) rfl) rfl dX11_unrule_19 (rfl : 19 + 3 = 22) ?_
    refine z_get (ci := 7) (C := RX7) (T := TX7) (N := 2) h 1 rfl rfl (fun _ hq => List.mem_cons_of_mem _ (List.mem_append_right _ hq)) (by decide) (List.mem_of_getElem? (i := 2) rfl) rfl dX11_unrule_22 (rfl : 22 + 3 = 25) ?_
    refine z_iret h hr dX11_unrule_25 ?_
    exact ⟨congrArg Prod.fst (zsome hf), congrArg (fun q => q.2.1) (zsome hf), congrArg (fun q => q.2.2) (zsome hf)⟩
  · have hf := zitt c3 hf
    refine z_iconst h (-1) dX11_unrule_8 (by decide) (rfl : 8 + 1 = 9) ?_
    refine z_iret h hr dX11_unrule_9 ?_
    exact ⟨congrArg Prod.fst (zsome hf), congrArg (fun q => q.2.1) (zsome hf), congrArg (fun q => q.2.2) (zsome hf)⟩
noncomputable def f_X11_ruled (J : zJ) (v1 : Int32) (v2 : Int32) (I : zM) : Option (Int32 × zM) := ((f_X11_isRule J v1 I).bind fun q1 => (if q1.1 = 0 then some (((-1), q1.2)) else (if zin v1 13 = true then ((f_X6_tells J (zrp J (Int32.toNatClampNeg v1)) v2 q1.2).bind fun q5 => some ((q5.1, q5.2))) else none)))
noncomputable abbrev rmX11_ruled : Room := { frames := 1, cells := 0, slots := 0, locals := 21 }
theorem zyX11_ruled : zY yX11_ruled wsX11_ruled cX11_ruled 3 (some .int) 2 := ⟨⟨_, rfl⟩, by decide +kernel⟩
theorem zrX11_ruled_X11_isRule : zRm rmX11_isRule rmX11_ruled 2 := ⟨rfl, rfl, by decide, by decide⟩
theorem zrX11_ruled_X6_tells : zRm rmX6_tells rmX11_ruled 2 := ⟨rfl, rfl, by decide, by decide⟩
set_option maxHeartbeats 1000000 in
set_option maxRecDepth 100000 in
theorem c_X11_ruled (B : zB) (I : zM) (J : zJ) (hJ : zJok J) (v1 : Int32) (v2 : Int32) (r : Int32) (I' : zM) (hf : f_X11_ruled J v1 v2 I = some (r, I')) : zCi B zKW I J yX11_ruled wsX11_ruled rmX11_ruled [.ref (za B 0), .int v1, .int v2] (fun r2 I2 J2 => r2 = r ∧ I2 = I' ∧ J2 = J) := by
  refine z_start (own := RX11) (cc := cX11_ruled) (nL := 3) (ret := (some .int)) rfl (by decide) rfl (Nat.le_of_ble_eq_true rfl) (L := [(0, .ref (za B 0)), (1, .int v1), (2, .int v2)]) rfl (fun G h hr => ?_)
  rw [f_X11_ruled] at hf
  refine z_aload_n h 0 dX11_ruled_0 rfl (rfl : 0 + 1 = 1) ?_
  refine z_iload_n h 1 dX11_ruled_1 rfl (rfl : 1 + 1 = 2) ?_
  obtain ⟨q1, e2, hf⟩ := zbind hf
  refine z_goF (z_runV (C := RX11) (T := TX11) (N := 13) (ci := 10) h [.int v1] [] zyX11_isRule (c_X11_isRule B I J hJ v1 _ _ e2) gX11_ruled_X11_isRule rfl rfl rfl zrX11_ruled_X11_isRule rfl (Nat.le_of_ble_eq_true rfl) ⟨Nat.zero_le _, Nat.zero_le _⟩ rfl dX11_ruled_2) rfl ?_
  refine z_if_ne (pc' := 8) h 10 dX11_ruled_5 (by decide) rfl (fun c3 => ?_) (fun c3 => ?_)
  · have hf := zitf c3 hf
    refine z_aload_n h 0 dX11_ruled_10 rfl (rfl : 10 + 1 = 11) ?_
    refine z_getr (ci := 10) (C := RX11) (T := TX11) (N := 13) h 6 18 ((hJ.1 0 6 (by decide)).trans rfl) rfl rfl (fun _ hq => List.mem_cons_of_mem _ (List.mem_append_left _ (List.mem_append_left _ (List.mem_append_right _ hq)))) (by decide) (List.mem_of_getElem? (i := 1) rfl) rfl dX11_ruled_11 (rfl : 11 + 3 = 14) ?_
    refine z_getr (ci := 7) (C := RX7) (T := TX7) (N := 2) h 0 19 ((hJ.1 18 0 (by decide)).trans rfl) rfl rfl (fun _ hq => List.mem_cons_of_mem _ (List.mem_append_left _ (List.mem_append_right _ hq))) (by decide) (List.mem_of_getElem? (i := 2) rfl) rfl dX11_ruled_14 (rfl : 14 + 3 = 17) ?_
    refine z_iload_n h 1 dX11_ruled_17 rfl (rfl : 17 + 1 = 18) ?_
    obtain ⟨b4, hf⟩ := zchk hf
    refine z_aldq h (zrp J (Int32.toNatClampNeg v1)) (zf_rows hJ (zin_lt b4)).1 rfl (by decide) rfl b4 dX11_ruled_18 (rfl : 18 + 1 = 19) ?_
    refine z_iload_n h 2 dX11_ruled_19 rfl (rfl : 19 + 1 = 20) ?_
    obtain ⟨q5, e6, hf⟩ := zbind hf
    refine z_goF (z_runV (C := RX6) (T := TX6) (N := 6) (ci := 6) h [.int v2] [] zyX6_tells (c_X6_tells B q1.2 J hJ (zrp J (Int32.toNatClampNeg v1)) ((zf_rows hJ (zin_lt b4)).2) v2 _ _ e6) gX11_ruled_X6_tells rfl (zf_rows hJ (zin_lt b4)).2 rfl zrX11_ruled_X6_tells rfl (Nat.le_of_ble_eq_true rfl) ⟨Nat.zero_le _, Nat.zero_le _⟩ rfl dX11_ruled_20) rfl ?_
    refine z_iret h hr dX11_ruled_23 ?_
    exact ⟨congrArg Prod.fst (zsome hf), congrArg Prod.snd (zsome hf), rfl⟩
  · have hf := zitt c3 hf
    refine z_iconst h (-1) dX11_ruled_8 (by decide) (rfl : 8 + 1 = 9) ?_
    refine z_iret h hr dX11_ruled_9 ?_
    exact ⟨congrArg Prod.fst (zsome hf), congrArg Prod.snd (zsome hf), rfl⟩
noncomputable def f_X11_isOrder (J : zJ) (v0 : Int32) (I : zM) : Option (Int32 × zM) := (if v0 < 0 then some ((0, I)) else (if 4 ≤ v0 then some ((0, I)) else some ((1, I))))
noncomputable abbrev rmX11_isOrder : Room := { frames := 0, cells := 0, slots := 0, locals := 0 }
theorem zyX11_isOrder : zY yX11_isOrder wsX11_isOrder cX11_isOrder 1 (some .boolean) 1 := ⟨⟨_, rfl⟩, by decide +kernel⟩
set_option maxHeartbeats 1000000 in
set_option maxRecDepth 100000 in
theorem c_X11_isOrder (B : zB) (I : zM) (J : zJ) (hJ : zJok J) (v0 : Int32) (r : Int32) (I' : zM) (hf : f_X11_isOrder J v0 I = some (r, I')) : zCi B zKW I J yX11_isOrder wsX11_isOrder rmX11_isOrder [.int v0] (fun r2 I2 J2 => r2 = r ∧ I2 = I' ∧ J2 = J) := by
  refine z_start (own := RX11) (cc := cX11_isOrder) (nL := 1) (ret := (some .boolean)) rfl (by decide) rfl (Nat.le_of_ble_eq_true rfl) (L := [(0, .int v0)]) rfl (fun G h hr => ?_)
  rw [f_X11_isOrder] at hf
  refine z_iload_n h 0 dX11_isOrder_0 rfl (rfl : 0 + 1 = 1) ?_
  refine z_if_lt (pc' := 4) h 13 dX11_isOrder_1 (by decide) rfl (fun c1 => ?_) (fun c1 => ?_)
  · have hf := zitt c1 hf
    refine z_iconst h 0 dX11_isOrder_13 (by decide) (rfl : 13 + 1 = 14) ?_
    refine z_zret h hr dX11_isOrder_14 (Or.inl rfl) ?_
    exact ⟨congrArg Prod.fst (zsome hf), congrArg Prod.snd (zsome hf), rfl⟩
  · have hf := zitf c1 hf
    refine z_iload_n h 0 dX11_isOrder_4 rfl (rfl : 4 + 1 = 5) ?_
    refine z_iconst h 4 dX11_isOrder_5 (by decide) (rfl : 5 + 1 = 6) ?_
    refine z_icmp_ge (pc' := 9) h 13 dX11_isOrder_6 (by decide) rfl (fun c2 => ?_) (fun c2 => ?_)
    · have hf := zitt c2 hf
      refine z_iconst h 0 dX11_isOrder_13 (by decide) (rfl : 13 + 1 = 14) ?_
      refine z_zret h hr dX11_isOrder_14 (Or.inl rfl) ?_
      exact ⟨congrArg Prod.fst (zsome hf), congrArg Prod.snd (zsome hf), rfl⟩
    · have hf := zitf c2 hf
      refine z_iconst h 1 dX11_isOrder_9 (by decide) (rfl : 9 + 1 = 10) ?_
      refine z_goto (pc' := 14) h dX11_isOrder_10 (by decide) ?_
      refine z_zret h hr dX11_isOrder_14 (Or.inr rfl) ?_
      exact ⟨congrArg Prod.fst (zsome hf), congrArg Prod.snd (zsome hf), rfl⟩
noncomputable def f_X11_ordered (J : zJ) (v1 : Int32) (v2 : Int32) (I : zM) : Option (Int32 × zM) := ((f_X11_isOrder J v1 I).bind fun q1 => (if q1.1 = 0 then some (((-1), q1.2)) else (if v2 < 0 then some (((-9), q1.2)) else (if zin v1 4 = true then (if q1.2 (zR 33 (Int32.toNatClampNeg v1)) 1 ≤ v2 then some (((-9), q1.2)) else (if zin v1 4 = true then (if zin v2 5 = true then some ((q1.2 (zR (zR 33 (Int32.toNatClampNeg v1)) 0) (Int32.toNatClampNeg v2), q1.2)) else none) else none)) else none))))
noncomputable abbrev rmX11_ordered : Room := { frames := 1, cells := 0, slots := 0, locals := 20 }
theorem zyX11_ordered : zY yX11_ordered wsX11_ordered cX11_ordered 3 (some .int) 2 := ⟨⟨_, rfl⟩, by decide +kernel⟩
theorem zrX11_ordered_X11_isOrder : zRm rmX11_isOrder rmX11_ordered 1 := ⟨rfl, rfl, by decide, by decide⟩
set_option maxHeartbeats 1000000 in
set_option maxRecDepth 100000 in
theorem c_X11_ordered (B : zB) (I : zM) (J : zJ) (hJ : zJok J) (v1 : Int32) (v2 : Int32) (r : Int32) (I' : zM) (hf : f_X11_ordered J v1 v2 I = some (r, I')) : zCi B zKW I J yX11_ordered wsX11_ordered rmX11_ordered [.ref (za B 0), .int v1, .int v2] (fun r2 I2 J2 => r2 = r ∧ I2 = I' ∧ J2 = J) := by
  refine z_start (own := RX11) (cc := cX11_ordered) (nL := 3) (ret := (some .int)) rfl (by decide) rfl (Nat.le_of_ble_eq_true rfl) (L := [(0, .ref (za B 0)), (1, .int v1), (2, .int v2)]) rfl (fun G h hr => ?_)
  rw [f_X11_ordered] at hf
  refine z_iload_n h 1 dX11_ordered_0 rfl (rfl : 0 + 1 = 1) ?_
  obtain ⟨q1, e2, hf⟩ := zbind hf
  refine z_goF (z_runS h [.int v1] [] zyX11_isOrder (c_X11_isOrder B I J hJ v1 _ _ e2) gX11_ordered_X11_isOrder zrX11_ordered_X11_isOrder rfl (Nat.le_of_ble_eq_true rfl) ⟨Nat.zero_le _, Nat.zero_le _⟩ rfl dX11_ordered_1) rfl ?_
  refine z_if_ne (pc' := 7) h 9 dX11_ordered_4 (by decide) rfl (fun c3 => ?_) (fun c3 => ?_)
  · have hf := zitf c3 hf
    refine z_iload_n h 2 dX11_ordered_9 rfl (rfl : 9 + 1 = 10) ?_
    refine z_if_lt (pc' := 13) h 40 dX11_ordered_10 (by decide) rfl (fun c4 => ?_) (fun c4 => ?_)
    · have hf := zitt c4 hf
      refine z_bipush h (-9) dX11_ordered_40 (by decide) (rfl : 40 + 2 = 42) ?_
      refine z_iret h hr dX11_ordered_42 ?_
      exact ⟨congrArg Prod.fst (zsome hf), congrArg Prod.snd (zsome hf), rfl⟩
    · have hf := zitf c4 hf
      refine z_iload_n h 2 dX11_ordered_13 rfl (rfl : 13 + 1 = 14) ?_
      refine z_aload_n h 0 dX11_ordered_14 rfl (rfl : 14 + 1 = 15) ?_
      refine z_getr (ci := 10) (C := RX11) (T := TX11) (N := 13) h 7 33 ((hJ.1 0 7 (by decide)).trans rfl) rfl rfl (fun _ hq => List.mem_cons_of_mem _ (List.mem_append_left _ (List.mem_append_right _ hq))) (by decide) (List.mem_of_getElem? (i := 1) rfl) rfl dX11_ordered_15 (rfl : 15 + 3 = 18) ?_
      refine z_iload_n h 1 dX11_ordered_18 rfl (rfl : 18 + 1 = 19) ?_
      obtain ⟨b5, hf⟩ := zchk hf
      refine z_aldq h (zR 33 (Int32.toNatClampNeg v1)) (ze_6 hJ rfl (zin_lt b5)).1 rfl (by decide) rfl b5 dX11_ordered_19 (rfl : 19 + 1 = 20) ?_
      refine z_get (ci := 4) (C := RX4) (T := TX4) (N := 2) h 1 (ze_6 hJ rfl (zin_lt b5)).2 rfl (fun _ hq => List.mem_cons_of_mem _ (List.mem_append_right _ hq)) (by decide) (List.mem_of_getElem? (i := 2) rfl) rfl dX11_ordered_20 (rfl : 20 + 3 = 23) ?_
      refine z_icmp_ge (pc' := 26) h 40 dX11_ordered_23 (by decide) rfl (fun c6 => ?_) (fun c6 => ?_)
      · have hf := zitt c6 hf
        refine z_bipush h (-9) dX11_ordered_40 (by decide) (rfl : 40 + 2 = 42) ?_
        refine z_iret h hr dX11_ordered_42 ?_
        exact ⟨congrArg Prod.fst (zsome hf), congrArg Prod.snd (zsome hf), rfl⟩
      · have hf := zitf c6 hf
        refine z_aload_n h 0 dX11_ordered_26 rfl (rfl : 26 + 1 = 27) ?_
        refine z_getr (ci := 10) (C := RX11) (T := TX11) (N := 13) h 7 33 ((hJ.1 0 7 (by decide)).trans rfl) rfl rfl (fun _ hq => List.mem_cons_of_mem _ (List.mem_append_left _ (List.mem_append_right _ hq))) (by decide) (List.mem_of_getElem? (i := 1) rfl) rfl dX11_ordered_27 (rfl : 27 + 3 = 30) ?_
        refine z_iload_n h 1 dX11_ordered_30 rfl (rfl : 30 + 1 = 31) ?_
        obtain ⟨b7, hf⟩ := zchk hf
        refine z_aldq h (zR 33 (Int32.toNatClampNeg v1)) (ze_6 hJ rfl (zin_lt b7)).1 rfl (by decide) rfl b7 dX11_ordered_31 (rfl : 31 + 1 = 32) ?_
        refine z_getr (ci := 4) (C := RX4) (T := TX4) (N := 2) h 0 (zR (zR 33 (Int32.toNatClampNeg v1)) 0) (zf_4_0 hJ (ze_6 hJ rfl (zin_lt b7)).2).1 (ze_6 hJ rfl (zin_lt b7)).2 rfl (fun _ hq => List.mem_cons_of_mem _ (List.mem_append_right _ hq)) (by decide) (List.mem_of_getElem? (i := 3) rfl) rfl dX11_ordered_32 (rfl : 32 + 3 = 35) ?_
        refine z_iload_n h 2 dX11_ordered_35 rfl (rfl : 35 + 1 = 36) ?_
        obtain ⟨b8, hf⟩ := zchk hf
        refine z_iald h (zf_4_0 hJ (ze_6 hJ rfl (zin_lt b7)).2).2 b8 dX11_ordered_36 (rfl : 36 + 1 = 37) ?_
        refine z_goto (pc' := 42) h dX11_ordered_37 (by decide) ?_
        refine z_iret h hr dX11_ordered_42 ?_
        exact ⟨congrArg Prod.fst (zsome hf), congrArg Prod.snd (zsome hf), rfl⟩
  · have hf := zitt c3 hf
    refine z_iconst h (-1) dX11_ordered_7 (by decide) (rfl : 7 + 1 = 8) ?_
    refine z_iret h hr dX11_ordered_8 ?_
    exact ⟨congrArg Prod.fst (zsome hf), congrArg Prod.snd (zsome hf), rfl⟩
noncomputable def f_X11_isBargain (J : zJ) (v1 : Int32) (I : zM) : Option (Int32 × zM) := (if v1 < 0 then some ((0, I)) else (if I 0 9 ≤ v1 then some ((0, I)) else some ((1, I))))
noncomputable abbrev rmX11_isBargain : Room := { frames := 0, cells := 0, slots := 0, locals := 0 }
theorem zyX11_isBargain : zY yX11_isBargain wsX11_isBargain cX11_isBargain 2 (some .boolean) 1 := ⟨⟨_, rfl⟩, by decide +kernel⟩
set_option maxHeartbeats 1000000 in
set_option maxRecDepth 100000 in
theorem c_X11_isBargain (B : zB) (I : zM) (J : zJ) (hJ : zJok J) (v1 : Int32) (r : Int32) (I' : zM) (hf : f_X11_isBargain J v1 I = some (r, I')) : zCi B zKW I J yX11_isBargain wsX11_isBargain rmX11_isBargain [.ref (za B 0), .int v1] (fun r2 I2 J2 => r2 = r ∧ I2 = I' ∧ J2 = J) := by
  refine z_start (own := RX11) (cc := cX11_isBargain) (nL := 2) (ret := (some .boolean)) rfl (by decide) rfl (Nat.le_of_ble_eq_true rfl) (L := [(0, .ref (za B 0)), (1, .int v1)]) rfl (fun G h hr => ?_)
  rw [f_X11_isBargain] at hf
  refine z_iload_n h 1 dX11_isBargain_0 rfl (rfl : 0 + 1 = 1) ?_
  refine z_if_lt (pc' := 4) h 16 dX11_isBargain_1 (by decide) rfl (fun c1 => ?_) (fun c1 => ?_)
  · have hf := zitt c1 hf
    refine z_iconst h 0 dX11_isBargain_16 (by decide) (rfl : 16 + 1 = 17) ?_
    refine z_zret h hr dX11_isBargain_17 (Or.inl rfl) ?_
    exact ⟨congrArg Prod.fst (zsome hf), congrArg Prod.snd (zsome hf), rfl⟩
  · have hf := zitf c1 hf
    refine z_iload_n h 1 dX11_isBargain_4 rfl (rfl : 4 + 1 = 5) ?_
    refine z_aload_n h 0 dX11_isBargain_5 rfl (rfl : 5 + 1 = 6) ?_
    refine z_get (ci := 10) (C := RX11) (T := TX11) (N := 13) h 9 rfl rfl (fun _ hq => List.mem_cons_of_mem _ (List.mem_append_right _ hq)) (by decide) (List.mem_of_getElem? (i := 1) rfl) rfl dX11_isBargain_6 (rfl : 6 + 3 = 9) ?_
    refine z_icmp_ge (pc' := 12) h 16 dX11_isBargain_9 (by decide) rfl (fun c2 => ?_) (fun c2 => ?_)
    · have hf := zitt c2 hf
      refine z_iconst h 0 dX11_isBargain_16 (by decide) (rfl : 16 + 1 = 17) ?_
      refine z_zret h hr dX11_isBargain_17 (Or.inl rfl) ?_
      exact ⟨congrArg Prod.fst (zsome hf), congrArg Prod.snd (zsome hf), rfl⟩
    · have hf := zitf c2 hf
      refine z_iconst h 1 dX11_isBargain_12 (by decide) (rfl : 12 + 1 = 13) ?_
      refine z_goto (pc' := 17) h dX11_isBargain_13 (by decide) ?_
      refine z_zret h hr dX11_isBargain_17 (Or.inr rfl) ?_
      exact ⟨congrArg Prod.fst (zsome hf), congrArg Prod.snd (zsome hf), rfl⟩
noncomputable def f_X11_said (J : zJ) (v1 : Int32) (v2 : Int32) (I : zM) : Option (Int32 × zM) := ((f_X11_isBargain J v1 I).bind fun q1 => (if q1.1 = 0 then some (((-1), q1.2)) else ((f_X11_isGap J v2 q1.2).bind fun q4 => (if q4.1 = 0 then some (((-1), q4.2)) else (if zin v1 8 = true then (if zin v2 6 = true then some ((q4.2 (zR (zR (zR 34 (Int32.toNatClampNeg v1)) 3) 0) (Int32.toNatClampNeg v2), q4.2)) else none) else none)))))
noncomputable abbrev rmX11_said : Room := { frames := 1, cells := 0, slots := 0, locals := 21 }
theorem zyX11_said : zY yX11_said wsX11_said cX11_said 3 (some .int) 2 := ⟨⟨_, rfl⟩, by decide +kernel⟩
theorem zrX11_said_X11_isBargain : zRm rmX11_isBargain rmX11_said 2 := ⟨rfl, rfl, by decide, by decide⟩
theorem zrX11_said_X11_isGap : zRm rmX11_isGap rmX11_said 1 := ⟨rfl, rfl, by decide, by decide⟩
set_option maxHeartbeats 1000000 in
set_option maxRecDepth 100000 in
theorem c_X11_said (B : zB) (I : zM) (J : zJ) (hJ : zJok J) (v1 : Int32) (v2 : Int32) (r : Int32) (I' : zM) (hf : f_X11_said J v1 v2 I = some (r, I')) : zCi B zKW I J yX11_said wsX11_said rmX11_said [.ref (za B 0), .int v1, .int v2] (fun r2 I2 J2 => r2 = r ∧ I2 = I' ∧ J2 = J) := by
  refine z_start (own := RX11) (cc := cX11_said) (nL := 3) (ret := (some .int)) rfl (by decide) rfl (Nat.le_of_ble_eq_true rfl) (L := [(0, .ref (za B 0)), (1, .int v1), (2, .int v2)]) rfl (fun G h hr => ?_)
  rw [f_X11_said] at hf
  refine z_aload_n h 0 dX11_said_0 rfl (rfl : 0 + 1 = 1) ?_
  refine z_iload_n h 1 dX11_said_1 rfl (rfl : 1 + 1 = 2) ?_
  obtain ⟨q1, e2, hf⟩ := zbind hf
  refine z_goF (z_runV (C := RX11) (T := TX11) (N := 13) (ci := 10) h [.int v1] [] zyX11_isBargain (c_X11_isBargain B I J hJ v1 _ _ e2) gX11_said_X11_isBargain rfl rfl rfl zrX11_said_X11_isBargain rfl (Nat.le_of_ble_eq_true rfl) ⟨Nat.zero_le _, Nat.zero_le _⟩ rfl dX11_said_2) rfl ?_
  refine z_if_eq (pc' := 8) h 15 dX11_said_5 (by decide) rfl (fun c3 => ?_) (fun c3 => ?_)
  · have hf := zitt c3 hf
    refine z_iconst h (-1) dX11_said_15 (by decide) (rfl : 15 + 1 = 16) ?_
    refine z_iret h hr dX11_said_16 ?_
    exact ⟨congrArg Prod.fst (zsome hf), congrArg Prod.snd (zsome hf), rfl⟩
  · have hf := zitf c3 hf
    refine z_iload_n h 2 dX11_said_8 rfl (rfl : 8 + 1 = 9) ?_
    obtain ⟨q4, e5, hf⟩ := zbind hf
    refine z_goF (z_runS h [.int v2] [] zyX11_isGap (c_X11_isGap B q1.2 J hJ v2 _ _ e5) gX11_said_X11_isGap zrX11_said_X11_isGap rfl (Nat.le_of_ble_eq_true rfl) ⟨Nat.zero_le _, Nat.zero_le _⟩ rfl dX11_said_9) rfl ?_
    refine z_if_ne (pc' := 15) h 17 dX11_said_12 (by decide) rfl (fun c6 => ?_) (fun c6 => ?_)
    · have hf := zitf c6 hf
      refine z_aload_n h 0 dX11_said_17 rfl (rfl : 17 + 1 = 18) ?_
      refine z_getr (ci := 10) (C := RX11) (T := TX11) (N := 13) h 8 34 ((hJ.1 0 8 (by decide)).trans rfl) rfl rfl (fun _ hq => List.mem_cons_of_mem _ (List.mem_append_left _ (List.mem_append_left _ (List.mem_append_right _ hq)))) (by decide) (List.mem_of_getElem? (i := 1) rfl) rfl dX11_said_18 (rfl : 18 + 3 = 21) ?_
      refine z_iload_n h 1 dX11_said_21 rfl (rfl : 21 + 1 = 22) ?_
      obtain ⟨b7, hf⟩ := zchk hf
      refine z_aldq h (zR 34 (Int32.toNatClampNeg v1)) (ze_3 hJ rfl (zin_lt b7)).1 rfl (by decide) rfl b7 dX11_said_22 (rfl : 22 + 1 = 23) ?_
      refine z_getr (ci := 0) (C := RX0) (T := TX0) (N := 5) h 3 (zR (zR 34 (Int32.toNatClampNeg v1)) 3) (zf_0_3 hJ (ze_3 hJ rfl (zin_lt b7)).2).1 (ze_3 hJ rfl (zin_lt b7)).2 rfl (fun _ hq => List.mem_cons_of_mem _ (List.mem_append_left _ (List.mem_append_right _ hq))) (by decide) (List.mem_of_getElem? (i := 2) rfl) rfl dX11_said_23 (rfl : 23 + 3 = 26) ?_
      refine z_getr (ci := 8) (C := RX8) (T := TX8) (N := 3) h 0 (zR (zR (zR 34 (Int32.toNatClampNeg v1)) 3) 0) (zf_8_0 hJ (zf_0_3 hJ (ze_3 hJ rfl (zin_lt b7)).2).2).1 (zf_0_3 hJ (ze_3 hJ rfl (zin_lt b7)).2).2 rfl (fun _ hq => List.mem_cons_of_mem _ (List.mem_append_right _ hq)) (by decide) (List.mem_of_getElem? (i := 3) rfl) rfl dX11_said_26 (rfl : 26 + 3 = 29) ?_
      refine z_iload_n h 2 dX11_said_29 rfl (rfl : 29 + 1 = 30) ?_
      obtain ⟨b8, hf⟩ := zchk hf
      refine z_iald h (zf_8_0 hJ (zf_0_3 hJ (ze_3 hJ rfl (zin_lt b7)).2).2).2 b8 dX11_said_30 (rfl : 30 + 1 = 31) ?_
      refine z_iret h hr dX11_said_31 ?_
      exact ⟨congrArg Prod.fst (zsome hf), congrArg Prod.snd (zsome hf), rfl⟩
    · have hf := zitt c6 hf
      refine z_iconst h (-1) dX11_said_15 (by decide) (rfl : 15 + 1 = 16) ?_
      refine z_iret h hr dX11_said_16 ?_
      exact ⟨congrArg Prod.fst (zsome hf), congrArg Prod.snd (zsome hf), rfl⟩
noncomputable def f_X11_canRead (J : zJ) (v1 : Int32) (v2 : Int32) (I : zM) : Option (Int32 × zM) := ((f_X11_isBargain J v1 I).bind fun q1 => (if q1.1 = 0 then some ((0, q1.2)) else ((f_X11_isOrder J v2 q1.2).bind fun q4 => (if q4.1 = 0 then some ((0, q4.2)) else some ((1, q4.2))))))
noncomputable abbrev rmX11_canRead : Room := { frames := 1, cells := 0, slots := 0, locals := 21 }
theorem zyX11_canRead : zY yX11_canRead wsX11_canRead cX11_canRead 3 (some .boolean) 2 := ⟨⟨_, rfl⟩, by decide +kernel⟩
theorem zrX11_canRead_X11_isBargain : zRm rmX11_isBargain rmX11_canRead 2 := ⟨rfl, rfl, by decide, by decide⟩
theorem zrX11_canRead_X11_isOrder : zRm rmX11_isOrder rmX11_canRead 1 := ⟨rfl, rfl, by decide, by decide⟩
set_option maxHeartbeats 1000000 in
set_option maxRecDepth 100000 in
theorem c_X11_canRead (B : zB) (I : zM) (J : zJ) (hJ : zJok J) (v1 : Int32) (v2 : Int32) (r : Int32) (I' : zM) (hf : f_X11_canRead J v1 v2 I = some (r, I')) : zCi B zKW I J yX11_canRead wsX11_canRead rmX11_canRead [.ref (za B 0), .int v1, .int v2] (fun r2 I2 J2 => r2 = r ∧ I2 = I' ∧ J2 = J) := by
  refine z_start (own := RX11) (cc := cX11_canRead) (nL := 3) (ret := (some .boolean)) rfl (by decide) rfl (Nat.le_of_ble_eq_true rfl) (L := [(0, .ref (za B 0)), (1, .int v1), (2, .int v2)]) rfl (fun G h hr => ?_)
  rw [f_X11_canRead] at hf
  refine z_aload_n h 0 dX11_canRead_0 rfl (rfl : 0 + 1 = 1) ?_
  refine z_iload_n h 1 dX11_canRead_1 rfl (rfl : 1 + 1 = 2) ?_
  obtain ⟨q1, e2, hf⟩ := zbind hf
  refine z_goF (z_runV (C := RX11) (T := TX11) (N := 13) (ci := 10) h [.int v1] [] zyX11_isBargain (c_X11_isBargain B I J hJ v1 _ _ e2) gX11_canRead_X11_isBargain rfl rfl rfl zrX11_canRead_X11_isBargain rfl (Nat.le_of_ble_eq_true rfl) ⟨Nat.zero_le _, Nat.zero_le _⟩ rfl dX11_canRead_2) rfl ?_
  refine z_if_eq (pc' := 8) h 19 dX11_canRead_5 (by decide) rfl (fun c3 => ?_) (fun c3 => ?_)
  · have hf := zitt c3 hf
    refine z_iconst h 0 dX11_canRead_19 (by decide) (rfl : 19 + 1 = 20) ?_
    refine z_zret h hr dX11_canRead_20 (Or.inl rfl) ?_
    exact ⟨congrArg Prod.fst (zsome hf), congrArg Prod.snd (zsome hf), rfl⟩
  · have hf := zitf c3 hf
    refine z_iload_n h 2 dX11_canRead_8 rfl (rfl : 8 + 1 = 9) ?_
    obtain ⟨q4, e5, hf⟩ := zbind hf
    refine z_goF (z_runS h [.int v2] [] zyX11_isOrder (c_X11_isOrder B q1.2 J hJ v2 _ _ e5) gX11_canRead_X11_isOrder zrX11_canRead_X11_isOrder rfl (Nat.le_of_ble_eq_true rfl) ⟨Nat.zero_le _, Nat.zero_le _⟩ rfl dX11_canRead_9) rfl ?_
    refine z_if_eq (pc' := 15) h 19 dX11_canRead_12 (by decide) rfl (fun c6 => ?_) (fun c6 => ?_)
    · have hf := zitt c6 hf
      refine z_iconst h 0 dX11_canRead_19 (by decide) (rfl : 19 + 1 = 20) ?_
      refine z_zret h hr dX11_canRead_20 (Or.inl rfl) ?_
      exact ⟨congrArg Prod.fst (zsome hf), congrArg Prod.snd (zsome hf), rfl⟩
    · have hf := zitf c6 hf
      refine z_iconst h 1 dX11_canRead_15 (by decide) (rfl : 15 + 1 = 16) ?_
      refine z_goto (pc' := 20) h dX11_canRead_16 (by decide) ?_
      refine z_zret h hr dX11_canRead_20 (Or.inr rfl) ?_
      exact ⟨congrArg Prod.fst (zsome hf), congrArg Prod.snd (zsome hf), rfl⟩
noncomputable def f_X11_isFilling (J : zJ) (v0 : Int32) (I : zM) : Option (Int32 × zM) := (if v0 < 0 then some ((0, I)) else (if 46656 ≤ v0 then some ((0, I)) else some ((1, I))))
noncomputable abbrev rmX11_isFilling : Room := { frames := 0, cells := 0, slots := 0, locals := 0 }
theorem zyX11_isFilling : zY yX11_isFilling wsX11_isFilling cX11_isFilling 1 (some .boolean) 1 := ⟨⟨_, rfl⟩, by decide +kernel⟩
set_option maxHeartbeats 1000000 in
set_option maxRecDepth 100000 in
theorem c_X11_isFilling (B : zB) (I : zM) (J : zJ) (hJ : zJok J) (v0 : Int32) (r : Int32) (I' : zM) (hf : f_X11_isFilling J v0 I = some (r, I')) : zCi B zKW I J yX11_isFilling wsX11_isFilling rmX11_isFilling [.int v0] (fun r2 I2 J2 => r2 = r ∧ I2 = I' ∧ J2 = J) := by
  refine z_start (own := RX11) (cc := cX11_isFilling) (nL := 1) (ret := (some .boolean)) rfl (by decide) rfl (Nat.le_of_ble_eq_true rfl) (L := [(0, .int v0)]) rfl (fun G h hr => ?_)
  rw [f_X11_isFilling] at hf
  refine z_iload_n h 0 dX11_isFilling_0 rfl (rfl : 0 + 1 = 1) ?_
  refine z_if_lt (pc' := 4) h 15 dX11_isFilling_1 (by decide) rfl (fun c1 => ?_) (fun c1 => ?_)
  · have hf := zitt c1 hf
    refine z_iconst h 0 dX11_isFilling_15 (by decide) (rfl : 15 + 1 = 16) ?_
    refine z_zret h hr dX11_isFilling_16 (Or.inl rfl) ?_
    exact ⟨congrArg Prod.fst (zsome hf), congrArg Prod.snd (zsome hf), rfl⟩
  · have hf := zitf c1 hf
    refine z_iload_n h 0 dX11_isFilling_4 rfl (rfl : 4 + 1 = 5) ?_
    refine z_ldcw h 46656 (List.mem_of_getElem? (i := 1) rfl) dX11_isFilling_5 (rfl : 5 + 3 = 8) ?_
    refine z_icmp_ge (pc' := 11) h 15 dX11_isFilling_8 (by decide) rfl (fun c2 => ?_) (fun c2 => ?_)
    · have hf := zitt c2 hf
      refine z_iconst h 0 dX11_isFilling_15 (by decide) (rfl : 15 + 1 = 16) ?_
      refine z_zret h hr dX11_isFilling_16 (Or.inl rfl) ?_
      exact ⟨congrArg Prod.fst (zsome hf), congrArg Prod.snd (zsome hf), rfl⟩
    · have hf := zitf c2 hf
      refine z_iconst h 1 dX11_isFilling_11 (by decide) (rfl : 11 + 1 = 12) ?_
      refine z_goto (pc' := 16) h dX11_isFilling_12 (by decide) ?_
      refine z_zret h hr dX11_isFilling_16 (Or.inr rfl) ?_
      exact ⟨congrArg Prod.fst (zsome hf), congrArg Prod.snd (zsome hf), rfl⟩
noncomputable def f_X11_next (J : zJ) (v1 : Int32) (v2 : Int32) (v3 : Int32) (I : zM) : Option (Int32 × zM) := ((f_X11_canRead J v1 v2 I).bind fun q1 => (if q1.1 = 0 then some (((-1), q1.2)) else ((f_X11_isFilling J v3 q1.2).bind fun q4 => (if q4.1 = 0 then some (((-2), q4.2)) else (if zin v1 8 = true then ((f_X5_take J (zR 34 (Int32.toNatClampNeg v1)) 6 q4.2).bind fun q8 => (if zin v2 4 = true then ((f_X5_plan J (zR 33 (Int32.toNatClampNeg v2)) q8).bind fun q11 => ((f_X5_follow J v3 q11).bind fun q13 => some ((q13.1, q13.2)))) else none)) else none)))))
noncomputable abbrev rmX11_next : Room := { frames := 4, cells := 0, slots := 0, locals := 94 }
theorem zyX11_next : zY yX11_next wsX11_next cX11_next 4 (some .int) 3 := ⟨⟨_, rfl⟩, by decide +kernel⟩
theorem zrX11_next_X11_canRead : zRm rmX11_canRead rmX11_next 3 := ⟨rfl, rfl, by decide, by decide⟩
theorem zrX11_next_X11_isFilling : zRm rmX11_isFilling rmX11_next 1 := ⟨rfl, rfl, by decide, by decide⟩
theorem zrX11_next_X5_follow : zRm rmX5_follow rmX11_next 5 := ⟨rfl, rfl, by decide, by decide⟩
theorem zrX11_next_X5_plan : zRm rmX5_plan rmX11_next 6 := ⟨rfl, rfl, by decide, by decide⟩
theorem zrX11_next_X5_take : zRm rmX5_take rmX11_next 5 := ⟨rfl, rfl, by decide, by decide⟩
set_option maxHeartbeats 1000000 in
set_option maxRecDepth 100000 in
theorem c_X11_next (B : zB) (I : zM) (J : zJ) (hJ : zJok J) (v1 : Int32) (v2 : Int32) (v3 : Int32) (r : Int32) (I' : zM) (hf : f_X11_next J v1 v2 v3 I = some (r, I')) : zCi B zKW I J yX11_next wsX11_next rmX11_next [.ref (za B 0), .int v1, .int v2, .int v3] (fun r2 I2 J2 => r2 = r ∧ I2 = I' ∧ J2 = J) := by
  refine z_start (own := RX11) (cc := cX11_next) (nL := 4) (ret := (some .int)) rfl (by decide) rfl (Nat.le_of_ble_eq_true rfl) (L := [(0, .ref (za B 0)), (1, .int v1), (2, .int v2), (3, .int v3)]) rfl (fun G h hr => ?_)
  rw [f_X11_next] at hf
  refine z_aload_n h 0 dX11_next_0 rfl (rfl : 0 + 1 = 1) ?_
  refine z_iload_n h 1 dX11_next_1 rfl (rfl : 1 + 1 = 2) ?_
  refine z_iload_n h 2 dX11_next_2 rfl (rfl : 2 + 1 = 3) ?_
  obtain ⟨q1, e2, hf⟩ := zbind hf
  refine z_goF (z_runV (C := RX11) (T := TX11) (N := 13) (ci := 10) h [.int v1, .int v2] [] zyX11_canRead (c_X11_canRead B I J hJ v1 v2 _ _ e2) gX11_next_X11_canRead rfl rfl rfl zrX11_next_X11_canRead rfl (Nat.le_of_ble_eq_true rfl) ⟨Nat.zero_le _, Nat.zero_le _⟩ rfl dX11_next_3) rfl ?_
  refine z_if_ne (pc' := 9) h 11 dX11_next_6 (by decide) rfl (fun c3 => ?_) (fun c3 => ?_)
  · have hf := zitf c3 hf
    refine z_iload_n h 3 dX11_next_11 rfl (rfl : 11 + 1 = 12) ?_
    obtain ⟨q4, e5, hf⟩ := zbind hf
    refine z_goF (z_runS h [.int v3] [] zyX11_isFilling (c_X11_isFilling B q1.2 J hJ v3 _ _ e5) gX11_next_X11_isFilling zrX11_next_X11_isFilling rfl (Nat.le_of_ble_eq_true rfl) ⟨Nat.zero_le _, Nat.zero_le _⟩ rfl dX11_next_12) rfl ?_
    refine z_if_ne (pc' := 18) h 21 dX11_next_15 (by decide) rfl (fun c6 => ?_) (fun c6 => ?_)
    · have hf := zitf c6 hf
      refine z_aload_n h 0 dX11_next_21 rfl (rfl : 21 + 1 = 22) ?_
      refine z_getr (ci := 10) (C := RX11) (T := TX11) (N := 13) h 12 39 ((hJ.1 0 12 (by decide)).trans rfl) rfl rfl (fun _ hq => List.mem_cons_of_mem _ (List.mem_append_left _ (List.mem_append_left _ (List.mem_append_left _ (List.mem_append_left _ (List.mem_append_left _ (List.mem_append_left _ (List.mem_append_left _ (List.mem_append_left _ (List.mem_append_left _ (List.mem_append_right _ hq))))))))))) (by decide) (List.mem_of_getElem? (i := 1) rfl) rfl dX11_next_22 (rfl : 22 + 3 = 25) ?_
      refine z_aload_n h 0 dX11_next_25 rfl (rfl : 25 + 1 = 26) ?_
      refine z_getr (ci := 10) (C := RX11) (T := TX11) (N := 13) h 8 34 ((hJ.1 0 8 (by decide)).trans rfl) rfl rfl (fun _ hq => List.mem_cons_of_mem _ (List.mem_append_left _ (List.mem_append_left _ (List.mem_append_left _ (List.mem_append_left _ (List.mem_append_left _ (List.mem_append_left _ (List.mem_append_left _ (List.mem_append_left _ (List.mem_append_left _ (List.mem_append_right _ hq))))))))))) (by decide) (List.mem_of_getElem? (i := 2) rfl) rfl dX11_next_26 (rfl : 26 + 3 = 29) ?_
      refine z_iload_n h 1 dX11_next_29 rfl (rfl : 29 + 1 = 30) ?_
      obtain ⟨b7, hf⟩ := zchk hf
      refine z_aldq h (zR 34 (Int32.toNatClampNeg v1)) (ze_3 hJ rfl (zin_lt b7)).1 rfl (by decide) rfl b7 dX11_next_30 (rfl : 30 + 1 = 31) ?_
      refine z_aload_n h 0 dX11_next_31 rfl (rfl : 31 + 1 = 32) ?_
      refine z_getr (ci := 10) (C := RX11) (T := TX11) (N := 13) h 2 6 ((hJ.1 0 2 (by decide)).trans rfl) rfl rfl (fun _ hq => List.mem_cons_of_mem _ (List.mem_append_left _ (List.mem_append_left _ (List.mem_append_left _ (List.mem_append_left _ (List.mem_append_left _ (List.mem_append_left _ (List.mem_append_left _ (List.mem_append_left _ (List.mem_append_left _ (List.mem_append_right _ hq))))))))))) (by decide) (List.mem_of_getElem? (i := 3) rfl) rfl dX11_next_32 (rfl : 32 + 3 = 35) ?_
      obtain ⟨q8, e9, hf⟩ := zbind hf
      refine z_goFv (z_runV (C := RX5) (T := TX5) (N := 17) (ci := 5) h [.ref (za B (zR 34 (Int32.toNatClampNeg v1))), .ref (za B 6)] [] zyX5_take (c_X5_take B q4.2 J hJ (zR 34 (Int32.toNatClampNeg v1)) ((ze_3 hJ rfl (zin_lt b7)).2) 6 rfl _ e9) gX11_next_X5_take rfl rfl rfl zrX11_next_X5_take rfl (Nat.le_of_ble_eq_true rfl) ⟨Nat.zero_le _, Nat.zero_le _⟩ rfl dX11_next_35) rfl ?_
      refine z_aload_n h 0 dX11_next_38 rfl (rfl : 38 + 1 = 39) ?_
      refine z_getr (ci := 10) (C := RX11) (T := TX11) (N := 13) h 12 39 ((hJ.1 0 12 (by decide)).trans rfl) rfl rfl (fun _ hq => List.mem_cons_of_mem _ (List.mem_append_left _ (List.mem_append_left _ (List.mem_append_left _ (List.mem_append_left _ (List.mem_append_left _ (List.mem_append_left _ (List.mem_append_left _ (List.mem_append_left _ (List.mem_append_left _ (List.mem_append_right _ hq))))))))))) (by decide) (List.mem_of_getElem? (i := 1) rfl) rfl dX11_next_39 (rfl : 39 + 3 = 42) ?_
      refine z_aload_n h 0 dX11_next_42 rfl (rfl : 42 + 1 = 43) ?_
      refine z_getr (ci := 10) (C := RX11) (T := TX11) (N := 13) h 7 33 ((hJ.1 0 7 (by decide)).trans rfl) rfl rfl (fun _ hq => List.mem_cons_of_mem _ (List.mem_append_left _ (List.mem_append_left _ (List.mem_append_left _ (List.mem_append_left _ (List.mem_append_left _ (List.mem_append_left _ (List.mem_append_left _ (List.mem_append_left _ (List.mem_append_left _ (List.mem_append_right _ hq))))))))))) (by decide) (List.mem_of_getElem? (i := 4) rfl) rfl dX11_next_43 (rfl : 43 + 3 = 46) ?_
      refine z_iload_n h 2 dX11_next_46 rfl (rfl : 46 + 1 = 47) ?_
      obtain ⟨b10, hf⟩ := zchk hf
      refine z_aldq h (zR 33 (Int32.toNatClampNeg v2)) (ze_6 hJ rfl (zin_lt b10)).1 rfl (by decide) rfl b10 dX11_next_47 (rfl : 47 + 1 = 48) ?_
      obtain ⟨q11, e12, hf⟩ := zbind hf
      refine z_goFv (z_runV (C := RX5) (T := TX5) (N := 17) (ci := 5) h [.ref (za B (zR 33 (Int32.toNatClampNeg v2)))] [] zyX5_plan (c_X5_plan B q8 J hJ (zR 33 (Int32.toNatClampNeg v2)) ((ze_6 hJ rfl (zin_lt b10)).2) _ e12) gX11_next_X5_plan rfl rfl rfl zrX11_next_X5_plan rfl (Nat.le_of_ble_eq_true rfl) ⟨Nat.zero_le _, Nat.zero_le _⟩ rfl dX11_next_48) rfl ?_
      refine z_aload_n h 0 dX11_next_51 rfl (rfl : 51 + 1 = 52) ?_
      refine z_getr (ci := 10) (C := RX11) (T := TX11) (N := 13) h 12 39 ((hJ.1 0 12 (by decide)).trans rfl) rfl rfl (fun _ hq => List.mem_cons_of_mem _ (List.mem_append_left _ (List.mem_append_left _ (List.mem_append_left _ (List.mem_append_left _ (List.mem_append_left _ (List.mem_append_left _ (List.mem_append_left _ (List.mem_append_left _ (List.mem_append_left _ (List.mem_append_right _ hq))))))))))) (by decide) (List.mem_of_getElem? (i := 1) rfl) rfl dX11_next_52 (rfl : 52 + 3 = 55) ?_
      refine z_iload_n h 3 dX11_next_55 rfl (rfl : 55 + 1 = 56) ?_
      obtain ⟨q13, e14, hf⟩ := zbind hf
      refine z_goF (z_runV (C := RX5) (T := TX5) (N := 17) (ci := 5) h [.int v3] [] zyX5_follow (c_X5_follow B q11 J hJ v3 _ _ e14) gX11_next_X5_follow rfl rfl rfl zrX11_next_X5_follow rfl (Nat.le_of_ble_eq_true rfl) ⟨Nat.zero_le _, Nat.zero_le _⟩ rfl dX11_next_56) rfl ?_
      refine z_iret h hr dX11_next_59 ?_
      exact ⟨congrArg Prod.fst (zsome hf), congrArg Prod.snd (zsome hf), rfl⟩
    · have hf := zitt c6 hf
      refine z_bipush h (-2) dX11_next_18 (by decide) (rfl : 18 + 2 = 20) ?_
      refine z_iret h hr dX11_next_20 ?_
      exact ⟨congrArg Prod.fst (zsome hf), congrArg Prod.snd (zsome hf), rfl⟩
  · have hf := zitt c3 hf
    refine z_iconst h (-1) dX11_next_9 (by decide) (rfl : 9 + 1 = 10) ?_
    refine z_iret h hr dX11_next_10 ?_
    exact ⟨congrArg Prod.fst (zsome hf), congrArg Prod.snd (zsome hf), rfl⟩
noncomputable def f_X11_read (J : zJ) (v1 : Int32) (v2 : Int32) (I : zM) : Option (zM) := (if zin v1 8 = true then ((f_X5_take J (zR 34 (Int32.toNatClampNeg v1)) 6 I).bind fun q2 => (if zin v2 4 = true then ((f_X5_read J (zR 33 (Int32.toNatClampNeg v2)) q2).bind fun q5 => some (q5)) else none)) else none)
noncomputable abbrev rmX11_read : Room := { frames := 5, cells := 0, slots := 0, locals := 117 }
theorem zyX11_read : zY yX11_read wsX11_read cX11_read 3 none 2 := ⟨⟨_, rfl⟩, by decide +kernel⟩
theorem zrX11_read_X5_read : zRm rmX5_read rmX11_read 4 := ⟨rfl, rfl, by decide, by decide⟩
theorem zrX11_read_X5_take : zRm rmX5_take rmX11_read 5 := ⟨rfl, rfl, by decide, by decide⟩
set_option maxHeartbeats 1000000 in
set_option maxRecDepth 100000 in
theorem c_X11_read (B : zB) (I : zM) (J : zJ) (hJ : zJok J) (v1 : Int32) (v2 : Int32) (I' : zM) (hf : f_X11_read J v1 v2 I = some I') : zCv B zKW I J yX11_read wsX11_read rmX11_read [.ref (za B 0), .int v1, .int v2] (fun I2 J2 => I2 = I' ∧ J2 = J) := by
  refine z_start (own := RX11) (cc := cX11_read) (nL := 3) (ret := none) rfl (by decide) rfl (Nat.le_of_ble_eq_true rfl) (L := [(0, .ref (za B 0)), (1, .int v1), (2, .int v2)]) rfl (fun G h hr => ?_)
  rw [f_X11_read] at hf
  refine z_aload_n h 0 dX11_read_0 rfl (rfl : 0 + 1 = 1) ?_
  refine z_getr (ci := 10) (C := RX11) (T := TX11) (N := 13) h 12 39 ((hJ.1 0 12 (by decide)).trans rfl) rfl rfl (fun _ hq => List.mem_cons_of_mem _ (List.mem_append_left _ (List.mem_append_left _ (List.mem_append_left _ (List.mem_append_left _ (List.mem_append_left _ (List.mem_append_left _ (List.mem_append_left _ (List.mem_append_left _ (List.mem_append_left _ (List.mem_append_right _ hq))))))))))) (by decide) (List.mem_of_getElem? (i := 1) rfl) rfl dX11_read_1 (rfl : 1 + 3 = 4) ?_
  refine z_aload_n h 0 dX11_read_4 rfl (rfl : 4 + 1 = 5) ?_
  refine z_getr (ci := 10) (C := RX11) (T := TX11) (N := 13) h 8 34 ((hJ.1 0 8 (by decide)).trans rfl) rfl rfl (fun _ hq => List.mem_cons_of_mem _ (List.mem_append_left _ (List.mem_append_left _ (List.mem_append_left _ (List.mem_append_left _ (List.mem_append_left _ (List.mem_append_left _ (List.mem_append_left _ (List.mem_append_left _ (List.mem_append_left _ (List.mem_append_right _ hq))))))))))) (by decide) (List.mem_of_getElem? (i := 2) rfl) rfl dX11_read_5 (rfl : 5 + 3 = 8) ?_
  refine z_iload_n h 1 dX11_read_8 rfl (rfl : 8 + 1 = 9) ?_
  obtain ⟨b1, hf⟩ := zchk hf
  refine z_aldq h (zR 34 (Int32.toNatClampNeg v1)) (ze_3 hJ rfl (zin_lt b1)).1 rfl (by decide) rfl b1 dX11_read_9 (rfl : 9 + 1 = 10) ?_
  refine z_aload_n h 0 dX11_read_10 rfl (rfl : 10 + 1 = 11) ?_
  refine z_getr (ci := 10) (C := RX11) (T := TX11) (N := 13) h 2 6 ((hJ.1 0 2 (by decide)).trans rfl) rfl rfl (fun _ hq => List.mem_cons_of_mem _ (List.mem_append_left _ (List.mem_append_left _ (List.mem_append_left _ (List.mem_append_left _ (List.mem_append_left _ (List.mem_append_left _ (List.mem_append_left _ (List.mem_append_left _ (List.mem_append_left _ (List.mem_append_right _ hq))))))))))) (by decide) (List.mem_of_getElem? (i := 3) rfl) rfl dX11_read_11 (rfl : 11 + 3 = 14) ?_
  obtain ⟨q2, e3, hf⟩ := zbind hf
  refine z_goFv (z_runV (C := RX5) (T := TX5) (N := 17) (ci := 5) h [.ref (za B (zR 34 (Int32.toNatClampNeg v1))), .ref (za B 6)] [] zyX5_take (c_X5_take B I J hJ (zR 34 (Int32.toNatClampNeg v1)) ((ze_3 hJ rfl (zin_lt b1)).2) 6 rfl _ e3) gX11_read_X5_take rfl rfl rfl zrX11_read_X5_take rfl (Nat.le_of_ble_eq_true rfl) ⟨Nat.zero_le _, Nat.zero_le _⟩ rfl dX11_read_14) rfl ?_
  refine z_aload_n h 0 dX11_read_17 rfl (rfl : 17 + 1 = 18) ?_
  refine z_getr (ci := 10) (C := RX11) (T := TX11) (N := 13) h 12 39 ((hJ.1 0 12 (by decide)).trans rfl) rfl rfl (fun _ hq => List.mem_cons_of_mem _ (List.mem_append_left _ (List.mem_append_left _ (List.mem_append_left _ (List.mem_append_left _ (List.mem_append_left _ (List.mem_append_left _ (List.mem_append_left _ (List.mem_append_left _ (List.mem_append_left _ (List.mem_append_right _ hq))))))))))) (by decide) (List.mem_of_getElem? (i := 1) rfl) rfl dX11_read_18 (rfl : 18 + 3 = 21) ?_
  refine z_aload_n h 0 dX11_read_21 rfl (rfl : 21 + 1 = 22) ?_
  refine z_getr (ci := 10) (C := RX11) (T := TX11) (N := 13) h 7 33 ((hJ.1 0 7 (by decide)).trans rfl) rfl rfl (fun _ hq => List.mem_cons_of_mem _ (List.mem_append_left _ (List.mem_append_left _ (List.mem_append_left _ (List.mem_append_left _ (List.mem_append_left _ (List.mem_append_left _ (List.mem_append_left _ (List.mem_append_left _ (List.mem_append_left _ (List.mem_append_right _ hq))))))))))) (by decide) (List.mem_of_getElem? (i := 4) rfl) rfl dX11_read_22 (rfl : 22 + 3 = 25) ?_
  refine z_iload_n h 2 dX11_read_25 rfl (rfl : 25 + 1 = 26) ?_
  obtain ⟨b4, hf⟩ := zchk hf
  refine z_aldq h (zR 33 (Int32.toNatClampNeg v2)) (ze_6 hJ rfl (zin_lt b4)).1 rfl (by decide) rfl b4 dX11_read_26 (rfl : 26 + 1 = 27) ?_
  obtain ⟨q5, e6, hf⟩ := zbind hf
  refine z_goFv (z_runV (C := RX5) (T := TX5) (N := 17) (ci := 5) h [.ref (za B (zR 33 (Int32.toNatClampNeg v2)))] [] zyX5_read (c_X5_read B q2 J hJ (zR 33 (Int32.toNatClampNeg v2)) ((ze_6 hJ rfl (zin_lt b4)).2) _ e6) gX11_read_X5_read rfl rfl rfl zrX11_read_X5_read rfl (Nat.le_of_ble_eq_true rfl) ⟨Nat.zero_le _, Nat.zero_le _⟩ rfl dX11_read_27) rfl ?_
  refine z_vret h hr dX11_read_30 ?_
  exact ⟨(zsome hf), rfl⟩
noncomputable def f_X11_rounds (J : zJ) (v1 : Int32) (v2 : Int32) (v3 : Int32) (I : zM) : Option (Int32 × zM) := ((f_X11_canRead J v1 v2 I).bind fun q1 => (if q1.1 = 0 then some (((-1), q1.2)) else ((f_X11_read J v1 v2 q1.2).bind fun q4 => (if v3 = 0 then some ((q4 39 12, q4)) else some ((q4 39 13, q4))))))
noncomputable abbrev rmX11_rounds : Room := { frames := 6, cells := 0, slots := 0, locals := 139 }
theorem zyX11_rounds : zY yX11_rounds wsX11_rounds cX11_rounds 4 (some .int) 3 := ⟨⟨_, rfl⟩, by decide +kernel⟩
theorem zrX11_rounds_X11_canRead : zRm rmX11_canRead rmX11_rounds 3 := ⟨rfl, rfl, by decide, by decide⟩
theorem zrX11_rounds_X11_read : zRm rmX11_read rmX11_rounds 3 := ⟨rfl, rfl, by decide, by decide⟩
set_option maxHeartbeats 1000000 in
set_option maxRecDepth 100000 in
theorem c_X11_rounds (B : zB) (I : zM) (J : zJ) (hJ : zJok J) (v1 : Int32) (v2 : Int32) (v3 : Int32) (r : Int32) (I' : zM) (hf : f_X11_rounds J v1 v2 v3 I = some (r, I')) : zCi B zKW I J yX11_rounds wsX11_rounds rmX11_rounds [.ref (za B 0), .int v1, .int v2, .int v3] (fun r2 I2 J2 => r2 = r ∧ I2 = I' ∧ J2 = J) := by
  refine z_start (own := RX11) (cc := cX11_rounds) (nL := 4) (ret := (some .int)) rfl (by decide) rfl (Nat.le_of_ble_eq_true rfl) (L := [(0, .ref (za B 0)), (1, .int v1), (2, .int v2), (3, .int v3)]) rfl (fun G h hr => ?_)
  rw [f_X11_rounds] at hf
  refine z_aload_n h 0 dX11_rounds_0 rfl (rfl : 0 + 1 = 1) ?_
  refine z_iload_n h 1 dX11_rounds_1 rfl (rfl : 1 + 1 = 2) ?_
  refine z_iload_n h 2 dX11_rounds_2 rfl (rfl : 2 + 1 = 3) ?_
  obtain ⟨q1, e2, hf⟩ := zbind hf
  refine z_goF (z_runV (C := RX11) (T := TX11) (N := 13) (ci := 10) h [.int v1, .int v2] [] zyX11_canRead (c_X11_canRead B I J hJ v1 v2 _ _ e2) gX11_rounds_X11_canRead rfl rfl rfl zrX11_rounds_X11_canRead rfl (Nat.le_of_ble_eq_true rfl) ⟨Nat.zero_le _, Nat.zero_le _⟩ rfl dX11_rounds_3) rfl ?_
  refine z_if_ne (pc' := 9) h 11 dX11_rounds_6 (by decide) rfl (fun c3 => ?_) (fun c3 => ?_)
  · have hf := zitf c3 hf
    refine z_aload_n h 0 dX11_rounds_11 rfl (rfl : 11 + 1 = 12) ?_
    refine z_iload_n h 1 dX11_rounds_12 rfl (rfl : 12 + 1 = 13) ?_
    refine z_iload_n h 2 dX11_rounds_13 rfl (rfl : 13 + 1 = 14) ?_
    obtain ⟨q4, e5, hf⟩ := zbind hf
    refine z_goFv (z_runV (C := RX11) (T := TX11) (N := 13) (ci := 10) h [.int v1, .int v2] [] zyX11_read (c_X11_read B q1.2 J hJ v1 v2 _ e5) gX11_rounds_X11_read rfl rfl rfl zrX11_rounds_X11_read rfl (Nat.le_of_ble_eq_true rfl) ⟨Nat.zero_le _, Nat.zero_le _⟩ rfl dX11_rounds_14) rfl ?_
    refine z_iload_n h 3 dX11_rounds_17 rfl (rfl : 17 + 1 = 18) ?_
    refine z_if_eq (pc' := 21) h 31 dX11_rounds_18 (by decide) rfl (fun c6 => ?_) (fun c6 => ?_)
    · have hf := zitt c6 hf
      refine z_aload_n h 0 dX11_rounds_31 rfl (rfl : 31 + 1 = 32) ?_
      refine z_getr (ci := 10) (C := RX11) (T := TX11) (N := 13) h 12 39 ((hJ.1 0 12 (by decide)).trans rfl) rfl rfl (fun _ hq => List.mem_cons_of_mem _ (List.mem_append_left _ (List.mem_append_left _ (List.mem_append_left _ (List.mem_append_left _ (List.mem_append_left _ (List.mem_append_left _ (List.mem_append_left _ (List.mem_append_left _ (List.mem_append_left _ (List.mem_append_right _ hq))))))))))) (by decide) (List.mem_of_getElem? (i := 1) rfl) rfl dX11_rounds_32 (rfl : 32 + 3 = 35) ?_
      refine z_get (ci := 5) (C := RX5) (T := TX5) (N := 17) h 12 rfl rfl (fun _ hq => List.mem_cons_of_mem _ (List.mem_append_left _ (List.mem_append_left _ (List.mem_append_left _ (List.mem_append_left _ (List.mem_append_left _ (List.mem_append_left _ (List.mem_append_left _ (List.mem_append_left _ (List.mem_append_right _ hq)))))))))) (by decide) (List.mem_of_getElem? (i := 3) rfl) rfl dX11_rounds_35 (rfl : 35 + 3 = 38) ?_
      refine z_iret h hr dX11_rounds_38 ?_
      exact ⟨congrArg Prod.fst (zsome hf), congrArg Prod.snd (zsome hf), rfl⟩
    · have hf := zitf c6 hf
      refine z_aload_n h 0 dX11_rounds_21 rfl (rfl : 21 + 1 = 22) ?_
      refine z_getr (ci := 10) (C := RX11) (T := TX11) (N := 13) h 12 39 ((hJ.1 0 12 (by decide)).trans rfl) rfl rfl (fun _ hq => List.mem_cons_of_mem _ (List.mem_append_left _ (List.mem_append_left _ (List.mem_append_left _ (List.mem_append_left _ (List.mem_append_left _ (List.mem_append_left _ (List.mem_append_left _ (List.mem_append_left _ (List.mem_append_left _ (List.mem_append_right _ hq))))))))))) (by decide) (List.mem_of_getElem? (i := 1) rfl) rfl dX11_rounds_22 (rfl : 22 + 3 = 25) ?_
      refine z_get (ci := 5) (C := RX5) (T := TX5) (N := 17) h 13 rfl rfl (fun _ hq => List.mem_cons_of_mem _ (List.mem_append_left _ (List.mem_append_left _ (List.mem_append_left _ (List.mem_append_left _ (List.mem_append_left _ (List.mem_append_left _ (List.mem_append_left _ (List.mem_append_left _ (List.mem_append_right _ hq)))))))))) (by decide) (List.mem_of_getElem? (i := 2) rfl) rfl dX11_rounds_25 (rfl : 25 + 3 = 28) ?_
      refine z_goto (pc' := 38) h dX11_rounds_28 (by decide) ?_
      refine z_iret h hr dX11_rounds_38 ?_
      exact ⟨congrArg Prod.fst (zsome hf), congrArg Prod.snd (zsome hf), rfl⟩
  · have hf := zitt c3 hf
    refine z_iconst h (-1) dX11_rounds_9 (by decide) (rfl : 9 + 1 = 10) ?_
    refine z_iret h hr dX11_rounds_10 ?_
    exact ⟨congrArg Prod.fst (zsome hf), congrArg Prod.snd (zsome hf), rfl⟩
noncomputable def f_X11_answer (J : zJ) (v1 : Int32) (v2 : Int32) (I : zM) : Option (Int32 × zM) := ((f_X11_canRead J v1 v2 I).bind fun q1 => (if q1.1 = 0 then some (((-1), q1.2)) else ((f_X11_read J v1 v2 q1.2).bind fun q4 => some ((q4 39 14, q4)))))
noncomputable abbrev rmX11_answer : Room := { frames := 6, cells := 0, slots := 0, locals := 139 }
theorem zyX11_answer : zY yX11_answer wsX11_answer cX11_answer 3 (some .int) 2 := ⟨⟨_, rfl⟩, by decide +kernel⟩
theorem zrX11_answer_X11_canRead : zRm rmX11_canRead rmX11_answer 3 := ⟨rfl, rfl, by decide, by decide⟩
theorem zrX11_answer_X11_read : zRm rmX11_read rmX11_answer 3 := ⟨rfl, rfl, by decide, by decide⟩
set_option maxHeartbeats 1000000 in
set_option maxRecDepth 100000 in
theorem c_X11_answer (B : zB) (I : zM) (J : zJ) (hJ : zJok J) (v1 : Int32) (v2 : Int32) (r : Int32) (I' : zM) (hf : f_X11_answer J v1 v2 I = some (r, I')) : zCi B zKW I J yX11_answer wsX11_answer rmX11_answer [.ref (za B 0), .int v1, .int v2] (fun r2 I2 J2 => r2 = r ∧ I2 = I' ∧ J2 = J) := by
  refine z_start (own := RX11) (cc := cX11_answer) (nL := 3) (ret := (some .int)) rfl (by decide) rfl (Nat.le_of_ble_eq_true rfl) (L := [(0, .ref (za B 0)), (1, .int v1), (2, .int v2)]) rfl (fun G h hr => ?_)
  rw [f_X11_answer] at hf
  refine z_aload_n h 0 dX11_answer_0 rfl (rfl : 0 + 1 = 1) ?_
  refine z_iload_n h 1 dX11_answer_1 rfl (rfl : 1 + 1 = 2) ?_
  refine z_iload_n h 2 dX11_answer_2 rfl (rfl : 2 + 1 = 3) ?_
  obtain ⟨q1, e2, hf⟩ := zbind hf
  refine z_goF (z_runV (C := RX11) (T := TX11) (N := 13) (ci := 10) h [.int v1, .int v2] [] zyX11_canRead (c_X11_canRead B I J hJ v1 v2 _ _ e2) gX11_answer_X11_canRead rfl rfl rfl zrX11_answer_X11_canRead rfl (Nat.le_of_ble_eq_true rfl) ⟨Nat.zero_le _, Nat.zero_le _⟩ rfl dX11_answer_3) rfl ?_
  refine z_if_ne (pc' := 9) h 11 dX11_answer_6 (by decide) rfl (fun c3 => ?_) (fun c3 => ?_)
  · have hf := zitf c3 hf
    refine z_aload_n h 0 dX11_answer_11 rfl (rfl : 11 + 1 = 12) ?_
    refine z_iload_n h 1 dX11_answer_12 rfl (rfl : 12 + 1 = 13) ?_
    refine z_iload_n h 2 dX11_answer_13 rfl (rfl : 13 + 1 = 14) ?_
    obtain ⟨q4, e5, hf⟩ := zbind hf
    refine z_goFv (z_runV (C := RX11) (T := TX11) (N := 13) (ci := 10) h [.int v1, .int v2] [] zyX11_read (c_X11_read B q1.2 J hJ v1 v2 _ e5) gX11_answer_X11_read rfl rfl rfl zrX11_answer_X11_read rfl (Nat.le_of_ble_eq_true rfl) ⟨Nat.zero_le _, Nat.zero_le _⟩ rfl dX11_answer_14) rfl ?_
    refine z_aload_n h 0 dX11_answer_17 rfl (rfl : 17 + 1 = 18) ?_
    refine z_getr (ci := 10) (C := RX11) (T := TX11) (N := 13) h 12 39 ((hJ.1 0 12 (by decide)).trans rfl) rfl rfl (fun _ hq => List.mem_cons_of_mem _ (List.mem_append_left _ (List.mem_append_left _ (List.mem_append_left _ (List.mem_append_left _ (List.mem_append_left _ (List.mem_append_left _ (List.mem_append_left _ (List.mem_append_left _ (List.mem_append_left _ (List.mem_append_right _ hq))))))))))) (by decide) (List.mem_of_getElem? (i := 1) rfl) rfl dX11_answer_18 (rfl : 18 + 3 = 21) ?_
    refine z_get (ci := 5) (C := RX5) (T := TX5) (N := 17) h 14 rfl rfl (fun _ hq => List.mem_cons_of_mem _ (List.mem_append_left _ (List.mem_append_left _ (List.mem_append_left _ (List.mem_append_left _ (List.mem_append_left _ (List.mem_append_left _ (List.mem_append_left _ (List.mem_append_left _ (List.mem_append_right _ hq)))))))))) (by decide) (List.mem_of_getElem? (i := 2) rfl) rfl dX11_answer_21 (rfl : 21 + 3 = 24) ?_
    refine z_iret h hr dX11_answer_24 ?_
    exact ⟨congrArg Prod.fst (zsome hf), congrArg Prod.snd (zsome hf), rfl⟩
  · have hf := zitt c3 hf
    refine z_iconst h (-1) dX11_answer_9 (by decide) (rfl : 9 + 1 = 10) ?_
    refine z_iret h hr dX11_answer_10 ?_
    exact ⟨congrArg Prod.fst (zsome hf), congrArg Prod.snd (zsome hf), rfl⟩
noncomputable def f_X11_fills (J : zJ) (v1 : Int32) (v2 : Int32) (v3 : Int32) (I : zM) : Option (Int32 × zM) := ((f_X11_canRead J v1 v2 I).bind fun q1 => (if q1.1 = 0 then some (((-1), q1.2)) else ((f_X11_isGap J v3 q1.2).bind fun q4 => (if q4.1 = 0 then some (((-1), q4.2)) else ((f_X11_read J v1 v2 q4.2).bind fun q7 => ((f_X11_valueAt J (q7 39 14) v3 q7).bind fun q9 => some ((q9.1, q9.2))))))))
noncomputable abbrev rmX11_fills : Room := { frames := 6, cells := 0, slots := 0, locals := 139 }
theorem zyX11_fills : zY yX11_fills wsX11_fills cX11_fills 4 (some .int) 3 := ⟨⟨_, rfl⟩, by decide +kernel⟩
theorem zrX11_fills_X11_canRead : zRm rmX11_canRead rmX11_fills 3 := ⟨rfl, rfl, by decide, by decide⟩
theorem zrX11_fills_X11_isGap : zRm rmX11_isGap rmX11_fills 1 := ⟨rfl, rfl, by decide, by decide⟩
theorem zrX11_fills_X11_read : zRm rmX11_read rmX11_fills 3 := ⟨rfl, rfl, by decide, by decide⟩
theorem zrX11_fills_X11_valueAt : zRm rmX11_valueAt rmX11_fills 4 := ⟨rfl, rfl, by decide, by decide⟩
set_option maxHeartbeats 1000000 in
set_option maxRecDepth 100000 in
theorem c_X11_fills (B : zB) (I : zM) (J : zJ) (hJ : zJok J) (v1 : Int32) (v2 : Int32) (v3 : Int32) (r : Int32) (I' : zM) (hf : f_X11_fills J v1 v2 v3 I = some (r, I')) : zCi B zKW I J yX11_fills wsX11_fills rmX11_fills [.ref (za B 0), .int v1, .int v2, .int v3] (fun r2 I2 J2 => r2 = r ∧ I2 = I' ∧ J2 = J) := by
  refine z_start (own := RX11) (cc := cX11_fills) (nL := 4) (ret := (some .int)) rfl (by decide) rfl (Nat.le_of_ble_eq_true rfl) (L := [(0, .ref (za B 0)), (1, .int v1), (2, .int v2), (3, .int v3)]) rfl (fun G h hr => ?_)
  rw [f_X11_fills] at hf
  refine z_aload_n h 0 dX11_fills_0 rfl (rfl : 0 + 1 = 1) ?_
  refine z_iload_n h 1 dX11_fills_1 rfl (rfl : 1 + 1 = 2) ?_
  refine z_iload_n h 2 dX11_fills_2 rfl (rfl : 2 + 1 = 3) ?_
  obtain ⟨q1, e2, hf⟩ := zbind hf
  refine z_goF (z_runV (C := RX11) (T := TX11) (N := 13) (ci := 10) h [.int v1, .int v2] [] zyX11_canRead (c_X11_canRead B I J hJ v1 v2 _ _ e2) gX11_fills_X11_canRead rfl rfl rfl zrX11_fills_X11_canRead rfl (Nat.le_of_ble_eq_true rfl) ⟨Nat.zero_le _, Nat.zero_le _⟩ rfl dX11_fills_3) rfl ?_
  refine z_if_eq (pc' := 9) h 16 dX11_fills_6 (by decide) rfl (fun c3 => ?_) (fun c3 => ?_)
  · have hf := zitt c3 hf
    refine z_iconst h (-1) dX11_fills_16 (by decide) (rfl : 16 + 1 = 17) ?_
    refine z_iret h hr dX11_fills_17 ?_
    exact ⟨congrArg Prod.fst (zsome hf), congrArg Prod.snd (zsome hf), rfl⟩
  · have hf := zitf c3 hf
    refine z_iload_n h 3 dX11_fills_9 rfl (rfl : 9 + 1 = 10) ?_
    obtain ⟨q4, e5, hf⟩ := zbind hf
    refine z_goF (z_runS h [.int v3] [] zyX11_isGap (c_X11_isGap B q1.2 J hJ v3 _ _ e5) gX11_fills_X11_isGap zrX11_fills_X11_isGap rfl (Nat.le_of_ble_eq_true rfl) ⟨Nat.zero_le _, Nat.zero_le _⟩ rfl dX11_fills_10) rfl ?_
    refine z_if_ne (pc' := 16) h 18 dX11_fills_13 (by decide) rfl (fun c6 => ?_) (fun c6 => ?_)
    · have hf := zitf c6 hf
      refine z_aload_n h 0 dX11_fills_18 rfl (rfl : 18 + 1 = 19) ?_
      refine z_iload_n h 1 dX11_fills_19 rfl (rfl : 19 + 1 = 20) ?_
      refine z_iload_n h 2 dX11_fills_20 rfl (rfl : 20 + 1 = 21) ?_
      obtain ⟨q7, e8, hf⟩ := zbind hf
      refine z_goFv (z_runV (C := RX11) (T := TX11) (N := 13) (ci := 10) h [.int v1, .int v2] [] zyX11_read (c_X11_read B q4.2 J hJ v1 v2 _ e8) gX11_fills_X11_read rfl rfl rfl zrX11_fills_X11_read rfl (Nat.le_of_ble_eq_true rfl) ⟨Nat.zero_le _, Nat.zero_le _⟩ rfl dX11_fills_21) rfl ?_
      refine z_aload_n h 0 dX11_fills_24 rfl (rfl : 24 + 1 = 25) ?_
      refine z_getr (ci := 10) (C := RX11) (T := TX11) (N := 13) h 12 39 ((hJ.1 0 12 (by decide)).trans rfl) rfl rfl (fun _ hq => List.mem_cons_of_mem _ (List.mem_append_left _ (List.mem_append_left _ (List.mem_append_left _ (List.mem_append_left _ (List.mem_append_left _ (List.mem_append_left _ (List.mem_append_left _ (List.mem_append_left _ (List.mem_append_left _ (List.mem_append_right _ hq))))))))))) (by decide) (List.mem_of_getElem? (i := 1) rfl) rfl dX11_fills_25 (rfl : 25 + 3 = 28) ?_
      refine z_get (ci := 5) (C := RX5) (T := TX5) (N := 17) h 14 rfl rfl (fun _ hq => List.mem_cons_of_mem _ (List.mem_append_left _ (List.mem_append_left _ (List.mem_append_left _ (List.mem_append_left _ (List.mem_append_left _ (List.mem_append_left _ (List.mem_append_left _ (List.mem_append_left _ (List.mem_append_right _ hq)))))))))) (by decide) (List.mem_of_getElem? (i := 2) rfl) rfl dX11_fills_28 (rfl : 28 + 3 = 31) ?_
      refine z_iload_n h 3 dX11_fills_31 rfl (rfl : 31 + 1 = 32) ?_
      obtain ⟨q9, e10, hf⟩ := zbind hf
      refine z_goF (z_runS h [.int (q7 39 14), .int v3] [] zyX11_valueAt (c_X11_valueAt B q7 J hJ (q7 39 14) v3 _ _ e10) gX11_fills_X11_valueAt zrX11_fills_X11_valueAt rfl (Nat.le_of_ble_eq_true rfl) ⟨Nat.zero_le _, Nat.zero_le _⟩ rfl dX11_fills_32) rfl ?_
      refine z_iret h hr dX11_fills_35 ?_
      exact ⟨congrArg Prod.fst (zsome hf), congrArg Prod.snd (zsome hf), rfl⟩
    · have hf := zitt c6 hf
      refine z_iconst h (-1) dX11_fills_16 (by decide) (rfl : 16 + 1 = 17) ?_
      refine z_iret h hr dX11_fills_17 ?_
      exact ⟨congrArg Prod.fst (zsome hf), congrArg Prod.snd (zsome hf), rfl⟩
noncomputable def f_X11_reason (J : zJ) (v1 : Int32) (v2 : Int32) (v3 : Int32) (I : zM) : Option (Int32 × zM) := ((f_X11_canRead J v1 v2 I).bind fun q1 => (if q1.1 = 0 then some (((-1), q1.2)) else ((f_X11_isGap J v3 q1.2).bind fun q4 => (if q4.1 = 0 then some (((-1), q4.2)) else ((f_X11_read J v1 v2 q4.2).bind fun q7 => ((f_X5_reasonOf J v3 q7).bind fun q9 => some ((q9.1, q9.2))))))))
noncomputable abbrev rmX11_reason : Room := { frames := 6, cells := 0, slots := 0, locals := 139 }
theorem zyX11_reason : zY yX11_reason wsX11_reason cX11_reason 4 (some .int) 3 := ⟨⟨_, rfl⟩, by decide +kernel⟩
theorem zrX11_reason_X11_canRead : zRm rmX11_canRead rmX11_reason 3 := ⟨rfl, rfl, by decide, by decide⟩
theorem zrX11_reason_X11_isGap : zRm rmX11_isGap rmX11_reason 1 := ⟨rfl, rfl, by decide, by decide⟩
theorem zrX11_reason_X11_read : zRm rmX11_read rmX11_reason 3 := ⟨rfl, rfl, by decide, by decide⟩
theorem zrX11_reason_X5_reasonOf : zRm rmX5_reasonOf rmX11_reason 3 := ⟨rfl, rfl, by decide, by decide⟩
set_option maxHeartbeats 1000000 in
set_option maxRecDepth 100000 in
theorem c_X11_reason (B : zB) (I : zM) (J : zJ) (hJ : zJok J) (v1 : Int32) (v2 : Int32) (v3 : Int32) (r : Int32) (I' : zM) (hf : f_X11_reason J v1 v2 v3 I = some (r, I')) : zCi B zKW I J yX11_reason wsX11_reason rmX11_reason [.ref (za B 0), .int v1, .int v2, .int v3] (fun r2 I2 J2 => r2 = r ∧ I2 = I' ∧ J2 = J) := by
  refine z_start (own := RX11) (cc := cX11_reason) (nL := 4) (ret := (some .int)) rfl (by decide) rfl (Nat.le_of_ble_eq_true rfl) (L := [(0, .ref (za B 0)), (1, .int v1), (2, .int v2), (3, .int v3)]) rfl (fun G h hr => ?_)
  rw [f_X11_reason] at hf
  refine z_aload_n h 0 dX11_reason_0 rfl (rfl : 0 + 1 = 1) ?_
  refine z_iload_n h 1 dX11_reason_1 rfl (rfl : 1 + 1 = 2) ?_
  refine z_iload_n h 2 dX11_reason_2 rfl (rfl : 2 + 1 = 3) ?_
  obtain ⟨q1, e2, hf⟩ := zbind hf
  refine z_goF (z_runV (C := RX11) (T := TX11) (N := 13) (ci := 10) h [.int v1, .int v2] [] zyX11_canRead (c_X11_canRead B I J hJ v1 v2 _ _ e2) gX11_reason_X11_canRead rfl rfl rfl zrX11_reason_X11_canRead rfl (Nat.le_of_ble_eq_true rfl) ⟨Nat.zero_le _, Nat.zero_le _⟩ rfl dX11_reason_3) rfl ?_
  refine z_if_eq (pc' := 9) h 16 dX11_reason_6 (by decide) rfl (fun c3 => ?_) (fun c3 => ?_)
  · have hf := zitt c3 hf
    refine z_iconst h (-1) dX11_reason_16 (by decide) (rfl : 16 + 1 = 17) ?_
    refine z_iret h hr dX11_reason_17 ?_
    exact ⟨congrArg Prod.fst (zsome hf), congrArg Prod.snd (zsome hf), rfl⟩
  · have hf := zitf c3 hf
    refine z_iload_n h 3 dX11_reason_9 rfl (rfl : 9 + 1 = 10) ?_
    obtain ⟨q4, e5, hf⟩ := zbind hf
    refine z_goF (z_runS h [.int v3] [] zyX11_isGap (c_X11_isGap B q1.2 J hJ v3 _ _ e5) gX11_reason_X11_isGap zrX11_reason_X11_isGap rfl (Nat.le_of_ble_eq_true rfl) ⟨Nat.zero_le _, Nat.zero_le _⟩ rfl dX11_reason_10) rfl ?_
    refine z_if_ne (pc' := 16) h 18 dX11_reason_13 (by decide) rfl (fun c6 => ?_) (fun c6 => ?_)
    · have hf := zitf c6 hf
      refine z_aload_n h 0 dX11_reason_18 rfl (rfl : 18 + 1 = 19) ?_
      refine z_iload_n h 1 dX11_reason_19 rfl (rfl : 19 + 1 = 20) ?_
      refine z_iload_n h 2 dX11_reason_20 rfl (rfl : 20 + 1 = 21) ?_
      obtain ⟨q7, e8, hf⟩ := zbind hf
      refine z_goFv (z_runV (C := RX11) (T := TX11) (N := 13) (ci := 10) h [.int v1, .int v2] [] zyX11_read (c_X11_read B q4.2 J hJ v1 v2 _ e8) gX11_reason_X11_read rfl rfl rfl zrX11_reason_X11_read rfl (Nat.le_of_ble_eq_true rfl) ⟨Nat.zero_le _, Nat.zero_le _⟩ rfl dX11_reason_21) rfl ?_
      refine z_aload_n h 0 dX11_reason_24 rfl (rfl : 24 + 1 = 25) ?_
      refine z_getr (ci := 10) (C := RX11) (T := TX11) (N := 13) h 12 39 ((hJ.1 0 12 (by decide)).trans rfl) rfl rfl (fun _ hq => List.mem_cons_of_mem _ (List.mem_append_left _ (List.mem_append_left _ (List.mem_append_left _ (List.mem_append_left _ (List.mem_append_left _ (List.mem_append_left _ (List.mem_append_left _ (List.mem_append_left _ (List.mem_append_left _ (List.mem_append_right _ hq))))))))))) (by decide) (List.mem_of_getElem? (i := 1) rfl) rfl dX11_reason_25 (rfl : 25 + 3 = 28) ?_
      refine z_iload_n h 3 dX11_reason_28 rfl (rfl : 28 + 1 = 29) ?_
      obtain ⟨q9, e10, hf⟩ := zbind hf
      refine z_goF (z_runV (C := RX5) (T := TX5) (N := 17) (ci := 5) h [.int v3] [] zyX5_reasonOf (c_X5_reasonOf B q7 J hJ v3 _ _ e10) gX11_reason_X5_reasonOf rfl rfl rfl zrX11_reason_X5_reasonOf rfl (Nat.le_of_ble_eq_true rfl) ⟨Nat.zero_le _, Nat.zero_le _⟩ rfl dX11_reason_29) rfl ?_
      refine z_iret h hr dX11_reason_32 ?_
      exact ⟨congrArg Prod.fst (zsome hf), congrArg Prod.snd (zsome hf), rfl⟩
    · have hf := zitt c6 hf
      refine z_iconst h (-1) dX11_reason_16 (by decide) (rfl : 16 + 1 = 17) ?_
      refine z_iret h hr dX11_reason_17 ?_
      exact ⟨congrArg Prod.fst (zsome hf), congrArg Prod.snd (zsome hf), rfl⟩
noncomputable def f_X11_open (J : zJ) (v1 : Int32) (v2 : Int32) (v3 : Int32) (I : zM) : Option (Int32 × zM) := ((f_X11_canRead J v1 v2 I).bind fun q1 => (if q1.1 = 0 then some (((-1), q1.2)) else ((f_X11_read J v1 v2 q1.2).bind fun q4 => (if v3 = 0 then ((f_X5_stillOpen J  q4).bind fun q7 => some ((q7.1, q7.2))) else some ((q4 39 15, q4))))))
noncomputable abbrev rmX11_open : Room := { frames := 6, cells := 0, slots := 0, locals := 139 }
theorem zyX11_open : zY yX11_open wsX11_open cX11_open 4 (some .int) 3 := ⟨⟨_, rfl⟩, by decide +kernel⟩
theorem zrX11_open_X11_canRead : zRm rmX11_canRead rmX11_open 3 := ⟨rfl, rfl, by decide, by decide⟩
theorem zrX11_open_X11_read : zRm rmX11_read rmX11_open 3 := ⟨rfl, rfl, by decide, by decide⟩
theorem zrX11_open_X5_stillOpen : zRm rmX5_stillOpen rmX11_open 3 := ⟨rfl, rfl, by decide, by decide⟩
set_option maxHeartbeats 1000000 in
set_option maxRecDepth 100000 in
theorem c_X11_open (B : zB) (I : zM) (J : zJ) (hJ : zJok J) (v1 : Int32) (v2 : Int32) (v3 : Int32) (r : Int32) (I' : zM) (hf : f_X11_open J v1 v2 v3 I = some (r, I')) : zCi B zKW I J yX11_open wsX11_open rmX11_open [.ref (za B 0), .int v1, .int v2, .int v3] (fun r2 I2 J2 => r2 = r ∧ I2 = I' ∧ J2 = J) := by
  refine z_start (own := RX11) (cc := cX11_open) (nL := 4) (ret := (some .int)) rfl (by decide) rfl (Nat.le_of_ble_eq_true rfl) (L := [(0, .ref (za B 0)), (1, .int v1), (2, .int v2), (3, .int v3)]) rfl (fun G h hr => ?_)
  rw [f_X11_open] at hf
  refine z_aload_n h 0 dX11_open_0 rfl (rfl : 0 + 1 = 1) ?_
  refine z_iload_n h 1 dX11_open_1 rfl (rfl : 1 + 1 = 2) ?_
  refine z_iload_n h 2 dX11_open_2 rfl (rfl : 2 + 1 = 3) ?_
  obtain ⟨q1, e2, hf⟩ := zbind hf
  refine z_goF (z_runV (C := RX11) (T := TX11) (N := 13) (ci := 10) h [.int v1, .int v2] [] zyX11_canRead (c_X11_canRead B I J hJ v1 v2 _ _ e2) gX11_open_X11_canRead rfl rfl rfl zrX11_open_X11_canRead rfl (Nat.le_of_ble_eq_true rfl) ⟨Nat.zero_le _, Nat.zero_le _⟩ rfl dX11_open_3) rfl ?_
  refine z_if_ne (pc' := 9) h 11 dX11_open_6 (by decide) rfl (fun c3 => ?_) (fun c3 => ?_)
  · have hf := zitf c3 hf
    refine z_aload_n h 0 dX11_open_11 rfl (rfl : 11 + 1 = 12) ?_
    refine z_iload_n h 1 dX11_open_12 rfl (rfl : 12 + 1 = 13) ?_
    refine z_iload_n h 2 dX11_open_13 rfl (rfl : 13 + 1 = 14) ?_
    obtain ⟨q4, e5, hf⟩ := zbind hf
    refine z_goFv (z_runV (C := RX11) (T := TX11) (N := 13) (ci := 10) h [.int v1, .int v2] [] zyX11_read (c_X11_read B q1.2 J hJ v1 v2 _ e5) gX11_open_X11_read rfl rfl rfl zrX11_open_X11_read rfl (Nat.le_of_ble_eq_true rfl) ⟨Nat.zero_le _, Nat.zero_le _⟩ rfl dX11_open_14) rfl ?_
    refine z_iload_n h 3 dX11_open_17 rfl (rfl : 17 + 1 = 18) ?_
    refine z_if_eq (pc' := 21) h 31 dX11_open_18 (by decide) rfl (fun c6 => ?_) (fun c6 => ?_)
    · have hf := zitt c6 hf
      refine z_aload_n h 0 dX11_open_31 rfl (rfl : 31 + 1 = 32) ?_
      refine z_getr (ci := 10) (C := RX11) (T := TX11) (N := 13) h 12 39 ((hJ.1 0 12 (by decide)).trans rfl) rfl rfl (fun _ hq => List.mem_cons_of_mem _ (List.mem_append_left _ (List.mem_append_left _ (List.mem_append_left _ (List.mem_append_left _ (List.mem_append_left _ (List.mem_append_left _ (List.mem_append_left _ (List.mem_append_left _ (List.mem_append_left _ (List.mem_append_right _ hq))))))))))) (by decide) (List.mem_of_getElem? (i := 1) rfl) rfl dX11_open_32 (rfl : 32 + 3 = 35) ?_
      obtain ⟨q7, e8, hf⟩ := zbind hf
      refine z_goF (z_runV (C := RX5) (T := TX5) (N := 17) (ci := 5) h [] [] zyX5_stillOpen (c_X5_stillOpen B q4 J hJ  _ _ e8) gX11_open_X5_stillOpen rfl rfl rfl zrX11_open_X5_stillOpen rfl (Nat.le_of_ble_eq_true rfl) ⟨Nat.zero_le _, Nat.zero_le _⟩ rfl dX11_open_35) rfl ?_
      refine z_iret h hr dX11_open_38 ?_
      exact ⟨congrArg Prod.fst (zsome hf), congrArg Prod.snd (zsome hf), rfl⟩
    · have hf := zitf c6 hf
      refine z_aload_n h 0 dX11_open_21 rfl (rfl : 21 + 1 = 22) ?_
      refine z_getr (ci := 10) (C := RX11) (T := TX11) (N := 13) h 12 39 ((hJ.1 0 12 (by decide)).trans rfl) rfl rfl (fun _ hq => List.mem_cons_of_mem _ (List.mem_append_left _ (List.mem_append_left _ (List.mem_append_left _ (List.mem_append_left _ (List.mem_append_left _ (List.mem_append_left _ (List.mem_append_left _ (List.mem_append_left _ (List.mem_append_left _ (List.mem_append_right _ hq))))))))))) (by decide) (List.mem_of_getElem? (i := 1) rfl) rfl dX11_open_22 (rfl : 22 + 3 = 25) ?_
      refine z_get (ci := 5) (C := RX5) (T := TX5) (N := 17) h 15 rfl rfl (fun _ hq => List.mem_cons_of_mem _ (List.mem_append_left _ (List.mem_append_left _ (List.mem_append_left _ (List.mem_append_left _ (List.mem_append_left _ (List.mem_append_left _ (List.mem_append_left _ (List.mem_append_left _ (List.mem_append_right _ hq)))))))))) (by decide) (List.mem_of_getElem? (i := 2) rfl) rfl dX11_open_25 (rfl : 25 + 3 = 28) ?_
      refine z_goto (pc' := 38) h dX11_open_28 (by decide) ?_
      refine z_iret h hr dX11_open_38 ?_
      exact ⟨congrArg Prod.fst (zsome hf), congrArg Prod.snd (zsome hf), rfl⟩
  · have hf := zitt c3 hf
    refine z_iconst h (-1) dX11_open_9 (by decide) (rfl : 9 + 1 = 10) ?_
    refine z_iret h hr dX11_open_10 ?_
    exact ⟨congrArg Prod.fst (zsome hf), congrArg Prod.snd (zsome hf), rfl⟩
noncomputable def f_X11_holds (J : zJ) (v1 : Int32) (v2 : Int32) (I : zM) : Option (Int32 × zM) := ((f_X11_canRead J v1 v2 I).bind fun q1 => (if q1.1 = 0 then some (((-1), q1.2)) else ((f_X11_read J v1 v2 q1.2).bind fun q4 => ((f_X5_stillOpen J  q4).bind fun q6 => (if (q6.1 ||| (q6.2 39 15)) &&& (q6.2 1 1) = 0 then some ((1, q6.2)) else some ((0, q6.2)))))))
noncomputable abbrev rmX11_holds : Room := { frames := 6, cells := 0, slots := 0, locals := 139 }
theorem zyX11_holds : zY yX11_holds wsX11_holds cX11_holds 4 (some .int) 2 := ⟨⟨_, rfl⟩, by decide +kernel⟩
theorem zrX11_holds_X11_canRead : zRm rmX11_canRead rmX11_holds 3 := ⟨rfl, rfl, by decide, by decide⟩
theorem zrX11_holds_X11_read : zRm rmX11_read rmX11_holds 3 := ⟨rfl, rfl, by decide, by decide⟩
theorem zrX11_holds_X5_stillOpen : zRm rmX5_stillOpen rmX11_holds 3 := ⟨rfl, rfl, by decide, by decide⟩
set_option maxHeartbeats 1000000 in
set_option maxRecDepth 100000 in
theorem c_X11_holds (B : zB) (I : zM) (J : zJ) (hJ : zJok J) (v1 : Int32) (v2 : Int32) (r : Int32) (I' : zM) (hf : f_X11_holds J v1 v2 I = some (r, I')) : zCi B zKW I J yX11_holds wsX11_holds rmX11_holds [.ref (za B 0), .int v1, .int v2] (fun r2 I2 J2 => r2 = r ∧ I2 = I' ∧ J2 = J) := by
  refine z_start (own := RX11) (cc := cX11_holds) (nL := 4) (ret := (some .int)) rfl (by decide) rfl (Nat.le_of_ble_eq_true rfl) (L := [(0, .ref (za B 0)), (1, .int v1), (2, .int v2)]) rfl (fun G h hr => ?_)
  rw [f_X11_holds] at hf
  refine z_aload_n h 0 dX11_holds_0 rfl (rfl : 0 + 1 = 1) ?_
  refine z_iload_n h 1 dX11_holds_1 rfl (rfl : 1 + 1 = 2) ?_
  refine z_iload_n h 2 dX11_holds_2 rfl (rfl : 2 + 1 = 3) ?_
  obtain ⟨q1, e2, hf⟩ := zbind hf
  refine z_goF (z_runV (C := RX11) (T := TX11) (N := 13) (ci := 10) h [.int v1, .int v2] [] zyX11_canRead (c_X11_canRead B I J hJ v1 v2 _ _ e2) gX11_holds_X11_canRead rfl rfl rfl zrX11_holds_X11_canRead rfl (Nat.le_of_ble_eq_true rfl) ⟨Nat.zero_le _, Nat.zero_le _⟩ rfl dX11_holds_3) rfl ?_
  refine z_if_ne (pc' := 9) h 11 dX11_holds_6 (by decide) rfl (fun c3 => ?_) (fun c3 => ?_)
  · have hf := zitf c3 hf
    refine z_aload_n h 0 dX11_holds_11 rfl (rfl : 11 + 1 = 12) ?_
    refine z_iload_n h 1 dX11_holds_12 rfl (rfl : 12 + 1 = 13) ?_
    refine z_iload_n h 2 dX11_holds_13 rfl (rfl : 13 + 1 = 14) ?_
    obtain ⟨q4, e5, hf⟩ := zbind hf
    refine z_goFv (z_runV (C := RX11) (T := TX11) (N := 13) (ci := 10) h [.int v1, .int v2] [] zyX11_read (c_X11_read B q1.2 J hJ v1 v2 _ e5) gX11_holds_X11_read rfl rfl rfl zrX11_holds_X11_read rfl (Nat.le_of_ble_eq_true rfl) ⟨Nat.zero_le _, Nat.zero_le _⟩ rfl dX11_holds_14) rfl ?_
    refine z_aload_n h 0 dX11_holds_17 rfl (rfl : 17 + 1 = 18) ?_
    refine z_getr (ci := 10) (C := RX11) (T := TX11) (N := 13) h 12 39 ((hJ.1 0 12 (by decide)).trans rfl) rfl rfl (fun _ hq => List.mem_cons_of_mem _ (List.mem_append_left _ (List.mem_append_left _ (List.mem_append_left _ (List.mem_append_left _ (List.mem_append_left _ (List.mem_append_left _ (List.mem_append_left _ (List.mem_append_left _ (List.mem_append_left _ (List.mem_append_right _ hq))))))))))) (by decide) (List.mem_of_getElem? (i := 1) rfl) rfl dX11_holds_18 (rfl : 18 + 3 = 21) ?_
    obtain ⟨q6, e7, hf⟩ := zbind hf
    refine z_goF (z_runV (C := RX5) (T := TX5) (N := 17) (ci := 5) h [] [] zyX5_stillOpen (c_X5_stillOpen B q4 J hJ  _ _ e7) gX11_holds_X5_stillOpen rfl rfl rfl zrX11_holds_X5_stillOpen rfl (Nat.le_of_ble_eq_true rfl) ⟨Nat.zero_le _, Nat.zero_le _⟩ rfl dX11_holds_21) rfl ?_
    refine z_aload_n h 0 dX11_holds_24 rfl (rfl : 24 + 1 = 25) ?_
    refine z_getr (ci := 10) (C := RX11) (T := TX11) (N := 13) h 12 39 ((hJ.1 0 12 (by decide)).trans rfl) rfl rfl (fun _ hq => List.mem_cons_of_mem _ (List.mem_append_left _ (List.mem_append_left _ (List.mem_append_left _ (List.mem_append_left _ (List.mem_append_left _ (List.mem_append_left _ (List.mem_append_left _ (List.mem_append_left _ (List.mem_append_left _ (List.mem_append_right _ hq))))))))))) (by decide) (List.mem_of_getElem? (i := 1) rfl) rfl dX11_holds_25 (rfl : 25 + 3 = 28) ?_
    refine z_get (ci := 5) (C := RX5) (T := TX5) (N := 17) h 15 rfl rfl (fun _ hq => List.mem_cons_of_mem _ (List.mem_append_left _ (List.mem_append_left _ (List.mem_append_left _ (List.mem_append_left _ (List.mem_append_left _ (List.mem_append_left _ (List.mem_append_left _ (List.mem_append_left _ (List.mem_append_right _ hq)))))))))) (by decide) (List.mem_of_getElem? (i := 2) rfl) rfl dX11_holds_28 (rfl : 28 + 3 = 31) ?_
    refine z_ior h dX11_holds_31 (rfl : 31 + 1 = 32) ?_
    refine z_istore_n h [(3, .int (q6.1 ||| (q6.2 39 15))), (0, .ref (za B 0)), (1, .int v1), (2, .int v2)] dX11_holds_32 (by decide) rfl (rfl : 32 + 1 = 33) ?_
    refine z_iload_n h 0 dX11_holds_33 rfl (rfl : 33 + 1 = 34) ?_
    refine z_aload_n h 1 dX11_holds_34 rfl (rfl : 34 + 1 = 35) ?_
    refine z_getr (ci := 10) (C := RX11) (T := TX11) (N := 13) h 0 1 ((hJ.1 0 0 (by decide)).trans rfl) rfl rfl (fun _ hq => List.mem_cons_of_mem _ (List.mem_append_left _ (List.mem_append_left _ (List.mem_append_left _ (List.mem_append_left _ (List.mem_append_left _ (List.mem_append_left _ (List.mem_append_left _ (List.mem_append_left _ (List.mem_append_left _ (List.mem_append_right _ hq))))))))))) (by decide) (List.mem_of_getElem? (i := 3) rfl) rfl dX11_holds_35 (rfl : 35 + 3 = 38) ?_
    refine z_get (ci := 3) (C := RX3) (T := TX3) (N := 4) h 1 rfl rfl (fun _ hq => List.mem_cons_of_mem _ (List.mem_append_left _ (List.mem_append_left _ (List.mem_append_left _ (List.mem_append_left _ (List.mem_append_left _ (List.mem_append_left _ (List.mem_append_left _ (List.mem_append_right _ hq))))))))) (by decide) (List.mem_of_getElem? (i := 4) rfl) rfl dX11_holds_38 (rfl : 38 + 3 = 41) ?_
    refine z_iand h dX11_holds_41 (rfl : 41 + 1 = 42) ?_
    refine z_if_ne (pc' := 45) h 49 dX11_holds_42 (by decide) rfl (fun c8 => ?_) (fun c8 => ?_)
    · have hf := zitf c8 hf
      refine z_iconst h 0 dX11_holds_49 (by decide) (rfl : 49 + 1 = 50) ?_
      refine z_iret h hr dX11_holds_50 ?_
      exact ⟨congrArg Prod.fst (zsome hf), congrArg Prod.snd (zsome hf), rfl⟩
    · have hf := zitt c8 hf
      refine z_iconst h 1 dX11_holds_45 (by decide) (rfl : 45 + 1 = 46) ?_
      refine z_goto (pc' := 50) h dX11_holds_46 (by decide) ?_
      refine z_iret h hr dX11_holds_50 ?_
      exact ⟨congrArg Prod.fst (zsome hf), congrArg Prod.snd (zsome hf), rfl⟩
  · have hf := zitt c3 hf
    refine z_iconst h (-1) dX11_holds_9 (by decide) (rfl : 9 + 1 = 10) ?_
    refine z_iret h hr dX11_holds_10 ?_
    exact ⟨congrArg Prod.fst (zsome hf), congrArg Prod.snd (zsome hf), rfl⟩
noncomputable def f_J6_numberOfTrailingZeros_0f7a4 (J : zJ) (v0 : Int32) (I : zM) : Option (Int32 × zM) := (if 0 < (v0 ^^^ ((-1) : Int32)) &&& (v0 - (1 : Int32)) then (if (v0 ^^^ ((-1) : Int32)) &&& (v0 - (1 : Int32)) ≤ 65536 then (if (v0 ^^^ ((-1) : Int32)) &&& (v0 - (1 : Int32)) ≤ 256 then (if (v0 ^^^ ((-1) : Int32)) &&& (v0 - (1 : Int32)) ≤ 16 then (if (v0 ^^^ ((-1) : Int32)) &&& (v0 - (1 : Int32)) ≤ 4 then some (((1 : Int32) + ((Int32.toUInt32 ((v0 ^^^ ((-1) : Int32)) &&& (v0 - (1 : Int32))) >>> (Int32.toUInt32 (1 : Int32) &&& Int32.toUInt32 31)).toInt32), I)) else some (((1 + 2) + ((Int32.toUInt32 ((Int32.toUInt32 ((v0 ^^^ ((-1) : Int32)) &&& (v0 - (1 : Int32))) >>> (Int32.toUInt32 (2 : Int32) &&& Int32.toUInt32 31)).toInt32) >>> (Int32.toUInt32 (1 : Int32) &&& Int32.toUInt32 31)).toInt32), I))) else (if (Int32.toUInt32 ((v0 ^^^ ((-1) : Int32)) &&& (v0 - (1 : Int32))) >>> (Int32.toUInt32 (4 : Int32) &&& Int32.toUInt32 31)).toInt32 ≤ 4 then some (((1 + 4) + ((Int32.toUInt32 ((Int32.toUInt32 ((v0 ^^^ ((-1) : Int32)) &&& (v0 - (1 : Int32))) >>> (Int32.toUInt32 (4 : Int32) &&& Int32.toUInt32 31)).toInt32) >>> (Int32.toUInt32 (1 : Int32) &&& Int32.toUInt32 31)).toInt32), I)) else some ((((1 + 4) + 2) + ((Int32.toUInt32 ((Int32.toUInt32 ((Int32.toUInt32 ((v0 ^^^ ((-1) : Int32)) &&& (v0 - (1 : Int32))) >>> (Int32.toUInt32 (4 : Int32) &&& Int32.toUInt32 31)).toInt32) >>> (Int32.toUInt32 (2 : Int32) &&& Int32.toUInt32 31)).toInt32) >>> (Int32.toUInt32 (1 : Int32) &&& Int32.toUInt32 31)).toInt32), I)))) else (if (Int32.toUInt32 ((v0 ^^^ ((-1) : Int32)) &&& (v0 - (1 : Int32))) >>> (Int32.toUInt32 (8 : Int32) &&& Int32.toUInt32 31)).toInt32 ≤ 16 then (if (Int32.toUInt32 ((v0 ^^^ ((-1) : Int32)) &&& (v0 - (1 : Int32))) >>> (Int32.toUInt32 (8 : Int32) &&& Int32.toUInt32 31)).toInt32 ≤ 4 then some (((1 + 8) + ((Int32.toUInt32 ((Int32.toUInt32 ((v0 ^^^ ((-1) : Int32)) &&& (v0 - (1 : Int32))) >>> (Int32.toUInt32 (8 : Int32) &&& Int32.toUInt32 31)).toInt32) >>> (Int32.toUInt32 (1 : Int32) &&& Int32.toUInt32 31)).toInt32), I)) else some ((((1 + 8) + 2) + ((Int32.toUInt32 ((Int32.toUInt32 ((Int32.toUInt32 ((v0 ^^^ ((-1) : Int32)) &&& (v0 - (1 : Int32))) >>> (Int32.toUInt32 (8 : Int32) &&& Int32.toUInt32 31)).toInt32) >>> (Int32.toUInt32 (2 : Int32) &&& Int32.toUInt32 31)).toInt32) >>> (Int32.toUInt32 (1 : Int32) &&& Int32.toUInt32 31)).toInt32), I))) else (if (Int32.toUInt32 ((Int32.toUInt32 ((v0 ^^^ ((-1) : Int32)) &&& (v0 - (1 : Int32))) >>> (Int32.toUInt32 (8 : Int32) &&& Int32.toUInt32 31)).toInt32) >>> (Int32.toUInt32 (4 : Int32) &&& Int32.toUInt32 31)).toInt32 ≤ 4 then some ((((1 + 8) + 4) + ((Int32.toUInt32 ((Int32.toUInt32 ((Int32.toUInt32 ((v0 ^^^ ((-1) : Int32)) &&& (v0 - (1 : Int32))) >>> (Int32.toUInt32 (8 : Int32) &&& Int32.toUInt32 31)).toInt32) >>> (Int32.toUInt32 (4 : Int32) &&& Int32.toUInt32 31)).toInt32) >>> (Int32.toUInt32 (1 : Int32) &&& Int32.toUInt32 31)).toInt32), I)) else some (((((1 + 8) + 4) + 2) + ((Int32.toUInt32 ((Int32.toUInt32 ((Int32.toUInt32 ((Int32.toUInt32 ((v0 ^^^ ((-1) : Int32)) &&& (v0 - (1 : Int32))) >>> (Int32.toUInt32 (8 : Int32) &&& Int32.toUInt32 31)).toInt32) >>> (Int32.toUInt32 (4 : Int32) &&& Int32.toUInt32 31)).toInt32) >>> (Int32.toUInt32 (2 : Int32) &&& Int32.toUInt32 31)).toInt32) >>> (Int32.toUInt32 (1 : Int32) &&& Int32.toUInt32 31)).toInt32), I))))) else (if (Int32.toUInt32 ((v0 ^^^ ((-1) : Int32)) &&& (v0 - (1 : Int32))) >>> (Int32.toUInt32 (16 : Int32) &&& Int32.toUInt32 31)).toInt32 ≤ 256 then (if (Int32.toUInt32 ((v0 ^^^ ((-1) : Int32)) &&& (v0 - (1 : Int32))) >>> (Int32.toUInt32 (16 : Int32) &&& Int32.toUInt32 31)).toInt32 ≤ 16 then (if (Int32.toUInt32 ((v0 ^^^ ((-1) : Int32)) &&& (v0 - (1 : Int32))) >>> (Int32.toUInt32 (16 : Int32) &&& Int32.toUInt32 31)).toInt32 ≤ 4 then some (((1 + 16) + ((Int32.toUInt32 ((Int32.toUInt32 ((v0 ^^^ ((-1) : Int32)) &&& (v0 - (1 : Int32))) >>> (Int32.toUInt32 (16 : Int32) &&& Int32.toUInt32 31)).toInt32) >>> (Int32.toUInt32 (1 : Int32) &&& Int32.toUInt32 31)).toInt32), I)) else some ((((1 + 16) + 2) + ((Int32.toUInt32 ((Int32.toUInt32 ((Int32.toUInt32 ((v0 ^^^ ((-1) : Int32)) &&& (v0 - (1 : Int32))) >>> (Int32.toUInt32 (16 : Int32) &&& Int32.toUInt32 31)).toInt32) >>> (Int32.toUInt32 (2 : Int32) &&& Int32.toUInt32 31)).toInt32) >>> (Int32.toUInt32 (1 : Int32) &&& Int32.toUInt32 31)).toInt32), I))) else (if (Int32.toUInt32 ((Int32.toUInt32 ((v0 ^^^ ((-1) : Int32)) &&& (v0 - (1 : Int32))) >>> (Int32.toUInt32 (16 : Int32) &&& Int32.toUInt32 31)).toInt32) >>> (Int32.toUInt32 (4 : Int32) &&& Int32.toUInt32 31)).toInt32 ≤ 4 then some ((((1 + 16) + 4) + ((Int32.toUInt32 ((Int32.toUInt32 ((Int32.toUInt32 ((v0 ^^^ ((-1) : Int32)) &&& (v0 - (1 : Int32))) >>> (Int32.toUInt32 (16 : Int32) &&& Int32.toUInt32 31)).toInt32) >>> (Int32.toUInt32 (4 : Int32) &&& Int32.toUInt32 31)).toInt32) >>> (Int32.toUInt32 (1 : Int32) &&& Int32.toUInt32 31)).toInt32), I)) else some (((((1 + 16) + 4) + 2) + ((Int32.toUInt32 ((Int32.toUInt32 ((Int32.toUInt32 ((Int32.toUInt32 ((v0 ^^^ ((-1) : Int32)) &&& (v0 - (1 : Int32))) >>> (Int32.toUInt32 (16 : Int32) &&& Int32.toUInt32 31)).toInt32) >>> (Int32.toUInt32 (4 : Int32) &&& Int32.toUInt32 31)).toInt32) >>> (Int32.toUInt32 (2 : Int32) &&& Int32.toUInt32 31)).toInt32) >>> (Int32.toUInt32 (1 : Int32) &&& Int32.toUInt32 31)).toInt32), I)))) else (if (Int32.toUInt32 ((Int32.toUInt32 ((v0 ^^^ ((-1) : Int32)) &&& (v0 - (1 : Int32))) >>> (Int32.toUInt32 (16 : Int32) &&& Int32.toUInt32 31)).toInt32) >>> (Int32.toUInt32 (8 : Int32) &&& Int32.toUInt32 31)).toInt32 ≤ 16 then (if (Int32.toUInt32 ((Int32.toUInt32 ((v0 ^^^ ((-1) : Int32)) &&& (v0 - (1 : Int32))) >>> (Int32.toUInt32 (16 : Int32) &&& Int32.toUInt32 31)).toInt32) >>> (Int32.toUInt32 (8 : Int32) &&& Int32.toUInt32 31)).toInt32 ≤ 4 then some ((((1 + 16) + 8) + ((Int32.toUInt32 ((Int32.toUInt32 ((Int32.toUInt32 ((v0 ^^^ ((-1) : Int32)) &&& (v0 - (1 : Int32))) >>> (Int32.toUInt32 (16 : Int32) &&& Int32.toUInt32 31)).toInt32) >>> (Int32.toUInt32 (8 : Int32) &&& Int32.toUInt32 31)).toInt32) >>> (Int32.toUInt32 (1 : Int32) &&& Int32.toUInt32 31)).toInt32), I)) else some (((((1 + 16) + 8) + 2) + ((Int32.toUInt32 ((Int32.toUInt32 ((Int32.toUInt32 ((Int32.toUInt32 ((v0 ^^^ ((-1) : Int32)) &&& (v0 - (1 : Int32))) >>> (Int32.toUInt32 (16 : Int32) &&& Int32.toUInt32 31)).toInt32) >>> (Int32.toUInt32 (8 : Int32) &&& Int32.toUInt32 31)).toInt32) >>> (Int32.toUInt32 (2 : Int32) &&& Int32.toUInt32 31)).toInt32) >>> (Int32.toUInt32 (1 : Int32) &&& Int32.toUInt32 31)).toInt32), I))) else (if (Int32.toUInt32 ((Int32.toUInt32 ((Int32.toUInt32 ((v0 ^^^ ((-1) : Int32)) &&& (v0 - (1 : Int32))) >>> (Int32.toUInt32 (16 : Int32) &&& Int32.toUInt32 31)).toInt32) >>> (Int32.toUInt32 (8 : Int32) &&& Int32.toUInt32 31)).toInt32) >>> (Int32.toUInt32 (4 : Int32) &&& Int32.toUInt32 31)).toInt32 ≤ 4 then some (((((1 + 16) + 8) + 4) + ((Int32.toUInt32 ((Int32.toUInt32 ((Int32.toUInt32 ((Int32.toUInt32 ((v0 ^^^ ((-1) : Int32)) &&& (v0 - (1 : Int32))) >>> (Int32.toUInt32 (16 : Int32) &&& Int32.toUInt32 31)).toInt32) >>> (Int32.toUInt32 (8 : Int32) &&& Int32.toUInt32 31)).toInt32) >>> (Int32.toUInt32 (4 : Int32) &&& Int32.toUInt32 31)).toInt32) >>> (Int32.toUInt32 (1 : Int32) &&& Int32.toUInt32 31)).toInt32), I)) else some ((((((1 + 16) + 8) + 4) + 2) + ((Int32.toUInt32 ((Int32.toUInt32 ((Int32.toUInt32 ((Int32.toUInt32 ((Int32.toUInt32 ((v0 ^^^ ((-1) : Int32)) &&& (v0 - (1 : Int32))) >>> (Int32.toUInt32 (16 : Int32) &&& Int32.toUInt32 31)).toInt32) >>> (Int32.toUInt32 (8 : Int32) &&& Int32.toUInt32 31)).toInt32) >>> (Int32.toUInt32 (4 : Int32) &&& Int32.toUInt32 31)).toInt32) >>> (Int32.toUInt32 (2 : Int32) &&& Int32.toUInt32 31)).toInt32) >>> (Int32.toUInt32 (1 : Int32) &&& Int32.toUInt32 31)).toInt32), I)))))) else some ((((v0 ^^^ ((-1) : Int32)) &&& (v0 - (1 : Int32))) &&& (32 : Int32), I)))
noncomputable abbrev rmJ6_numberOfTrailingZeros_0f7a4 : Room := { frames := 0, cells := 0, slots := 0, locals := 0 }
theorem zyJ6_numberOfTrailingZeros_0f7a4 : zY yJ6_numberOfTrailingZeros_0f7a4 wsJ6_numberOfTrailingZeros_0f7a4 cJ6_numberOfTrailingZeros_0f7a4 2 (some .int) 1 := ⟨⟨_, rfl⟩, by decide +kernel⟩
set_option maxHeartbeats 1000000 in
set_option maxRecDepth 100000 in
theorem c_J6_numberOfTrailingZeros_0f7a4 (B : zB) (I : zM) (J : zJ) (hJ : zJok J) (v0 : Int32) (r : Int32) (I' : zM) (hf : f_J6_numberOfTrailingZeros_0f7a4 J v0 I = some (r, I')) : zCi B zKW I J yJ6_numberOfTrailingZeros_0f7a4 wsJ6_numberOfTrailingZeros_0f7a4 rmJ6_numberOfTrailingZeros_0f7a4 [.int v0] (fun r2 I2 J2 => r2 = r ∧ I2 = I' ∧ J2 = J) := by
  refine z_start (own := RJ6) (cc := cJ6_numberOfTrailingZeros_0f7a4) (nL := 2) (ret := (some .int)) rfl (by decide) rfl (Nat.le_of_ble_eq_true rfl) (L := [(0, .int v0)]) rfl (fun G h hr => ?_)
  rw [f_J6_numberOfTrailingZeros_0f7a4] at hf
  refine z_iload_n h 0 dJ6_numberOfTrailingZeros_0f7a4_0 rfl (rfl : 0 + 1 = 1) ?_
  refine z_iconst h (-1) dJ6_numberOfTrailingZeros_0f7a4_1 (by decide) (rfl : 1 + 1 = 2) ?_
  refine z_ixor h dJ6_numberOfTrailingZeros_0f7a4_2 (rfl : 2 + 1 = 3) ?_
  refine z_iload_n h 0 dJ6_numberOfTrailingZeros_0f7a4_3 rfl (rfl : 3 + 1 = 4) ?_
  refine z_iconst h 1 dJ6_numberOfTrailingZeros_0f7a4_4 (by decide) (rfl : 4 + 1 = 5) ?_
  refine z_isub h dJ6_numberOfTrailingZeros_0f7a4_5 (rfl : 5 + 1 = 6) ?_
  refine z_iand h dJ6_numberOfTrailingZeros_0f7a4_6 (rfl : 6 + 1 = 7) ?_
  refine z_istore_n h [(0, .int ((v0 ^^^ ((-1) : Int32)) &&& (v0 - (1 : Int32))))] dJ6_numberOfTrailingZeros_0f7a4_7 (by decide) rfl (rfl : 7 + 1 = 8) ?_
  refine z_iload_n h 0 dJ6_numberOfTrailingZeros_0f7a4_8 rfl (rfl : 8 + 1 = 9) ?_
  refine z_if_gt (pc' := 12) h 17 dJ6_numberOfTrailingZeros_0f7a4_9 (by decide) rfl (fun c1 => ?_) (fun c1 => ?_)
  · have hf := zitt c1 hf
    refine z_iconst h 1 dJ6_numberOfTrailingZeros_0f7a4_17 (by decide) (rfl : 17 + 1 = 18) ?_
    refine z_istore_n h [(1, .int 1), (0, .int ((v0 ^^^ ((-1) : Int32)) &&& (v0 - (1 : Int32))))] dJ6_numberOfTrailingZeros_0f7a4_18 (by decide) rfl (rfl : 18 + 1 = 19) ?_
    refine z_iload_n h 1 dJ6_numberOfTrailingZeros_0f7a4_19 rfl (rfl : 19 + 1 = 20) ?_
    refine z_ldcw h 65536 (List.mem_of_getElem? (i := 1) rfl) dJ6_numberOfTrailingZeros_0f7a4_20 (rfl : 20 + 3 = 23) ?_
    refine z_icmp_le (pc' := 26) h 34 dJ6_numberOfTrailingZeros_0f7a4_23 (by decide) rfl (fun c2 => ?_) (fun c2 => ?_)
    · have hf := zitt c2 hf
      refine z_iload_n h 1 dJ6_numberOfTrailingZeros_0f7a4_34 rfl (rfl : 34 + 1 = 35) ?_
      refine z_sipush h 256 dJ6_numberOfTrailingZeros_0f7a4_35 (by decide) (rfl : 35 + 3 = 38) ?_
      refine z_icmp_le (pc' := 41) h 49 dJ6_numberOfTrailingZeros_0f7a4_38 (by decide) rfl (fun c3 => ?_) (fun c3 => ?_)
      · have hf := zitt c3 hf
        refine z_iload_n h 1 dJ6_numberOfTrailingZeros_0f7a4_49 rfl (rfl : 49 + 1 = 50) ?_
        refine z_bipush h 16 dJ6_numberOfTrailingZeros_0f7a4_50 (by decide) (rfl : 50 + 2 = 52) ?_
        refine z_icmp_le (pc' := 55) h 62 dJ6_numberOfTrailingZeros_0f7a4_52 (by decide) rfl (fun c4 => ?_) (fun c4 => ?_)
        · have hf := zitt c4 hf
          refine z_iload_n h 1 dJ6_numberOfTrailingZeros_0f7a4_62 rfl (rfl : 62 + 1 = 63) ?_
          refine z_iconst h 4 dJ6_numberOfTrailingZeros_0f7a4_63 (by decide) (rfl : 63 + 1 = 64) ?_
          refine z_icmp_le (pc' := 67) h 74 dJ6_numberOfTrailingZeros_0f7a4_64 (by decide) rfl (fun c5 => ?_) (fun c5 => ?_)
          · have hf := zitt c5 hf
            refine z_iload_n h 0 dJ6_numberOfTrailingZeros_0f7a4_74 rfl (rfl : 74 + 1 = 75) ?_
            refine z_iload_n h 1 dJ6_numberOfTrailingZeros_0f7a4_75 rfl (rfl : 75 + 1 = 76) ?_
            refine z_iconst h 1 dJ6_numberOfTrailingZeros_0f7a4_76 (by decide) (rfl : 76 + 1 = 77) ?_
            refine z_iushr h dJ6_numberOfTrailingZeros_0f7a4_77 (rfl : 77 + 1 = 78) ?_
            refine z_iadd h dJ6_numberOfTrailingZeros_0f7a4_78 (rfl : 78 + 1 = 79) ?_
            refine z_iret h hr dJ6_numberOfTrailingZeros_0f7a4_79 ?_
            exact ⟨congrArg Prod.fst (zsome hf), congrArg Prod.snd (zsome hf), rfl⟩
          · have hf := zitf c5 hf
            refine z_iinc h 0 (1 + 2) [(1, .int (1 + 2)), (0, .int ((v0 ^^^ ((-1) : Int32)) &&& (v0 - (1 : Int32))))] dJ6_numberOfTrailingZeros_0f7a4_67 rfl rfl (by decide) rfl (rfl : 67 + 3 = 70) ?_
            refine z_iload_n h 1 dJ6_numberOfTrailingZeros_0f7a4_70 rfl (rfl : 70 + 1 = 71) ?_
            refine z_iconst h 2 dJ6_numberOfTrailingZeros_0f7a4_71 (by decide) (rfl : 71 + 1 = 72) ?_
            refine z_iushr h dJ6_numberOfTrailingZeros_0f7a4_72 (rfl : 72 + 1 = 73) ?_
            refine z_istore_n h [(0, .int ((Int32.toUInt32 ((v0 ^^^ ((-1) : Int32)) &&& (v0 - (1 : Int32))) >>> (Int32.toUInt32 (2 : Int32) &&& Int32.toUInt32 31)).toInt32)), (1, .int (1 + 2))] dJ6_numberOfTrailingZeros_0f7a4_73 (by decide) rfl (rfl : 73 + 1 = 74) ?_
            refine z_iload_n h 1 dJ6_numberOfTrailingZeros_0f7a4_74 rfl (rfl : 74 + 1 = 75) ?_
            refine z_iload_n h 0 dJ6_numberOfTrailingZeros_0f7a4_75 rfl (rfl : 75 + 1 = 76) ?_
            refine z_iconst h 1 dJ6_numberOfTrailingZeros_0f7a4_76 (by decide) (rfl : 76 + 1 = 77) ?_
            refine z_iushr h dJ6_numberOfTrailingZeros_0f7a4_77 (rfl : 77 + 1 = 78) ?_
            refine z_iadd h dJ6_numberOfTrailingZeros_0f7a4_78 (rfl : 78 + 1 = 79) ?_
            refine z_iret h hr dJ6_numberOfTrailingZeros_0f7a4_79 ?_
            exact ⟨congrArg Prod.fst (zsome hf), congrArg Prod.snd (zsome hf), rfl⟩
        · have hf := zitf c4 hf
          refine z_iinc h 0 (1 + 4) [(1, .int (1 + 4)), (0, .int ((v0 ^^^ ((-1) : Int32)) &&& (v0 - (1 : Int32))))] dJ6_numberOfTrailingZeros_0f7a4_55 rfl rfl (by decide) rfl (rfl : 55 + 3 = 58) ?_
          refine z_iload_n h 1 dJ6_numberOfTrailingZeros_0f7a4_58 rfl (rfl : 58 + 1 = 59) ?_
          refine z_iconst h 4 dJ6_numberOfTrailingZeros_0f7a4_59 (by decide) (rfl : 59 + 1 = 60) ?_
          refine z_iushr h dJ6_numberOfTrailingZeros_0f7a4_60 (rfl : 60 + 1 = 61) ?_
          refine z_istore_n h [(0, .int ((Int32.toUInt32 ((v0 ^^^ ((-1) : Int32)) &&& (v0 - (1 : Int32))) >>> (Int32.toUInt32 (4 : Int32) &&& Int32.toUInt32 31)).toInt32)), (1, .int (1 + 4))] dJ6_numberOfTrailingZeros_0f7a4_61 (by decide) rfl (rfl : 61 + 1 = 62) ?_
          refine z_iload_n h 0 dJ6_numberOfTrailingZeros_0f7a4_62 rfl (rfl : 62 + 1 = 63) ?_
          refine z_iconst h 4 dJ6_numberOfTrailingZeros_0f7a4_63 (by decide) (rfl : 63 + 1 = 64) ?_
          refine z_icmp_le (pc' := 67) h 74 dJ6_numberOfTrailingZeros_0f7a4_64 (by decide) rfl (fun c6 => ?_) (fun c6 => ?_)
          · have hf := zitt c6 hf
            refine z_iload_n h 1 dJ6_numberOfTrailingZeros_0f7a4_74 rfl (rfl : 74 + 1 = 75) ?_
            refine z_iload_n h 0 dJ6_numberOfTrailingZeros_0f7a4_75 rfl (rfl : 75 + 1 = 76) ?_
            refine z_iconst h 1 dJ6_numberOfTrailingZeros_0f7a4_76 (by decide) (rfl : 76 + 1 = 77) ?_
            refine z_iushr h dJ6_numberOfTrailingZeros_0f7a4_77 (rfl : 77 + 1 = 78) ?_
            refine z_iadd h dJ6_numberOfTrailingZeros_0f7a4_78 (rfl : 78 + 1 = 79) ?_
            refine z_iret h hr dJ6_numberOfTrailingZeros_0f7a4_79 ?_
            exact ⟨congrArg Prod.fst (zsome hf), congrArg Prod.snd (zsome hf), rfl⟩
          · have hf := zitf c6 hf
            refine z_iinc h 1 ((1 + 4) + 2) [(1, .int ((1 + 4) + 2)), (0, .int ((Int32.toUInt32 ((v0 ^^^ ((-1) : Int32)) &&& (v0 - (1 : Int32))) >>> (Int32.toUInt32 (4 : Int32) &&& Int32.toUInt32 31)).toInt32))] dJ6_numberOfTrailingZeros_0f7a4_67 rfl rfl (by decide) rfl (rfl : 67 + 3 = 70) ?_
            refine z_iload_n h 1 dJ6_numberOfTrailingZeros_0f7a4_70 rfl (rfl : 70 + 1 = 71) ?_
            refine z_iconst h 2 dJ6_numberOfTrailingZeros_0f7a4_71 (by decide) (rfl : 71 + 1 = 72) ?_
            refine z_iushr h dJ6_numberOfTrailingZeros_0f7a4_72 (rfl : 72 + 1 = 73) ?_
            refine z_istore_n h [(0, .int ((Int32.toUInt32 ((Int32.toUInt32 ((v0 ^^^ ((-1) : Int32)) &&& (v0 - (1 : Int32))) >>> (Int32.toUInt32 (4 : Int32) &&& Int32.toUInt32 31)).toInt32) >>> (Int32.toUInt32 (2 : Int32) &&& Int32.toUInt32 31)).toInt32)), (1, .int ((1 + 4) + 2))] dJ6_numberOfTrailingZeros_0f7a4_73 (by decide) rfl (rfl : 73 + 1 = 74) ?_
            refine z_iload_n h 1 dJ6_numberOfTrailingZeros_0f7a4_74 rfl (rfl : 74 + 1 = 75) ?_
            refine z_iload_n h 0 dJ6_numberOfTrailingZeros_0f7a4_75 rfl (rfl : 75 + 1 = 76) ?_
            refine z_iconst h 1 dJ6_numberOfTrailingZeros_0f7a4_76 (by decide) (rfl : 76 + 1 = 77) ?_
            refine z_iushr h dJ6_numberOfTrailingZeros_0f7a4_77 (rfl : 77 + 1 = 78) ?_
            refine z_iadd h dJ6_numberOfTrailingZeros_0f7a4_78 (rfl : 78 + 1 = 79) ?_
            refine z_iret h hr dJ6_numberOfTrailingZeros_0f7a4_79 ?_
            exact ⟨congrArg Prod.fst (zsome hf), congrArg Prod.snd (zsome hf), rfl⟩
      · have hf := zitf c3 hf
        refine z_iinc h 0 (1 + 8) [(1, .int (1 + 8)), (0, .int ((v0 ^^^ ((-1) : Int32)) &&& (v0 - (1 : Int32))))] dJ6_numberOfTrailingZeros_0f7a4_41 rfl rfl (by decide) rfl (rfl : 41 + 3 = 44) ?_
        refine z_iload_n h 1 dJ6_numberOfTrailingZeros_0f7a4_44 rfl (rfl : 44 + 1 = 45) ?_
        refine z_bipush h 8 dJ6_numberOfTrailingZeros_0f7a4_45 (by decide) (rfl : 45 + 2 = 47) ?_
        refine z_iushr h dJ6_numberOfTrailingZeros_0f7a4_47 (rfl : 47 + 1 = 48) ?_
        refine z_istore_n h [(0, .int ((Int32.toUInt32 ((v0 ^^^ ((-1) : Int32)) &&& (v0 - (1 : Int32))) >>> (Int32.toUInt32 (8 : Int32) &&& Int32.toUInt32 31)).toInt32)), (1, .int (1 + 8))] dJ6_numberOfTrailingZeros_0f7a4_48 (by decide) rfl (rfl : 48 + 1 = 49) ?_
        refine z_iload_n h 0 dJ6_numberOfTrailingZeros_0f7a4_49 rfl (rfl : 49 + 1 = 50) ?_
        refine z_bipush h 16 dJ6_numberOfTrailingZeros_0f7a4_50 (by decide) (rfl : 50 + 2 = 52) ?_
        refine z_icmp_le (pc' := 55) h 62 dJ6_numberOfTrailingZeros_0f7a4_52 (by decide) rfl (fun c7 => ?_) (fun c7 => ?_)
        · have hf := zitt c7 hf
          refine z_iload_n h 0 dJ6_numberOfTrailingZeros_0f7a4_62 rfl (rfl : 62 + 1 = 63) ?_
          refine z_iconst h 4 dJ6_numberOfTrailingZeros_0f7a4_63 (by decide) (rfl : 63 + 1 = 64) ?_
          refine z_icmp_le (pc' := 67) h 74 dJ6_numberOfTrailingZeros_0f7a4_64 (by decide) rfl (fun c8 => ?_) (fun c8 => ?_)
          · have hf := zitt c8 hf
            refine z_iload_n h 1 dJ6_numberOfTrailingZeros_0f7a4_74 rfl (rfl : 74 + 1 = 75) ?_
            refine z_iload_n h 0 dJ6_numberOfTrailingZeros_0f7a4_75 rfl (rfl : 75 + 1 = 76) ?_
            refine z_iconst h 1 dJ6_numberOfTrailingZeros_0f7a4_76 (by decide) (rfl : 76 + 1 = 77) ?_
            refine z_iushr h dJ6_numberOfTrailingZeros_0f7a4_77 (rfl : 77 + 1 = 78) ?_
            refine z_iadd h dJ6_numberOfTrailingZeros_0f7a4_78 (rfl : 78 + 1 = 79) ?_
            refine z_iret h hr dJ6_numberOfTrailingZeros_0f7a4_79 ?_
            exact ⟨congrArg Prod.fst (zsome hf), congrArg Prod.snd (zsome hf), rfl⟩
          · have hf := zitf c8 hf
            refine z_iinc h 1 ((1 + 8) + 2) [(1, .int ((1 + 8) + 2)), (0, .int ((Int32.toUInt32 ((v0 ^^^ ((-1) : Int32)) &&& (v0 - (1 : Int32))) >>> (Int32.toUInt32 (8 : Int32) &&& Int32.toUInt32 31)).toInt32))] dJ6_numberOfTrailingZeros_0f7a4_67 rfl rfl (by decide) rfl (rfl : 67 + 3 = 70) ?_
            refine z_iload_n h 1 dJ6_numberOfTrailingZeros_0f7a4_70 rfl (rfl : 70 + 1 = 71) ?_
            refine z_iconst h 2 dJ6_numberOfTrailingZeros_0f7a4_71 (by decide) (rfl : 71 + 1 = 72) ?_
            refine z_iushr h dJ6_numberOfTrailingZeros_0f7a4_72 (rfl : 72 + 1 = 73) ?_
            refine z_istore_n h [(0, .int ((Int32.toUInt32 ((Int32.toUInt32 ((v0 ^^^ ((-1) : Int32)) &&& (v0 - (1 : Int32))) >>> (Int32.toUInt32 (8 : Int32) &&& Int32.toUInt32 31)).toInt32) >>> (Int32.toUInt32 (2 : Int32) &&& Int32.toUInt32 31)).toInt32)), (1, .int ((1 + 8) + 2))] dJ6_numberOfTrailingZeros_0f7a4_73 (by decide) rfl (rfl : 73 + 1 = 74) ?_
            refine z_iload_n h 1 dJ6_numberOfTrailingZeros_0f7a4_74 rfl (rfl : 74 + 1 = 75) ?_
            refine z_iload_n h 0 dJ6_numberOfTrailingZeros_0f7a4_75 rfl (rfl : 75 + 1 = 76) ?_
            refine z_iconst h 1 dJ6_numberOfTrailingZeros_0f7a4_76 (by decide) (rfl : 76 + 1 = 77) ?_
            refine z_iushr h dJ6_numberOfTrailingZeros_0f7a4_77 (rfl : 77 + 1 = 78) ?_
            refine z_iadd h dJ6_numberOfTrailingZeros_0f7a4_78 (rfl : 78 + 1 = 79) ?_
            refine z_iret h hr dJ6_numberOfTrailingZeros_0f7a4_79 ?_
            exact ⟨congrArg Prod.fst (zsome hf), congrArg Prod.snd (zsome hf), rfl⟩
        · have hf := zitf c7 hf
          refine z_iinc h 1 ((1 + 8) + 4) [(1, .int ((1 + 8) + 4)), (0, .int ((Int32.toUInt32 ((v0 ^^^ ((-1) : Int32)) &&& (v0 - (1 : Int32))) >>> (Int32.toUInt32 (8 : Int32) &&& Int32.toUInt32 31)).toInt32))] dJ6_numberOfTrailingZeros_0f7a4_55 rfl rfl (by decide) rfl (rfl : 55 + 3 = 58) ?_
          refine z_iload_n h 1 dJ6_numberOfTrailingZeros_0f7a4_58 rfl (rfl : 58 + 1 = 59) ?_
          refine z_iconst h 4 dJ6_numberOfTrailingZeros_0f7a4_59 (by decide) (rfl : 59 + 1 = 60) ?_
          refine z_iushr h dJ6_numberOfTrailingZeros_0f7a4_60 (rfl : 60 + 1 = 61) ?_
          refine z_istore_n h [(0, .int ((Int32.toUInt32 ((Int32.toUInt32 ((v0 ^^^ ((-1) : Int32)) &&& (v0 - (1 : Int32))) >>> (Int32.toUInt32 (8 : Int32) &&& Int32.toUInt32 31)).toInt32) >>> (Int32.toUInt32 (4 : Int32) &&& Int32.toUInt32 31)).toInt32)), (1, .int ((1 + 8) + 4))] dJ6_numberOfTrailingZeros_0f7a4_61 (by decide) rfl (rfl : 61 + 1 = 62) ?_
          refine z_iload_n h 0 dJ6_numberOfTrailingZeros_0f7a4_62 rfl (rfl : 62 + 1 = 63) ?_
          refine z_iconst h 4 dJ6_numberOfTrailingZeros_0f7a4_63 (by decide) (rfl : 63 + 1 = 64) ?_
          refine z_icmp_le (pc' := 67) h 74 dJ6_numberOfTrailingZeros_0f7a4_64 (by decide) rfl (fun c9 => ?_) (fun c9 => ?_)
          · have hf := zitt c9 hf
            refine z_iload_n h 1 dJ6_numberOfTrailingZeros_0f7a4_74 rfl (rfl : 74 + 1 = 75) ?_
            refine z_iload_n h 0 dJ6_numberOfTrailingZeros_0f7a4_75 rfl (rfl : 75 + 1 = 76) ?_
            refine z_iconst h 1 dJ6_numberOfTrailingZeros_0f7a4_76 (by decide) (rfl : 76 + 1 = 77) ?_
            refine z_iushr h dJ6_numberOfTrailingZeros_0f7a4_77 (rfl : 77 + 1 = 78) ?_
            refine z_iadd h dJ6_numberOfTrailingZeros_0f7a4_78 (rfl : 78 + 1 = 79) ?_
            refine z_iret h hr dJ6_numberOfTrailingZeros_0f7a4_79 ?_
            exact ⟨congrArg Prod.fst (zsome hf), congrArg Prod.snd (zsome hf), rfl⟩
          · have hf := zitf c9 hf
            refine z_iinc h 1 (((1 + 8) + 4) + 2) [(1, .int (((1 + 8) + 4) + 2)), (0, .int ((Int32.toUInt32 ((Int32.toUInt32 ((v0 ^^^ ((-1) : Int32)) &&& (v0 - (1 : Int32))) >>> (Int32.toUInt32 (8 : Int32) &&& Int32.toUInt32 31)).toInt32) >>> (Int32.toUInt32 (4 : Int32) &&& Int32.toUInt32 31)).toInt32))] dJ6_numberOfTrailingZeros_0f7a4_67 rfl rfl (by decide) rfl (rfl : 67 + 3 = 70) ?_
            refine z_iload_n h 1 dJ6_numberOfTrailingZeros_0f7a4_70 rfl (rfl : 70 + 1 = 71) ?_
            refine z_iconst h 2 dJ6_numberOfTrailingZeros_0f7a4_71 (by decide) (rfl : 71 + 1 = 72) ?_
            refine z_iushr h dJ6_numberOfTrailingZeros_0f7a4_72 (rfl : 72 + 1 = 73) ?_
            refine z_istore_n h [(0, .int ((Int32.toUInt32 ((Int32.toUInt32 ((Int32.toUInt32 ((v0 ^^^ ((-1) : Int32)) &&& (v0 - (1 : Int32))) >>> (Int32.toUInt32 (8 : Int32) &&& Int32.toUInt32 31)).toInt32) >>> (Int32.toUInt32 (4 : Int32) &&& Int32.toUInt32 31)).toInt32) >>> (Int32.toUInt32 (2 : Int32) &&& Int32.toUInt32 31)).toInt32)), (1, .int (((1 + 8) + 4) + 2))] dJ6_numberOfTrailingZeros_0f7a4_73 (by decide) rfl (rfl : 73 + 1 = 74) ?_
            refine z_iload_n h 1 dJ6_numberOfTrailingZeros_0f7a4_74 rfl (rfl : 74 + 1 = 75) ?_
            refine z_iload_n h 0 dJ6_numberOfTrailingZeros_0f7a4_75 rfl (rfl : 75 + 1 = 76) ?_
            refine z_iconst h 1 dJ6_numberOfTrailingZeros_0f7a4_76 (by decide) (rfl : 76 + 1 = 77) ?_
            refine z_iushr h dJ6_numberOfTrailingZeros_0f7a4_77 (rfl : 77 + 1 = 78) ?_
            refine z_iadd h dJ6_numberOfTrailingZeros_0f7a4_78 (rfl : 78 + 1 = 79) ?_
            refine z_iret h hr dJ6_numberOfTrailingZeros_0f7a4_79 ?_
            exact ⟨congrArg Prod.fst (zsome hf), congrArg Prod.snd (zsome hf), rfl⟩
    · have hf := zitf c2 hf
      refine z_iinc h 0 (1 + 16) [(1, .int (1 + 16)), (0, .int ((v0 ^^^ ((-1) : Int32)) &&& (v0 - (1 : Int32))))] dJ6_numberOfTrailingZeros_0f7a4_26 rfl rfl (by decide) rfl (rfl : 26 + 3 = 29) ?_
      refine z_iload_n h 1 dJ6_numberOfTrailingZeros_0f7a4_29 rfl (rfl : 29 + 1 = 30) ?_
      refine z_bipush h 16 dJ6_numberOfTrailingZeros_0f7a4_30 (by decide) (rfl : 30 + 2 = 32) ?_
      refine z_iushr h dJ6_numberOfTrailingZeros_0f7a4_32 (rfl : 32 + 1 = 33) ?_
      refine z_istore_n h [(0, .int ((Int32.toUInt32 ((v0 ^^^ ((-1) : Int32)) &&& (v0 - (1 : Int32))) >>> (Int32.toUInt32 (16 : Int32) &&& Int32.toUInt32 31)).toInt32)), (1, .int (1 + 16))] dJ6_numberOfTrailingZeros_0f7a4_33 (by decide) rfl (rfl : 33 + 1 = 34) ?_
      refine z_iload_n h 0 dJ6_numberOfTrailingZeros_0f7a4_34 rfl (rfl : 34 + 1 = 35) ?_
      refine z_sipush h 256 dJ6_numberOfTrailingZeros_0f7a4_35 (by decide) (rfl : 35 + 3 = 38) ?_
      refine z_icmp_le (pc' := 41) h 49 dJ6_numberOfTrailingZeros_0f7a4_38 (by decide) rfl (fun c10 => ?_) (fun c10 => ?_)
      · have hf := zitt c10 hf
        refine z_iload_n h 0 dJ6_numberOfTrailingZeros_0f7a4_49 rfl (rfl : 49 + 1 = 50) ?_
        refine z_bipush h 16 dJ6_numberOfTrailingZeros_0f7a4_50 (by decide) (rfl : 50 + 2 = 52) ?_
        refine z_icmp_le (pc' := 55) h 62 dJ6_numberOfTrailingZeros_0f7a4_52 (by decide) rfl (fun c11 => ?_) (fun c11 => ?_)
        · have hf := zitt c11 hf
          refine z_iload_n h 0 dJ6_numberOfTrailingZeros_0f7a4_62 rfl (rfl : 62 + 1 = 63) ?_
          refine z_iconst h 4 dJ6_numberOfTrailingZeros_0f7a4_63 (by decide) (rfl : 63 + 1 = 64) ?_
          refine z_icmp_le (pc' := 67) h 74 dJ6_numberOfTrailingZeros_0f7a4_64 (by decide) rfl (fun c12 => ?_) (fun c12 => ?_)
          · have hf := zitt c12 hf
            refine z_iload_n h 1 dJ6_numberOfTrailingZeros_0f7a4_74 rfl (rfl : 74 + 1 = 75) ?_
            refine z_iload_n h 0 dJ6_numberOfTrailingZeros_0f7a4_75 rfl (rfl : 75 + 1 = 76) ?_
            refine z_iconst h 1 dJ6_numberOfTrailingZeros_0f7a4_76 (by decide) (rfl : 76 + 1 = 77) ?_
            refine z_iushr h dJ6_numberOfTrailingZeros_0f7a4_77 (rfl : 77 + 1 = 78) ?_
            refine z_iadd h dJ6_numberOfTrailingZeros_0f7a4_78 (rfl : 78 + 1 = 79) ?_
            refine z_iret h hr dJ6_numberOfTrailingZeros_0f7a4_79 ?_
            exact ⟨congrArg Prod.fst (zsome hf), congrArg Prod.snd (zsome hf), rfl⟩
          · have hf := zitf c12 hf
            refine z_iinc h 1 ((1 + 16) + 2) [(1, .int ((1 + 16) + 2)), (0, .int ((Int32.toUInt32 ((v0 ^^^ ((-1) : Int32)) &&& (v0 - (1 : Int32))) >>> (Int32.toUInt32 (16 : Int32) &&& Int32.toUInt32 31)).toInt32))] dJ6_numberOfTrailingZeros_0f7a4_67 rfl rfl (by decide) rfl (rfl : 67 + 3 = 70) ?_
            refine z_iload_n h 1 dJ6_numberOfTrailingZeros_0f7a4_70 rfl (rfl : 70 + 1 = 71) ?_
            refine z_iconst h 2 dJ6_numberOfTrailingZeros_0f7a4_71 (by decide) (rfl : 71 + 1 = 72) ?_
            refine z_iushr h dJ6_numberOfTrailingZeros_0f7a4_72 (rfl : 72 + 1 = 73) ?_
            refine z_istore_n h [(0, .int ((Int32.toUInt32 ((Int32.toUInt32 ((v0 ^^^ ((-1) : Int32)) &&& (v0 - (1 : Int32))) >>> (Int32.toUInt32 (16 : Int32) &&& Int32.toUInt32 31)).toInt32) >>> (Int32.toUInt32 (2 : Int32) &&& Int32.toUInt32 31)).toInt32)), (1, .int ((1 + 16) + 2))] dJ6_numberOfTrailingZeros_0f7a4_73 (by decide) rfl (rfl : 73 + 1 = 74) ?_
            refine z_iload_n h 1 dJ6_numberOfTrailingZeros_0f7a4_74 rfl (rfl : 74 + 1 = 75) ?_
            refine z_iload_n h 0 dJ6_numberOfTrailingZeros_0f7a4_75 rfl (rfl : 75 + 1 = 76) ?_
            refine z_iconst h 1 dJ6_numberOfTrailingZeros_0f7a4_76 (by decide) (rfl : 76 + 1 = 77) ?_
            refine z_iushr h dJ6_numberOfTrailingZeros_0f7a4_77 (rfl : 77 + 1 = 78) ?_
            refine z_iadd h dJ6_numberOfTrailingZeros_0f7a4_78 (rfl : 78 + 1 = 79) ?_
            refine z_iret h hr dJ6_numberOfTrailingZeros_0f7a4_79 ?_
            exact ⟨congrArg Prod.fst (zsome hf), congrArg Prod.snd (zsome hf), rfl⟩
        · have hf := zitf c11 hf
          refine z_iinc h 1 ((1 + 16) + 4) [(1, .int ((1 + 16) + 4)), (0, .int ((Int32.toUInt32 ((v0 ^^^ ((-1) : Int32)) &&& (v0 - (1 : Int32))) >>> (Int32.toUInt32 (16 : Int32) &&& Int32.toUInt32 31)).toInt32))] dJ6_numberOfTrailingZeros_0f7a4_55 rfl rfl (by decide) rfl (rfl : 55 + 3 = 58) ?_
          refine z_iload_n h 1 dJ6_numberOfTrailingZeros_0f7a4_58 rfl (rfl : 58 + 1 = 59) ?_
          refine z_iconst h 4 dJ6_numberOfTrailingZeros_0f7a4_59 (by decide) (rfl : 59 + 1 = 60) ?_
          refine z_iushr h dJ6_numberOfTrailingZeros_0f7a4_60 (rfl : 60 + 1 = 61) ?_
          refine z_istore_n h [(0, .int ((Int32.toUInt32 ((Int32.toUInt32 ((v0 ^^^ ((-1) : Int32)) &&& (v0 - (1 : Int32))) >>> (Int32.toUInt32 (16 : Int32) &&& Int32.toUInt32 31)).toInt32) >>> (Int32.toUInt32 (4 : Int32) &&& Int32.toUInt32 31)).toInt32)), (1, .int ((1 + 16) + 4))] dJ6_numberOfTrailingZeros_0f7a4_61 (by decide) rfl (rfl : 61 + 1 = 62) ?_
          refine z_iload_n h 0 dJ6_numberOfTrailingZeros_0f7a4_62 rfl (rfl : 62 + 1 = 63) ?_
          refine z_iconst h 4 dJ6_numberOfTrailingZeros_0f7a4_63 (by decide) (rfl : 63 + 1 = 64) ?_
          refine z_icmp_le (pc' := 67) h 74 dJ6_numberOfTrailingZeros_0f7a4_64 (by decide) rfl (fun c13 => ?_) (fun c13 => ?_)
          · have hf := zitt c13 hf
            refine z_iload_n h 1 dJ6_numberOfTrailingZeros_0f7a4_74 rfl (rfl : 74 + 1 = 75) ?_
            refine z_iload_n h 0 dJ6_numberOfTrailingZeros_0f7a4_75 rfl (rfl : 75 + 1 = 76) ?_
            refine z_iconst h 1 dJ6_numberOfTrailingZeros_0f7a4_76 (by decide) (rfl : 76 + 1 = 77) ?_
            refine z_iushr h dJ6_numberOfTrailingZeros_0f7a4_77 (rfl : 77 + 1 = 78) ?_
            refine z_iadd h dJ6_numberOfTrailingZeros_0f7a4_78 (rfl : 78 + 1 = 79) ?_
            refine z_iret h hr dJ6_numberOfTrailingZeros_0f7a4_79 ?_
            exact ⟨congrArg Prod.fst (zsome hf), congrArg Prod.snd (zsome hf), rfl⟩
          · have hf := zitf c13 hf
            refine z_iinc h 1 (((1 + 16) + 4) + 2) [(1, .int (((1 + 16) + 4) + 2)), (0, .int ((Int32.toUInt32 ((Int32.toUInt32 ((v0 ^^^ ((-1) : Int32)) &&& (v0 - (1 : Int32))) >>> (Int32.toUInt32 (16 : Int32) &&& Int32.toUInt32 31)).toInt32) >>> (Int32.toUInt32 (4 : Int32) &&& Int32.toUInt32 31)).toInt32))] dJ6_numberOfTrailingZeros_0f7a4_67 rfl rfl (by decide) rfl (rfl : 67 + 3 = 70) ?_
            refine z_iload_n h 1 dJ6_numberOfTrailingZeros_0f7a4_70 rfl (rfl : 70 + 1 = 71) ?_
            refine z_iconst h 2 dJ6_numberOfTrailingZeros_0f7a4_71 (by decide) (rfl : 71 + 1 = 72) ?_
            refine z_iushr h dJ6_numberOfTrailingZeros_0f7a4_72 (rfl : 72 + 1 = 73) ?_
            refine z_istore_n h [(0, .int ((Int32.toUInt32 ((Int32.toUInt32 ((Int32.toUInt32 ((v0 ^^^ ((-1) : Int32)) &&& (v0 - (1 : Int32))) >>> (Int32.toUInt32 (16 : Int32) &&& Int32.toUInt32 31)).toInt32) >>> (Int32.toUInt32 (4 : Int32) &&& Int32.toUInt32 31)).toInt32) >>> (Int32.toUInt32 (2 : Int32) &&& Int32.toUInt32 31)).toInt32)), (1, .int (((1 + 16) + 4) + 2))] dJ6_numberOfTrailingZeros_0f7a4_73 (by decide) rfl (rfl : 73 + 1 = 74) ?_
            refine z_iload_n h 1 dJ6_numberOfTrailingZeros_0f7a4_74 rfl (rfl : 74 + 1 = 75) ?_
            refine z_iload_n h 0 dJ6_numberOfTrailingZeros_0f7a4_75 rfl (rfl : 75 + 1 = 76) ?_
            refine z_iconst h 1 dJ6_numberOfTrailingZeros_0f7a4_76 (by decide) (rfl : 76 + 1 = 77) ?_
            refine z_iushr h dJ6_numberOfTrailingZeros_0f7a4_77 (rfl : 77 + 1 = 78) ?_
            refine z_iadd h dJ6_numberOfTrailingZeros_0f7a4_78 (rfl : 78 + 1 = 79) ?_
            refine z_iret h hr dJ6_numberOfTrailingZeros_0f7a4_79 ?_
            exact ⟨congrArg Prod.fst (zsome hf), congrArg Prod.snd (zsome hf), rfl⟩
      · have hf := zitf c10 hf
        refine z_iinc h 1 ((1 + 16) + 8) [(1, .int ((1 + 16) + 8)), (0, .int ((Int32.toUInt32 ((v0 ^^^ ((-1) : Int32)) &&& (v0 - (1 : Int32))) >>> (Int32.toUInt32 (16 : Int32) &&& Int32.toUInt32 31)).toInt32))] dJ6_numberOfTrailingZeros_0f7a4_41 rfl rfl (by decide) rfl (rfl : 41 + 3 = 44) ?_
        refine z_iload_n h 1 dJ6_numberOfTrailingZeros_0f7a4_44 rfl (rfl : 44 + 1 = 45) ?_
        refine z_bipush h 8 dJ6_numberOfTrailingZeros_0f7a4_45 (by decide) (rfl : 45 + 2 = 47) ?_
        refine z_iushr h dJ6_numberOfTrailingZeros_0f7a4_47 (rfl : 47 + 1 = 48) ?_
        refine z_istore_n h [(0, .int ((Int32.toUInt32 ((Int32.toUInt32 ((v0 ^^^ ((-1) : Int32)) &&& (v0 - (1 : Int32))) >>> (Int32.toUInt32 (16 : Int32) &&& Int32.toUInt32 31)).toInt32) >>> (Int32.toUInt32 (8 : Int32) &&& Int32.toUInt32 31)).toInt32)), (1, .int ((1 + 16) + 8))] dJ6_numberOfTrailingZeros_0f7a4_48 (by decide) rfl (rfl : 48 + 1 = 49) ?_
        refine z_iload_n h 0 dJ6_numberOfTrailingZeros_0f7a4_49 rfl (rfl : 49 + 1 = 50) ?_
        refine z_bipush h 16 dJ6_numberOfTrailingZeros_0f7a4_50 (by decide) (rfl : 50 + 2 = 52) ?_
        refine z_icmp_le (pc' := 55) h 62 dJ6_numberOfTrailingZeros_0f7a4_52 (by decide) rfl (fun c14 => ?_) (fun c14 => ?_)
        · have hf := zitt c14 hf
          refine z_iload_n h 0 dJ6_numberOfTrailingZeros_0f7a4_62 rfl (rfl : 62 + 1 = 63) ?_
          refine z_iconst h 4 dJ6_numberOfTrailingZeros_0f7a4_63 (by decide) (rfl : 63 + 1 = 64) ?_
          refine z_icmp_le (pc' := 67) h 74 dJ6_numberOfTrailingZeros_0f7a4_64 (by decide) rfl (fun c15 => ?_) (fun c15 => ?_)
          · have hf := zitt c15 hf
            refine z_iload_n h 1 dJ6_numberOfTrailingZeros_0f7a4_74 rfl (rfl : 74 + 1 = 75) ?_
            refine z_iload_n h 0 dJ6_numberOfTrailingZeros_0f7a4_75 rfl (rfl : 75 + 1 = 76) ?_
            refine z_iconst h 1 dJ6_numberOfTrailingZeros_0f7a4_76 (by decide) (rfl : 76 + 1 = 77) ?_
            refine z_iushr h dJ6_numberOfTrailingZeros_0f7a4_77 (rfl : 77 + 1 = 78) ?_
            refine z_iadd h dJ6_numberOfTrailingZeros_0f7a4_78 (rfl : 78 + 1 = 79) ?_
            refine z_iret h hr dJ6_numberOfTrailingZeros_0f7a4_79 ?_
            exact ⟨congrArg Prod.fst (zsome hf), congrArg Prod.snd (zsome hf), rfl⟩
          · have hf := zitf c15 hf
            refine z_iinc h 1 (((1 + 16) + 8) + 2) [(1, .int (((1 + 16) + 8) + 2)), (0, .int ((Int32.toUInt32 ((Int32.toUInt32 ((v0 ^^^ ((-1) : Int32)) &&& (v0 - (1 : Int32))) >>> (Int32.toUInt32 (16 : Int32) &&& Int32.toUInt32 31)).toInt32) >>> (Int32.toUInt32 (8 : Int32) &&& Int32.toUInt32 31)).toInt32))] dJ6_numberOfTrailingZeros_0f7a4_67 rfl rfl (by decide) rfl (rfl : 67 + 3 = 70) ?_
            refine z_iload_n h 1 dJ6_numberOfTrailingZeros_0f7a4_70 rfl (rfl : 70 + 1 = 71) ?_
            refine z_iconst h 2 dJ6_numberOfTrailingZeros_0f7a4_71 (by decide) (rfl : 71 + 1 = 72) ?_
            refine z_iushr h dJ6_numberOfTrailingZeros_0f7a4_72 (rfl : 72 + 1 = 73) ?_
            refine z_istore_n h [(0, .int ((Int32.toUInt32 ((Int32.toUInt32 ((Int32.toUInt32 ((v0 ^^^ ((-1) : Int32)) &&& (v0 - (1 : Int32))) >>> (Int32.toUInt32 (16 : Int32) &&& Int32.toUInt32 31)).toInt32) >>> (Int32.toUInt32 (8 : Int32) &&& Int32.toUInt32 31)).toInt32) >>> (Int32.toUInt32 (2 : Int32) &&& Int32.toUInt32 31)).toInt32)), (1, .int (((1 + 16) + 8) + 2))] dJ6_numberOfTrailingZeros_0f7a4_73 (by decide) rfl (rfl : 73 + 1 = 74) ?_
            refine z_iload_n h 1 dJ6_numberOfTrailingZeros_0f7a4_74 rfl (rfl : 74 + 1 = 75) ?_
            refine z_iload_n h 0 dJ6_numberOfTrailingZeros_0f7a4_75 rfl (rfl : 75 + 1 = 76) ?_
            refine z_iconst h 1 dJ6_numberOfTrailingZeros_0f7a4_76 (by decide) (rfl : 76 + 1 = 77) ?_
            refine z_iushr h dJ6_numberOfTrailingZeros_0f7a4_77 (rfl : 77 + 1 = 78) ?_
            refine z_iadd h dJ6_numberOfTrailingZeros_0f7a4_78 (rfl : 78 + 1 = 79) ?_
            refine z_iret h hr dJ6_numberOfTrailingZeros_0f7a4_79 ?_
            exact ⟨congrArg Prod.fst (zsome hf), congrArg Prod.snd (zsome hf), rfl⟩
        · have hf := zitf c14 hf
          refine z_iinc h 1 (((1 + 16) + 8) + 4) [(1, .int (((1 + 16) + 8) + 4)), (0, .int ((Int32.toUInt32 ((Int32.toUInt32 ((v0 ^^^ ((-1) : Int32)) &&& (v0 - (1 : Int32))) >>> (Int32.toUInt32 (16 : Int32) &&& Int32.toUInt32 31)).toInt32) >>> (Int32.toUInt32 (8 : Int32) &&& Int32.toUInt32 31)).toInt32))] dJ6_numberOfTrailingZeros_0f7a4_55 rfl rfl (by decide) rfl (rfl : 55 + 3 = 58) ?_
          refine z_iload_n h 1 dJ6_numberOfTrailingZeros_0f7a4_58 rfl (rfl : 58 + 1 = 59) ?_
          refine z_iconst h 4 dJ6_numberOfTrailingZeros_0f7a4_59 (by decide) (rfl : 59 + 1 = 60) ?_
          refine z_iushr h dJ6_numberOfTrailingZeros_0f7a4_60 (rfl : 60 + 1 = 61) ?_
          refine z_istore_n h [(0, .int ((Int32.toUInt32 ((Int32.toUInt32 ((Int32.toUInt32 ((v0 ^^^ ((-1) : Int32)) &&& (v0 - (1 : Int32))) >>> (Int32.toUInt32 (16 : Int32) &&& Int32.toUInt32 31)).toInt32) >>> (Int32.toUInt32 (8 : Int32) &&& Int32.toUInt32 31)).toInt32) >>> (Int32.toUInt32 (4 : Int32) &&& Int32.toUInt32 31)).toInt32)), (1, .int (((1 + 16) + 8) + 4))] dJ6_numberOfTrailingZeros_0f7a4_61 (by decide) rfl (rfl : 61 + 1 = 62) ?_
          refine z_iload_n h 0 dJ6_numberOfTrailingZeros_0f7a4_62 rfl (rfl : 62 + 1 = 63) ?_
          refine z_iconst h 4 dJ6_numberOfTrailingZeros_0f7a4_63 (by decide) (rfl : 63 + 1 = 64) ?_
          refine z_icmp_le (pc' := 67) h 74 dJ6_numberOfTrailingZeros_0f7a4_64 (by decide) rfl (fun c16 => ?_) (fun c16 => ?_)
          · have hf := zitt c16 hf
            refine z_iload_n h 1 dJ6_numberOfTrailingZeros_0f7a4_74 rfl (rfl : 74 + 1 = 75) ?_
            refine z_iload_n h 0 dJ6_numberOfTrailingZeros_0f7a4_75 rfl (rfl : 75 + 1 = 76) ?_
            refine z_iconst h 1 dJ6_numberOfTrailingZeros_0f7a4_76 (by decide) (rfl : 76 + 1 = 77) ?_
            refine z_iushr h dJ6_numberOfTrailingZeros_0f7a4_77 (rfl : 77 + 1 = 78) ?_
            refine z_iadd h dJ6_numberOfTrailingZeros_0f7a4_78 (rfl : 78 + 1 = 79) ?_
            refine z_iret h hr dJ6_numberOfTrailingZeros_0f7a4_79 ?_
            exact ⟨congrArg Prod.fst (zsome hf), congrArg Prod.snd (zsome hf), rfl⟩
          · have hf := zitf c16 hf
            refine z_iinc h 1 ((((1 + 16) + 8) + 4) + 2) [(1, .int ((((1 + 16) + 8) + 4) + 2)), (0, .int ((Int32.toUInt32 ((Int32.toUInt32 ((Int32.toUInt32 ((v0 ^^^ ((-1) : Int32)) &&& (v0 - (1 : Int32))) >>> (Int32.toUInt32 (16 : Int32) &&& Int32.toUInt32 31)).toInt32) >>> (Int32.toUInt32 (8 : Int32) &&& Int32.toUInt32 31)).toInt32) >>> (Int32.toUInt32 (4 : Int32) &&& Int32.toUInt32 31)).toInt32))] dJ6_numberOfTrailingZeros_0f7a4_67 rfl rfl (by decide) rfl (rfl : 67 + 3 = 70) ?_
            refine z_iload_n h 1 dJ6_numberOfTrailingZeros_0f7a4_70 rfl (rfl : 70 + 1 = 71) ?_
            refine z_iconst h 2 dJ6_numberOfTrailingZeros_0f7a4_71 (by decide) (rfl : 71 + 1 = 72) ?_
            refine z_iushr h dJ6_numberOfTrailingZeros_0f7a4_72 (rfl : 72 + 1 = 73) ?_
            refine z_istore_n h [(0, .int ((Int32.toUInt32 ((Int32.toUInt32 ((Int32.toUInt32 ((Int32.toUInt32 ((v0 ^^^ ((-1) : Int32)) &&& (v0 - (1 : Int32))) >>> (Int32.toUInt32 (16 : Int32) &&& Int32.toUInt32 31)).toInt32) >>> (Int32.toUInt32 (8 : Int32) &&& Int32.toUInt32 31)).toInt32) >>> (Int32.toUInt32 (4 : Int32) &&& Int32.toUInt32 31)).toInt32) >>> (Int32.toUInt32 (2 : Int32) &&& Int32.toUInt32 31)).toInt32)), (1, .int ((((1 + 16) + 8) + 4) + 2))] dJ6_numberOfTrailingZeros_0f7a4_73 (by decide) rfl (rfl : 73 + 1 = 74) ?_
            refine z_iload_n h 1 dJ6_numberOfTrailingZeros_0f7a4_74 rfl (rfl : 74 + 1 = 75) ?_
            refine z_iload_n h 0 dJ6_numberOfTrailingZeros_0f7a4_75 rfl (rfl : 75 + 1 = 76) ?_
            refine z_iconst h 1 dJ6_numberOfTrailingZeros_0f7a4_76 (by decide) (rfl : 76 + 1 = 77) ?_
            refine z_iushr h dJ6_numberOfTrailingZeros_0f7a4_77 (rfl : 77 + 1 = 78) ?_
            refine z_iadd h dJ6_numberOfTrailingZeros_0f7a4_78 (rfl : 78 + 1 = 79) ?_
            refine z_iret h hr dJ6_numberOfTrailingZeros_0f7a4_79 ?_
            exact ⟨congrArg Prod.fst (zsome hf), congrArg Prod.snd (zsome hf), rfl⟩
  · have hf := zitf c1 hf
    refine z_iload_n h 0 dJ6_numberOfTrailingZeros_0f7a4_12 rfl (rfl : 12 + 1 = 13) ?_
    refine z_bipush h 32 dJ6_numberOfTrailingZeros_0f7a4_13 (by decide) (rfl : 13 + 2 = 15) ?_
    refine z_iand h dJ6_numberOfTrailingZeros_0f7a4_15 (rfl : 15 + 1 = 16) ?_
    refine z_iret h hr dJ6_numberOfTrailingZeros_0f7a4_16 ?_
    exact ⟨congrArg Prod.fst (zsome hf), congrArg Prod.snd (zsome hf), rfl⟩
noncomputable def f_X11_judge (J : zJ) (v1 : Int32) (v2 : Int32) (v3 : Int32) (I : zM) : Option (Int32 × zM) := ((f_X11_canRead J v1 v2 I).bind fun q1 => (if q1.1 = 0 then some (((-1), q1.2)) else ((f_X11_isFilling J v3 q1.2).bind fun q4 => (if q4.1 = 0 then some (((-2), q4.2)) else ((f_X11_read J v1 v2 q4.2).bind fun q7 => ((f_X11_unlike J v3 (q7 39 14) q7).bind fun q9 => (if q9.1 = 0 then some (((-9), q9.2)) else ((f_J6_numberOfTrailingZeros_0f7a4 J q9.1 q9.2).bind fun q12 => some ((q12.1, q12.2))))))))))
noncomputable abbrev rmX11_judge : Room := { frames := 6, cells := 0, slots := 0, locals := 139 }
theorem zyX11_judge : zY yX11_judge wsX11_judge cX11_judge 5 (some .int) 3 := ⟨⟨_, rfl⟩, by decide +kernel⟩
theorem zrX11_judge_J6_numberOfTrailingZeros_0f7a4 : zRm rmJ6_numberOfTrailingZeros_0f7a4 rmX11_judge 2 := ⟨rfl, rfl, by decide, by decide⟩
theorem zrX11_judge_X11_canRead : zRm rmX11_canRead rmX11_judge 3 := ⟨rfl, rfl, by decide, by decide⟩
theorem zrX11_judge_X11_isFilling : zRm rmX11_isFilling rmX11_judge 1 := ⟨rfl, rfl, by decide, by decide⟩
theorem zrX11_judge_X11_read : zRm rmX11_read rmX11_judge 3 := ⟨rfl, rfl, by decide, by decide⟩
theorem zrX11_judge_X11_unlike : zRm rmX11_unlike rmX11_judge 6 := ⟨rfl, rfl, by decide, by decide⟩
set_option maxHeartbeats 1000000 in
set_option maxRecDepth 100000 in
theorem c_X11_judge (B : zB) (I : zM) (J : zJ) (hJ : zJok J) (v1 : Int32) (v2 : Int32) (v3 : Int32) (r : Int32) (I' : zM) (hf : f_X11_judge J v1 v2 v3 I = some (r, I')) : zCi B zKW I J yX11_judge wsX11_judge rmX11_judge [.ref (za B 0), .int v1, .int v2, .int v3] (fun r2 I2 J2 => r2 = r ∧ I2 = I' ∧ J2 = J) := by
  refine z_start (own := RX11) (cc := cX11_judge) (nL := 5) (ret := (some .int)) rfl (by decide) rfl (Nat.le_of_ble_eq_true rfl) (L := [(0, .ref (za B 0)), (1, .int v1), (2, .int v2), (3, .int v3)]) rfl (fun G h hr => ?_)
  rw [f_X11_judge] at hf
  refine z_aload_n h 0 dX11_judge_0 rfl (rfl : 0 + 1 = 1) ?_
  refine z_iload_n h 1 dX11_judge_1 rfl (rfl : 1 + 1 = 2) ?_
  refine z_iload_n h 2 dX11_judge_2 rfl (rfl : 2 + 1 = 3) ?_
  obtain ⟨q1, e2, hf⟩ := zbind hf
  refine z_goF (z_runV (C := RX11) (T := TX11) (N := 13) (ci := 10) h [.int v1, .int v2] [] zyX11_canRead (c_X11_canRead B I J hJ v1 v2 _ _ e2) gX11_judge_X11_canRead rfl rfl rfl zrX11_judge_X11_canRead rfl (Nat.le_of_ble_eq_true rfl) ⟨Nat.zero_le _, Nat.zero_le _⟩ rfl dX11_judge_3) rfl ?_
  refine z_if_ne (pc' := 9) h 11 dX11_judge_6 (by decide) rfl (fun c3 => ?_) (fun c3 => ?_)
  · have hf := zitf c3 hf
    refine z_iload_n h 3 dX11_judge_11 rfl (rfl : 11 + 1 = 12) ?_
    obtain ⟨q4, e5, hf⟩ := zbind hf
    refine z_goF (z_runS h [.int v3] [] zyX11_isFilling (c_X11_isFilling B q1.2 J hJ v3 _ _ e5) gX11_judge_X11_isFilling zrX11_judge_X11_isFilling rfl (Nat.le_of_ble_eq_true rfl) ⟨Nat.zero_le _, Nat.zero_le _⟩ rfl dX11_judge_12) rfl ?_
    refine z_if_ne (pc' := 18) h 21 dX11_judge_15 (by decide) rfl (fun c6 => ?_) (fun c6 => ?_)
    · have hf := zitf c6 hf
      refine z_aload_n h 0 dX11_judge_21 rfl (rfl : 21 + 1 = 22) ?_
      refine z_iload_n h 1 dX11_judge_22 rfl (rfl : 22 + 1 = 23) ?_
      refine z_iload_n h 2 dX11_judge_23 rfl (rfl : 23 + 1 = 24) ?_
      obtain ⟨q7, e8, hf⟩ := zbind hf
      refine z_goFv (z_runV (C := RX11) (T := TX11) (N := 13) (ci := 10) h [.int v1, .int v2] [] zyX11_read (c_X11_read B q4.2 J hJ v1 v2 _ e8) gX11_judge_X11_read rfl rfl rfl zrX11_judge_X11_read rfl (Nat.le_of_ble_eq_true rfl) ⟨Nat.zero_le _, Nat.zero_le _⟩ rfl dX11_judge_24) rfl ?_
      refine z_iload_n h 3 dX11_judge_27 rfl (rfl : 27 + 1 = 28) ?_
      refine z_aload_n h 0 dX11_judge_28 rfl (rfl : 28 + 1 = 29) ?_
      refine z_getr (ci := 10) (C := RX11) (T := TX11) (N := 13) h 12 39 ((hJ.1 0 12 (by decide)).trans rfl) rfl rfl (fun _ hq => List.mem_cons_of_mem _ (List.mem_append_left _ (List.mem_append_left _ (List.mem_append_left _ (List.mem_append_left _ (List.mem_append_left _ (List.mem_append_left _ (List.mem_append_left _ (List.mem_append_left _ (List.mem_append_left _ (List.mem_append_right _ hq))))))))))) (by decide) (List.mem_of_getElem? (i := 1) rfl) rfl dX11_judge_29 (rfl : 29 + 3 = 32) ?_
      refine z_get (ci := 5) (C := RX5) (T := TX5) (N := 17) h 14 rfl rfl (fun _ hq => List.mem_cons_of_mem _ (List.mem_append_left _ (List.mem_append_left _ (List.mem_append_left _ (List.mem_append_left _ (List.mem_append_left _ (List.mem_append_left _ (List.mem_append_left _ (List.mem_append_left _ (List.mem_append_right _ hq)))))))))) (by decide) (List.mem_of_getElem? (i := 2) rfl) rfl dX11_judge_32 (rfl : 32 + 3 = 35) ?_
      obtain ⟨q9, e10, hf⟩ := zbind hf
      refine z_goF (z_runS h [.int v3, .int (q7 39 14)] [] zyX11_unlike (c_X11_unlike B q7 J hJ v3 (q7 39 14) _ _ e10) gX11_judge_X11_unlike zrX11_judge_X11_unlike rfl (Nat.le_of_ble_eq_true rfl) ⟨Nat.zero_le _, Nat.zero_le _⟩ rfl dX11_judge_35) rfl ?_
      refine z_istore h [(4, .int q9.1), (0, .ref (za B 0)), (1, .int v1), (2, .int v2), (3, .int v3)] dX11_judge_38 (by decide) rfl (rfl : 38 + 2 = 40) ?_
      refine z_iload h 0 dX11_judge_40 rfl (rfl : 40 + 2 = 42) ?_
      refine z_if_ne (pc' := 45) h 50 dX11_judge_42 (by decide) rfl (fun c11 => ?_) (fun c11 => ?_)
      · have hf := zitf c11 hf
        refine z_iload h 0 dX11_judge_50 rfl (rfl : 50 + 2 = 52) ?_
        obtain ⟨q12, e13, hf⟩ := zbind hf
        refine z_goF (z_runS h [.int q9.1] [] zyJ6_numberOfTrailingZeros_0f7a4 (c_J6_numberOfTrailingZeros_0f7a4 B q9.2 J hJ q9.1 _ _ e13) gX11_judge_J6_numberOfTrailingZeros_0f7a4 zrX11_judge_J6_numberOfTrailingZeros_0f7a4 rfl (Nat.le_of_ble_eq_true rfl) ⟨Nat.zero_le _, Nat.zero_le _⟩ rfl dX11_judge_52) rfl ?_
        refine z_iret h hr dX11_judge_55 ?_
        exact ⟨congrArg Prod.fst (zsome hf), congrArg Prod.snd (zsome hf), rfl⟩
      · have hf := zitt c11 hf
        refine z_bipush h (-9) dX11_judge_45 (by decide) (rfl : 45 + 2 = 47) ?_
        refine z_goto (pc' := 55) h dX11_judge_47 (by decide) ?_
        refine z_iret h hr dX11_judge_55 ?_
        exact ⟨congrArg Prod.fst (zsome hf), congrArg Prod.snd (zsome hf), rfl⟩
    · have hf := zitt c6 hf
      refine z_bipush h (-2) dX11_judge_18 (by decide) (rfl : 18 + 2 = 20) ?_
      refine z_iret h hr dX11_judge_20 ?_
      exact ⟨congrArg Prod.fst (zsome hf), congrArg Prod.snd (zsome hf), rfl⟩
  · have hf := zitt c3 hf
    refine z_iconst h (-1) dX11_judge_9 (by decide) (rfl : 9 + 1 = 10) ?_
    refine z_iret h hr dX11_judge_10 ?_
    exact ⟨congrArg Prod.fst (zsome hf), congrArg Prod.snd (zsome hf), rfl⟩
