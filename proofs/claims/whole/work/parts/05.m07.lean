noncomputable def f_X12_fills (J : zJ) (v1 : Int32) (v2 : Int32) (v3 : Int32) (I : zM) : Option (Int32 × zM) := ((f_X12_noReading J v1 v2 (zu I 147 0 0)).bind fun q1 => (if q1.1 = 0 then ((f_X12_noGap J v3 q1.2).bind fun q4 => (if q4.1 = 0 then ((f_X12_readIt J v1 v2 q4.2).bind fun q7 => (if zin v3 6 = true then some ((q7 175 (Int32.toNatClampNeg v3), q7)) else none)) else some (((-1), q4.2)))) else some (((-1), q1.2))))
noncomputable abbrev rmX12_fills : Room := { frames := 7, cells := 0, slots := 0, locals := 174 }
theorem zyX12_fills : zY yX12_fills wsX12_fills cX12_fills 4 (some .int) 3 := ⟨⟨_, rfl⟩, by decide +kernel⟩
theorem zrX12_fills_X12_noGap : zRm rmX12_noGap rmX12_fills 1 := ⟨rfl, rfl, by decide, by decide⟩
theorem zrX12_fills_X12_noReading : zRm rmX12_noReading rmX12_fills 3 := ⟨rfl, rfl, by decide, by decide⟩
theorem zrX12_fills_X12_readIt : zRm rmX12_readIt rmX12_fills 7 := ⟨rfl, rfl, by decide, by decide⟩
set_option maxHeartbeats 1000000 in
set_option maxRecDepth 100000 in
theorem c_X12_fills (B : zB) (I : zM) (J : zJ) (hJ : zJok J) (v1 : Int32) (v2 : Int32) (v3 : Int32) (r : Int32) (I' : zM) (hf : f_X12_fills J v1 v2 v3 I = some (r, I')) : zCi B zKW I J yX12_fills wsX12_fills rmX12_fills [.ref (za B 147), .int v1, .int v2, .int v3] (fun r2 I2 J2 => r2 = r ∧ I2 = I' ∧ J2 = J) := by
  refine z_start (own := RX12) (cc := cX12_fills) (nL := 4) (ret := (some .int)) rfl (by decide) rfl (Nat.le_of_ble_eq_true rfl) (L := [(0, .ref (za B 147)), (1, .int v1), (2, .int v2), (3, .int v3)]) rfl (fun G h hr => ?_)
  rw [f_X12_fills] at hf
  refine z_aload_n h 0 dX12_fills_0 rfl (rfl : 0 + 1 = 1) ?_
  refine z_iconst h 0 dX12_fills_1 (by decide) (rfl : 1 + 1 = 2) ?_
  refine z_put (ci := 11) (C := RX12) (T := TX12) (N := 46) h 0 tyX12 tyX12_ok nmX12 rfl rfl (fun _ hq => List.mem_cons_of_mem _ (List.mem_append_right _ hq)) (by decide) (List.mem_of_getElem? (i := 1) rfl) rfl rfl rfl dX12_fills_2 (rfl : 2 + 3 = 5) ?_
  refine z_aload_n h 0 dX12_fills_5 rfl (rfl : 5 + 1 = 6) ?_
  refine z_iload_n h 1 dX12_fills_6 rfl (rfl : 6 + 1 = 7) ?_
  refine z_iload_n h 2 dX12_fills_7 rfl (rfl : 7 + 1 = 8) ?_
  obtain ⟨q1, e2, hf⟩ := zbind hf
  refine z_goF (z_runV (C := RX12) (T := TX12) (N := 46) (ci := 11) h [.int v1, .int v2] [] zyX12_noReading (c_X12_noReading B (zu I 147 0 0) J hJ v1 v2 _ _ e2) gX12_fills_X12_noReading rfl rfl rfl zrX12_fills_X12_noReading rfl (Nat.le_of_ble_eq_true rfl) ⟨Nat.zero_le _, Nat.zero_le _⟩ rfl dX12_fills_8) rfl ?_
  refine z_if_ne (pc' := 14) h 21 dX12_fills_11 (by decide) rfl (fun c3 => ?_) (fun c3 => ?_)
  · have hf := zitf c3 hf
    refine z_iconst h (-1) dX12_fills_21 (by decide) (rfl : 21 + 1 = 22) ?_
    refine z_iret h hr dX12_fills_22 ?_
    exact ⟨congrArg Prod.fst (zsome hf), congrArg Prod.snd (zsome hf), rfl⟩
  · have hf := zitt c3 hf
    refine z_iload_n h 3 dX12_fills_14 rfl (rfl : 14 + 1 = 15) ?_
    obtain ⟨q4, e5, hf⟩ := zbind hf
    refine z_goF (z_runS h [.int v3] [] zyX12_noGap (c_X12_noGap B q1.2 J hJ v3 _ _ e5) gX12_fills_X12_noGap zrX12_fills_X12_noGap rfl (Nat.le_of_ble_eq_true rfl) ⟨Nat.zero_le _, Nat.zero_le _⟩ rfl dX12_fills_15) rfl ?_
    refine z_if_eq (pc' := 21) h 23 dX12_fills_18 (by decide) rfl (fun c6 => ?_) (fun c6 => ?_)
    · have hf := zitt c6 hf
      refine z_aload_n h 0 dX12_fills_23 rfl (rfl : 23 + 1 = 24) ?_
      refine z_iload_n h 1 dX12_fills_24 rfl (rfl : 24 + 1 = 25) ?_
      refine z_iload_n h 2 dX12_fills_25 rfl (rfl : 25 + 1 = 26) ?_
      obtain ⟨q7, e8, hf⟩ := zbind hf
      refine z_goFv (z_runV (C := RX12) (T := TX12) (N := 46) (ci := 11) h [.int v1, .int v2] [] zyX12_readIt (c_X12_readIt B q4.2 J hJ v1 v2 _ e8) gX12_fills_X12_readIt rfl rfl rfl zrX12_fills_X12_readIt rfl (Nat.le_of_ble_eq_true rfl) ⟨Nat.zero_le _, Nat.zero_le _⟩ rfl dX12_fills_26) rfl ?_
      refine z_aload_n h 0 dX12_fills_29 rfl (rfl : 29 + 1 = 30) ?_
      refine z_getr (ci := 11) (C := RX12) (T := TX12) (N := 46) h 43 175 ((hJ.1 147 43 (by decide)).trans rfl) rfl rfl (fun _ hq => List.mem_cons_of_mem _ (List.mem_append_right _ hq)) (by decide) (List.mem_of_getElem? (i := 2) rfl) rfl dX12_fills_30 (rfl : 30 + 3 = 33) ?_
      refine z_iload_n h 3 dX12_fills_33 rfl (rfl : 33 + 1 = 34) ?_
      obtain ⟨b9, hf⟩ := zchk hf
      refine z_iald h rfl b9 dX12_fills_34 (rfl : 34 + 1 = 35) ?_
      refine z_iret h hr dX12_fills_35 ?_
      exact ⟨congrArg Prod.fst (zsome hf), congrArg Prod.snd (zsome hf), rfl⟩
    · have hf := zitf c6 hf
      refine z_iconst h (-1) dX12_fills_21 (by decide) (rfl : 21 + 1 = 22) ?_
      refine z_iret h hr dX12_fills_22 ?_
      exact ⟨congrArg Prod.fst (zsome hf), congrArg Prod.snd (zsome hf), rfl⟩
noncomputable def f_X12_reason (J : zJ) (v1 : Int32) (v2 : Int32) (v3 : Int32) (I : zM) : Option (Int32 × zM) := ((f_X12_noReading J v1 v2 (zu I 147 0 0)).bind fun q1 => (if q1.1 = 0 then ((f_X12_noGap J v3 q1.2).bind fun q4 => (if q4.1 = 0 then ((f_X12_readIt J v1 v2 q4.2).bind fun q7 => ((f_X12_nextOf J (q7 147 41) v1 v2 q7).bind fun q9 => (if zin v3 6 = true then (if q9.2 177 (Int32.toNatClampNeg v3) = 0 then (if zin v3 6 = true then some ((q9.2 172 (Int32.toNatClampNeg v3), q9.2)) else none) else some ((4, q9.2))) else none))) else some (((-1), q4.2)))) else some (((-1), q1.2))))
noncomputable abbrev rmX12_reason : Room := { frames := 7, cells := 0, slots := 0, locals := 174 }
theorem zyX12_reason : zY yX12_reason wsX12_reason cX12_reason 4 (some .int) 3 := ⟨⟨_, rfl⟩, by decide +kernel⟩
theorem zrX12_reason_X12_nextOf : zRm rmX12_nextOf rmX12_reason 4 := ⟨rfl, rfl, by decide, by decide⟩
theorem zrX12_reason_X12_noGap : zRm rmX12_noGap rmX12_reason 1 := ⟨rfl, rfl, by decide, by decide⟩
theorem zrX12_reason_X12_noReading : zRm rmX12_noReading rmX12_reason 3 := ⟨rfl, rfl, by decide, by decide⟩
theorem zrX12_reason_X12_readIt : zRm rmX12_readIt rmX12_reason 7 := ⟨rfl, rfl, by decide, by decide⟩
set_option maxHeartbeats 1000000 in
set_option maxRecDepth 100000 in
theorem c_X12_reason (B : zB) (I : zM) (J : zJ) (hJ : zJok J) (v1 : Int32) (v2 : Int32) (v3 : Int32) (r : Int32) (I' : zM) (hf : f_X12_reason J v1 v2 v3 I = some (r, I')) : zCi B zKW I J yX12_reason wsX12_reason rmX12_reason [.ref (za B 147), .int v1, .int v2, .int v3] (fun r2 I2 J2 => r2 = r ∧ I2 = I' ∧ J2 = J) := by
  refine z_start (own := RX12) (cc := cX12_reason) (nL := 4) (ret := (some .int)) rfl (by decide) rfl (Nat.le_of_ble_eq_true rfl) (L := [(0, .ref (za B 147)), (1, .int v1), (2, .int v2), (3, .int v3)]) rfl (fun G h hr => ?_)
  rw [f_X12_reason] at hf
  refine z_aload_n h 0 dX12_reason_0 rfl (rfl : 0 + 1 = 1) ?_
  refine z_iconst h 0 dX12_reason_1 (by decide) (rfl : 1 + 1 = 2) ?_
  refine z_put (ci := 11) (C := RX12) (T := TX12) (N := 46) h 0 tyX12 tyX12_ok nmX12 rfl rfl (fun _ hq => List.mem_cons_of_mem _ (List.mem_append_right _ hq)) (by decide) (List.mem_of_getElem? (i := 1) rfl) rfl rfl rfl dX12_reason_2 (rfl : 2 + 3 = 5) ?_
  refine z_aload_n h 0 dX12_reason_5 rfl (rfl : 5 + 1 = 6) ?_
  refine z_iload_n h 1 dX12_reason_6 rfl (rfl : 6 + 1 = 7) ?_
  refine z_iload_n h 2 dX12_reason_7 rfl (rfl : 7 + 1 = 8) ?_
  obtain ⟨q1, e2, hf⟩ := zbind hf
  refine z_goF (z_runV (C := RX12) (T := TX12) (N := 46) (ci := 11) h [.int v1, .int v2] [] zyX12_noReading (c_X12_noReading B (zu I 147 0 0) J hJ v1 v2 _ _ e2) gX12_reason_X12_noReading rfl rfl rfl zrX12_reason_X12_noReading rfl (Nat.le_of_ble_eq_true rfl) ⟨Nat.zero_le _, Nat.zero_le _⟩ rfl dX12_reason_8) rfl ?_
  refine z_if_ne (pc' := 14) h 21 dX12_reason_11 (by decide) rfl (fun c3 => ?_) (fun c3 => ?_)
  · have hf := zitf c3 hf
    refine z_iconst h (-1) dX12_reason_21 (by decide) (rfl : 21 + 1 = 22) ?_
    refine z_iret h hr dX12_reason_22 ?_
    exact ⟨congrArg Prod.fst (zsome hf), congrArg Prod.snd (zsome hf), rfl⟩
  · have hf := zitt c3 hf
    refine z_iload_n h 3 dX12_reason_14 rfl (rfl : 14 + 1 = 15) ?_
    obtain ⟨q4, e5, hf⟩ := zbind hf
    refine z_goF (z_runS h [.int v3] [] zyX12_noGap (c_X12_noGap B q1.2 J hJ v3 _ _ e5) gX12_reason_X12_noGap zrX12_reason_X12_noGap rfl (Nat.le_of_ble_eq_true rfl) ⟨Nat.zero_le _, Nat.zero_le _⟩ rfl dX12_reason_15) rfl ?_
    refine z_if_eq (pc' := 21) h 23 dX12_reason_18 (by decide) rfl (fun c6 => ?_) (fun c6 => ?_)
    · have hf := zitt c6 hf
      refine z_aload_n h 0 dX12_reason_23 rfl (rfl : 23 + 1 = 24) ?_
      refine z_iload_n h 1 dX12_reason_24 rfl (rfl : 24 + 1 = 25) ?_
      refine z_iload_n h 2 dX12_reason_25 rfl (rfl : 25 + 1 = 26) ?_
      obtain ⟨q7, e8, hf⟩ := zbind hf
      refine z_goFv (z_runV (C := RX12) (T := TX12) (N := 46) (ci := 11) h [.int v1, .int v2] [] zyX12_readIt (c_X12_readIt B q4.2 J hJ v1 v2 _ e8) gX12_reason_X12_readIt rfl rfl rfl zrX12_reason_X12_readIt rfl (Nat.le_of_ble_eq_true rfl) ⟨Nat.zero_le _, Nat.zero_le _⟩ rfl dX12_reason_26) rfl ?_
      refine z_aload_n h 0 dX12_reason_29 rfl (rfl : 29 + 1 = 30) ?_
      refine z_aload_n h 0 dX12_reason_30 rfl (rfl : 30 + 1 = 31) ?_
      refine z_get (ci := 11) (C := RX12) (T := TX12) (N := 46) h 41 rfl rfl (fun _ hq => List.mem_cons_of_mem _ (List.mem_append_right _ hq)) (by decide) (List.mem_of_getElem? (i := 2) rfl) rfl dX12_reason_31 (rfl : 31 + 3 = 34) ?_
      refine z_iload_n h 1 dX12_reason_34 rfl (rfl : 34 + 1 = 35) ?_
      refine z_iload_n h 2 dX12_reason_35 rfl (rfl : 35 + 1 = 36) ?_
      obtain ⟨q9, e10, hf⟩ := zbind hf
      refine z_goF (z_runV (C := RX12) (T := TX12) (N := 46) (ci := 11) h [.int (q7 147 41), .int v1, .int v2] [] zyX12_nextOf (c_X12_nextOf B q7 J hJ (q7 147 41) v1 v2 _ _ e10) gX12_reason_X12_nextOf rfl rfl rfl zrX12_reason_X12_nextOf rfl (Nat.le_of_ble_eq_true rfl) ⟨Nat.zero_le _, Nat.zero_le _⟩ rfl dX12_reason_36) rfl ?_
      refine z_pop h rfl dX12_reason_39 (rfl : 39 + 1 = 40) ?_
      refine z_aload_n h 0 dX12_reason_40 rfl (rfl : 40 + 1 = 41) ?_
      refine z_getr (ci := 11) (C := RX12) (T := TX12) (N := 46) h 45 177 ((hJ.1 147 45 (by decide)).trans rfl) rfl rfl (fun _ hq => List.mem_cons_of_mem _ (List.mem_append_right _ hq)) (by decide) (List.mem_of_getElem? (i := 3) rfl) rfl dX12_reason_41 (rfl : 41 + 3 = 44) ?_
      refine z_iload_n h 3 dX12_reason_44 rfl (rfl : 44 + 1 = 45) ?_
      obtain ⟨b11, hf⟩ := zchk hf
      refine z_zald h rfl b11 dX12_reason_45 (rfl : 45 + 1 = 46) ?_
      refine z_if_eq (pc' := 49) h 53 dX12_reason_46 (by decide) rfl (fun c12 => ?_) (fun c12 => ?_)
      · have hf := zitt c12 hf
        refine z_aload_n h 0 dX12_reason_53 rfl (rfl : 53 + 1 = 54) ?_
        refine z_getr (ci := 11) (C := RX12) (T := TX12) (N := 46) h 36 172 ((hJ.1 147 36 (by decide)).trans rfl) rfl rfl (fun _ hq => List.mem_cons_of_mem _ (List.mem_append_right _ hq)) (by decide) (List.mem_of_getElem? (i := 4) rfl) rfl dX12_reason_54 (rfl : 54 + 3 = 57) ?_
        refine z_iload_n h 3 dX12_reason_57 rfl (rfl : 57 + 1 = 58) ?_
        obtain ⟨b13, hf⟩ := zchk hf
        refine z_iald h rfl b13 dX12_reason_58 (rfl : 58 + 1 = 59) ?_
        refine z_iret h hr dX12_reason_59 ?_
        exact ⟨congrArg Prod.fst (zsome hf), congrArg Prod.snd (zsome hf), rfl⟩
      · have hf := zitf c12 hf
        refine z_iconst h 4 dX12_reason_49 (by decide) (rfl : 49 + 1 = 50) ?_
        refine z_goto (pc' := 59) h dX12_reason_50 (by decide) ?_
        refine z_iret h hr dX12_reason_59 ?_
        exact ⟨congrArg Prod.fst (zsome hf), congrArg Prod.snd (zsome hf), rfl⟩
    · have hf := zitf c6 hf
      refine z_iconst h (-1) dX12_reason_21 (by decide) (rfl : 21 + 1 = 22) ?_
      refine z_iret h hr dX12_reason_22 ?_
      exact ⟨congrArg Prod.fst (zsome hf), congrArg Prod.snd (zsome hf), rfl⟩
noncomputable def f_X12_opens_12 (J : zJ) (u1 : Int32) : Nat → Int32 → Int32 → zM → Option ((Int32 × zM) ⊕ (Int32 × Int32 × zM))
  | 0, _, _, _ => none
  | n + 1, x2_12, x3_12, I12 => (if 6 ≤ x3_12 then some (.inr (x2_12, x3_12, I12)) else (if u1 = 0 then ((f_X12_isAsked J x3_12 I12).bind fun q7 => (if q7.1 = 0 then f_X12_opens_12 J u1 n (x2_12 ||| (0 : Int32)) (x3_12 + 1) q7.2 else (if zin x3_12 6 = true then (if q7.2 175 (Int32.toNatClampNeg x3_12) = 0 then f_X12_opens_12 J u1 n (x2_12 ||| ((1 : Int32) <<< (x3_12 &&& 31))) (x3_12 + 1) q7.2 else f_X12_opens_12 J u1 n (x2_12 ||| (0 : Int32)) (x3_12 + 1) q7.2) else none))) else (if zin x3_12 6 = true then (if I12 177 (Int32.toNatClampNeg x3_12) = 0 then f_X12_opens_12 J u1 n (x2_12 ||| (0 : Int32)) (x3_12 + 1) I12 else f_X12_opens_12 J u1 n (x2_12 ||| ((1 : Int32) <<< (x3_12 &&& 31))) (x3_12 + 1) I12) else none)))
noncomputable def f_X12_opens (J : zJ) (v1 : Int32) (I : zM) : Option (Int32 × zM) := ((f_X12_answerNumber J  I).bind fun q1 => ((f_X12_lay J q1.1 q1.2).bind fun q3 => ((f_X12_opens_12 J v1 zF 0 0 q3).bind fun q => Sum.elim (fun a => some a) (fun a7 => some ((a7.1, a7.2.2))) q)))
noncomputable abbrev rmX12_opens : Room := { frames := 1, cells := 0, slots := 0, locals := 23 }
theorem zyX12_opens : zY yX12_opens wsX12_opens cX12_opens 5 (some .int) 1 := ⟨⟨_, rfl⟩, by decide +kernel⟩
theorem zrX12_opens_X12_answerNumber : zRm rmX12_answerNumber rmX12_opens 3 := ⟨rfl, rfl, by decide, by decide⟩
theorem zrX12_opens_X12_isAsked : zRm rmX12_isAsked rmX12_opens 2 := ⟨rfl, rfl, by decide, by decide⟩
theorem zrX12_opens_X12_lay : zRm rmX12_lay rmX12_opens 4 := ⟨rfl, rfl, by decide, by decide⟩
set_option maxHeartbeats 1000000 in
set_option maxRecDepth 100000 in
theorem c_X12_opens (B : zB) (I : zM) (J : zJ) (hJ : zJok J) (v1 : Int32) (r : Int32) (I' : zM) (hf : f_X12_opens J v1 I = some (r, I')) : zCi B zKW I J yX12_opens wsX12_opens rmX12_opens [.ref (za B 147), .int v1] (fun r2 I2 J2 => r2 = r ∧ I2 = I' ∧ J2 = J) := by
  refine z_start (own := RX12) (cc := cX12_opens) (nL := 5) (ret := (some .int)) rfl (by decide) rfl (Nat.le_of_ble_eq_true rfl) (L := [(0, .ref (za B 147)), (1, .int v1)]) rfl (fun G h hr => ?_)
  rw [f_X12_opens] at hf
  refine z_aload_n h 0 dX12_opens_0 rfl (rfl : 0 + 1 = 1) ?_
  refine z_aload_n h 0 dX12_opens_1 rfl (rfl : 1 + 1 = 2) ?_
  obtain ⟨q1, e2, hf⟩ := zbind hf
  refine z_goF (z_runV (C := RX12) (T := TX12) (N := 46) (ci := 11) h [] [.ref (za B 147)] zyX12_answerNumber (c_X12_answerNumber B I J hJ  _ _ e2) gX12_opens_X12_answerNumber rfl rfl rfl zrX12_opens_X12_answerNumber rfl (Nat.le_of_ble_eq_true rfl) ⟨Nat.zero_le _, Nat.zero_le _⟩ rfl dX12_opens_2) rfl ?_
  obtain ⟨q3, e4, hf⟩ := zbind hf
  refine z_goFv (z_runV (C := RX12) (T := TX12) (N := 46) (ci := 11) h [.int q1.1] [] zyX12_lay (c_X12_lay B q1.2 J hJ q1.1 _ e4) gX12_opens_X12_lay rfl rfl rfl zrX12_opens_X12_lay rfl (Nat.le_of_ble_eq_true rfl) ⟨Nat.zero_le _, Nat.zero_le _⟩ rfl dX12_opens_5) rfl ?_
  refine z_iconst h 0 dX12_opens_8 (by decide) (rfl : 8 + 1 = 9) ?_
  refine z_istore_n h [(2, .int 0), (0, .ref (za B 147)), (1, .int v1)] dX12_opens_9 (by decide) rfl (rfl : 9 + 1 = 10) ?_
  refine z_iconst h 0 dX12_opens_10 (by decide) (rfl : 10 + 1 = 11) ?_
  refine z_istore_n h [(3, .int 0), (2, .int 0), (0, .ref (za B 147)), (1, .int v1)] dX12_opens_11 (by decide) rfl (rfl : 11 + 1 = 12) ?_
  have loop_12_6 : ∀ (n : Nat) (x2_12 : Int32) (x3_12 : Int32) (I12 : zM) (q : (Int32 × zM) ⊕ (Int32 × Int32 × zM)), f_X12_opens_12 J v1 n x2_12 x3_12 I12 = some q → (∀ a, q = .inl a → a = (r, I')) → (∀ a : Int32 × Int32 × zM, q = .inr a → Z B G zKW (a.2.2) (J) (0, 0) 76 [(0, .ref (za B 147)), (1, .int v1), (2, .int a.1), (3, .int a.2.1)] []) → Z B G zKW I12 J (0, 0) 12 [(0, .ref (za B 147)), (1, .int v1), (2, .int x2_12), (3, .int x3_12)] [] := by
    intro n; induction n with
    | zero => intro x2_12 x3_12 I12 q hf; exact absurd hf (by rw [f_X12_opens_12]; exact fun z => by cases z)
    | succ n ih =>
      intro x2_12 x3_12 I12 q hf hP hE; rw [f_X12_opens_12] at hf
      refine z_iload_n h 3 dX12_opens_12 rfl (rfl : 12 + 1 = 13) ?_
      refine z_bipush h 6 dX12_opens_13 (by decide) (rfl : 13 + 2 = 15) ?_
      refine z_icmp_ge (pc' := 18) h 76 dX12_opens_15 (by decide) rfl (fun c7 => ?_) (fun c7 => ?_)
      · have hf := zitt c7 hf
        exact hE (x2_12, x3_12, I12) (zsome hf).symm
      · have hf := zitf c7 hf
        refine z_iload_n h 1 dX12_opens_18 rfl (rfl : 18 + 1 = 19) ?_
        refine z_if_eq (pc' := 22) h 31 dX12_opens_19 (by decide) rfl (fun c8 => ?_) (fun c8 => ?_)
        · have hf := zitt c8 hf
          refine z_aload_n h 0 dX12_opens_31 rfl (rfl : 31 + 1 = 32) ?_
          refine z_iload_n h 3 dX12_opens_32 rfl (rfl : 32 + 1 = 33) ?_
          obtain ⟨q9, e10, hf⟩ := zbind hf
          refine z_goF (z_runV (C := RX12) (T := TX12) (N := 46) (ci := 11) h [.int x3_12] [] zyX12_isAsked (c_X12_isAsked B I12 J hJ x3_12 _ _ e10) gX12_opens_X12_isAsked rfl rfl rfl zrX12_opens_X12_isAsked rfl (Nat.le_of_ble_eq_true rfl) ⟨Nat.zero_le _, Nat.zero_le _⟩ rfl dX12_opens_33) rfl ?_
          refine z_if_eq (pc' := 39) h 52 dX12_opens_36 (by decide) rfl (fun c11 => ?_) (fun c11 => ?_)
          · have hf := zitt c11 hf
            refine z_iconst h 0 dX12_opens_52 (by decide) (rfl : 52 + 1 = 53) ?_
            refine z_istore h [(4, .int 0), (0, .ref (za B 147)), (1, .int v1), (2, .int x2_12), (3, .int x3_12)] dX12_opens_53 (by decide) rfl (rfl : 53 + 2 = 55) ?_
            refine z_iload_n h 3 dX12_opens_55 rfl (rfl : 55 + 1 = 56) ?_
            refine z_iload h 0 dX12_opens_56 rfl (rfl : 56 + 2 = 58) ?_
            refine z_if_eq (pc' := 61) h 67 dX12_opens_58 (by decide) rfl (fun _ => ?_) (fun q => absurd q (by decide))
            refine z_iconst h 0 dX12_opens_67 (by decide) (rfl : 67 + 1 = 68) ?_
            refine z_ior h dX12_opens_68 (rfl : 68 + 1 = 69) ?_
            refine z_istore_n h [(2, .int (x2_12 ||| (0 : Int32))), (4, .int 0), (0, .ref (za B 147)), (1, .int v1), (3, .int x3_12)] dX12_opens_69 (by decide) rfl (rfl : 69 + 1 = 70) ?_
            refine z_iinc h 4 (x3_12 + 1) [(3, .int (x3_12 + 1)), (2, .int (x2_12 ||| (0 : Int32))), (4, .int 0), (0, .ref (za B 147)), (1, .int v1)] dX12_opens_70 rfl rfl (by decide) rfl (rfl : 70 + 3 = 73) ?_
            refine z_goto (pc' := 12) h dX12_opens_73 (by decide) ?_
            refine z_sub (L' := [(0, .ref (za B 147)), (1, .int v1), (2, .int (x2_12 ||| (0 : Int32))), (3, .int (x3_12 + 1))]) [3, 4, 1, 0] rfl ?_
            exact ih (x2_12 ||| (0 : Int32)) (x3_12 + 1) q9.2 _ hf hP hE
          · have hf := zitf c11 hf
            refine z_aload_n h 0 dX12_opens_39 rfl (rfl : 39 + 1 = 40) ?_
            refine z_getr (ci := 11) (C := RX12) (T := TX12) (N := 46) h 43 175 ((hJ.1 147 43 (by decide)).trans rfl) rfl rfl (fun _ hq => List.mem_cons_of_mem _ (List.mem_append_right _ hq)) (by decide) (List.mem_of_getElem? (i := 2) rfl) rfl dX12_opens_40 (rfl : 40 + 3 = 43) ?_
            refine z_iload_n h 3 dX12_opens_43 rfl (rfl : 43 + 1 = 44) ?_
            obtain ⟨b12, hf⟩ := zchk hf
            refine z_iald h rfl b12 dX12_opens_44 (rfl : 44 + 1 = 45) ?_
            refine z_if_ne (pc' := 48) h 52 dX12_opens_45 (by decide) rfl (fun c13 => ?_) (fun c13 => ?_)
            · have hf := zitf c13 hf
              refine z_iconst h 0 dX12_opens_52 (by decide) (rfl : 52 + 1 = 53) ?_
              refine z_istore h [(4, .int 0), (0, .ref (za B 147)), (1, .int v1), (2, .int x2_12), (3, .int x3_12)] dX12_opens_53 (by decide) rfl (rfl : 53 + 2 = 55) ?_
              refine z_iload_n h 3 dX12_opens_55 rfl (rfl : 55 + 1 = 56) ?_
              refine z_iload h 0 dX12_opens_56 rfl (rfl : 56 + 2 = 58) ?_
              refine z_if_eq (pc' := 61) h 67 dX12_opens_58 (by decide) rfl (fun _ => ?_) (fun q => absurd q (by decide))
              refine z_iconst h 0 dX12_opens_67 (by decide) (rfl : 67 + 1 = 68) ?_
              refine z_ior h dX12_opens_68 (rfl : 68 + 1 = 69) ?_
              refine z_istore_n h [(2, .int (x2_12 ||| (0 : Int32))), (4, .int 0), (0, .ref (za B 147)), (1, .int v1), (3, .int x3_12)] dX12_opens_69 (by decide) rfl (rfl : 69 + 1 = 70) ?_
              refine z_iinc h 4 (x3_12 + 1) [(3, .int (x3_12 + 1)), (2, .int (x2_12 ||| (0 : Int32))), (4, .int 0), (0, .ref (za B 147)), (1, .int v1)] dX12_opens_70 rfl rfl (by decide) rfl (rfl : 70 + 3 = 73) ?_
              refine z_goto (pc' := 12) h dX12_opens_73 (by decide) ?_
              refine z_sub (L' := [(0, .ref (za B 147)), (1, .int v1), (2, .int (x2_12 ||| (0 : Int32))), (3, .int (x3_12 + 1))]) [3, 4, 1, 0] rfl ?_
              exact ih (x2_12 ||| (0 : Int32)) (x3_12 + 1) q9.2 _ hf hP hE
            · have hf := zitt c13 hf
              refine z_iconst h 1 dX12_opens_48 (by decide) (rfl : 48 + 1 = 49) ?_
              refine z_goto (pc' := 53) h dX12_opens_49 (by decide) ?_
              refine z_istore h [(4, .int 1), (0, .ref (za B 147)), (1, .int v1), (2, .int x2_12), (3, .int x3_12)] dX12_opens_53 (by decide) rfl (rfl : 53 + 2 = 55) ?_
              refine z_iload_n h 3 dX12_opens_55 rfl (rfl : 55 + 1 = 56) ?_
              refine z_iload h 0 dX12_opens_56 rfl (rfl : 56 + 2 = 58) ?_
              refine z_if_eq (pc' := 61) h 67 dX12_opens_58 (by decide) rfl (fun q => absurd q (by decide)) (fun _ => ?_)
              refine z_iconst h 1 dX12_opens_61 (by decide) (rfl : 61 + 1 = 62) ?_
              refine z_iload_n h 4 dX12_opens_62 rfl (rfl : 62 + 1 = 63) ?_
              refine z_ishl h dX12_opens_63 (rfl : 63 + 1 = 64) ?_
              refine z_goto (pc' := 68) h dX12_opens_64 (by decide) ?_
              refine z_ior h dX12_opens_68 (rfl : 68 + 1 = 69) ?_
              refine z_istore_n h [(2, .int (x2_12 ||| ((1 : Int32) <<< (x3_12 &&& 31)))), (4, .int 1), (0, .ref (za B 147)), (1, .int v1), (3, .int x3_12)] dX12_opens_69 (by decide) rfl (rfl : 69 + 1 = 70) ?_
              refine z_iinc h 4 (x3_12 + 1) [(3, .int (x3_12 + 1)), (2, .int (x2_12 ||| ((1 : Int32) <<< (x3_12 &&& 31)))), (4, .int 1), (0, .ref (za B 147)), (1, .int v1)] dX12_opens_70 rfl rfl (by decide) rfl (rfl : 70 + 3 = 73) ?_
              refine z_goto (pc' := 12) h dX12_opens_73 (by decide) ?_
              refine z_sub (L' := [(0, .ref (za B 147)), (1, .int v1), (2, .int (x2_12 ||| ((1 : Int32) <<< (x3_12 &&& 31)))), (3, .int (x3_12 + 1))]) [3, 4, 1, 0] rfl ?_
              exact ih (x2_12 ||| ((1 : Int32) <<< (x3_12 &&& 31))) (x3_12 + 1) q9.2 _ hf hP hE
        · have hf := zitf c8 hf
          refine z_aload_n h 0 dX12_opens_22 rfl (rfl : 22 + 1 = 23) ?_
          refine z_getr (ci := 11) (C := RX12) (T := TX12) (N := 46) h 45 177 ((hJ.1 147 45 (by decide)).trans rfl) rfl rfl (fun _ hq => List.mem_cons_of_mem _ (List.mem_append_right _ hq)) (by decide) (List.mem_of_getElem? (i := 1) rfl) rfl dX12_opens_23 (rfl : 23 + 3 = 26) ?_
          refine z_iload_n h 3 dX12_opens_26 rfl (rfl : 26 + 1 = 27) ?_
          obtain ⟨b14, hf⟩ := zchk hf
          refine z_zald h rfl b14 dX12_opens_27 (rfl : 27 + 1 = 28) ?_
          refine z_goto (pc' := 53) h dX12_opens_28 (by decide) ?_
          refine z_istore h [(4, .int (I12 177 (Int32.toNatClampNeg x3_12))), (0, .ref (za B 147)), (1, .int v1), (2, .int x2_12), (3, .int x3_12)] dX12_opens_53 (by decide) rfl (rfl : 53 + 2 = 55) ?_
          refine z_iload_n h 3 dX12_opens_55 rfl (rfl : 55 + 1 = 56) ?_
          refine z_iload h 0 dX12_opens_56 rfl (rfl : 56 + 2 = 58) ?_
          refine z_if_eq (pc' := 61) h 67 dX12_opens_58 (by decide) rfl (fun c15 => ?_) (fun c15 => ?_)
          · have hf := zitt c15 hf
            refine z_iconst h 0 dX12_opens_67 (by decide) (rfl : 67 + 1 = 68) ?_
            refine z_ior h dX12_opens_68 (rfl : 68 + 1 = 69) ?_
            refine z_istore_n h [(2, .int (x2_12 ||| (0 : Int32))), (4, .int (I12 177 (Int32.toNatClampNeg x3_12))), (0, .ref (za B 147)), (1, .int v1), (3, .int x3_12)] dX12_opens_69 (by decide) rfl (rfl : 69 + 1 = 70) ?_
            refine z_iinc h 4 (x3_12 + 1) [(3, .int (x3_12 + 1)), (2, .int (x2_12 ||| (0 : Int32))), (4, .int (I12 177 (Int32.toNatClampNeg x3_12))), (0, .ref (za B 147)), (1, .int v1)] dX12_opens_70 rfl rfl (by decide) rfl (rfl : 70 + 3 = 73) ?_
            refine z_goto (pc' := 12) h dX12_opens_73 (by decide) ?_
            refine z_sub (L' := [(0, .ref (za B 147)), (1, .int v1), (2, .int (x2_12 ||| (0 : Int32))), (3, .int (x3_12 + 1))]) [3, 4, 1, 0] rfl ?_
            exact ih (x2_12 ||| (0 : Int32)) (x3_12 + 1) I12 _ hf hP hE
          · have hf := zitf c15 hf
            refine z_iconst h 1 dX12_opens_61 (by decide) (rfl : 61 + 1 = 62) ?_
            refine z_iload_n h 4 dX12_opens_62 rfl (rfl : 62 + 1 = 63) ?_
            refine z_ishl h dX12_opens_63 (rfl : 63 + 1 = 64) ?_
            refine z_goto (pc' := 68) h dX12_opens_64 (by decide) ?_
            refine z_ior h dX12_opens_68 (rfl : 68 + 1 = 69) ?_
            refine z_istore_n h [(2, .int (x2_12 ||| ((1 : Int32) <<< (x3_12 &&& 31)))), (4, .int (I12 177 (Int32.toNatClampNeg x3_12))), (0, .ref (za B 147)), (1, .int v1), (3, .int x3_12)] dX12_opens_69 (by decide) rfl (rfl : 69 + 1 = 70) ?_
            refine z_iinc h 4 (x3_12 + 1) [(3, .int (x3_12 + 1)), (2, .int (x2_12 ||| ((1 : Int32) <<< (x3_12 &&& 31)))), (4, .int (I12 177 (Int32.toNatClampNeg x3_12))), (0, .ref (za B 147)), (1, .int v1)] dX12_opens_70 rfl rfl (by decide) rfl (rfl : 70 + 3 = 73) ?_
            refine z_goto (pc' := 12) h dX12_opens_73 (by decide) ?_
            refine z_sub (L' := [(0, .ref (za B 147)), (1, .int v1), (2, .int (x2_12 ||| ((1 : Int32) <<< (x3_12 &&& 31)))), (3, .int (x3_12 + 1))]) [3, 4, 1, 0] rfl ?_
            exact ih (x2_12 ||| ((1 : Int32) <<< (x3_12 &&& 31))) (x3_12 + 1) I12 _ hf hP hE
  refine z_sub (L' := [(0, .ref (za B 147)), (1, .int v1), (2, .int 0), (3, .int 0)]) [2, 3, 1, 0] rfl ?_
  obtain ⟨q5, e6, hf⟩ := zbind hf
  refine loop_12_6 _ 0 0 q3 q5 e6 (fun a ha => ?_) (fun a16 ha  => ?_)
  · have hf := zell ha hf
    exact zsome hf
  have hf := zelr ha hf
  clear ha loop_12_6
  refine z_iload_n h 2 dX12_opens_76 rfl (rfl : 76 + 1 = 77) ?_
  refine z_iret h hr dX12_opens_77 ?_
  exact ⟨congrArg Prod.fst (zsome hf), congrArg Prod.snd (zsome hf), rfl⟩
noncomputable def f_X12_open (J : zJ) (v1 : Int32) (v2 : Int32) (v3 : Int32) (I : zM) : Option (Int32 × zM) := ((f_X12_noReading J v1 v2 (zu I 147 0 0)).bind fun q1 => (if q1.1 = 0 then ((f_X12_readIt J v1 v2 q1.2).bind fun q4 => ((f_X12_opens J v3 q4).bind fun q6 => some ((q6.1, q6.2)))) else some (((-1), q1.2))))
noncomputable abbrev rmX12_open : Room := { frames := 7, cells := 0, slots := 0, locals := 174 }
theorem zyX12_open : zY yX12_open wsX12_open cX12_open 4 (some .int) 3 := ⟨⟨_, rfl⟩, by decide +kernel⟩
theorem zrX12_open_X12_noReading : zRm rmX12_noReading rmX12_open 3 := ⟨rfl, rfl, by decide, by decide⟩
theorem zrX12_open_X12_opens : zRm rmX12_opens rmX12_open 5 := ⟨rfl, rfl, by decide, by decide⟩
theorem zrX12_open_X12_readIt : zRm rmX12_readIt rmX12_open 7 := ⟨rfl, rfl, by decide, by decide⟩
set_option maxHeartbeats 1000000 in
set_option maxRecDepth 100000 in
theorem c_X12_open (B : zB) (I : zM) (J : zJ) (hJ : zJok J) (v1 : Int32) (v2 : Int32) (v3 : Int32) (r : Int32) (I' : zM) (hf : f_X12_open J v1 v2 v3 I = some (r, I')) : zCi B zKW I J yX12_open wsX12_open rmX12_open [.ref (za B 147), .int v1, .int v2, .int v3] (fun r2 I2 J2 => r2 = r ∧ I2 = I' ∧ J2 = J) := by
  refine z_start (own := RX12) (cc := cX12_open) (nL := 4) (ret := (some .int)) rfl (by decide) rfl (Nat.le_of_ble_eq_true rfl) (L := [(0, .ref (za B 147)), (1, .int v1), (2, .int v2), (3, .int v3)]) rfl (fun G h hr => ?_)
  rw [f_X12_open] at hf
  refine z_aload_n h 0 dX12_open_0 rfl (rfl : 0 + 1 = 1) ?_
  refine z_iconst h 0 dX12_open_1 (by decide) (rfl : 1 + 1 = 2) ?_
  refine z_put (ci := 11) (C := RX12) (T := TX12) (N := 46) h 0 tyX12 tyX12_ok nmX12 rfl rfl (fun _ hq => List.mem_cons_of_mem _ (List.mem_append_right _ hq)) (by decide) (List.mem_of_getElem? (i := 1) rfl) rfl rfl rfl dX12_open_2 (rfl : 2 + 3 = 5) ?_
  refine z_aload_n h 0 dX12_open_5 rfl (rfl : 5 + 1 = 6) ?_
  refine z_iload_n h 1 dX12_open_6 rfl (rfl : 6 + 1 = 7) ?_
  refine z_iload_n h 2 dX12_open_7 rfl (rfl : 7 + 1 = 8) ?_
  obtain ⟨q1, e2, hf⟩ := zbind hf
  refine z_goF (z_runV (C := RX12) (T := TX12) (N := 46) (ci := 11) h [.int v1, .int v2] [] zyX12_noReading (c_X12_noReading B (zu I 147 0 0) J hJ v1 v2 _ _ e2) gX12_open_X12_noReading rfl rfl rfl zrX12_open_X12_noReading rfl (Nat.le_of_ble_eq_true rfl) ⟨Nat.zero_le _, Nat.zero_le _⟩ rfl dX12_open_8) rfl ?_
  refine z_if_eq (pc' := 14) h 16 dX12_open_11 (by decide) rfl (fun c3 => ?_) (fun c3 => ?_)
  · have hf := zitt c3 hf
    refine z_aload_n h 0 dX12_open_16 rfl (rfl : 16 + 1 = 17) ?_
    refine z_iload_n h 1 dX12_open_17 rfl (rfl : 17 + 1 = 18) ?_
    refine z_iload_n h 2 dX12_open_18 rfl (rfl : 18 + 1 = 19) ?_
    obtain ⟨q4, e5, hf⟩ := zbind hf
    refine z_goFv (z_runV (C := RX12) (T := TX12) (N := 46) (ci := 11) h [.int v1, .int v2] [] zyX12_readIt (c_X12_readIt B q1.2 J hJ v1 v2 _ e5) gX12_open_X12_readIt rfl rfl rfl zrX12_open_X12_readIt rfl (Nat.le_of_ble_eq_true rfl) ⟨Nat.zero_le _, Nat.zero_le _⟩ rfl dX12_open_19) rfl ?_
    refine z_aload_n h 0 dX12_open_22 rfl (rfl : 22 + 1 = 23) ?_
    refine z_iload_n h 3 dX12_open_23 rfl (rfl : 23 + 1 = 24) ?_
    obtain ⟨q6, e7, hf⟩ := zbind hf
    refine z_goF (z_runV (C := RX12) (T := TX12) (N := 46) (ci := 11) h [.int v3] [] zyX12_opens (c_X12_opens B q4 J hJ v3 _ _ e7) gX12_open_X12_opens rfl rfl rfl zrX12_open_X12_opens rfl (Nat.le_of_ble_eq_true rfl) ⟨Nat.zero_le _, Nat.zero_le _⟩ rfl dX12_open_24) rfl ?_
    refine z_iret h hr dX12_open_27 ?_
    exact ⟨congrArg Prod.fst (zsome hf), congrArg Prod.snd (zsome hf), rfl⟩
  · have hf := zitf c3 hf
    refine z_iconst h (-1) dX12_open_14 (by decide) (rfl : 14 + 1 = 15) ?_
    refine z_iret h hr dX12_open_15 ?_
    exact ⟨congrArg Prod.fst (zsome hf), congrArg Prod.snd (zsome hf), rfl⟩
noncomputable def f_X12_holds_40 (J : zJ) (u1 : Int32) (u2 : Int32) (u3 : Int32) : Nat → Int32 → Int32 → zM → Option ((Int32 × zM) ⊕ (Int32 × Int32 × zM))
  | 0, _, _, _ => none
  | n + 1, x4_40, x5_40, I40 => (if 6 ≤ x5_40 then some (.inr (x4_40, x5_40, I40)) else (if x4_40 = 0 then f_X12_holds_40 J u1 u2 u3 n 0 (x5_40 + 1) I40 else (if zin x5_40 6 = true then (if I40 149 (Int32.toNatClampNeg x5_40) = 0 then f_X12_holds_40 J u1 u2 u3 n 1 (x5_40 + 1) I40 else (if (u3 >>> (x5_40 &&& 31)) &&& (1 : Int32) = 1 then f_X12_holds_40 J u1 u2 u3 n 0 (x5_40 + 1) I40 else f_X12_holds_40 J u1 u2 u3 n 1 (x5_40 + 1) I40)) else none)))
noncomputable def f_X12_holds (J : zJ) (v1 : Int32) (v2 : Int32) (I : zM) : Option (Int32 × zM) := ((f_X12_noReading J v1 v2 (zu I 147 0 0)).bind fun q1 => (if q1.1 = 0 then ((f_X12_readIt J v1 v2 q1.2).bind fun q4 => ((f_X12_opens J 0 q4).bind fun q6 => ((f_X12_opens J 1 q6.2).bind fun q8 => ((f_X12_holds_40 J v1 v2 (q6.1 ||| q8.1) zF 1 0 q8.2).bind fun q => Sum.elim (fun a => some a) (fun a12 => (if a12.1 = 0 then some ((0, a12.2.2)) else some ((1, a12.2.2)))) q)))) else some (((-1), q1.2))))
noncomputable abbrev rmX12_holds : Room := { frames := 7, cells := 0, slots := 0, locals := 174 }
theorem zyX12_holds : zY yX12_holds wsX12_holds cX12_holds 6 (some .int) 2 := ⟨⟨_, rfl⟩, by decide +kernel⟩
theorem zrX12_holds_X12_noReading : zRm rmX12_noReading rmX12_holds 3 := ⟨rfl, rfl, by decide, by decide⟩
theorem zrX12_holds_X12_opens : zRm rmX12_opens rmX12_holds 5 := ⟨rfl, rfl, by decide, by decide⟩
theorem zrX12_holds_X12_readIt : zRm rmX12_readIt rmX12_holds 7 := ⟨rfl, rfl, by decide, by decide⟩
set_option maxHeartbeats 1000000 in
set_option maxRecDepth 100000 in
theorem c_X12_holds (B : zB) (I : zM) (J : zJ) (hJ : zJok J) (v1 : Int32) (v2 : Int32) (r : Int32) (I' : zM) (hf : f_X12_holds J v1 v2 I = some (r, I')) : zCi B zKW I J yX12_holds wsX12_holds rmX12_holds [.ref (za B 147), .int v1, .int v2] (fun r2 I2 J2 => r2 = r ∧ I2 = I' ∧ J2 = J) := by
  refine z_start (own := RX12) (cc := cX12_holds) (nL := 6) (ret := (some .int)) rfl (by decide) rfl (Nat.le_of_ble_eq_true rfl) (L := [(0, .ref (za B 147)), (1, .int v1), (2, .int v2)]) rfl (fun G h hr => ?_)
  rw [f_X12_holds] at hf
  refine z_aload_n h 0 dX12_holds_0 rfl (rfl : 0 + 1 = 1) ?_
  refine z_iconst h 0 dX12_holds_1 (by decide) (rfl : 1 + 1 = 2) ?_
  refine z_put (ci := 11) (C := RX12) (T := TX12) (N := 46) h 0 tyX12 tyX12_ok nmX12 rfl rfl (fun _ hq => List.mem_cons_of_mem _ (List.mem_append_right _ hq)) (by decide) (List.mem_of_getElem? (i := 1) rfl) rfl rfl rfl dX12_holds_2 (rfl : 2 + 3 = 5) ?_
  refine z_aload_n h 0 dX12_holds_5 rfl (rfl : 5 + 1 = 6) ?_
  refine z_iload_n h 1 dX12_holds_6 rfl (rfl : 6 + 1 = 7) ?_
  refine z_iload_n h 2 dX12_holds_7 rfl (rfl : 7 + 1 = 8) ?_
  obtain ⟨q1, e2, hf⟩ := zbind hf
  refine z_goF (z_runV (C := RX12) (T := TX12) (N := 46) (ci := 11) h [.int v1, .int v2] [] zyX12_noReading (c_X12_noReading B (zu I 147 0 0) J hJ v1 v2 _ _ e2) gX12_holds_X12_noReading rfl rfl rfl zrX12_holds_X12_noReading rfl (Nat.le_of_ble_eq_true rfl) ⟨Nat.zero_le _, Nat.zero_le _⟩ rfl dX12_holds_8) rfl ?_
  refine z_if_eq (pc' := 14) h 16 dX12_holds_11 (by decide) rfl (fun c3 => ?_) (fun c3 => ?_)
  · have hf := zitt c3 hf
    refine z_aload_n h 0 dX12_holds_16 rfl (rfl : 16 + 1 = 17) ?_
    refine z_iload_n h 1 dX12_holds_17 rfl (rfl : 17 + 1 = 18) ?_
    refine z_iload_n h 2 dX12_holds_18 rfl (rfl : 18 + 1 = 19) ?_
    obtain ⟨q4, e5, hf⟩ := zbind hf
    refine z_goFv (z_runV (C := RX12) (T := TX12) (N := 46) (ci := 11) h [.int v1, .int v2] [] zyX12_readIt (c_X12_readIt B q1.2 J hJ v1 v2 _ e5) gX12_holds_X12_readIt rfl rfl rfl zrX12_holds_X12_readIt rfl (Nat.le_of_ble_eq_true rfl) ⟨Nat.zero_le _, Nat.zero_le _⟩ rfl dX12_holds_19) rfl ?_
    refine z_aload_n h 0 dX12_holds_22 rfl (rfl : 22 + 1 = 23) ?_
    refine z_iconst h 0 dX12_holds_23 (by decide) (rfl : 23 + 1 = 24) ?_
    obtain ⟨q6, e7, hf⟩ := zbind hf
    refine z_goF (z_runV (C := RX12) (T := TX12) (N := 46) (ci := 11) h [.int 0] [] zyX12_opens (c_X12_opens B q4 J hJ 0 _ _ e7) gX12_holds_X12_opens rfl rfl rfl zrX12_holds_X12_opens rfl (Nat.le_of_ble_eq_true rfl) ⟨Nat.zero_le _, Nat.zero_le _⟩ rfl dX12_holds_24) rfl ?_
    refine z_aload_n h 0 dX12_holds_27 rfl (rfl : 27 + 1 = 28) ?_
    refine z_iconst h 1 dX12_holds_28 (by decide) (rfl : 28 + 1 = 29) ?_
    obtain ⟨q8, e9, hf⟩ := zbind hf
    refine z_goF (z_runV (C := RX12) (T := TX12) (N := 46) (ci := 11) h [.int 1] [.int q6.1] zyX12_opens (c_X12_opens B q6.2 J hJ 1 _ _ e9) gX12_holds_X12_opens rfl rfl rfl zrX12_holds_X12_opens rfl (Nat.le_of_ble_eq_true rfl) ⟨Nat.zero_le _, Nat.zero_le _⟩ rfl dX12_holds_29) rfl ?_
    refine z_ior h dX12_holds_32 (rfl : 32 + 1 = 33) ?_
    refine z_istore_n h [(3, .int (q6.1 ||| q8.1)), (0, .ref (za B 147)), (1, .int v1), (2, .int v2)] dX12_holds_33 (by decide) rfl (rfl : 33 + 1 = 34) ?_
    refine z_iconst h 1 dX12_holds_34 (by decide) (rfl : 34 + 1 = 35) ?_
    refine z_istore h [(4, .int 1), (3, .int (q6.1 ||| q8.1)), (0, .ref (za B 147)), (1, .int v1), (2, .int v2)] dX12_holds_35 (by decide) rfl (rfl : 35 + 2 = 37) ?_
    refine z_iconst h 0 dX12_holds_37 (by decide) (rfl : 37 + 1 = 38) ?_
    refine z_istore h [(5, .int 0), (4, .int 1), (3, .int (q6.1 ||| q8.1)), (0, .ref (za B 147)), (1, .int v1), (2, .int v2)] dX12_holds_38 (by decide) rfl (rfl : 38 + 2 = 40) ?_
    have loop_40_11 : ∀ (n : Nat) (x4_40 : Int32) (x5_40 : Int32) (I40 : zM) (q : (Int32 × zM) ⊕ (Int32 × Int32 × zM)), f_X12_holds_40 J v1 v2 (q6.1 ||| q8.1) n x4_40 x5_40 I40 = some q → (∀ a, q = .inl a → a = (r, I')) → (∀ a : Int32 × Int32 × zM, q = .inr a → Z B G zKW (a.2.2) (J) (0, 0) 85 [(0, .ref (za B 147)), (1, .int v1), (2, .int v2), (3, .int (q6.1 ||| q8.1)), (4, .int a.1), (5, .int a.2.1)] []) → Z B G zKW I40 J (0, 0) 40 [(0, .ref (za B 147)), (1, .int v1), (2, .int v2), (3, .int (q6.1 ||| q8.1)), (4, .int x4_40), (5, .int x5_40)] [] := by
      intro n; induction n with
      | zero => intro x4_40 x5_40 I40 q hf; exact absurd hf (by rw [f_X12_holds_40]; exact fun z => by cases z)
      | succ n ih =>
        intro x4_40 x5_40 I40 q hf hP hE; rw [f_X12_holds_40] at hf
        refine z_iload h 5 dX12_holds_40 rfl (rfl : 40 + 2 = 42) ?_
        refine z_bipush h 6 dX12_holds_42 (by decide) (rfl : 42 + 2 = 44) ?_
        refine z_icmp_ge (pc' := 47) h 85 dX12_holds_44 (by decide) rfl (fun c12 => ?_) (fun c12 => ?_)
        · have hf := zitt c12 hf
          exact hE (x4_40, x5_40, I40) (zsome hf).symm
        · have hf := zitf c12 hf
          refine z_iload h 4 dX12_holds_47 rfl (rfl : 47 + 2 = 49) ?_
          refine z_if_eq (pc' := 52) h 76 dX12_holds_49 (by decide) rfl (fun c13 => ?_) (fun c13 => ?_)
          · have hf := zitt c13 hf
            refine z_iconst h 0 dX12_holds_76 (by decide) (rfl : 76 + 1 = 77) ?_
            refine z_istore h [(4, .int 0), (0, .ref (za B 147)), (1, .int v1), (2, .int v2), (3, .int (q6.1 ||| q8.1)), (5, .int x5_40)] dX12_holds_77 (by decide) rfl (rfl : 77 + 2 = 79) ?_
            refine z_iinc h 5 (x5_40 + 1) [(5, .int (x5_40 + 1)), (4, .int 0), (0, .ref (za B 147)), (1, .int v1), (2, .int v2), (3, .int (q6.1 ||| q8.1))] dX12_holds_79 rfl rfl (by decide) rfl (rfl : 79 + 3 = 82) ?_
            refine z_goto (pc' := 40) h dX12_holds_82 (by decide) ?_
            refine z_sub (L' := [(0, .ref (za B 147)), (1, .int v1), (2, .int v2), (3, .int (q6.1 ||| q8.1)), (4, .int 0), (5, .int (x5_40 + 1))]) [2, 3, 4, 5, 1, 0] rfl ?_
            exact ih 0 (x5_40 + 1) I40 _ hf hP hE
          · have hf := zitf c13 hf
            refine z_aload_n h 0 dX12_holds_52 rfl (rfl : 52 + 1 = 53) ?_
            refine z_getr (ci := 11) (C := RX12) (T := TX12) (N := 46) h 2 149 ((hJ.1 147 2 (by decide)).trans rfl) rfl rfl (fun _ hq => List.mem_cons_of_mem _ (List.mem_append_right _ hq)) (by decide) (List.mem_of_getElem? (i := 2) rfl) rfl dX12_holds_53 (rfl : 53 + 3 = 56) ?_
            refine z_iload h 5 dX12_holds_56 rfl (rfl : 56 + 2 = 58) ?_
            obtain ⟨b14, hf⟩ := zchk hf
            refine z_zald h rfl b14 dX12_holds_58 (rfl : 58 + 1 = 59) ?_
            refine z_if_eq (pc' := 62) h 72 dX12_holds_59 (by decide) rfl (fun c15 => ?_) (fun c15 => ?_)
            · have hf := zitt c15 hf
              refine z_iconst h 1 dX12_holds_72 (by decide) (rfl : 72 + 1 = 73) ?_
              refine z_goto (pc' := 77) h dX12_holds_73 (by decide) ?_
              refine z_istore h [(4, .int 1), (0, .ref (za B 147)), (1, .int v1), (2, .int v2), (3, .int (q6.1 ||| q8.1)), (5, .int x5_40)] dX12_holds_77 (by decide) rfl (rfl : 77 + 2 = 79) ?_
              refine z_iinc h 5 (x5_40 + 1) [(5, .int (x5_40 + 1)), (4, .int 1), (0, .ref (za B 147)), (1, .int v1), (2, .int v2), (3, .int (q6.1 ||| q8.1))] dX12_holds_79 rfl rfl (by decide) rfl (rfl : 79 + 3 = 82) ?_
              refine z_goto (pc' := 40) h dX12_holds_82 (by decide) ?_
              refine z_sub (L' := [(0, .ref (za B 147)), (1, .int v1), (2, .int v2), (3, .int (q6.1 ||| q8.1)), (4, .int 1), (5, .int (x5_40 + 1))]) [2, 3, 4, 5, 1, 0] rfl ?_
              exact ih 1 (x5_40 + 1) I40 _ hf hP hE
            · have hf := zitf c15 hf
              refine z_iload_n h 3 dX12_holds_62 rfl (rfl : 62 + 1 = 63) ?_
              refine z_iload h 5 dX12_holds_63 rfl (rfl : 63 + 2 = 65) ?_
              refine z_ishr h dX12_holds_65 (rfl : 65 + 1 = 66) ?_
              refine z_iconst h 1 dX12_holds_66 (by decide) (rfl : 66 + 1 = 67) ?_
              refine z_iand h dX12_holds_67 (rfl : 67 + 1 = 68) ?_
              refine z_iconst h 1 dX12_holds_68 (by decide) (rfl : 68 + 1 = 69) ?_
              refine z_icmp_eq (pc' := 72) h 76 dX12_holds_69 (by decide) rfl (fun c16 => ?_) (fun c16 => ?_)
              · have hf := zitt c16 hf
                refine z_iconst h 0 dX12_holds_76 (by decide) (rfl : 76 + 1 = 77) ?_
                refine z_istore h [(4, .int 0), (0, .ref (za B 147)), (1, .int v1), (2, .int v2), (3, .int (q6.1 ||| q8.1)), (5, .int x5_40)] dX12_holds_77 (by decide) rfl (rfl : 77 + 2 = 79) ?_
                refine z_iinc h 5 (x5_40 + 1) [(5, .int (x5_40 + 1)), (4, .int 0), (0, .ref (za B 147)), (1, .int v1), (2, .int v2), (3, .int (q6.1 ||| q8.1))] dX12_holds_79 rfl rfl (by decide) rfl (rfl : 79 + 3 = 82) ?_
                refine z_goto (pc' := 40) h dX12_holds_82 (by decide) ?_
                refine z_sub (L' := [(0, .ref (za B 147)), (1, .int v1), (2, .int v2), (3, .int (q6.1 ||| q8.1)), (4, .int 0), (5, .int (x5_40 + 1))]) [2, 3, 4, 5, 1, 0] rfl ?_
                exact ih 0 (x5_40 + 1) I40 _ hf hP hE
              · have hf := zitf c16 hf
                refine z_iconst h 1 dX12_holds_72 (by decide) (rfl : 72 + 1 = 73) ?_
                refine z_goto (pc' := 77) h dX12_holds_73 (by decide) ?_
                refine z_istore h [(4, .int 1), (0, .ref (za B 147)), (1, .int v1), (2, .int v2), (3, .int (q6.1 ||| q8.1)), (5, .int x5_40)] dX12_holds_77 (by decide) rfl (rfl : 77 + 2 = 79) ?_
                refine z_iinc h 5 (x5_40 + 1) [(5, .int (x5_40 + 1)), (4, .int 1), (0, .ref (za B 147)), (1, .int v1), (2, .int v2), (3, .int (q6.1 ||| q8.1))] dX12_holds_79 rfl rfl (by decide) rfl (rfl : 79 + 3 = 82) ?_
                refine z_goto (pc' := 40) h dX12_holds_82 (by decide) ?_
                refine z_sub (L' := [(0, .ref (za B 147)), (1, .int v1), (2, .int v2), (3, .int (q6.1 ||| q8.1)), (4, .int 1), (5, .int (x5_40 + 1))]) [2, 3, 4, 5, 1, 0] rfl ?_
                exact ih 1 (x5_40 + 1) I40 _ hf hP hE
    refine z_sub (L' := [(0, .ref (za B 147)), (1, .int v1), (2, .int v2), (3, .int (q6.1 ||| q8.1)), (4, .int 1), (5, .int 0)]) [3, 4, 5, 2, 1, 0] rfl ?_
    obtain ⟨q10, e11, hf⟩ := zbind hf
    refine loop_40_11 _ 1 0 q8.2 q10 e11 (fun a ha => ?_) (fun a17 ha  => ?_)
    · have hf := zell ha hf
      exact zsome hf
    have hf := zelr ha hf
    clear ha loop_40_11
    refine z_iload h 4 dX12_holds_85 rfl (rfl : 85 + 2 = 87) ?_
    refine z_if_eq (pc' := 90) h 94 dX12_holds_87 (by decide) rfl (fun c18 => ?_) (fun c18 => ?_)
    · have hf := zitt c18 hf
      refine z_iconst h 0 dX12_holds_94 (by decide) (rfl : 94 + 1 = 95) ?_
      refine z_iret h hr dX12_holds_95 ?_
      exact ⟨congrArg Prod.fst (zsome hf), congrArg Prod.snd (zsome hf), rfl⟩
    · have hf := zitf c18 hf
      refine z_iconst h 1 dX12_holds_90 (by decide) (rfl : 90 + 1 = 91) ?_
      refine z_goto (pc' := 95) h dX12_holds_91 (by decide) ?_
      refine z_iret h hr dX12_holds_95 ?_
      exact ⟨congrArg Prod.fst (zsome hf), congrArg Prod.snd (zsome hf), rfl⟩
  · have hf := zitf c3 hf
    refine z_iconst h (-1) dX12_holds_14 (by decide) (rfl : 14 + 1 = 15) ?_
    refine z_iret h hr dX12_holds_15 ?_
    exact ⟨congrArg Prod.fst (zsome hf), congrArg Prod.snd (zsome hf), rfl⟩
noncomputable def f_X12_judge_45 (J : zJ) (u1 : Int32) (u2 : Int32) (u3 : Int32) : Nat → Int32 → zM → Option ((Int32 × zM) ⊕ (Int32 × zM))
  | 0, _, _ => none
  | n + 1, x4_45, I45 => (if 6 ≤ x4_45 then some (.inr (x4_45, I45)) else (if zin x4_45 6 = true then (if zin x4_45 6 = true then (if I45 170 (Int32.toNatClampNeg x4_45) = I45 175 (Int32.toNatClampNeg x4_45) then f_X12_judge_45 J u1 u2 u3 n (x4_45 + 1) I45 else some (.inl ((x4_45, I45)))) else none) else none))
noncomputable def f_X12_judge (J : zJ) (v1 : Int32) (v2 : Int32) (v3 : Int32) (I : zM) : Option (Int32 × zM) := ((f_X12_noReading J v1 v2 (zu I 147 0 0)).bind fun q1 => (if q1.1 = 0 then ((f_X12_in J (Int32.toInt64 v3) 0 46655 q1.2).bind fun q4 => (if q4.1 = 0 then some (((-2), q4.2)) else ((f_X12_readIt J v1 v2 q4.2).bind fun q7 => ((f_X12_lay J v3 q7).bind fun q9 => ((f_X12_judge_45 J v1 v2 v3 zF 0 q9).bind fun q => Sum.elim (fun a => some a) (fun a13 => some (((-9), a13.2))) q))))) else some (((-1), q1.2))))
noncomputable abbrev rmX12_judge : Room := { frames := 7, cells := 0, slots := 0, locals := 174 }
theorem zyX12_judge : zY yX12_judge wsX12_judge cX12_judge 5 (some .int) 3 := ⟨⟨_, rfl⟩, by decide +kernel⟩
theorem zrX12_judge_X12_in : zRm rmX12_in rmX12_judge 6 := ⟨rfl, rfl, by decide, by decide⟩
theorem zrX12_judge_X12_lay : zRm rmX12_lay rmX12_judge 4 := ⟨rfl, rfl, by decide, by decide⟩
theorem zrX12_judge_X12_noReading : zRm rmX12_noReading rmX12_judge 3 := ⟨rfl, rfl, by decide, by decide⟩
theorem zrX12_judge_X12_readIt : zRm rmX12_readIt rmX12_judge 7 := ⟨rfl, rfl, by decide, by decide⟩
set_option maxHeartbeats 1000000 in
set_option maxRecDepth 100000 in
theorem c_X12_judge (B : zB) (I : zM) (J : zJ) (hJ : zJok J) (v1 : Int32) (v2 : Int32) (v3 : Int32) (r : Int32) (I' : zM) (hf : f_X12_judge J v1 v2 v3 I = some (r, I')) : zCi B zKW I J yX12_judge wsX12_judge rmX12_judge [.ref (za B 147), .int v1, .int v2, .int v3] (fun r2 I2 J2 => r2 = r ∧ I2 = I' ∧ J2 = J) := by
  refine z_start (own := RX12) (cc := cX12_judge) (nL := 5) (ret := (some .int)) rfl (by decide) rfl (Nat.le_of_ble_eq_true rfl) (L := [(0, .ref (za B 147)), (1, .int v1), (2, .int v2), (3, .int v3)]) rfl (fun G h hr => ?_)
  rw [f_X12_judge] at hf
  refine z_aload_n h 0 dX12_judge_0 rfl (rfl : 0 + 1 = 1) ?_
  refine z_iconst h 0 dX12_judge_1 (by decide) (rfl : 1 + 1 = 2) ?_
  refine z_put (ci := 11) (C := RX12) (T := TX12) (N := 46) h 0 tyX12 tyX12_ok nmX12 rfl rfl (fun _ hq => List.mem_cons_of_mem _ (List.mem_append_right _ hq)) (by decide) (List.mem_of_getElem? (i := 1) rfl) rfl rfl rfl dX12_judge_2 (rfl : 2 + 3 = 5) ?_
  refine z_aload_n h 0 dX12_judge_5 rfl (rfl : 5 + 1 = 6) ?_
  refine z_iload_n h 1 dX12_judge_6 rfl (rfl : 6 + 1 = 7) ?_
  refine z_iload_n h 2 dX12_judge_7 rfl (rfl : 7 + 1 = 8) ?_
  obtain ⟨q1, e2, hf⟩ := zbind hf
  refine z_goF (z_runV (C := RX12) (T := TX12) (N := 46) (ci := 11) h [.int v1, .int v2] [] zyX12_noReading (c_X12_noReading B (zu I 147 0 0) J hJ v1 v2 _ _ e2) gX12_judge_X12_noReading rfl rfl rfl zrX12_judge_X12_noReading rfl (Nat.le_of_ble_eq_true rfl) ⟨Nat.zero_le _, Nat.zero_le _⟩ rfl dX12_judge_8) rfl ?_
  refine z_if_eq (pc' := 14) h 16 dX12_judge_11 (by decide) rfl (fun c3 => ?_) (fun c3 => ?_)
  · have hf := zitt c3 hf
    refine z_iload_n h 3 dX12_judge_16 rfl (rfl : 16 + 1 = 17) ?_
    refine z_i2l h dX12_judge_17 (rfl : 17 + 1 = 18) ?_
    refine z_lconst h 0 dX12_judge_18 rfl (rfl : 18 + 1 = 19) ?_
    refine z_ldc2 h 46655 (List.mem_of_getElem? (i := 2) rfl) dX12_judge_19 (rfl : 19 + 3 = 22) ?_
    obtain ⟨q4, e5, hf⟩ := zbind hf
    refine z_goF (z_runS h [.long (Int32.toInt64 v3), .long 0, .long 46655] [] zyX12_in (c_X12_in B q1.2 J hJ (Int32.toInt64 v3) 0 46655 _ _ e5) gX12_judge_X12_in zrX12_judge_X12_in rfl (Nat.le_of_ble_eq_true rfl) ⟨Nat.zero_le _, Nat.zero_le _⟩ rfl dX12_judge_22) rfl ?_
    refine z_if_ne (pc' := 28) h 31 dX12_judge_25 (by decide) rfl (fun c6 => ?_) (fun c6 => ?_)
    · have hf := zitf c6 hf
      refine z_aload_n h 0 dX12_judge_31 rfl (rfl : 31 + 1 = 32) ?_
      refine z_iload_n h 1 dX12_judge_32 rfl (rfl : 32 + 1 = 33) ?_
      refine z_iload_n h 2 dX12_judge_33 rfl (rfl : 33 + 1 = 34) ?_
      obtain ⟨q7, e8, hf⟩ := zbind hf
      refine z_goFv (z_runV (C := RX12) (T := TX12) (N := 46) (ci := 11) h [.int v1, .int v2] [] zyX12_readIt (c_X12_readIt B q4.2 J hJ v1 v2 _ e8) gX12_judge_X12_readIt rfl rfl rfl zrX12_judge_X12_readIt rfl (Nat.le_of_ble_eq_true rfl) ⟨Nat.zero_le _, Nat.zero_le _⟩ rfl dX12_judge_34) rfl ?_
      refine z_aload_n h 0 dX12_judge_37 rfl (rfl : 37 + 1 = 38) ?_
      refine z_iload_n h 3 dX12_judge_38 rfl (rfl : 38 + 1 = 39) ?_
      obtain ⟨q9, e10, hf⟩ := zbind hf
      refine z_goFv (z_runV (C := RX12) (T := TX12) (N := 46) (ci := 11) h [.int v3] [] zyX12_lay (c_X12_lay B q7 J hJ v3 _ e10) gX12_judge_X12_lay rfl rfl rfl zrX12_judge_X12_lay rfl (Nat.le_of_ble_eq_true rfl) ⟨Nat.zero_le _, Nat.zero_le _⟩ rfl dX12_judge_39) rfl ?_
      refine z_iconst h 0 dX12_judge_42 (by decide) (rfl : 42 + 1 = 43) ?_
      refine z_istore h [(4, .int 0), (0, .ref (za B 147)), (1, .int v1), (2, .int v2), (3, .int v3)] dX12_judge_43 (by decide) rfl (rfl : 43 + 2 = 45) ?_
      have loop_45_12 : ∀ (n : Nat) (x4_45 : Int32) (I45 : zM) (q : (Int32 × zM) ⊕ (Int32 × zM)), f_X12_judge_45 J v1 v2 v3 n x4_45 I45 = some q → (∀ a, q = .inl a → a = (r, I')) → (∀ a : Int32 × zM, q = .inr a → Z B G zKW (a.2) (J) (0, 0) 78 [(0, .ref (za B 147)), (1, .int v1), (2, .int v2), (3, .int v3), (4, .int a.1)] []) → Z B G zKW I45 J (0, 0) 45 [(0, .ref (za B 147)), (1, .int v1), (2, .int v2), (3, .int v3), (4, .int x4_45)] [] := by
        intro n; induction n with
        | zero => intro x4_45 I45 q hf; exact absurd hf (by rw [f_X12_judge_45]; exact fun z => by cases z)
        | succ n ih =>
          intro x4_45 I45 q hf hP hE; rw [f_X12_judge_45] at hf
          refine z_iload h 4 dX12_judge_45 rfl (rfl : 45 + 2 = 47) ?_
          refine z_bipush h 6 dX12_judge_47 (by decide) (rfl : 47 + 2 = 49) ?_
          refine z_icmp_ge (pc' := 52) h 78 dX12_judge_49 (by decide) rfl (fun c13 => ?_) (fun c13 => ?_)
          · have hf := zitt c13 hf
            exact hE (x4_45, I45) (zsome hf).symm
          · have hf := zitf c13 hf
            refine z_aload_n h 0 dX12_judge_52 rfl (rfl : 52 + 1 = 53) ?_
            refine z_getr (ci := 11) (C := RX12) (T := TX12) (N := 46) h 34 170 ((hJ.1 147 34 (by decide)).trans rfl) rfl rfl (fun _ hq => List.mem_cons_of_mem _ (List.mem_append_right _ hq)) (by decide) (List.mem_of_getElem? (i := 3) rfl) rfl dX12_judge_53 (rfl : 53 + 3 = 56) ?_
            refine z_iload h 4 dX12_judge_56 rfl (rfl : 56 + 2 = 58) ?_
            obtain ⟨b14, hf⟩ := zchk hf
            refine z_iald h rfl b14 dX12_judge_58 (rfl : 58 + 1 = 59) ?_
            refine z_aload_n h 0 dX12_judge_59 rfl (rfl : 59 + 1 = 60) ?_
            refine z_getr (ci := 11) (C := RX12) (T := TX12) (N := 46) h 43 175 ((hJ.1 147 43 (by decide)).trans rfl) rfl rfl (fun _ hq => List.mem_cons_of_mem _ (List.mem_append_right _ hq)) (by decide) (List.mem_of_getElem? (i := 4) rfl) rfl dX12_judge_60 (rfl : 60 + 3 = 63) ?_
            refine z_iload h 4 dX12_judge_63 rfl (rfl : 63 + 2 = 65) ?_
            obtain ⟨b15, hf⟩ := zchk hf
            refine z_iald h rfl b15 dX12_judge_65 (rfl : 65 + 1 = 66) ?_
            refine z_icmp_eq (pc' := 69) h 72 dX12_judge_66 (by decide) rfl (fun c16 => ?_) (fun c16 => ?_)
            · have hf := zitt c16 hf
              refine z_iinc h 4 (x4_45 + 1) [(4, .int (x4_45 + 1)), (0, .ref (za B 147)), (1, .int v1), (2, .int v2), (3, .int v3)] dX12_judge_72 rfl rfl (by decide) rfl (rfl : 72 + 3 = 75) ?_
              refine z_goto (pc' := 45) h dX12_judge_75 (by decide) ?_
              refine z_sub (L' := [(0, .ref (za B 147)), (1, .int v1), (2, .int v2), (3, .int v3), (4, .int (x4_45 + 1))]) [1, 2, 3, 4, 0] rfl ?_
              exact ih (x4_45 + 1) I45 _ hf hP hE
            · have hf := zitf c16 hf
              refine z_iload h 4 dX12_judge_69 rfl (rfl : 69 + 2 = 71) ?_
              refine z_iret h hr dX12_judge_71 ?_
              exact ⟨congrArg Prod.fst (hP _ (zsome hf).symm), congrArg Prod.snd (hP _ (zsome hf).symm), rfl⟩
      refine z_sub (L' := [(0, .ref (za B 147)), (1, .int v1), (2, .int v2), (3, .int v3), (4, .int 0)]) [1, 2, 3, 4, 0] rfl ?_
      obtain ⟨q11, e12, hf⟩ := zbind hf
      refine loop_45_12 _ 0 q9 q11 e12 (fun a ha => ?_) (fun a17 ha  => ?_)
      · have hf := zell ha hf
        exact zsome hf
      have hf := zelr ha hf
      clear ha loop_45_12
      refine z_bipush h (-9) dX12_judge_78 (by decide) (rfl : 78 + 2 = 80) ?_
      refine z_iret h hr dX12_judge_80 ?_
      exact ⟨congrArg Prod.fst (zsome hf), congrArg Prod.snd (zsome hf), rfl⟩
    · have hf := zitt c6 hf
      refine z_bipush h (-2) dX12_judge_28 (by decide) (rfl : 28 + 2 = 30) ?_
      refine z_iret h hr dX12_judge_30 ?_
      exact ⟨congrArg Prod.fst (zsome hf), congrArg Prod.snd (zsome hf), rfl⟩
  · have hf := zitf c3 hf
    refine z_iconst h (-1) dX12_judge_14 (by decide) (rfl : 14 + 1 = 15) ?_
    refine z_iret h hr dX12_judge_15 ?_
    exact ⟨congrArg Prod.fst (zsome hf), congrArg Prod.snd (zsome hf), rfl⟩
noncomputable def f_X12_put_2 (J : zJ)  : Nat → Int32 → zM → Option ((zM) ⊕ (Int32 × zM))
  | 0, _, _ => none
  | n + 1, x1_2, I2 => (if 6 ≤ x1_2 then some (.inr (x1_2, I2)) else (if zin x1_2 6 = true then (if zin x1_2 6 = true then f_X12_put_2 J  n (x1_2 + 1) (zu I2 176 (Int32.toNatClampNeg x1_2) (I2 175 (Int32.toNatClampNeg x1_2))) else none) else none))
noncomputable def f_X12_put (J : zJ)  (I : zM) : Option (zM) := ((f_X12_put_2 J  zF 0 I).bind fun q => Sum.elim (fun a => some a) (fun a3 => some (a3.2)) q)
noncomputable abbrev rmX12_put : Room := { frames := 0, cells := 0, slots := 0, locals := 0 }
theorem zyX12_put : zY yX12_put wsX12_put cX12_put 2 none 0 := ⟨⟨_, rfl⟩, by decide +kernel⟩
set_option maxHeartbeats 1000000 in
set_option maxRecDepth 100000 in
theorem c_X12_put (B : zB) (I : zM) (J : zJ) (hJ : zJok J)  (I' : zM) (hf : f_X12_put J  I = some I') : zCv B zKW I J yX12_put wsX12_put rmX12_put [.ref (za B 147)] (fun I2 J2 => I2 = I' ∧ J2 = J) := by
  refine z_start (own := RX12) (cc := cX12_put) (nL := 2) (ret := none) rfl (by decide) rfl (Nat.le_of_ble_eq_true rfl) (L := [(0, .ref (za B 147))]) rfl (fun G h hr => ?_)
  rw [f_X12_put] at hf
  refine z_iconst h 0 dX12_put_0 (by decide) (rfl : 0 + 1 = 1) ?_
  refine z_istore_n h [(1, .int 0), (0, .ref (za B 147))] dX12_put_1 (by decide) rfl (rfl : 1 + 1 = 2) ?_
  have loop_2_2 : ∀ (n : Nat) (x1_2 : Int32) (I2 : zM) (q : (zM) ⊕ (Int32 × zM)), f_X12_put_2 J  n x1_2 I2 = some q → (∀ a, q = .inl a → a = I') → (∀ a : Int32 × zM, q = .inr a → Z B G zKW (a.2) (J) (0, 0) 26 [(0, .ref (za B 147)), (1, .int a.1)] []) → Z B G zKW I2 J (0, 0) 2 [(0, .ref (za B 147)), (1, .int x1_2)] [] := by
    intro n; induction n with
    | zero => intro x1_2 I2 q hf; exact absurd hf (by rw [f_X12_put_2]; exact fun z => by cases z)
    | succ n ih =>
      intro x1_2 I2 q hf hP hE; rw [f_X12_put_2] at hf
      refine z_iload_n h 1 dX12_put_2 rfl (rfl : 2 + 1 = 3) ?_
      refine z_bipush h 6 dX12_put_3 (by decide) (rfl : 3 + 2 = 5) ?_
      refine z_icmp_ge (pc' := 8) h 26 dX12_put_5 (by decide) rfl (fun c3 => ?_) (fun c3 => ?_)
      · have hf := zitt c3 hf
        exact hE (x1_2, I2) (zsome hf).symm
      · have hf := zitf c3 hf
        refine z_aload_n h 0 dX12_put_8 rfl (rfl : 8 + 1 = 9) ?_
        refine z_getr (ci := 11) (C := RX12) (T := TX12) (N := 46) h 44 176 ((hJ.1 147 44 (by decide)).trans rfl) rfl rfl (fun _ hq => List.mem_cons_of_mem _ (List.mem_append_right _ hq)) (by decide) (List.mem_of_getElem? (i := 1) rfl) rfl dX12_put_9 (rfl : 9 + 3 = 12) ?_
        refine z_iload_n h 1 dX12_put_12 rfl (rfl : 12 + 1 = 13) ?_
        refine z_aload_n h 0 dX12_put_13 rfl (rfl : 13 + 1 = 14) ?_
        refine z_getr (ci := 11) (C := RX12) (T := TX12) (N := 46) h 43 175 ((hJ.1 147 43 (by decide)).trans rfl) rfl rfl (fun _ hq => List.mem_cons_of_mem _ (List.mem_append_right _ hq)) (by decide) (List.mem_of_getElem? (i := 2) rfl) rfl dX12_put_14 (rfl : 14 + 3 = 17) ?_
        refine z_iload_n h 1 dX12_put_17 rfl (rfl : 17 + 1 = 18) ?_
        obtain ⟨b4, hf⟩ := zchk hf
        refine z_iald h rfl b4 dX12_put_18 (rfl : 18 + 1 = 19) ?_
        obtain ⟨b5, hf⟩ := zchk hf
        refine z_iast h b5 rfl dX12_put_19 (rfl : 19 + 1 = 20) ?_
        refine z_iinc h 1 (x1_2 + 1) [(1, .int (x1_2 + 1)), (0, .ref (za B 147))] dX12_put_20 rfl rfl (by decide) rfl (rfl : 20 + 3 = 23) ?_
        refine z_goto (pc' := 2) h dX12_put_23 (by decide) ?_
        refine z_sub (L' := [(0, .ref (za B 147)), (1, .int (x1_2 + 1))]) [1, 0] rfl ?_
        exact ih (x1_2 + 1) (zu I2 176 (Int32.toNatClampNeg x1_2) (I2 175 (Int32.toNatClampNeg x1_2))) _ hf hP hE
  refine z_sub (L' := [(0, .ref (za B 147)), (1, .int 0)]) [1, 0] rfl ?_
  obtain ⟨q1, e2, hf⟩ := zbind hf
  refine loop_2_2 _ 0 I q1 e2 (fun a ha => ?_) (fun a6 ha  => ?_)
  · have hf := zell ha hf
    exact zsome hf
  have hf := zelr ha hf
  clear ha loop_2_2
  refine z_vret h hr dX12_put_26 ?_
  exact ⟨(zsome hf), rfl⟩
noncomputable def f_X12_unlike_4 (J : zJ)  : Nat → Int32 → Int32 → zM → Option ((Int32 × zM) ⊕ (Int32 × Int32 × zM))
  | 0, _, _, _ => none
  | n + 1, x1_4, x2_4, I4 => (if 6 ≤ x2_4 then some (.inr (x1_4, x2_4, I4)) else (if zin x2_4 6 = true then (if zin x2_4 6 = true then (if I4 175 (Int32.toNatClampNeg x2_4) = I4 176 (Int32.toNatClampNeg x2_4) then f_X12_unlike_4 J  n (x1_4 ||| (0 : Int32)) (x2_4 + 1) I4 else f_X12_unlike_4 J  n (x1_4 ||| ((1 : Int32) <<< (x2_4 &&& 31))) (x2_4 + 1) I4) else none) else none))
noncomputable def f_X12_unlike (J : zJ)  (I : zM) : Option (Int32 × zM) := ((f_X12_unlike_4 J  zF 0 0 I).bind fun q => Sum.elim (fun a => some a) (fun a3 => some ((a3.1, a3.2.2))) q)
noncomputable abbrev rmX12_unlike : Room := { frames := 0, cells := 0, slots := 0, locals := 0 }
theorem zyX12_unlike : zY yX12_unlike wsX12_unlike cX12_unlike 3 (some .int) 0 := ⟨⟨_, rfl⟩, by decide +kernel⟩
set_option maxHeartbeats 1000000 in
set_option maxRecDepth 100000 in
theorem c_X12_unlike (B : zB) (I : zM) (J : zJ) (hJ : zJok J)  (r : Int32) (I' : zM) (hf : f_X12_unlike J  I = some (r, I')) : zCi B zKW I J yX12_unlike wsX12_unlike rmX12_unlike [.ref (za B 147)] (fun r2 I2 J2 => r2 = r ∧ I2 = I' ∧ J2 = J) := by
  refine z_start (own := RX12) (cc := cX12_unlike) (nL := 3) (ret := (some .int)) rfl (by decide) rfl (Nat.le_of_ble_eq_true rfl) (L := [(0, .ref (za B 147))]) rfl (fun G h hr => ?_)
  rw [f_X12_unlike] at hf
  refine z_iconst h 0 dX12_unlike_0 (by decide) (rfl : 0 + 1 = 1) ?_
  refine z_istore_n h [(1, .int 0), (0, .ref (za B 147))] dX12_unlike_1 (by decide) rfl (rfl : 1 + 1 = 2) ?_
  refine z_iconst h 0 dX12_unlike_2 (by decide) (rfl : 2 + 1 = 3) ?_
  refine z_istore_n h [(2, .int 0), (1, .int 0), (0, .ref (za B 147))] dX12_unlike_3 (by decide) rfl (rfl : 3 + 1 = 4) ?_
  have loop_4_2 : ∀ (n : Nat) (x1_4 : Int32) (x2_4 : Int32) (I4 : zM) (q : (Int32 × zM) ⊕ (Int32 × Int32 × zM)), f_X12_unlike_4 J  n x1_4 x2_4 I4 = some q → (∀ a, q = .inl a → a = (r, I')) → (∀ a : Int32 × Int32 × zM, q = .inr a → Z B G zKW (a.2.2) (J) (0, 0) 41 [(0, .ref (za B 147)), (1, .int a.1), (2, .int a.2.1)] []) → Z B G zKW I4 J (0, 0) 4 [(0, .ref (za B 147)), (1, .int x1_4), (2, .int x2_4)] [] := by
    intro n; induction n with
    | zero => intro x1_4 x2_4 I4 q hf; exact absurd hf (by rw [f_X12_unlike_4]; exact fun z => by cases z)
    | succ n ih =>
      intro x1_4 x2_4 I4 q hf hP hE; rw [f_X12_unlike_4] at hf
      refine z_iload_n h 2 dX12_unlike_4 rfl (rfl : 4 + 1 = 5) ?_
      refine z_bipush h 6 dX12_unlike_5 (by decide) (rfl : 5 + 2 = 7) ?_
      refine z_icmp_ge (pc' := 10) h 41 dX12_unlike_7 (by decide) rfl (fun c3 => ?_) (fun c3 => ?_)
      · have hf := zitt c3 hf
        exact hE (x1_4, x2_4, I4) (zsome hf).symm
      · have hf := zitf c3 hf
        refine z_iload_n h 1 dX12_unlike_10 rfl (rfl : 10 + 1 = 11) ?_
        refine z_aload_n h 0 dX12_unlike_11 rfl (rfl : 11 + 1 = 12) ?_
        refine z_getr (ci := 11) (C := RX12) (T := TX12) (N := 46) h 43 175 ((hJ.1 147 43 (by decide)).trans rfl) rfl rfl (fun _ hq => List.mem_cons_of_mem _ (List.mem_append_right _ hq)) (by decide) (List.mem_of_getElem? (i := 1) rfl) rfl dX12_unlike_12 (rfl : 12 + 3 = 15) ?_
        refine z_iload_n h 2 dX12_unlike_15 rfl (rfl : 15 + 1 = 16) ?_
        obtain ⟨b4, hf⟩ := zchk hf
        refine z_iald h rfl b4 dX12_unlike_16 (rfl : 16 + 1 = 17) ?_
        refine z_aload_n h 0 dX12_unlike_17 rfl (rfl : 17 + 1 = 18) ?_
        refine z_getr (ci := 11) (C := RX12) (T := TX12) (N := 46) h 44 176 ((hJ.1 147 44 (by decide)).trans rfl) rfl rfl (fun _ hq => List.mem_cons_of_mem _ (List.mem_append_right _ hq)) (by decide) (List.mem_of_getElem? (i := 2) rfl) rfl dX12_unlike_18 (rfl : 18 + 3 = 21) ?_
        refine z_iload_n h 2 dX12_unlike_21 rfl (rfl : 21 + 1 = 22) ?_
        obtain ⟨b5, hf⟩ := zchk hf
        refine z_iald h rfl b5 dX12_unlike_22 (rfl : 22 + 1 = 23) ?_
        refine z_icmp_ne (pc' := 26) h 30 dX12_unlike_23 (by decide) rfl (fun c6 => ?_) (fun c6 => ?_)
        · have hf := zitf c6 hf
          refine z_iconst h 1 dX12_unlike_30 (by decide) (rfl : 30 + 1 = 31) ?_
          refine z_iload_n h 2 dX12_unlike_31 rfl (rfl : 31 + 1 = 32) ?_
          refine z_ishl h dX12_unlike_32 (rfl : 32 + 1 = 33) ?_
          refine z_ior h dX12_unlike_33 (rfl : 33 + 1 = 34) ?_
          refine z_istore_n h [(1, .int (x1_4 ||| ((1 : Int32) <<< (x2_4 &&& 31)))), (0, .ref (za B 147)), (2, .int x2_4)] dX12_unlike_34 (by decide) rfl (rfl : 34 + 1 = 35) ?_
          refine z_iinc h 2 (x2_4 + 1) [(2, .int (x2_4 + 1)), (1, .int (x1_4 ||| ((1 : Int32) <<< (x2_4 &&& 31)))), (0, .ref (za B 147))] dX12_unlike_35 rfl rfl (by decide) rfl (rfl : 35 + 3 = 38) ?_
          refine z_goto (pc' := 4) h dX12_unlike_38 (by decide) ?_
          refine z_sub (L' := [(0, .ref (za B 147)), (1, .int (x1_4 ||| ((1 : Int32) <<< (x2_4 &&& 31)))), (2, .int (x2_4 + 1))]) [2, 1, 0] rfl ?_
          exact ih (x1_4 ||| ((1 : Int32) <<< (x2_4 &&& 31))) (x2_4 + 1) I4 _ hf hP hE
        · have hf := zitt c6 hf
          refine z_iconst h 0 dX12_unlike_26 (by decide) (rfl : 26 + 1 = 27) ?_
          refine z_goto (pc' := 33) h dX12_unlike_27 (by decide) ?_
          refine z_ior h dX12_unlike_33 (rfl : 33 + 1 = 34) ?_
          refine z_istore_n h [(1, .int (x1_4 ||| (0 : Int32))), (0, .ref (za B 147)), (2, .int x2_4)] dX12_unlike_34 (by decide) rfl (rfl : 34 + 1 = 35) ?_
          refine z_iinc h 2 (x2_4 + 1) [(2, .int (x2_4 + 1)), (1, .int (x1_4 ||| (0 : Int32))), (0, .ref (za B 147))] dX12_unlike_35 rfl rfl (by decide) rfl (rfl : 35 + 3 = 38) ?_
          refine z_goto (pc' := 4) h dX12_unlike_38 (by decide) ?_
          refine z_sub (L' := [(0, .ref (za B 147)), (1, .int (x1_4 ||| (0 : Int32))), (2, .int (x2_4 + 1))]) [2, 1, 0] rfl ?_
          exact ih (x1_4 ||| (0 : Int32)) (x2_4 + 1) I4 _ hf hP hE
  refine z_sub (L' := [(0, .ref (za B 147)), (1, .int 0), (2, .int 0)]) [2, 1, 0] rfl ?_
  obtain ⟨q1, e2, hf⟩ := zbind hf
  refine loop_4_2 _ 0 0 I q1 e2 (fun a ha => ?_) (fun a7 ha  => ?_)
  · have hf := zell ha hf
    exact zsome hf
  have hf := zelr ha hf
  clear ha loop_4_2
  refine z_iload_n h 1 dX12_unlike_41 rfl (rfl : 41 + 1 = 42) ?_
  refine z_iret h hr dX12_unlike_42 ?_
  exact ⟨congrArg Prod.fst (zsome hf), congrArg Prod.snd (zsome hf), rfl⟩
noncomputable def f_X12_bits_4 (J : zJ) (u0 : Int32) : Nat → Int32 → Int32 → zM → Option ((Int32 × zM) ⊕ (Int32 × Int32 × zM))
  | 0, _, _, _ => none
  | n + 1, x1_4, x2_4, I4 => (if 6 ≤ x2_4 then some (.inr (x1_4, x2_4, I4)) else f_X12_bits_4 J u0 n (x1_4 + ((u0 >>> (x2_4 &&& 31)) &&& (1 : Int32))) (x2_4 + 1) I4)
noncomputable def f_X12_bits (J : zJ) (v0 : Int32) (I : zM) : Option (Int32 × zM) := ((f_X12_bits_4 J v0 zF 0 0 I).bind fun q => Sum.elim (fun a => some a) (fun a3 => some ((a3.1, a3.2.2))) q)
noncomputable abbrev rmX12_bits : Room := { frames := 0, cells := 0, slots := 0, locals := 0 }
theorem zyX12_bits : zY yX12_bits wsX12_bits cX12_bits 3 (some .int) 1 := ⟨⟨_, rfl⟩, by decide +kernel⟩
set_option maxHeartbeats 1000000 in
set_option maxRecDepth 100000 in
theorem c_X12_bits (B : zB) (I : zM) (J : zJ) (hJ : zJok J) (v0 : Int32) (r : Int32) (I' : zM) (hf : f_X12_bits J v0 I = some (r, I')) : zCi B zKW I J yX12_bits wsX12_bits rmX12_bits [.int v0] (fun r2 I2 J2 => r2 = r ∧ I2 = I' ∧ J2 = J) := by
  refine z_start (own := RX12) (cc := cX12_bits) (nL := 3) (ret := (some .int)) rfl (by decide) rfl (Nat.le_of_ble_eq_true rfl) (L := [(0, .int v0)]) rfl (fun G h hr => ?_)
  rw [f_X12_bits] at hf
  refine z_iconst h 0 dX12_bits_0 (by decide) (rfl : 0 + 1 = 1) ?_
  refine z_istore_n h [(1, .int 0), (0, .int v0)] dX12_bits_1 (by decide) rfl (rfl : 1 + 1 = 2) ?_
  refine z_iconst h 0 dX12_bits_2 (by decide) (rfl : 2 + 1 = 3) ?_
  refine z_istore_n h [(2, .int 0), (1, .int 0), (0, .int v0)] dX12_bits_3 (by decide) rfl (rfl : 3 + 1 = 4) ?_
  have loop_4_2 : ∀ (n : Nat) (x1_4 : Int32) (x2_4 : Int32) (I4 : zM) (q : (Int32 × zM) ⊕ (Int32 × Int32 × zM)), f_X12_bits_4 J v0 n x1_4 x2_4 I4 = some q → (∀ a, q = .inl a → a = (r, I')) → (∀ a : Int32 × Int32 × zM, q = .inr a → Z B G zKW (a.2.2) (J) (0, 0) 24 [(0, .int v0), (1, .int a.1), (2, .int a.2.1)] []) → Z B G zKW I4 J (0, 0) 4 [(0, .int v0), (1, .int x1_4), (2, .int x2_4)] [] := by
    intro n; induction n with
    | zero => intro x1_4 x2_4 I4 q hf; exact absurd hf (by rw [f_X12_bits_4]; exact fun z => by cases z)
    | succ n ih =>
      intro x1_4 x2_4 I4 q hf hP hE; rw [f_X12_bits_4] at hf
      refine z_iload_n h 2 dX12_bits_4 rfl (rfl : 4 + 1 = 5) ?_
      refine z_bipush h 6 dX12_bits_5 (by decide) (rfl : 5 + 2 = 7) ?_
      refine z_icmp_ge (pc' := 10) h 24 dX12_bits_7 (by decide) rfl (fun c3 => ?_) (fun c3 => ?_)
      · have hf := zitt c3 hf
        exact hE (x1_4, x2_4, I4) (zsome hf).symm
      · have hf := zitf c3 hf
        refine z_iload_n h 1 dX12_bits_10 rfl (rfl : 10 + 1 = 11) ?_
        refine z_iload_n h 0 dX12_bits_11 rfl (rfl : 11 + 1 = 12) ?_
        refine z_iload_n h 2 dX12_bits_12 rfl (rfl : 12 + 1 = 13) ?_
        refine z_ishr h dX12_bits_13 (rfl : 13 + 1 = 14) ?_
        refine z_iconst h 1 dX12_bits_14 (by decide) (rfl : 14 + 1 = 15) ?_
        refine z_iand h dX12_bits_15 (rfl : 15 + 1 = 16) ?_
        refine z_iadd h dX12_bits_16 (rfl : 16 + 1 = 17) ?_
        refine z_istore_n h [(1, .int (x1_4 + ((v0 >>> (x2_4 &&& 31)) &&& (1 : Int32)))), (0, .int v0), (2, .int x2_4)] dX12_bits_17 (by decide) rfl (rfl : 17 + 1 = 18) ?_
        refine z_iinc h 2 (x2_4 + 1) [(2, .int (x2_4 + 1)), (1, .int (x1_4 + ((v0 >>> (x2_4 &&& 31)) &&& (1 : Int32)))), (0, .int v0)] dX12_bits_18 rfl rfl (by decide) rfl (rfl : 18 + 3 = 21) ?_
        refine z_goto (pc' := 4) h dX12_bits_21 (by decide) ?_
        refine z_sub (L' := [(0, .int v0), (1, .int (x1_4 + ((v0 >>> (x2_4 &&& 31)) &&& (1 : Int32)))), (2, .int (x2_4 + 1))]) [2, 1, 0] rfl ?_
        exact ih (x1_4 + ((v0 >>> (x2_4 &&& 31)) &&& (1 : Int32))) (x2_4 + 1) I4 _ hf hP hE
  refine z_sub (L' := [(0, .int v0), (1, .int 0), (2, .int 0)]) [2, 1, 0] rfl ?_
  obtain ⟨q1, e2, hf⟩ := zbind hf
  refine loop_4_2 _ 0 0 I q1 e2 (fun a ha => ?_) (fun a4 ha  => ?_)
  · have hf := zell ha hf
    exact zsome hf
  have hf := zelr ha hf
  clear ha loop_4_2
  refine z_iload_n h 1 dX12_bits_24 rfl (rfl : 24 + 1 = 25) ?_
  refine z_iret h hr dX12_bits_25 ?_
  exact ⟨congrArg Prod.fst (zsome hf), congrArg Prod.snd (zsome hf), rfl⟩
noncomputable def f_X12_differ (J : zJ) (v1 : Int32) (v2 : Int32) (v3 : Int32) (I : zM) : Option (Int32 × zM) := ((f_X12_noReading J v1 v2 (zu I 147 0 0)).bind fun q1 => (if q1.1 = 0 then ((f_X12_noOrder J v3 q1.2).bind fun q4 => (if q4.1 = 0 then ((f_X12_readIt J v1 v2 q4.2).bind fun q7 => ((f_X12_put J  q7).bind fun q9 => ((f_X12_readIt J v1 v3 q9).bind fun q11 => ((f_X12_unlike J  q11).bind fun q13 => some ((q13.1, q13.2)))))) else some (((-1), q4.2)))) else some (((-1), q1.2))))
noncomputable abbrev rmX12_differ : Room := { frames := 7, cells := 0, slots := 0, locals := 174 }
theorem zyX12_differ : zY yX12_differ wsX12_differ cX12_differ 4 (some .int) 3 := ⟨⟨_, rfl⟩, by decide +kernel⟩
theorem zrX12_differ_X12_noOrder : zRm rmX12_noOrder rmX12_differ 1 := ⟨rfl, rfl, by decide, by decide⟩
theorem zrX12_differ_X12_noReading : zRm rmX12_noReading rmX12_differ 3 := ⟨rfl, rfl, by decide, by decide⟩
theorem zrX12_differ_X12_put : zRm rmX12_put rmX12_differ 2 := ⟨rfl, rfl, by decide, by decide⟩
theorem zrX12_differ_X12_readIt : zRm rmX12_readIt rmX12_differ 7 := ⟨rfl, rfl, by decide, by decide⟩
theorem zrX12_differ_X12_unlike : zRm rmX12_unlike rmX12_differ 3 := ⟨rfl, rfl, by decide, by decide⟩
set_option maxHeartbeats 1000000 in
set_option maxRecDepth 100000 in
theorem c_X12_differ (B : zB) (I : zM) (J : zJ) (hJ : zJok J) (v1 : Int32) (v2 : Int32) (v3 : Int32) (r : Int32) (I' : zM) (hf : f_X12_differ J v1 v2 v3 I = some (r, I')) : zCi B zKW I J yX12_differ wsX12_differ rmX12_differ [.ref (za B 147), .int v1, .int v2, .int v3] (fun r2 I2 J2 => r2 = r ∧ I2 = I' ∧ J2 = J) := by
  refine z_start (own := RX12) (cc := cX12_differ) (nL := 4) (ret := (some .int)) rfl (by decide) rfl (Nat.le_of_ble_eq_true rfl) (L := [(0, .ref (za B 147)), (1, .int v1), (2, .int v2), (3, .int v3)]) rfl (fun G h hr => ?_)
  rw [f_X12_differ] at hf
  refine z_aload_n h 0 dX12_differ_0 rfl (rfl : 0 + 1 = 1) ?_
  refine z_iconst h 0 dX12_differ_1 (by decide) (rfl : 1 + 1 = 2) ?_
  refine z_put (ci := 11) (C := RX12) (T := TX12) (N := 46) h 0 tyX12 tyX12_ok nmX12 rfl rfl (fun _ hq => List.mem_cons_of_mem _ (List.mem_append_right _ hq)) (by decide) (List.mem_of_getElem? (i := 1) rfl) rfl rfl rfl dX12_differ_2 (rfl : 2 + 3 = 5) ?_
  refine z_aload_n h 0 dX12_differ_5 rfl (rfl : 5 + 1 = 6) ?_
  refine z_iload_n h 1 dX12_differ_6 rfl (rfl : 6 + 1 = 7) ?_
  refine z_iload_n h 2 dX12_differ_7 rfl (rfl : 7 + 1 = 8) ?_
  obtain ⟨q1, e2, hf⟩ := zbind hf
  refine z_goF (z_runV (C := RX12) (T := TX12) (N := 46) (ci := 11) h [.int v1, .int v2] [] zyX12_noReading (c_X12_noReading B (zu I 147 0 0) J hJ v1 v2 _ _ e2) gX12_differ_X12_noReading rfl rfl rfl zrX12_differ_X12_noReading rfl (Nat.le_of_ble_eq_true rfl) ⟨Nat.zero_le _, Nat.zero_le _⟩ rfl dX12_differ_8) rfl ?_
  refine z_if_ne (pc' := 14) h 21 dX12_differ_11 (by decide) rfl (fun c3 => ?_) (fun c3 => ?_)
  · have hf := zitf c3 hf
    refine z_iconst h (-1) dX12_differ_21 (by decide) (rfl : 21 + 1 = 22) ?_
    refine z_iret h hr dX12_differ_22 ?_
    exact ⟨congrArg Prod.fst (zsome hf), congrArg Prod.snd (zsome hf), rfl⟩
  · have hf := zitt c3 hf
    refine z_iload_n h 3 dX12_differ_14 rfl (rfl : 14 + 1 = 15) ?_
    obtain ⟨q4, e5, hf⟩ := zbind hf
    refine z_goF (z_runS h [.int v3] [] zyX12_noOrder (c_X12_noOrder B q1.2 J hJ v3 _ _ e5) gX12_differ_X12_noOrder zrX12_differ_X12_noOrder rfl (Nat.le_of_ble_eq_true rfl) ⟨Nat.zero_le _, Nat.zero_le _⟩ rfl dX12_differ_15) rfl ?_
    refine z_if_eq (pc' := 21) h 23 dX12_differ_18 (by decide) rfl (fun c6 => ?_) (fun c6 => ?_)
    · have hf := zitt c6 hf
      refine z_aload_n h 0 dX12_differ_23 rfl (rfl : 23 + 1 = 24) ?_
      refine z_iload_n h 1 dX12_differ_24 rfl (rfl : 24 + 1 = 25) ?_
      refine z_iload_n h 2 dX12_differ_25 rfl (rfl : 25 + 1 = 26) ?_
      obtain ⟨q7, e8, hf⟩ := zbind hf
      refine z_goFv (z_runV (C := RX12) (T := TX12) (N := 46) (ci := 11) h [.int v1, .int v2] [] zyX12_readIt (c_X12_readIt B q4.2 J hJ v1 v2 _ e8) gX12_differ_X12_readIt rfl rfl rfl zrX12_differ_X12_readIt rfl (Nat.le_of_ble_eq_true rfl) ⟨Nat.zero_le _, Nat.zero_le _⟩ rfl dX12_differ_26) rfl ?_
      refine z_aload_n h 0 dX12_differ_29 rfl (rfl : 29 + 1 = 30) ?_
      obtain ⟨q9, e10, hf⟩ := zbind hf
      refine z_goFv (z_runV (C := RX12) (T := TX12) (N := 46) (ci := 11) h [] [] zyX12_put (c_X12_put B q7 J hJ  _ e10) gX12_differ_X12_put rfl rfl rfl zrX12_differ_X12_put rfl (Nat.le_of_ble_eq_true rfl) ⟨Nat.zero_le _, Nat.zero_le _⟩ rfl dX12_differ_30) rfl ?_
      refine z_aload_n h 0 dX12_differ_33 rfl (rfl : 33 + 1 = 34) ?_
      refine z_iload_n h 1 dX12_differ_34 rfl (rfl : 34 + 1 = 35) ?_
      refine z_iload_n h 3 dX12_differ_35 rfl (rfl : 35 + 1 = 36) ?_
      obtain ⟨q11, e12, hf⟩ := zbind hf
      refine z_goFv (z_runV (C := RX12) (T := TX12) (N := 46) (ci := 11) h [.int v1, .int v3] [] zyX12_readIt (c_X12_readIt B q9 J hJ v1 v3 _ e12) gX12_differ_X12_readIt rfl rfl rfl zrX12_differ_X12_readIt rfl (Nat.le_of_ble_eq_true rfl) ⟨Nat.zero_le _, Nat.zero_le _⟩ rfl dX12_differ_36) rfl ?_
      refine z_aload_n h 0 dX12_differ_39 rfl (rfl : 39 + 1 = 40) ?_
      obtain ⟨q13, e14, hf⟩ := zbind hf
      refine z_goF (z_runV (C := RX12) (T := TX12) (N := 46) (ci := 11) h [] [] zyX12_unlike (c_X12_unlike B q11 J hJ  _ _ e14) gX12_differ_X12_unlike rfl rfl rfl zrX12_differ_X12_unlike rfl (Nat.le_of_ble_eq_true rfl) ⟨Nat.zero_le _, Nat.zero_le _⟩ rfl dX12_differ_40) rfl ?_
      refine z_iret h hr dX12_differ_43 ?_
      exact ⟨congrArg Prod.fst (zsome hf), congrArg Prod.snd (zsome hf), rfl⟩
    · have hf := zitf c6 hf
      refine z_iconst h (-1) dX12_differ_21 (by decide) (rfl : 21 + 1 = 22) ?_
      refine z_iret h hr dX12_differ_22 ?_
      exact ⟨congrArg Prod.fst (zsome hf), congrArg Prod.snd (zsome hf), rfl⟩
noncomputable def f_X12_findStep_47 (J : zJ) (u1 : Int32) (u2 : Int32) (u3 : Int32) (u4 : Int32) (u5 : Int32) : Nat → Int32 → zM → Option ((Int32 × zM) ⊕ (Int32 × zM))
  | 0, _, _ => none
  | n + 1, x6_47, I47 => (if zin u2 5 = true then (if I47 158 (Int32.toNatClampNeg u2) ≤ x6_47 then some (.inr (x6_47, I47)) else (if x6_47 = u5 then (if zin (((5 : Int32) * u2) + (u5 + (1 : Int32))) 25 = true then (if zin ((20 : Int32) + x6_47) 25 = true then f_X12_findStep_47 J u1 u2 u3 u4 u5 n (x6_47 + 1) (zu I47 157 (Int32.toNatClampNeg ((20 : Int32) + x6_47)) (I47 157 (Int32.toNatClampNeg (((5 : Int32) * u2) + (u5 + (1 : Int32)))))) else none) else none) else (if x6_47 = u5 + (1 : Int32) then (if zin (((5 : Int32) * u2) + u5) 25 = true then (if zin ((20 : Int32) + x6_47) 25 = true then f_X12_findStep_47 J u1 u2 u3 u4 u5 n (x6_47 + 1) (zu I47 157 (Int32.toNatClampNeg ((20 : Int32) + x6_47)) (I47 157 (Int32.toNatClampNeg (((5 : Int32) * u2) + u5)))) else none) else none) else (if zin (((5 : Int32) * u2) + x6_47) 25 = true then (if zin ((20 : Int32) + x6_47) 25 = true then f_X12_findStep_47 J u1 u2 u3 u4 u5 n (x6_47 + 1) (zu I47 157 (Int32.toNatClampNeg ((20 : Int32) + x6_47)) (I47 157 (Int32.toNatClampNeg (((5 : Int32) * u2) + x6_47)))) else none) else none)))) else none)
noncomputable def f_X12_findStep_31 (J : zJ) (u1 : Int32) (u2 : Int32) : Nat → Int32 → Int32 → Int32 → zM → Option ((Int32 × zM) ⊕ (Int32 × Int32 × Int32 × zM))
  | 0, _, _, _, _ => none
  | n + 1, x3_31, x4_31, x5_31, I31 => (if zin u2 5 = true then (if I31 158 (Int32.toNatClampNeg u2) ≤ x5_31 + (1 : Int32) then some (.inr (x3_31, x4_31, x5_31, I31)) else ((f_X12_findStep_47 J u1 u2 x3_31 x4_31 x5_31 zF 0 I31).bind fun q => Sum.elim (fun a => some (.inl a)) (fun a10 => ((f_X12_readIt J u1 4 a10.2).bind fun q11 => ((f_X12_unlike J  q11).bind fun q13 => ((f_X12_bits J q13.1 q13.2).bind fun q15 => (if q15.1 ≤ x4_31 then f_X12_findStep_31 J u1 u2 n x3_31 x4_31 (x5_31 + 1) q15.2 else f_X12_findStep_31 J u1 u2 n (((10 : Int32) * x5_31) + q15.1) q15.1 (x5_31 + 1) q15.2))))) q)) else none)
noncomputable def f_X12_findStep (J : zJ) (v1 : Int32) (v2 : Int32) (I : zM) : Option (Int32 × zM) := ((f_X12_readIt J v1 v2 I).bind fun q1 => ((f_X12_put J  q1).bind fun q3 => (if zin v2 5 = true then ((f_X12_findStep_31 J v1 v2 zF (-9) 0 0 (zu q3 158 4 (q3 158 (Int32.toNatClampNeg v2)))).bind fun q => Sum.elim (fun a => some a) (fun a8 => some ((a8.1, a8.2.2.2))) q) else none)))
noncomputable abbrev rmX12_findStep : Room := { frames := 7, cells := 0, slots := 0, locals := 174 }
theorem zyX12_findStep : zY yX12_findStep wsX12_findStep cX12_findStep 8 (some .int) 2 := ⟨⟨_, rfl⟩, by decide +kernel⟩
theorem zrX12_findStep_X12_bits : zRm rmX12_bits rmX12_findStep 3 := ⟨rfl, rfl, by decide, by decide⟩
theorem zrX12_findStep_X12_put : zRm rmX12_put rmX12_findStep 2 := ⟨rfl, rfl, by decide, by decide⟩
theorem zrX12_findStep_X12_readIt : zRm rmX12_readIt rmX12_findStep 7 := ⟨rfl, rfl, by decide, by decide⟩
theorem zrX12_findStep_X12_unlike : zRm rmX12_unlike rmX12_findStep 3 := ⟨rfl, rfl, by decide, by decide⟩
set_option maxHeartbeats 1000000 in
set_option maxRecDepth 100000 in
theorem c_X12_findStep (B : zB) (I : zM) (J : zJ) (hJ : zJok J) (v1 : Int32) (v2 : Int32) (r : Int32) (I' : zM) (hf : f_X12_findStep J v1 v2 I = some (r, I')) : zCi B zKW I J yX12_findStep wsX12_findStep rmX12_findStep [.ref (za B 147), .int v1, .int v2] (fun r2 I2 J2 => r2 = r ∧ I2 = I' ∧ J2 = J) := by
  refine z_start (own := RX12) (cc := cX12_findStep) (nL := 8) (ret := (some .int)) rfl (by decide) rfl (Nat.le_of_ble_eq_true rfl) (L := [(0, .ref (za B 147)), (1, .int v1), (2, .int v2)]) rfl (fun G h hr => ?_)
  rw [f_X12_findStep] at hf
  refine z_aload_n h 0 dX12_findStep_0 rfl (rfl : 0 + 1 = 1) ?_
  refine z_iload_n h 1 dX12_findStep_1 rfl (rfl : 1 + 1 = 2) ?_
  refine z_iload_n h 2 dX12_findStep_2 rfl (rfl : 2 + 1 = 3) ?_
  obtain ⟨q1, e2, hf⟩ := zbind hf
  refine z_goFv (z_runV (C := RX12) (T := TX12) (N := 46) (ci := 11) h [.int v1, .int v2] [] zyX12_readIt (c_X12_readIt B I J hJ v1 v2 _ e2) gX12_findStep_X12_readIt rfl rfl rfl zrX12_findStep_X12_readIt rfl (Nat.le_of_ble_eq_true rfl) ⟨Nat.zero_le _, Nat.zero_le _⟩ rfl dX12_findStep_3) rfl ?_
  refine z_aload_n h 0 dX12_findStep_6 rfl (rfl : 6 + 1 = 7) ?_
  obtain ⟨q3, e4, hf⟩ := zbind hf
  refine z_goFv (z_runV (C := RX12) (T := TX12) (N := 46) (ci := 11) h [] [] zyX12_put (c_X12_put B q1 J hJ  _ e4) gX12_findStep_X12_put rfl rfl rfl zrX12_findStep_X12_put rfl (Nat.le_of_ble_eq_true rfl) ⟨Nat.zero_le _, Nat.zero_le _⟩ rfl dX12_findStep_7) rfl ?_
  refine z_aload_n h 0 dX12_findStep_10 rfl (rfl : 10 + 1 = 11) ?_
  refine z_getr (ci := 11) (C := RX12) (T := TX12) (N := 46) h 18 158 ((hJ.1 147 18 (by decide)).trans rfl) rfl rfl (fun _ hq => List.mem_cons_of_mem _ (List.mem_append_right _ hq)) (by decide) (List.mem_of_getElem? (i := 1) rfl) rfl dX12_findStep_11 (rfl : 11 + 3 = 14) ?_
  refine z_iconst h 4 dX12_findStep_14 (by decide) (rfl : 14 + 1 = 15) ?_
  refine z_aload_n h 0 dX12_findStep_15 rfl (rfl : 15 + 1 = 16) ?_
  refine z_getr (ci := 11) (C := RX12) (T := TX12) (N := 46) h 18 158 ((hJ.1 147 18 (by decide)).trans rfl) rfl rfl (fun _ hq => List.mem_cons_of_mem _ (List.mem_append_right _ hq)) (by decide) (List.mem_of_getElem? (i := 1) rfl) rfl dX12_findStep_16 (rfl : 16 + 3 = 19) ?_
  refine z_iload_n h 2 dX12_findStep_19 rfl (rfl : 19 + 1 = 20) ?_
  obtain ⟨b5, hf⟩ := zchk hf
  refine z_iald h rfl b5 dX12_findStep_20 (rfl : 20 + 1 = 21) ?_
  refine z_iast h (by decide) rfl dX12_findStep_21 (rfl : 21 + 1 = 22) ?_
  refine z_bipush h (-9) dX12_findStep_22 (by decide) (rfl : 22 + 2 = 24) ?_
  refine z_istore_n h [(3, .int (-9)), (0, .ref (za B 147)), (1, .int v1), (2, .int v2)] dX12_findStep_24 (by decide) rfl (rfl : 24 + 1 = 25) ?_
  refine z_iconst h 0 dX12_findStep_25 (by decide) (rfl : 25 + 1 = 26) ?_
  refine z_istore h [(4, .int 0), (3, .int (-9)), (0, .ref (za B 147)), (1, .int v1), (2, .int v2)] dX12_findStep_26 (by decide) rfl (rfl : 26 + 2 = 28) ?_
  refine z_iconst h 0 dX12_findStep_28 (by decide) (rfl : 28 + 1 = 29) ?_
  refine z_istore h [(5, .int 0), (4, .int 0), (3, .int (-9)), (0, .ref (za B 147)), (1, .int v1), (2, .int v2)] dX12_findStep_29 (by decide) rfl (rfl : 29 + 2 = 31) ?_
  have loop_31_7 : ∀ (n : Nat) (x3_31 : Int32) (x4_31 : Int32) (x5_31 : Int32) (I31 : zM) (q : (Int32 × zM) ⊕ (Int32 × Int32 × Int32 × zM)), f_X12_findStep_31 J v1 v2 n x3_31 x4_31 x5_31 I31 = some q → (∀ a, q = .inl a → a = (r, I')) → (∀ a : Int32 × Int32 × Int32 × zM, q = .inr a → Z B G zKW (a.2.2.2) (J) (0, 0) 158 [(0, .ref (za B 147)), (1, .int v1), (2, .int v2), (3, .int a.1), (4, .int a.2.1), (5, .int a.2.2.1)] []) → Z B G zKW I31 J (0, 0) 31 [(0, .ref (za B 147)), (1, .int v1), (2, .int v2), (3, .int x3_31), (4, .int x4_31), (5, .int x5_31)] [] := by
    intro n; induction n with
    | zero => intro x3_31 x4_31 x5_31 I31 q hf; exact absurd hf (by rw [f_X12_findStep_31]; exact fun z => by cases z)
    | succ n ih =>
      intro x3_31 x4_31 x5_31 I31 q hf hP hE; rw [f_X12_findStep_31] at hf
      refine z_iload h 5 dX12_findStep_31 rfl (rfl : 31 + 2 = 33) ?_
      refine z_iconst h 1 dX12_findStep_33 (by decide) (rfl : 33 + 1 = 34) ?_
      refine z_iadd h dX12_findStep_34 (rfl : 34 + 1 = 35) ?_
      refine z_aload_n h 0 dX12_findStep_35 rfl (rfl : 35 + 1 = 36) ?_
      refine z_getr (ci := 11) (C := RX12) (T := TX12) (N := 46) h 18 158 ((hJ.1 147 18 (by decide)).trans rfl) rfl rfl (fun _ hq => List.mem_cons_of_mem _ (List.mem_append_right _ hq)) (by decide) (List.mem_of_getElem? (i := 1) rfl) rfl dX12_findStep_36 (rfl : 36 + 3 = 39) ?_
      refine z_iload_n h 2 dX12_findStep_39 rfl (rfl : 39 + 1 = 40) ?_
      obtain ⟨b8, hf⟩ := zchk hf
      refine z_iald h rfl b8 dX12_findStep_40 (rfl : 40 + 1 = 41) ?_
      refine z_icmp_ge (pc' := 44) h 158 dX12_findStep_41 (by decide) rfl (fun c9 => ?_) (fun c9 => ?_)
      · have hf := zitt c9 hf
        exact hE (x3_31, x4_31, x5_31, I31) (zsome hf).symm
      · have hf := zitf c9 hf
        refine z_iconst h 0 dX12_findStep_44 (by decide) (rfl : 44 + 1 = 45) ?_
        refine z_istore h [(6, .int 0), (0, .ref (za B 147)), (1, .int v1), (2, .int v2), (3, .int x3_31), (4, .int x4_31), (5, .int x5_31)] dX12_findStep_45 (by decide) rfl (rfl : 45 + 2 = 47) ?_
        have loop_47_11 : ∀ (n : Nat) (x6_47 : Int32) (I47 : zM) (q : (Int32 × zM) ⊕ (Int32 × zM)), f_X12_findStep_47 J v1 v2 x3_31 x4_31 x5_31 n x6_47 I47 = some q → (∀ a, q = .inl a → a = (r, I')) → (∀ a : Int32 × zM, q = .inr a → Z B G zKW (a.2) (J) (0, 0) 117 [(0, .ref (za B 147)), (1, .int v1), (2, .int v2), (3, .int x3_31), (4, .int x4_31), (5, .int x5_31), (6, .int a.1)] []) → Z B G zKW I47 J (0, 0) 47 [(0, .ref (za B 147)), (1, .int v1), (2, .int v2), (3, .int x3_31), (4, .int x4_31), (5, .int x5_31), (6, .int x6_47)] [] := by
          intro n; induction n with
          | zero => intro x6_47 I47 q hf; exact absurd hf (by rw [f_X12_findStep_47]; exact fun z => by cases z)
          | succ n ih =>
            intro x6_47 I47 q hf hP hE; rw [f_X12_findStep_47] at hf
            refine z_iload h 6 dX12_findStep_47 rfl (rfl : 47 + 2 = 49) ?_
            refine z_aload_n h 0 dX12_findStep_49 rfl (rfl : 49 + 1 = 50) ?_
            refine z_getr (ci := 11) (C := RX12) (T := TX12) (N := 46) h 18 158 ((hJ.1 147 18 (by decide)).trans rfl) rfl rfl (fun _ hq => List.mem_cons_of_mem _ (List.mem_append_right _ hq)) (by decide) (List.mem_of_getElem? (i := 1) rfl) rfl dX12_findStep_50 (rfl : 50 + 3 = 53) ?_
            refine z_iload_n h 2 dX12_findStep_53 rfl (rfl : 53 + 1 = 54) ?_
            obtain ⟨b12, hf⟩ := zchk hf
            refine z_iald h rfl b12 dX12_findStep_54 (rfl : 54 + 1 = 55) ?_
            refine z_icmp_ge (pc' := 58) h 117 dX12_findStep_55 (by decide) rfl (fun c13 => ?_) (fun c13 => ?_)
            · have hf := zitt c13 hf
              exact hE (x6_47, I47) (zsome hf).symm
            · have hf := zitf c13 hf
              refine z_iload h 6 dX12_findStep_58 rfl (rfl : 58 + 2 = 60) ?_
              refine z_iload h 5 dX12_findStep_60 rfl (rfl : 60 + 2 = 62) ?_
              refine z_icmp_ne (pc' := 65) h 72 dX12_findStep_62 (by decide) rfl (fun c14 => ?_) (fun c14 => ?_)
              · have hf := zitf c14 hf
                refine z_iload h 6 dX12_findStep_72 rfl (rfl : 72 + 2 = 74) ?_
                refine z_iload h 5 dX12_findStep_74 rfl (rfl : 74 + 2 = 76) ?_
                refine z_iconst h 1 dX12_findStep_76 (by decide) (rfl : 76 + 1 = 77) ?_
                refine z_iadd h dX12_findStep_77 (rfl : 77 + 1 = 78) ?_
                refine z_icmp_ne (pc' := 81) h 86 dX12_findStep_78 (by decide) rfl (fun c15 => ?_) (fun c15 => ?_)
                · have hf := zitf c15 hf
                  refine z_iload h 6 dX12_findStep_86 rfl (rfl : 86 + 2 = 88) ?_
                  refine z_istore h [(7, .int x6_47), (0, .ref (za B 147)), (1, .int v1), (2, .int v2), (3, .int x3_31), (4, .int x4_31), (5, .int x5_31), (6, .int x6_47)] dX12_findStep_88 (by decide) rfl (rfl : 88 + 2 = 90) ?_
                  refine z_aload_n h 1 dX12_findStep_90 rfl (rfl : 90 + 1 = 91) ?_
                  refine z_getr (ci := 11) (C := RX12) (T := TX12) (N := 46) h 17 157 ((hJ.1 147 17 (by decide)).trans rfl) rfl rfl (fun _ hq => List.mem_cons_of_mem _ (List.mem_append_right _ hq)) (by decide) (List.mem_of_getElem? (i := 2) rfl) rfl dX12_findStep_91 (rfl : 91 + 3 = 94) ?_
                  refine z_bipush h 20 dX12_findStep_94 (by decide) (rfl : 94 + 2 = 96) ?_
                  refine z_iload h 7 dX12_findStep_96 rfl (rfl : 96 + 2 = 98) ?_
                  refine z_iadd h dX12_findStep_98 (rfl : 98 + 1 = 99) ?_
                  refine z_aload_n h 1 dX12_findStep_99 rfl (rfl : 99 + 1 = 100) ?_
                  refine z_getr (ci := 11) (C := RX12) (T := TX12) (N := 46) h 17 157 ((hJ.1 147 17 (by decide)).trans rfl) rfl rfl (fun _ hq => List.mem_cons_of_mem _ (List.mem_append_right _ hq)) (by decide) (List.mem_of_getElem? (i := 2) rfl) rfl dX12_findStep_100 (rfl : 100 + 3 = 103) ?_
                  refine z_iconst h 5 dX12_findStep_103 (by decide) (rfl : 103 + 1 = 104) ?_
                  refine z_iload_n h 3 dX12_findStep_104 rfl (rfl : 104 + 1 = 105) ?_
                  refine z_imul h dX12_findStep_105 (rfl : 105 + 1 = 106) ?_
                  refine z_iload h 0 dX12_findStep_106 rfl (rfl : 106 + 2 = 108) ?_
                  refine z_iadd h dX12_findStep_108 (rfl : 108 + 1 = 109) ?_
                  obtain ⟨b16, hf⟩ := zchk hf
                  refine z_iald h rfl b16 dX12_findStep_109 (rfl : 109 + 1 = 110) ?_
                  obtain ⟨b17, hf⟩ := zchk hf
                  refine z_iast h b17 rfl dX12_findStep_110 (rfl : 110 + 1 = 111) ?_
                  refine z_iinc h 7 (x6_47 + 1) [(6, .int (x6_47 + 1)), (7, .int x6_47), (0, .ref (za B 147)), (1, .int v1), (2, .int v2), (3, .int x3_31), (4, .int x4_31), (5, .int x5_31)] dX12_findStep_111 rfl rfl (by decide) rfl (rfl : 111 + 3 = 114) ?_
                  refine z_goto (pc' := 47) h dX12_findStep_114 (by decide) ?_
                  refine z_sub (L' := [(0, .ref (za B 147)), (1, .int v1), (2, .int v2), (3, .int x3_31), (4, .int x4_31), (5, .int x5_31), (6, .int (x6_47 + 1))]) [2, 3, 4, 5, 6, 7, 0] rfl ?_
                  exact ih (x6_47 + 1) (zu I47 157 (Int32.toNatClampNeg ((20 : Int32) + x6_47)) (I47 157 (Int32.toNatClampNeg (((5 : Int32) * v2) + x6_47)))) _ hf hP hE
                · have hf := zitt c15 hf
                  refine z_iload h 5 dX12_findStep_81 rfl (rfl : 81 + 2 = 83) ?_
                  refine z_goto (pc' := 88) h dX12_findStep_83 (by decide) ?_
                  refine z_istore h [(7, .int x5_31), (0, .ref (za B 147)), (1, .int v1), (2, .int v2), (3, .int x3_31), (4, .int x4_31), (5, .int x5_31), (6, .int x6_47)] dX12_findStep_88 (by decide) rfl (rfl : 88 + 2 = 90) ?_
                  refine z_aload_n h 1 dX12_findStep_90 rfl (rfl : 90 + 1 = 91) ?_
                  refine z_getr (ci := 11) (C := RX12) (T := TX12) (N := 46) h 17 157 ((hJ.1 147 17 (by decide)).trans rfl) rfl rfl (fun _ hq => List.mem_cons_of_mem _ (List.mem_append_right _ hq)) (by decide) (List.mem_of_getElem? (i := 2) rfl) rfl dX12_findStep_91 (rfl : 91 + 3 = 94) ?_
                  refine z_bipush h 20 dX12_findStep_94 (by decide) (rfl : 94 + 2 = 96) ?_
                  refine z_iload h 7 dX12_findStep_96 rfl (rfl : 96 + 2 = 98) ?_
                  refine z_iadd h dX12_findStep_98 (rfl : 98 + 1 = 99) ?_
                  refine z_aload_n h 1 dX12_findStep_99 rfl (rfl : 99 + 1 = 100) ?_
                  refine z_getr (ci := 11) (C := RX12) (T := TX12) (N := 46) h 17 157 ((hJ.1 147 17 (by decide)).trans rfl) rfl rfl (fun _ hq => List.mem_cons_of_mem _ (List.mem_append_right _ hq)) (by decide) (List.mem_of_getElem? (i := 2) rfl) rfl dX12_findStep_100 (rfl : 100 + 3 = 103) ?_
                  refine z_iconst h 5 dX12_findStep_103 (by decide) (rfl : 103 + 1 = 104) ?_
                  refine z_iload_n h 3 dX12_findStep_104 rfl (rfl : 104 + 1 = 105) ?_
                  refine z_imul h dX12_findStep_105 (rfl : 105 + 1 = 106) ?_
                  refine z_iload h 0 dX12_findStep_106 rfl (rfl : 106 + 2 = 108) ?_
                  refine z_iadd h dX12_findStep_108 (rfl : 108 + 1 = 109) ?_
                  obtain ⟨b18, hf⟩ := zchk hf
                  refine z_iald h rfl b18 dX12_findStep_109 (rfl : 109 + 1 = 110) ?_
                  obtain ⟨b19, hf⟩ := zchk hf
                  refine z_iast h b19 rfl dX12_findStep_110 (rfl : 110 + 1 = 111) ?_
                  refine z_iinc h 7 (x6_47 + 1) [(6, .int (x6_47 + 1)), (7, .int x5_31), (0, .ref (za B 147)), (1, .int v1), (2, .int v2), (3, .int x3_31), (4, .int x4_31), (5, .int x5_31)] dX12_findStep_111 rfl rfl (by decide) rfl (rfl : 111 + 3 = 114) ?_
                  refine z_goto (pc' := 47) h dX12_findStep_114 (by decide) ?_
                  refine z_sub (L' := [(0, .ref (za B 147)), (1, .int v1), (2, .int v2), (3, .int x3_31), (4, .int x4_31), (5, .int x5_31), (6, .int (x6_47 + 1))]) [2, 3, 4, 5, 6, 7, 0] rfl ?_
                  exact ih (x6_47 + 1) (zu I47 157 (Int32.toNatClampNeg ((20 : Int32) + x6_47)) (I47 157 (Int32.toNatClampNeg (((5 : Int32) * v2) + x5_31)))) _ hf hP hE
              · have hf := zitt c14 hf
                refine z_iload h 5 dX12_findStep_65 rfl (rfl : 65 + 2 = 67) ?_
                refine z_iconst h 1 dX12_findStep_67 (by decide) (rfl : 67 + 1 = 68) ?_
                refine z_iadd h dX12_findStep_68 (rfl : 68 + 1 = 69) ?_
                refine z_goto (pc' := 88) h dX12_findStep_69 (by decide) ?_
                refine z_istore h [(7, .int (x5_31 + (1 : Int32))), (0, .ref (za B 147)), (1, .int v1), (2, .int v2), (3, .int x3_31), (4, .int x4_31), (5, .int x5_31), (6, .int x6_47)] dX12_findStep_88 (by decide) rfl (rfl : 88 + 2 = 90) ?_
                refine z_aload_n h 1 dX12_findStep_90 rfl (rfl : 90 + 1 = 91) ?_
                refine z_getr (ci := 11) (C := RX12) (T := TX12) (N := 46) h 17 157 ((hJ.1 147 17 (by decide)).trans rfl) rfl rfl (fun _ hq => List.mem_cons_of_mem _ (List.mem_append_right _ hq)) (by decide) (List.mem_of_getElem? (i := 2) rfl) rfl dX12_findStep_91 (rfl : 91 + 3 = 94) ?_
                refine z_bipush h 20 dX12_findStep_94 (by decide) (rfl : 94 + 2 = 96) ?_
                refine z_iload h 7 dX12_findStep_96 rfl (rfl : 96 + 2 = 98) ?_
                refine z_iadd h dX12_findStep_98 (rfl : 98 + 1 = 99) ?_
                refine z_aload_n h 1 dX12_findStep_99 rfl (rfl : 99 + 1 = 100) ?_
                refine z_getr (ci := 11) (C := RX12) (T := TX12) (N := 46) h 17 157 ((hJ.1 147 17 (by decide)).trans rfl) rfl rfl (fun _ hq => List.mem_cons_of_mem _ (List.mem_append_right _ hq)) (by decide) (List.mem_of_getElem? (i := 2) rfl) rfl dX12_findStep_100 (rfl : 100 + 3 = 103) ?_
                refine z_iconst h 5 dX12_findStep_103 (by decide) (rfl : 103 + 1 = 104) ?_
                refine z_iload_n h 3 dX12_findStep_104 rfl (rfl : 104 + 1 = 105) ?_
                refine z_imul h dX12_findStep_105 (rfl : 105 + 1 = 106) ?_
                refine z_iload h 0 dX12_findStep_106 rfl (rfl : 106 + 2 = 108) ?_
                refine z_iadd h dX12_findStep_108 (rfl : 108 + 1 = 109) ?_
                obtain ⟨b20, hf⟩ := zchk hf
                refine z_iald h rfl b20 dX12_findStep_109 (rfl : 109 + 1 = 110) ?_
                obtain ⟨b21, hf⟩ := zchk hf
                refine z_iast h b21 rfl dX12_findStep_110 (rfl : 110 + 1 = 111) ?_
                refine z_iinc h 7 (x6_47 + 1) [(6, .int (x6_47 + 1)), (7, .int (x5_31 + (1 : Int32))), (0, .ref (za B 147)), (1, .int v1), (2, .int v2), (3, .int x3_31), (4, .int x4_31), (5, .int x5_31)] dX12_findStep_111 rfl rfl (by decide) rfl (rfl : 111 + 3 = 114) ?_
                refine z_goto (pc' := 47) h dX12_findStep_114 (by decide) ?_
                refine z_sub (L' := [(0, .ref (za B 147)), (1, .int v1), (2, .int v2), (3, .int x3_31), (4, .int x4_31), (5, .int x5_31), (6, .int (x6_47 + 1))]) [2, 3, 4, 5, 6, 7, 0] rfl ?_
                exact ih (x6_47 + 1) (zu I47 157 (Int32.toNatClampNeg ((20 : Int32) + x6_47)) (I47 157 (Int32.toNatClampNeg (((5 : Int32) * v2) + (x5_31 + (1 : Int32)))))) _ hf hP hE
        refine z_sub (L' := [(0, .ref (za B 147)), (1, .int v1), (2, .int v2), (3, .int x3_31), (4, .int x4_31), (5, .int x5_31), (6, .int 0)]) [1, 2, 3, 4, 5, 6, 0] rfl ?_
        obtain ⟨q10, e11, hf⟩ := zbind hf
        refine loop_47_11 _ 0 I31 q10 e11 (fun a ha => ?_) (fun a22 ha  => ?_)
        · have hf := zell ha hf
          exact hP _ (zsome hf).symm
        have hf := zelr ha hf
        clear ha loop_47_11
        refine z_aload_n h 0 dX12_findStep_117 rfl (rfl : 117 + 1 = 118) ?_
        refine z_iload_n h 1 dX12_findStep_118 rfl (rfl : 118 + 1 = 119) ?_
        refine z_iconst h 4 dX12_findStep_119 (by decide) (rfl : 119 + 1 = 120) ?_
        obtain ⟨q23, e24, hf⟩ := zbind hf
        refine z_goFv (z_runV (C := RX12) (T := TX12) (N := 46) (ci := 11) h [.int v1, .int 4] [] zyX12_readIt (c_X12_readIt B a22.2 J hJ v1 4 _ e24) gX12_findStep_X12_readIt rfl rfl rfl zrX12_findStep_X12_readIt rfl (Nat.le_of_ble_eq_true rfl) ⟨Nat.zero_le _, Nat.zero_le _⟩ rfl dX12_findStep_120) rfl ?_
        refine z_aload_n h 0 dX12_findStep_123 rfl (rfl : 123 + 1 = 124) ?_
        obtain ⟨q25, e26, hf⟩ := zbind hf
        refine z_goF (z_runV (C := RX12) (T := TX12) (N := 46) (ci := 11) h [] [] zyX12_unlike (c_X12_unlike B q23 J hJ  _ _ e26) gX12_findStep_X12_unlike rfl rfl rfl zrX12_findStep_X12_unlike rfl (Nat.le_of_ble_eq_true rfl) ⟨Nat.zero_le _, Nat.zero_le _⟩ rfl dX12_findStep_124) rfl ?_
        obtain ⟨q27, e28, hf⟩ := zbind hf
        refine z_goF (z_runS h [.int q25.1] [] zyX12_bits (c_X12_bits B q25.2 J hJ q25.1 _ _ e28) gX12_findStep_X12_bits zrX12_findStep_X12_bits rfl (Nat.le_of_ble_eq_true rfl) ⟨Nat.zero_le _, Nat.zero_le _⟩ rfl dX12_findStep_127) rfl ?_
        refine z_istore h [(6, .int q27.1), (0, .ref (za B 147)), (1, .int v1), (2, .int v2), (3, .int x3_31), (4, .int x4_31), (5, .int x5_31)] dX12_findStep_130 (by decide) rfl (rfl : 130 + 2 = 132) ?_
        refine z_iload h 0 dX12_findStep_132 rfl (rfl : 132 + 2 = 134) ?_
        refine z_iload h 5 dX12_findStep_134 rfl (rfl : 134 + 2 = 136) ?_
        refine z_icmp_le (pc' := 139) h 152 dX12_findStep_136 (by decide) rfl (fun c29 => ?_) (fun c29 => ?_)
        · have hf := zitt c29 hf
          refine z_iinc h 6 (x5_31 + 1) [(5, .int (x5_31 + 1)), (6, .int q27.1), (0, .ref (za B 147)), (1, .int v1), (2, .int v2), (3, .int x3_31), (4, .int x4_31)] dX12_findStep_152 rfl rfl (by decide) rfl (rfl : 152 + 3 = 155) ?_
          refine z_goto (pc' := 31) h dX12_findStep_155 (by decide) ?_
          refine z_sub (L' := [(0, .ref (za B 147)), (1, .int v1), (2, .int v2), (3, .int x3_31), (4, .int x4_31), (5, .int (x5_31 + 1))]) [2, 3, 4, 5, 6, 0] rfl ?_
          exact ih x3_31 x4_31 (x5_31 + 1) q27.2 _ hf hP hE
        · have hf := zitf c29 hf
          refine z_iload h 0 dX12_findStep_139 rfl (rfl : 139 + 2 = 141) ?_
          refine z_istore h [(4, .int q27.1), (6, .int q27.1), (0, .ref (za B 147)), (1, .int v1), (2, .int v2), (3, .int x3_31), (5, .int x5_31)] dX12_findStep_141 (by decide) rfl (rfl : 141 + 2 = 143) ?_
          refine z_bipush h 10 dX12_findStep_143 (by decide) (rfl : 143 + 2 = 145) ?_
          refine z_iload h 6 dX12_findStep_145 rfl (rfl : 145 + 2 = 147) ?_
          refine z_imul h dX12_findStep_147 (rfl : 147 + 1 = 148) ?_
          refine z_iload h 1 dX12_findStep_148 rfl (rfl : 148 + 2 = 150) ?_
          refine z_iadd h dX12_findStep_150 (rfl : 150 + 1 = 151) ?_
          refine z_istore_n h [(3, .int (((10 : Int32) * x5_31) + q27.1)), (4, .int q27.1), (6, .int q27.1), (0, .ref (za B 147)), (1, .int v1), (2, .int v2), (5, .int x5_31)] dX12_findStep_151 (by decide) rfl (rfl : 151 + 1 = 152) ?_
          refine z_iinc h 6 (x5_31 + 1) [(5, .int (x5_31 + 1)), (3, .int (((10 : Int32) * x5_31) + q27.1)), (4, .int q27.1), (6, .int q27.1), (0, .ref (za B 147)), (1, .int v1), (2, .int v2)] dX12_findStep_152 rfl rfl (by decide) rfl (rfl : 152 + 3 = 155) ?_
          refine z_goto (pc' := 31) h dX12_findStep_155 (by decide) ?_
          refine z_sub (L' := [(0, .ref (za B 147)), (1, .int v1), (2, .int v2), (3, .int (((10 : Int32) * x5_31) + q27.1)), (4, .int q27.1), (5, .int (x5_31 + 1))]) [4, 5, 6, 1, 2, 0] rfl ?_
          exact ih (((10 : Int32) * x5_31) + q27.1) q27.1 (x5_31 + 1) q27.2 _ hf hP hE
  refine z_sub (L' := [(0, .ref (za B 147)), (1, .int v1), (2, .int v2), (3, .int (-9)), (4, .int 0), (5, .int 0)]) [3, 4, 5, 2, 1, 0] rfl ?_
  obtain ⟨q6, e7, hf⟩ := zbind hf
  refine loop_31_7 _ (-9) 0 0 (zu q3 158 4 (q3 158 (Int32.toNatClampNeg v2))) q6 e7 (fun a ha => ?_) (fun a30 ha  => ?_)
  · have hf := zell ha hf
    exact zsome hf
  have hf := zelr ha hf
  clear ha loop_31_7
  refine z_iload_n h 3 dX12_findStep_158 rfl (rfl : 158 + 1 = 159) ?_
  refine z_iret h hr dX12_findStep_159 ?_
  exact ⟨congrArg Prod.fst (zsome hf), congrArg Prod.snd (zsome hf), rfl⟩
noncomputable def f_X12_step (J : zJ) (v1 : Int32) (v2 : Int32) (I : zM) : Option (Int32 × zM) := ((f_X12_noReading J v1 v2 (zu I 147 0 0)).bind fun q1 => (if q1.1 = 0 then ((f_X12_findStep J v1 v2 q1.2).bind fun q4 => (if q4.1 = (-9) then some (((-9), q4.2)) else some ((q4.1 / (10 : Int32), q4.2)))) else some (((-1), q1.2))))
noncomputable abbrev rmX12_step : Room := { frames := 8, cells := 0, slots := 0, locals := 201 }
theorem zyX12_step : zY yX12_step wsX12_step cX12_step 4 (some .int) 2 := ⟨⟨_, rfl⟩, by decide +kernel⟩
theorem zrX12_step_X12_findStep : zRm rmX12_findStep rmX12_step 8 := ⟨rfl, rfl, by decide, by decide⟩
theorem zrX12_step_X12_noReading : zRm rmX12_noReading rmX12_step 3 := ⟨rfl, rfl, by decide, by decide⟩
set_option maxHeartbeats 1000000 in
set_option maxRecDepth 100000 in
theorem c_X12_step (B : zB) (I : zM) (J : zJ) (hJ : zJok J) (v1 : Int32) (v2 : Int32) (r : Int32) (I' : zM) (hf : f_X12_step J v1 v2 I = some (r, I')) : zCi B zKW I J yX12_step wsX12_step rmX12_step [.ref (za B 147), .int v1, .int v2] (fun r2 I2 J2 => r2 = r ∧ I2 = I' ∧ J2 = J) := by
  refine z_start (own := RX12) (cc := cX12_step) (nL := 4) (ret := (some .int)) rfl (by decide) rfl (Nat.le_of_ble_eq_true rfl) (L := [(0, .ref (za B 147)), (1, .int v1), (2, .int v2)]) rfl (fun G h hr => ?_)
  rw [f_X12_step] at hf
  refine z_aload_n h 0 dX12_step_0 rfl (rfl : 0 + 1 = 1) ?_
  refine z_iconst h 0 dX12_step_1 (by decide) (rfl : 1 + 1 = 2) ?_
  refine z_put (ci := 11) (C := RX12) (T := TX12) (N := 46) h 0 tyX12 tyX12_ok nmX12 rfl rfl (fun _ hq => List.mem_cons_of_mem _ (List.mem_append_right _ hq)) (by decide) (List.mem_of_getElem? (i := 1) rfl) rfl rfl rfl dX12_step_2 (rfl : 2 + 3 = 5) ?_
  refine z_aload_n h 0 dX12_step_5 rfl (rfl : 5 + 1 = 6) ?_
  refine z_iload_n h 1 dX12_step_6 rfl (rfl : 6 + 1 = 7) ?_
  refine z_iload_n h 2 dX12_step_7 rfl (rfl : 7 + 1 = 8) ?_
  obtain ⟨q1, e2, hf⟩ := zbind hf
  refine z_goF (z_runV (C := RX12) (T := TX12) (N := 46) (ci := 11) h [.int v1, .int v2] [] zyX12_noReading (c_X12_noReading B (zu I 147 0 0) J hJ v1 v2 _ _ e2) gX12_step_X12_noReading rfl rfl rfl zrX12_step_X12_noReading rfl (Nat.le_of_ble_eq_true rfl) ⟨Nat.zero_le _, Nat.zero_le _⟩ rfl dX12_step_8) rfl ?_
  refine z_if_eq (pc' := 14) h 16 dX12_step_11 (by decide) rfl (fun c3 => ?_) (fun c3 => ?_)
  · have hf := zitt c3 hf
    refine z_aload_n h 0 dX12_step_16 rfl (rfl : 16 + 1 = 17) ?_
    refine z_iload_n h 1 dX12_step_17 rfl (rfl : 17 + 1 = 18) ?_
    refine z_iload_n h 2 dX12_step_18 rfl (rfl : 18 + 1 = 19) ?_
    obtain ⟨q4, e5, hf⟩ := zbind hf
    refine z_goF (z_runV (C := RX12) (T := TX12) (N := 46) (ci := 11) h [.int v1, .int v2] [] zyX12_findStep (c_X12_findStep B q1.2 J hJ v1 v2 _ _ e5) gX12_step_X12_findStep rfl rfl rfl zrX12_step_X12_findStep rfl (Nat.le_of_ble_eq_true rfl) ⟨Nat.zero_le _, Nat.zero_le _⟩ rfl dX12_step_19) rfl ?_
    refine z_istore_n h [(3, .int q4.1), (0, .ref (za B 147)), (1, .int v1), (2, .int v2)] dX12_step_22 (by decide) rfl (rfl : 22 + 1 = 23) ?_
    refine z_iload_n h 0 dX12_step_23 rfl (rfl : 23 + 1 = 24) ?_
    refine z_bipush h (-9) dX12_step_24 (by decide) (rfl : 24 + 2 = 26) ?_
    refine z_icmp_ne (pc' := 29) h 34 dX12_step_26 (by decide) rfl (fun c6 => ?_) (fun c6 => ?_)
    · have hf := zitf c6 hf
      refine z_iload_n h 0 dX12_step_34 rfl (rfl : 34 + 1 = 35) ?_
      refine z_bipush h 10 dX12_step_35 (by decide) (rfl : 35 + 2 = 37) ?_
      refine z_idiv h dX12_step_37 (by decide) (rfl : 37 + 1 = 38) ?_
      refine z_iret h hr dX12_step_38 ?_
      exact ⟨congrArg Prod.fst (zsome hf), congrArg Prod.snd (zsome hf), rfl⟩
    · have hf := zitt c6 hf
      refine z_bipush h (-9) dX12_step_29 (by decide) (rfl : 29 + 2 = 31) ?_
      refine z_goto (pc' := 38) h dX12_step_31 (by decide) ?_
      refine z_iret h hr dX12_step_38 ?_
      exact ⟨congrArg Prod.fst (zsome hf), congrArg Prod.snd (zsome hf), rfl⟩
  · have hf := zitf c3 hf
    refine z_iconst h (-1) dX12_step_14 (by decide) (rfl : 14 + 1 = 15) ?_
    refine z_iret h hr dX12_step_15 ?_
    exact ⟨congrArg Prod.fst (zsome hf), congrArg Prod.snd (zsome hf), rfl⟩
noncomputable def f_X12_moves (J : zJ) (v1 : Int32) (v2 : Int32) (I : zM) : Option (Int32 × zM) := ((f_X12_noReading J v1 v2 (zu I 147 0 0)).bind fun q1 => (if q1.1 = 0 then ((f_X12_findStep J v1 v2 q1.2).bind fun q4 => (if q4.1 = (-9) then some ((0, q4.2)) else some ((q4.1 - q4.1 / (10 : Int32) * (10 : Int32), q4.2)))) else some (((-1), q1.2))))
noncomputable abbrev rmX12_moves : Room := { frames := 8, cells := 0, slots := 0, locals := 201 }
theorem zyX12_moves : zY yX12_moves wsX12_moves cX12_moves 4 (some .int) 2 := ⟨⟨_, rfl⟩, by decide +kernel⟩
theorem zrX12_moves_X12_findStep : zRm rmX12_findStep rmX12_moves 8 := ⟨rfl, rfl, by decide, by decide⟩
theorem zrX12_moves_X12_noReading : zRm rmX12_noReading rmX12_moves 3 := ⟨rfl, rfl, by decide, by decide⟩
set_option maxHeartbeats 1000000 in
set_option maxRecDepth 100000 in
theorem c_X12_moves (B : zB) (I : zM) (J : zJ) (hJ : zJok J) (v1 : Int32) (v2 : Int32) (r : Int32) (I' : zM) (hf : f_X12_moves J v1 v2 I = some (r, I')) : zCi B zKW I J yX12_moves wsX12_moves rmX12_moves [.ref (za B 147), .int v1, .int v2] (fun r2 I2 J2 => r2 = r ∧ I2 = I' ∧ J2 = J) := by
  refine z_start (own := RX12) (cc := cX12_moves) (nL := 4) (ret := (some .int)) rfl (by decide) rfl (Nat.le_of_ble_eq_true rfl) (L := [(0, .ref (za B 147)), (1, .int v1), (2, .int v2)]) rfl (fun G h hr => ?_)
  rw [f_X12_moves] at hf
  refine z_aload_n h 0 dX12_moves_0 rfl (rfl : 0 + 1 = 1) ?_
  refine z_iconst h 0 dX12_moves_1 (by decide) (rfl : 1 + 1 = 2) ?_
  refine z_put (ci := 11) (C := RX12) (T := TX12) (N := 46) h 0 tyX12 tyX12_ok nmX12 rfl rfl (fun _ hq => List.mem_cons_of_mem _ (List.mem_append_right _ hq)) (by decide) (List.mem_of_getElem? (i := 1) rfl) rfl rfl rfl dX12_moves_2 (rfl : 2 + 3 = 5) ?_
  refine z_aload_n h 0 dX12_moves_5 rfl (rfl : 5 + 1 = 6) ?_
  refine z_iload_n h 1 dX12_moves_6 rfl (rfl : 6 + 1 = 7) ?_
  refine z_iload_n h 2 dX12_moves_7 rfl (rfl : 7 + 1 = 8) ?_
  obtain ⟨q1, e2, hf⟩ := zbind hf
  refine z_goF (z_runV (C := RX12) (T := TX12) (N := 46) (ci := 11) h [.int v1, .int v2] [] zyX12_noReading (c_X12_noReading B (zu I 147 0 0) J hJ v1 v2 _ _ e2) gX12_moves_X12_noReading rfl rfl rfl zrX12_moves_X12_noReading rfl (Nat.le_of_ble_eq_true rfl) ⟨Nat.zero_le _, Nat.zero_le _⟩ rfl dX12_moves_8) rfl ?_
  refine z_if_eq (pc' := 14) h 16 dX12_moves_11 (by decide) rfl (fun c3 => ?_) (fun c3 => ?_)
  · have hf := zitt c3 hf
    refine z_aload_n h 0 dX12_moves_16 rfl (rfl : 16 + 1 = 17) ?_
    refine z_iload_n h 1 dX12_moves_17 rfl (rfl : 17 + 1 = 18) ?_
    refine z_iload_n h 2 dX12_moves_18 rfl (rfl : 18 + 1 = 19) ?_
    obtain ⟨q4, e5, hf⟩ := zbind hf
    refine z_goF (z_runV (C := RX12) (T := TX12) (N := 46) (ci := 11) h [.int v1, .int v2] [] zyX12_findStep (c_X12_findStep B q1.2 J hJ v1 v2 _ _ e5) gX12_moves_X12_findStep rfl rfl rfl zrX12_moves_X12_findStep rfl (Nat.le_of_ble_eq_true rfl) ⟨Nat.zero_le _, Nat.zero_le _⟩ rfl dX12_moves_19) rfl ?_
    refine z_istore_n h [(3, .int q4.1), (0, .ref (za B 147)), (1, .int v1), (2, .int v2)] dX12_moves_22 (by decide) rfl (rfl : 22 + 1 = 23) ?_
    refine z_iload_n h 0 dX12_moves_23 rfl (rfl : 23 + 1 = 24) ?_
    refine z_bipush h (-9) dX12_moves_24 (by decide) (rfl : 24 + 2 = 26) ?_
    refine z_icmp_ne (pc' := 29) h 33 dX12_moves_26 (by decide) rfl (fun c6 => ?_) (fun c6 => ?_)
    · have hf := zitf c6 hf
      refine z_iload_n h 0 dX12_moves_33 rfl (rfl : 33 + 1 = 34) ?_
      refine z_bipush h 10 dX12_moves_34 (by decide) (rfl : 34 + 2 = 36) ?_
      refine z_irem h dX12_moves_36 (by decide) (rfl : 36 + 1 = 37) ?_
      refine z_iret h hr dX12_moves_37 ?_
      exact ⟨congrArg Prod.fst (zsome hf), congrArg Prod.snd (zsome hf), rfl⟩
    · have hf := zitt c6 hf
      refine z_iconst h 0 dX12_moves_29 (by decide) (rfl : 29 + 1 = 30) ?_
      refine z_goto (pc' := 37) h dX12_moves_30 (by decide) ?_
      refine z_iret h hr dX12_moves_37 ?_
      exact ⟨congrArg Prod.fst (zsome hf), congrArg Prod.snd (zsome hf), rfl⟩
  · have hf := zitf c3 hf
    refine z_iconst h (-1) dX12_moves_14 (by decide) (rfl : 14 + 1 = 15) ?_
    refine z_iret h hr dX12_moves_15 ?_
    exact ⟨congrArg Prod.fst (zsome hf), congrArg Prod.snd (zsome hf), rfl⟩
noncomputable def f_X12_think (J : zJ) (v1 : Int32) (v2 : Int32) (v3 : Int32) (v4 : Int32) (I : zM) : Option (Int32 × zM) := ((f_X12_noBargain J v1 (zu I 147 0 0)).bind fun q1 => (if q1.1 = 0 then ((f_X12_noGap J v3 q1.2).bind fun q4 => (if q4.1 = 0 then ((f_X12_in J (Int32.toInt64 v2) 0 1 q4.2).bind fun q7 => (if q7.1 = 0 then some (((-2), q7.2)) else ((f_X12_in J (Int32.toInt64 v4) 0 5 q7.2).bind fun q10 => (if q10.1 = 0 then some (((-2), q10.2)) else (if zin ((((12 : Int32) * v1) + ((6 : Int32) * v2)) + v3) 96 = true then (if zin ((((12 : Int32) * v1) + ((6 : Int32) * v2)) + v3) 96 = true then some ((q10.2 164 (Int32.toNatClampNeg ((((12 : Int32) * v1) + ((6 : Int32) * v2)) + v3)), zu q10.2 164 (Int32.toNatClampNeg ((((12 : Int32) * v1) + ((6 : Int32) * v2)) + v3)) v4)) else none) else none))))) else some (((-1), q4.2)))) else some (((-1), q1.2))))
noncomputable abbrev rmX12_think : Room := { frames := 2, cells := 0, slots := 0, locals := 46 }
theorem zyX12_think : zY yX12_think wsX12_think cX12_think 7 (some .int) 4 := ⟨⟨_, rfl⟩, by decide +kernel⟩
theorem zrX12_think_X12_in : zRm rmX12_in rmX12_think 6 := ⟨rfl, rfl, by decide, by decide⟩
theorem zrX12_think_X12_noBargain : zRm rmX12_noBargain rmX12_think 2 := ⟨rfl, rfl, by decide, by decide⟩
theorem zrX12_think_X12_noGap : zRm rmX12_noGap rmX12_think 1 := ⟨rfl, rfl, by decide, by decide⟩
set_option maxHeartbeats 1000000 in
set_option maxRecDepth 100000 in
theorem c_X12_think (B : zB) (I : zM) (J : zJ) (hJ : zJok J) (v1 : Int32) (v2 : Int32) (v3 : Int32) (v4 : Int32) (r : Int32) (I' : zM) (hf : f_X12_think J v1 v2 v3 v4 I = some (r, I')) : zCi B zKW I J yX12_think wsX12_think rmX12_think [.ref (za B 147), .int v1, .int v2, .int v3, .int v4] (fun r2 I2 J2 => r2 = r ∧ I2 = I' ∧ J2 = J) := by
  refine z_start (own := RX12) (cc := cX12_think) (nL := 7) (ret := (some .int)) rfl (by decide) rfl (Nat.le_of_ble_eq_true rfl) (L := [(0, .ref (za B 147)), (1, .int v1), (2, .int v2), (3, .int v3), (4, .int v4)]) rfl (fun G h hr => ?_)
  rw [f_X12_think] at hf
  refine z_aload_n h 0 dX12_think_0 rfl (rfl : 0 + 1 = 1) ?_
  refine z_iconst h 0 dX12_think_1 (by decide) (rfl : 1 + 1 = 2) ?_
  refine z_put (ci := 11) (C := RX12) (T := TX12) (N := 46) h 0 tyX12 tyX12_ok nmX12 rfl rfl (fun _ hq => List.mem_cons_of_mem _ (List.mem_append_right _ hq)) (by decide) (List.mem_of_getElem? (i := 1) rfl) rfl rfl rfl dX12_think_2 (rfl : 2 + 3 = 5) ?_
  refine z_aload_n h 0 dX12_think_5 rfl (rfl : 5 + 1 = 6) ?_
  refine z_iload_n h 1 dX12_think_6 rfl (rfl : 6 + 1 = 7) ?_
  obtain ⟨q1, e2, hf⟩ := zbind hf
  refine z_goF (z_runV (C := RX12) (T := TX12) (N := 46) (ci := 11) h [.int v1] [] zyX12_noBargain (c_X12_noBargain B (zu I 147 0 0) J hJ v1 _ _ e2) gX12_think_X12_noBargain rfl rfl rfl zrX12_think_X12_noBargain rfl (Nat.le_of_ble_eq_true rfl) ⟨Nat.zero_le _, Nat.zero_le _⟩ rfl dX12_think_7) rfl ?_
  refine z_if_ne (pc' := 13) h 20 dX12_think_10 (by decide) rfl (fun c3 => ?_) (fun c3 => ?_)
  · have hf := zitf c3 hf
    refine z_iconst h (-1) dX12_think_20 (by decide) (rfl : 20 + 1 = 21) ?_
    refine z_iret h hr dX12_think_21 ?_
    exact ⟨congrArg Prod.fst (zsome hf), congrArg Prod.snd (zsome hf), rfl⟩
  · have hf := zitt c3 hf
    refine z_iload_n h 3 dX12_think_13 rfl (rfl : 13 + 1 = 14) ?_
    obtain ⟨q4, e5, hf⟩ := zbind hf
    refine z_goF (z_runS h [.int v3] [] zyX12_noGap (c_X12_noGap B q1.2 J hJ v3 _ _ e5) gX12_think_X12_noGap zrX12_think_X12_noGap rfl (Nat.le_of_ble_eq_true rfl) ⟨Nat.zero_le _, Nat.zero_le _⟩ rfl dX12_think_14) rfl ?_
    refine z_if_eq (pc' := 20) h 22 dX12_think_17 (by decide) rfl (fun c6 => ?_) (fun c6 => ?_)
    · have hf := zitt c6 hf
      refine z_iload_n h 2 dX12_think_22 rfl (rfl : 22 + 1 = 23) ?_
      refine z_i2l h dX12_think_23 (rfl : 23 + 1 = 24) ?_
      refine z_lconst h 0 dX12_think_24 rfl (rfl : 24 + 1 = 25) ?_
      refine z_lconst h 1 dX12_think_25 rfl (rfl : 25 + 1 = 26) ?_
      obtain ⟨q7, e8, hf⟩ := zbind hf
      refine z_goF (z_runS h [.long (Int32.toInt64 v2), .long 0, .long 1] [] zyX12_in (c_X12_in B q4.2 J hJ (Int32.toInt64 v2) 0 1 _ _ e8) gX12_think_X12_in zrX12_think_X12_in rfl (Nat.le_of_ble_eq_true rfl) ⟨Nat.zero_le _, Nat.zero_le _⟩ rfl dX12_think_26) rfl ?_
      refine z_if_eq (pc' := 32) h 45 dX12_think_29 (by decide) rfl (fun c9 => ?_) (fun c9 => ?_)
      · have hf := zitt c9 hf
        refine z_bipush h (-2) dX12_think_45 (by decide) (rfl : 45 + 2 = 47) ?_
        refine z_iret h hr dX12_think_47 ?_
        exact ⟨congrArg Prod.fst (zsome hf), congrArg Prod.snd (zsome hf), rfl⟩
      · have hf := zitf c9 hf
        refine z_iload h 4 dX12_think_32 rfl (rfl : 32 + 2 = 34) ?_
        refine z_i2l h dX12_think_34 (rfl : 34 + 1 = 35) ?_
        refine z_lconst h 0 dX12_think_35 rfl (rfl : 35 + 1 = 36) ?_
        refine z_ldc2 h 5 (List.mem_of_getElem? (i := 2) rfl) dX12_think_36 (rfl : 36 + 3 = 39) ?_
        obtain ⟨q10, e11, hf⟩ := zbind hf
        refine z_goF (z_runS h [.long (Int32.toInt64 v4), .long 0, .long 5] [] zyX12_in (c_X12_in B q7.2 J hJ (Int32.toInt64 v4) 0 5 _ _ e11) gX12_think_X12_in zrX12_think_X12_in rfl (Nat.le_of_ble_eq_true rfl) ⟨Nat.zero_le _, Nat.zero_le _⟩ rfl dX12_think_39) rfl ?_
        refine z_if_ne (pc' := 45) h 48 dX12_think_42 (by decide) rfl (fun c12 => ?_) (fun c12 => ?_)
        · have hf := zitf c12 hf
          refine z_bipush h 12 dX12_think_48 (by decide) (rfl : 48 + 2 = 50) ?_
          refine z_iload_n h 1 dX12_think_50 rfl (rfl : 50 + 1 = 51) ?_
          refine z_imul h dX12_think_51 (rfl : 51 + 1 = 52) ?_
          refine z_bipush h 6 dX12_think_52 (by decide) (rfl : 52 + 2 = 54) ?_
          refine z_iload_n h 2 dX12_think_54 rfl (rfl : 54 + 1 = 55) ?_
          refine z_imul h dX12_think_55 (rfl : 55 + 1 = 56) ?_
          refine z_iadd h dX12_think_56 (rfl : 56 + 1 = 57) ?_
          refine z_iload_n h 3 dX12_think_57 rfl (rfl : 57 + 1 = 58) ?_
          refine z_iadd h dX12_think_58 (rfl : 58 + 1 = 59) ?_
          refine z_istore h [(5, .int ((((12 : Int32) * v1) + ((6 : Int32) * v2)) + v3)), (0, .ref (za B 147)), (1, .int v1), (2, .int v2), (3, .int v3), (4, .int v4)] dX12_think_59 (by decide) rfl (rfl : 59 + 2 = 61) ?_
          refine z_aload_n h 1 dX12_think_61 rfl (rfl : 61 + 1 = 62) ?_
          refine z_getr (ci := 11) (C := RX12) (T := TX12) (N := 46) h 24 164 ((hJ.1 147 24 (by decide)).trans rfl) rfl rfl (fun _ hq => List.mem_cons_of_mem _ (List.mem_append_right _ hq)) (by decide) (List.mem_of_getElem? (i := 3) rfl) rfl dX12_think_62 (rfl : 62 + 3 = 65) ?_
          refine z_iload h 0 dX12_think_65 rfl (rfl : 65 + 2 = 67) ?_
          obtain ⟨b13, hf⟩ := zchk hf
          refine z_iald h rfl b13 dX12_think_67 (rfl : 67 + 1 = 68) ?_
          refine z_istore h [(6, .int (q10.2 164 (Int32.toNatClampNeg ((((12 : Int32) * v1) + ((6 : Int32) * v2)) + v3)))), (5, .int ((((12 : Int32) * v1) + ((6 : Int32) * v2)) + v3)), (0, .ref (za B 147)), (1, .int v1), (2, .int v2), (3, .int v3), (4, .int v4)] dX12_think_68 (by decide) rfl (rfl : 68 + 2 = 70) ?_
          refine z_aload_n h 2 dX12_think_70 rfl (rfl : 70 + 1 = 71) ?_
          refine z_getr (ci := 11) (C := RX12) (T := TX12) (N := 46) h 24 164 ((hJ.1 147 24 (by decide)).trans rfl) rfl rfl (fun _ hq => List.mem_cons_of_mem _ (List.mem_append_right _ hq)) (by decide) (List.mem_of_getElem? (i := 3) rfl) rfl dX12_think_71 (rfl : 71 + 3 = 74) ?_
          refine z_iload h 1 dX12_think_74 rfl (rfl : 74 + 2 = 76) ?_
          refine z_iload h 6 dX12_think_76 rfl (rfl : 76 + 2 = 78) ?_
          obtain ⟨b14, hf⟩ := zchk hf
          refine z_iast h b14 rfl dX12_think_78 (rfl : 78 + 1 = 79) ?_
          refine z_iload h 0 dX12_think_79 rfl (rfl : 79 + 2 = 81) ?_
          refine z_iret h hr dX12_think_81 ?_
          exact ⟨congrArg Prod.fst (zsome hf), congrArg Prod.snd (zsome hf), rfl⟩
        · have hf := zitt c12 hf
          refine z_bipush h (-2) dX12_think_45 (by decide) (rfl : 45 + 2 = 47) ?_
          refine z_iret h hr dX12_think_47 ?_
          exact ⟨congrArg Prod.fst (zsome hf), congrArg Prod.snd (zsome hf), rfl⟩
    · have hf := zitf c6 hf
      refine z_iconst h (-1) dX12_think_20 (by decide) (rfl : 20 + 1 = 21) ?_
      refine z_iret h hr dX12_think_21 ?_
      exact ⟨congrArg Prod.fst (zsome hf), congrArg Prod.snd (zsome hf), rfl⟩
noncomputable def f_X12_part_19 (J : zJ) (u1 : Int32) : Nat → Int32 → Int32 → zM → Option ((Int32 × zM) ⊕ (Int32 × Int32 × zM))
  | 0, _, _, _ => none
  | n + 1, x2_19, x3_19, I19 => (if 6 ≤ x3_19 then some (.inr (x2_19, x3_19, I19)) else (if zin (((12 : Int32) * u1) + x3_19) 96 = true then (if zin ((((12 : Int32) * u1) + (6 : Int32)) + x3_19) 96 = true then (if I19 164 (Int32.toNatClampNeg (((12 : Int32) * u1) + x3_19)) ≤ 0 then f_X12_part_19 J u1 n (x2_19 ||| (0 : Int32)) (x3_19 + 1) I19 else (if I19 164 (Int32.toNatClampNeg ((((12 : Int32) * u1) + (6 : Int32)) + x3_19)) ≤ 0 then f_X12_part_19 J u1 n (x2_19 ||| (0 : Int32)) (x3_19 + 1) I19 else (if I19 164 (Int32.toNatClampNeg (((12 : Int32) * u1) + x3_19)) = I19 164 (Int32.toNatClampNeg ((((12 : Int32) * u1) + (6 : Int32)) + x3_19)) then f_X12_part_19 J u1 n (x2_19 ||| (0 : Int32)) (x3_19 + 1) I19 else f_X12_part_19 J u1 n (x2_19 ||| ((1 : Int32) <<< (x3_19 &&& 31))) (x3_19 + 1) I19))) else none) else none))
noncomputable def f_X12_part (J : zJ) (v1 : Int32) (I : zM) : Option (Int32 × zM) := ((f_X12_noBargain J v1 (zu I 147 0 0)).bind fun q1 => (if q1.1 = 0 then ((f_X12_part_19 J v1 zF 0 0 q1.2).bind fun q => Sum.elim (fun a => some a) (fun a6 => some ((a6.1, a6.2.2))) q) else some (((-1), q1.2))))
noncomputable abbrev rmX12_part : Room := { frames := 2, cells := 0, slots := 0, locals := 46 }
theorem zyX12_part : zY yX12_part wsX12_part cX12_part 6 (some .int) 1 := ⟨⟨_, rfl⟩, by decide +kernel⟩
theorem zrX12_part_X12_noBargain : zRm rmX12_noBargain rmX12_part 2 := ⟨rfl, rfl, by decide, by decide⟩
set_option maxHeartbeats 1000000 in
set_option maxRecDepth 100000 in
theorem c_X12_part (B : zB) (I : zM) (J : zJ) (hJ : zJok J) (v1 : Int32) (r : Int32) (I' : zM) (hf : f_X12_part J v1 I = some (r, I')) : zCi B zKW I J yX12_part wsX12_part rmX12_part [.ref (za B 147), .int v1] (fun r2 I2 J2 => r2 = r ∧ I2 = I' ∧ J2 = J) := by
  refine z_start (own := RX12) (cc := cX12_part) (nL := 6) (ret := (some .int)) rfl (by decide) rfl (Nat.le_of_ble_eq_true rfl) (L := [(0, .ref (za B 147)), (1, .int v1)]) rfl (fun G h hr => ?_)
  rw [f_X12_part] at hf
  refine z_aload_n h 0 dX12_part_0 rfl (rfl : 0 + 1 = 1) ?_
  refine z_iconst h 0 dX12_part_1 (by decide) (rfl : 1 + 1 = 2) ?_
  refine z_put (ci := 11) (C := RX12) (T := TX12) (N := 46) h 0 tyX12 tyX12_ok nmX12 rfl rfl (fun _ hq => List.mem_cons_of_mem _ (List.mem_append_right _ hq)) (by decide) (List.mem_of_getElem? (i := 1) rfl) rfl rfl rfl dX12_part_2 (rfl : 2 + 3 = 5) ?_
  refine z_aload_n h 0 dX12_part_5 rfl (rfl : 5 + 1 = 6) ?_
  refine z_iload_n h 1 dX12_part_6 rfl (rfl : 6 + 1 = 7) ?_
  obtain ⟨q1, e2, hf⟩ := zbind hf
  refine z_goF (z_runV (C := RX12) (T := TX12) (N := 46) (ci := 11) h [.int v1] [] zyX12_noBargain (c_X12_noBargain B (zu I 147 0 0) J hJ v1 _ _ e2) gX12_part_X12_noBargain rfl rfl rfl zrX12_part_X12_noBargain rfl (Nat.le_of_ble_eq_true rfl) ⟨Nat.zero_le _, Nat.zero_le _⟩ rfl dX12_part_7) rfl ?_
  refine z_if_eq (pc' := 13) h 15 dX12_part_10 (by decide) rfl (fun c3 => ?_) (fun c3 => ?_)
  · have hf := zitt c3 hf
    refine z_iconst h 0 dX12_part_15 (by decide) (rfl : 15 + 1 = 16) ?_
    refine z_istore_n h [(2, .int 0), (0, .ref (za B 147)), (1, .int v1)] dX12_part_16 (by decide) rfl (rfl : 16 + 1 = 17) ?_
    refine z_iconst h 0 dX12_part_17 (by decide) (rfl : 17 + 1 = 18) ?_
    refine z_istore_n h [(3, .int 0), (2, .int 0), (0, .ref (za B 147)), (1, .int v1)] dX12_part_18 (by decide) rfl (rfl : 18 + 1 = 19) ?_
    have loop_19_5 : ∀ (n : Nat) (x2_19 : Int32) (x3_19 : Int32) (I19 : zM) (q : (Int32 × zM) ⊕ (Int32 × Int32 × zM)), f_X12_part_19 J v1 n x2_19 x3_19 I19 = some q → (∀ a, q = .inl a → a = (r, I')) → (∀ a : Int32 × Int32 × zM, q = .inr a → Z B G zKW (a.2.2) (J) (0, 0) 87 [(0, .ref (za B 147)), (1, .int v1), (2, .int a.1), (3, .int a.2.1)] []) → Z B G zKW I19 J (0, 0) 19 [(0, .ref (za B 147)), (1, .int v1), (2, .int x2_19), (3, .int x3_19)] [] := by
      intro n; induction n with
      | zero => intro x2_19 x3_19 I19 q hf; exact absurd hf (by rw [f_X12_part_19]; exact fun z => by cases z)
      | succ n ih =>
        intro x2_19 x3_19 I19 q hf hP hE; rw [f_X12_part_19] at hf
        refine z_iload_n h 3 dX12_part_19 rfl (rfl : 19 + 1 = 20) ?_
        refine z_bipush h 6 dX12_part_20 (by decide) (rfl : 20 + 2 = 22) ?_
        refine z_icmp_ge (pc' := 25) h 87 dX12_part_22 (by decide) rfl (fun c6 => ?_) (fun c6 => ?_)
        · have hf := zitt c6 hf
          exact hE (x2_19, x3_19, I19) (zsome hf).symm
        · have hf := zitf c6 hf
          refine z_aload_n h 0 dX12_part_25 rfl (rfl : 25 + 1 = 26) ?_
          refine z_getr (ci := 11) (C := RX12) (T := TX12) (N := 46) h 24 164 ((hJ.1 147 24 (by decide)).trans rfl) rfl rfl (fun _ hq => List.mem_cons_of_mem _ (List.mem_append_right _ hq)) (by decide) (List.mem_of_getElem? (i := 2) rfl) rfl dX12_part_26 (rfl : 26 + 3 = 29) ?_
          refine z_bipush h 12 dX12_part_29 (by decide) (rfl : 29 + 2 = 31) ?_
          refine z_iload_n h 1 dX12_part_31 rfl (rfl : 31 + 1 = 32) ?_
          refine z_imul h dX12_part_32 (rfl : 32 + 1 = 33) ?_
          refine z_iload_n h 3 dX12_part_33 rfl (rfl : 33 + 1 = 34) ?_
          refine z_iadd h dX12_part_34 (rfl : 34 + 1 = 35) ?_
          obtain ⟨b7, hf⟩ := zchk hf
          refine z_iald h rfl b7 dX12_part_35 (rfl : 35 + 1 = 36) ?_
          refine z_istore h [(4, .int (I19 164 (Int32.toNatClampNeg (((12 : Int32) * v1) + x3_19)))), (0, .ref (za B 147)), (1, .int v1), (2, .int x2_19), (3, .int x3_19)] dX12_part_36 (by decide) rfl (rfl : 36 + 2 = 38) ?_
          refine z_aload_n h 1 dX12_part_38 rfl (rfl : 38 + 1 = 39) ?_
          refine z_getr (ci := 11) (C := RX12) (T := TX12) (N := 46) h 24 164 ((hJ.1 147 24 (by decide)).trans rfl) rfl rfl (fun _ hq => List.mem_cons_of_mem _ (List.mem_append_right _ hq)) (by decide) (List.mem_of_getElem? (i := 2) rfl) rfl dX12_part_39 (rfl : 39 + 3 = 42) ?_
          refine z_bipush h 12 dX12_part_42 (by decide) (rfl : 42 + 2 = 44) ?_
          refine z_iload_n h 2 dX12_part_44 rfl (rfl : 44 + 1 = 45) ?_
          refine z_imul h dX12_part_45 (rfl : 45 + 1 = 46) ?_
          refine z_bipush h 6 dX12_part_46 (by decide) (rfl : 46 + 2 = 48) ?_
          refine z_iadd h dX12_part_48 (rfl : 48 + 1 = 49) ?_
          refine z_iload_n h 4 dX12_part_49 rfl (rfl : 49 + 1 = 50) ?_
          refine z_iadd h dX12_part_50 (rfl : 50 + 1 = 51) ?_
          obtain ⟨b8, hf⟩ := zchk hf
          refine z_iald h rfl b8 dX12_part_51 (rfl : 51 + 1 = 52) ?_
          refine z_istore h [(5, .int (I19 164 (Int32.toNatClampNeg ((((12 : Int32) * v1) + (6 : Int32)) + x3_19)))), (4, .int (I19 164 (Int32.toNatClampNeg (((12 : Int32) * v1) + x3_19)))), (0, .ref (za B 147)), (1, .int v1), (2, .int x2_19), (3, .int x3_19)] dX12_part_52 (by decide) rfl (rfl : 52 + 2 = 54) ?_
          refine z_iload_n h 4 dX12_part_54 rfl (rfl : 54 + 1 = 55) ?_
          refine z_iload h 1 dX12_part_55 rfl (rfl : 55 + 2 = 57) ?_
          refine z_if_le (pc' := 60) h 78 dX12_part_57 (by decide) rfl (fun c9 => ?_) (fun c9 => ?_)
          · have hf := zitt c9 hf
            refine z_iconst h 0 dX12_part_78 (by decide) (rfl : 78 + 1 = 79) ?_
            refine z_ior h dX12_part_79 (rfl : 79 + 1 = 80) ?_
            refine z_istore_n h [(2, .int (x2_19 ||| (0 : Int32))), (5, .int (I19 164 (Int32.toNatClampNeg ((((12 : Int32) * v1) + (6 : Int32)) + x3_19)))), (4, .int (I19 164 (Int32.toNatClampNeg (((12 : Int32) * v1) + x3_19)))), (0, .ref (za B 147)), (1, .int v1), (3, .int x3_19)] dX12_part_80 (by decide) rfl (rfl : 80 + 1 = 81) ?_
            refine z_iinc h 5 (x3_19 + 1) [(3, .int (x3_19 + 1)), (2, .int (x2_19 ||| (0 : Int32))), (5, .int (I19 164 (Int32.toNatClampNeg ((((12 : Int32) * v1) + (6 : Int32)) + x3_19)))), (4, .int (I19 164 (Int32.toNatClampNeg (((12 : Int32) * v1) + x3_19)))), (0, .ref (za B 147)), (1, .int v1)] dX12_part_81 rfl rfl (by decide) rfl (rfl : 81 + 3 = 84) ?_
            refine z_goto (pc' := 19) h dX12_part_84 (by decide) ?_
            refine z_sub (L' := [(0, .ref (za B 147)), (1, .int v1), (2, .int (x2_19 ||| (0 : Int32))), (3, .int (x3_19 + 1))]) [4, 5, 1, 0] rfl ?_
            exact ih (x2_19 ||| (0 : Int32)) (x3_19 + 1) I19 _ hf hP hE
          · have hf := zitf c9 hf
            refine z_iload h 0 dX12_part_60 rfl (rfl : 60 + 2 = 62) ?_
            refine z_if_le (pc' := 65) h 78 dX12_part_62 (by decide) rfl (fun c10 => ?_) (fun c10 => ?_)
            · have hf := zitt c10 hf
              refine z_iconst h 0 dX12_part_78 (by decide) (rfl : 78 + 1 = 79) ?_
              refine z_ior h dX12_part_79 (rfl : 79 + 1 = 80) ?_
              refine z_istore_n h [(2, .int (x2_19 ||| (0 : Int32))), (5, .int (I19 164 (Int32.toNatClampNeg ((((12 : Int32) * v1) + (6 : Int32)) + x3_19)))), (4, .int (I19 164 (Int32.toNatClampNeg (((12 : Int32) * v1) + x3_19)))), (0, .ref (za B 147)), (1, .int v1), (3, .int x3_19)] dX12_part_80 (by decide) rfl (rfl : 80 + 1 = 81) ?_
              refine z_iinc h 5 (x3_19 + 1) [(3, .int (x3_19 + 1)), (2, .int (x2_19 ||| (0 : Int32))), (5, .int (I19 164 (Int32.toNatClampNeg ((((12 : Int32) * v1) + (6 : Int32)) + x3_19)))), (4, .int (I19 164 (Int32.toNatClampNeg (((12 : Int32) * v1) + x3_19)))), (0, .ref (za B 147)), (1, .int v1)] dX12_part_81 rfl rfl (by decide) rfl (rfl : 81 + 3 = 84) ?_
              refine z_goto (pc' := 19) h dX12_part_84 (by decide) ?_
              refine z_sub (L' := [(0, .ref (za B 147)), (1, .int v1), (2, .int (x2_19 ||| (0 : Int32))), (3, .int (x3_19 + 1))]) [4, 5, 1, 0] rfl ?_
              exact ih (x2_19 ||| (0 : Int32)) (x3_19 + 1) I19 _ hf hP hE
            · have hf := zitf c10 hf
              refine z_iload h 1 dX12_part_65 rfl (rfl : 65 + 2 = 67) ?_
              refine z_iload h 0 dX12_part_67 rfl (rfl : 67 + 2 = 69) ?_
              refine z_icmp_eq (pc' := 72) h 78 dX12_part_69 (by decide) rfl (fun c11 => ?_) (fun c11 => ?_)
              · have hf := zitt c11 hf
                refine z_iconst h 0 dX12_part_78 (by decide) (rfl : 78 + 1 = 79) ?_
                refine z_ior h dX12_part_79 (rfl : 79 + 1 = 80) ?_
                refine z_istore_n h [(2, .int (x2_19 ||| (0 : Int32))), (5, .int (I19 164 (Int32.toNatClampNeg ((((12 : Int32) * v1) + (6 : Int32)) + x3_19)))), (4, .int (I19 164 (Int32.toNatClampNeg (((12 : Int32) * v1) + x3_19)))), (0, .ref (za B 147)), (1, .int v1), (3, .int x3_19)] dX12_part_80 (by decide) rfl (rfl : 80 + 1 = 81) ?_
                refine z_iinc h 5 (x3_19 + 1) [(3, .int (x3_19 + 1)), (2, .int (x2_19 ||| (0 : Int32))), (5, .int (I19 164 (Int32.toNatClampNeg ((((12 : Int32) * v1) + (6 : Int32)) + x3_19)))), (4, .int (I19 164 (Int32.toNatClampNeg (((12 : Int32) * v1) + x3_19)))), (0, .ref (za B 147)), (1, .int v1)] dX12_part_81 rfl rfl (by decide) rfl (rfl : 81 + 3 = 84) ?_
                refine z_goto (pc' := 19) h dX12_part_84 (by decide) ?_
                refine z_sub (L' := [(0, .ref (za B 147)), (1, .int v1), (2, .int (x2_19 ||| (0 : Int32))), (3, .int (x3_19 + 1))]) [4, 5, 1, 0] rfl ?_
                exact ih (x2_19 ||| (0 : Int32)) (x3_19 + 1) I19 _ hf hP hE
              · have hf := zitf c11 hf
                refine z_iconst h 1 dX12_part_72 (by decide) (rfl : 72 + 1 = 73) ?_
                refine z_iload_n h 5 dX12_part_73 rfl (rfl : 73 + 1 = 74) ?_
                refine z_ishl h dX12_part_74 (rfl : 74 + 1 = 75) ?_
                refine z_goto (pc' := 79) h dX12_part_75 (by decide) ?_
                refine z_ior h dX12_part_79 (rfl : 79 + 1 = 80) ?_
                refine z_istore_n h [(2, .int (x2_19 ||| ((1 : Int32) <<< (x3_19 &&& 31)))), (5, .int (I19 164 (Int32.toNatClampNeg ((((12 : Int32) * v1) + (6 : Int32)) + x3_19)))), (4, .int (I19 164 (Int32.toNatClampNeg (((12 : Int32) * v1) + x3_19)))), (0, .ref (za B 147)), (1, .int v1), (3, .int x3_19)] dX12_part_80 (by decide) rfl (rfl : 80 + 1 = 81) ?_
                refine z_iinc h 5 (x3_19 + 1) [(3, .int (x3_19 + 1)), (2, .int (x2_19 ||| ((1 : Int32) <<< (x3_19 &&& 31)))), (5, .int (I19 164 (Int32.toNatClampNeg ((((12 : Int32) * v1) + (6 : Int32)) + x3_19)))), (4, .int (I19 164 (Int32.toNatClampNeg (((12 : Int32) * v1) + x3_19)))), (0, .ref (za B 147)), (1, .int v1)] dX12_part_81 rfl rfl (by decide) rfl (rfl : 81 + 3 = 84) ?_
                refine z_goto (pc' := 19) h dX12_part_84 (by decide) ?_
                refine z_sub (L' := [(0, .ref (za B 147)), (1, .int v1), (2, .int (x2_19 ||| ((1 : Int32) <<< (x3_19 &&& 31)))), (3, .int (x3_19 + 1))]) [4, 5, 1, 0] rfl ?_
                exact ih (x2_19 ||| ((1 : Int32) <<< (x3_19 &&& 31))) (x3_19 + 1) I19 _ hf hP hE
    refine z_sub (L' := [(0, .ref (za B 147)), (1, .int v1), (2, .int 0), (3, .int 0)]) [2, 3, 1, 0] rfl ?_
    obtain ⟨q4, e5, hf⟩ := zbind hf
    refine loop_19_5 _ 0 0 q1.2 q4 e5 (fun a ha => ?_) (fun a12 ha  => ?_)
    · have hf := zell ha hf
      exact zsome hf
    have hf := zelr ha hf
    clear ha loop_19_5
    refine z_iload_n h 2 dX12_part_87 rfl (rfl : 87 + 1 = 88) ?_
    refine z_iret h hr dX12_part_88 ?_
    exact ⟨congrArg Prod.fst (zsome hf), congrArg Prod.snd (zsome hf), rfl⟩
  · have hf := zitf c3 hf
    refine z_iconst h (-1) dX12_part_13 (by decide) (rfl : 13 + 1 = 14) ?_
    refine z_iret h hr dX12_part_14 ?_
    exact ⟨congrArg Prod.fst (zsome hf), congrArg Prod.snd (zsome hf), rfl⟩
noncomputable def f_X12_fars_5 (J : zJ) (u1 : Int32) (u2 : Int32) : Nat → Int32 → Int32 → zM → Option ((Int32 × zM) ⊕ (Int32 × Int32 × zM))
  | 0, _, _, _ => none
  | n + 1, x3_5, x4_5, I5 => (if 6 ≤ x4_5 then some (.inr (x3_5, x4_5, I5)) else (if zin ((((12 : Int32) * u1) + ((6 : Int32) * u2)) + x4_5) 96 = true then (if I5 164 (Int32.toNatClampNeg ((((12 : Int32) * u1) + ((6 : Int32) * u2)) + x4_5)) ≤ 0 then f_X12_fars_5 J u1 u2 n (x3_5 ||| (0 : Int32)) (x4_5 + 1) I5 else (if zin x4_5 6 = true then (if I5 164 (Int32.toNatClampNeg ((((12 : Int32) * u1) + ((6 : Int32) * u2)) + x4_5)) = I5 175 (Int32.toNatClampNeg x4_5) then f_X12_fars_5 J u1 u2 n (x3_5 ||| (0 : Int32)) (x4_5 + 1) I5 else f_X12_fars_5 J u1 u2 n (x3_5 ||| ((1 : Int32) <<< (x4_5 &&& 31))) (x4_5 + 1) I5) else none)) else none))
noncomputable def f_X12_fars (J : zJ) (v1 : Int32) (v2 : Int32) (I : zM) : Option (Int32 × zM) := ((f_X12_fars_5 J v1 v2 zF 0 0 I).bind fun q => Sum.elim (fun a => some a) (fun a3 => some ((a3.1, a3.2.2))) q)
noncomputable abbrev rmX12_fars : Room := { frames := 0, cells := 0, slots := 0, locals := 0 }
theorem zyX12_fars : zY yX12_fars wsX12_fars cX12_fars 6 (some .int) 2 := ⟨⟨_, rfl⟩, by decide +kernel⟩
set_option maxHeartbeats 1000000 in
set_option maxRecDepth 100000 in
theorem c_X12_fars (B : zB) (I : zM) (J : zJ) (hJ : zJok J) (v1 : Int32) (v2 : Int32) (r : Int32) (I' : zM) (hf : f_X12_fars J v1 v2 I = some (r, I')) : zCi B zKW I J yX12_fars wsX12_fars rmX12_fars [.ref (za B 147), .int v1, .int v2] (fun r2 I2 J2 => r2 = r ∧ I2 = I' ∧ J2 = J) := by
  refine z_start (own := RX12) (cc := cX12_fars) (nL := 6) (ret := (some .int)) rfl (by decide) rfl (Nat.le_of_ble_eq_true rfl) (L := [(0, .ref (za B 147)), (1, .int v1), (2, .int v2)]) rfl (fun G h hr => ?_)
  rw [f_X12_fars] at hf
  refine z_iconst h 0 dX12_fars_0 (by decide) (rfl : 0 + 1 = 1) ?_
  refine z_istore_n h [(3, .int 0), (0, .ref (za B 147)), (1, .int v1), (2, .int v2)] dX12_fars_1 (by decide) rfl (rfl : 1 + 1 = 2) ?_
  refine z_iconst h 0 dX12_fars_2 (by decide) (rfl : 2 + 1 = 3) ?_
  refine z_istore h [(4, .int 0), (3, .int 0), (0, .ref (za B 147)), (1, .int v1), (2, .int v2)] dX12_fars_3 (by decide) rfl (rfl : 3 + 2 = 5) ?_
  have loop_5_2 : ∀ (n : Nat) (x3_5 : Int32) (x4_5 : Int32) (I5 : zM) (q : (Int32 × zM) ⊕ (Int32 × Int32 × zM)), f_X12_fars_5 J v1 v2 n x3_5 x4_5 I5 = some q → (∀ a, q = .inl a → a = (r, I')) → (∀ a : Int32 × Int32 × zM, q = .inr a → Z B G zKW (a.2.2) (J) (0, 0) 65 [(0, .ref (za B 147)), (1, .int v1), (2, .int v2), (3, .int a.1), (4, .int a.2.1)] []) → Z B G zKW I5 J (0, 0) 5 [(0, .ref (za B 147)), (1, .int v1), (2, .int v2), (3, .int x3_5), (4, .int x4_5)] [] := by
    intro n; induction n with
    | zero => intro x3_5 x4_5 I5 q hf; exact absurd hf (by rw [f_X12_fars_5]; exact fun z => by cases z)
    | succ n ih =>
      intro x3_5 x4_5 I5 q hf hP hE; rw [f_X12_fars_5] at hf
      refine z_iload h 4 dX12_fars_5 rfl (rfl : 5 + 2 = 7) ?_
      refine z_bipush h 6 dX12_fars_7 (by decide) (rfl : 7 + 2 = 9) ?_
      refine z_icmp_ge (pc' := 12) h 65 dX12_fars_9 (by decide) rfl (fun c3 => ?_) (fun c3 => ?_)
      · have hf := zitt c3 hf
        exact hE (x3_5, x4_5, I5) (zsome hf).symm
      · have hf := zitf c3 hf
        refine z_aload_n h 0 dX12_fars_12 rfl (rfl : 12 + 1 = 13) ?_
        refine z_getr (ci := 11) (C := RX12) (T := TX12) (N := 46) h 24 164 ((hJ.1 147 24 (by decide)).trans rfl) rfl rfl (fun _ hq => List.mem_cons_of_mem _ (List.mem_append_right _ hq)) (by decide) (List.mem_of_getElem? (i := 1) rfl) rfl dX12_fars_13 (rfl : 13 + 3 = 16) ?_
        refine z_bipush h 12 dX12_fars_16 (by decide) (rfl : 16 + 2 = 18) ?_
        refine z_iload_n h 1 dX12_fars_18 rfl (rfl : 18 + 1 = 19) ?_
        refine z_imul h dX12_fars_19 (rfl : 19 + 1 = 20) ?_
        refine z_bipush h 6 dX12_fars_20 (by decide) (rfl : 20 + 2 = 22) ?_
        refine z_iload_n h 2 dX12_fars_22 rfl (rfl : 22 + 1 = 23) ?_
        refine z_imul h dX12_fars_23 (rfl : 23 + 1 = 24) ?_
        refine z_iadd h dX12_fars_24 (rfl : 24 + 1 = 25) ?_
        refine z_iload h 4 dX12_fars_25 rfl (rfl : 25 + 2 = 27) ?_
        refine z_iadd h dX12_fars_27 (rfl : 27 + 1 = 28) ?_
        obtain ⟨b4, hf⟩ := zchk hf
        refine z_iald h rfl b4 dX12_fars_28 (rfl : 28 + 1 = 29) ?_
        refine z_istore h [(5, .int (I5 164 (Int32.toNatClampNeg ((((12 : Int32) * v1) + ((6 : Int32) * v2)) + x4_5)))), (0, .ref (za B 147)), (1, .int v1), (2, .int v2), (3, .int x3_5), (4, .int x4_5)] dX12_fars_29 (by decide) rfl (rfl : 29 + 2 = 31) ?_
        refine z_iload_n h 4 dX12_fars_31 rfl (rfl : 31 + 1 = 32) ?_
        refine z_iload h 0 dX12_fars_32 rfl (rfl : 32 + 2 = 34) ?_
        refine z_if_le (pc' := 37) h 56 dX12_fars_34 (by decide) rfl (fun c5 => ?_) (fun c5 => ?_)
        · have hf := zitt c5 hf
          refine z_iconst h 0 dX12_fars_56 (by decide) (rfl : 56 + 1 = 57) ?_
          refine z_ior h dX12_fars_57 (rfl : 57 + 1 = 58) ?_
          refine z_istore_n h [(3, .int (x3_5 ||| (0 : Int32))), (5, .int (I5 164 (Int32.toNatClampNeg ((((12 : Int32) * v1) + ((6 : Int32) * v2)) + x4_5)))), (0, .ref (za B 147)), (1, .int v1), (2, .int v2), (4, .int x4_5)] dX12_fars_58 (by decide) rfl (rfl : 58 + 1 = 59) ?_
          refine z_iinc h 5 (x4_5 + 1) [(4, .int (x4_5 + 1)), (3, .int (x3_5 ||| (0 : Int32))), (5, .int (I5 164 (Int32.toNatClampNeg ((((12 : Int32) * v1) + ((6 : Int32) * v2)) + x4_5)))), (0, .ref (za B 147)), (1, .int v1), (2, .int v2)] dX12_fars_59 rfl rfl (by decide) rfl (rfl : 59 + 3 = 62) ?_
          refine z_goto (pc' := 5) h dX12_fars_62 (by decide) ?_
          refine z_sub (L' := [(0, .ref (za B 147)), (1, .int v1), (2, .int v2), (3, .int (x3_5 ||| (0 : Int32))), (4, .int (x4_5 + 1))]) [3, 4, 5, 1, 0] rfl ?_
          exact ih (x3_5 ||| (0 : Int32)) (x4_5 + 1) I5 _ hf hP hE
        · have hf := zitf c5 hf
          refine z_iload h 0 dX12_fars_37 rfl (rfl : 37 + 2 = 39) ?_
          refine z_aload_n h 1 dX12_fars_39 rfl (rfl : 39 + 1 = 40) ?_
          refine z_getr (ci := 11) (C := RX12) (T := TX12) (N := 46) h 43 175 ((hJ.1 147 43 (by decide)).trans rfl) rfl rfl (fun _ hq => List.mem_cons_of_mem _ (List.mem_append_right _ hq)) (by decide) (List.mem_of_getElem? (i := 2) rfl) rfl dX12_fars_40 (rfl : 40 + 3 = 43) ?_
          refine z_iload h 5 dX12_fars_43 rfl (rfl : 43 + 2 = 45) ?_
          obtain ⟨b6, hf⟩ := zchk hf
          refine z_iald h rfl b6 dX12_fars_45 (rfl : 45 + 1 = 46) ?_
          refine z_icmp_eq (pc' := 49) h 56 dX12_fars_46 (by decide) rfl (fun c7 => ?_) (fun c7 => ?_)
          · have hf := zitt c7 hf
            refine z_iconst h 0 dX12_fars_56 (by decide) (rfl : 56 + 1 = 57) ?_
            refine z_ior h dX12_fars_57 (rfl : 57 + 1 = 58) ?_
            refine z_istore_n h [(3, .int (x3_5 ||| (0 : Int32))), (5, .int (I5 164 (Int32.toNatClampNeg ((((12 : Int32) * v1) + ((6 : Int32) * v2)) + x4_5)))), (0, .ref (za B 147)), (1, .int v1), (2, .int v2), (4, .int x4_5)] dX12_fars_58 (by decide) rfl (rfl : 58 + 1 = 59) ?_
            refine z_iinc h 5 (x4_5 + 1) [(4, .int (x4_5 + 1)), (3, .int (x3_5 ||| (0 : Int32))), (5, .int (I5 164 (Int32.toNatClampNeg ((((12 : Int32) * v1) + ((6 : Int32) * v2)) + x4_5)))), (0, .ref (za B 147)), (1, .int v1), (2, .int v2)] dX12_fars_59 rfl rfl (by decide) rfl (rfl : 59 + 3 = 62) ?_
            refine z_goto (pc' := 5) h dX12_fars_62 (by decide) ?_
            refine z_sub (L' := [(0, .ref (za B 147)), (1, .int v1), (2, .int v2), (3, .int (x3_5 ||| (0 : Int32))), (4, .int (x4_5 + 1))]) [3, 4, 5, 1, 0] rfl ?_
            exact ih (x3_5 ||| (0 : Int32)) (x4_5 + 1) I5 _ hf hP hE
          · have hf := zitf c7 hf
            refine z_iconst h 1 dX12_fars_49 (by decide) (rfl : 49 + 1 = 50) ?_
            refine z_iload h 5 dX12_fars_50 rfl (rfl : 50 + 2 = 52) ?_
            refine z_ishl h dX12_fars_52 (rfl : 52 + 1 = 53) ?_
            refine z_goto (pc' := 57) h dX12_fars_53 (by decide) ?_
            refine z_ior h dX12_fars_57 (rfl : 57 + 1 = 58) ?_
            refine z_istore_n h [(3, .int (x3_5 ||| ((1 : Int32) <<< (x4_5 &&& 31)))), (5, .int (I5 164 (Int32.toNatClampNeg ((((12 : Int32) * v1) + ((6 : Int32) * v2)) + x4_5)))), (0, .ref (za B 147)), (1, .int v1), (2, .int v2), (4, .int x4_5)] dX12_fars_58 (by decide) rfl (rfl : 58 + 1 = 59) ?_
            refine z_iinc h 5 (x4_5 + 1) [(4, .int (x4_5 + 1)), (3, .int (x3_5 ||| ((1 : Int32) <<< (x4_5 &&& 31)))), (5, .int (I5 164 (Int32.toNatClampNeg ((((12 : Int32) * v1) + ((6 : Int32) * v2)) + x4_5)))), (0, .ref (za B 147)), (1, .int v1), (2, .int v2)] dX12_fars_59 rfl rfl (by decide) rfl (rfl : 59 + 3 = 62) ?_
            refine z_goto (pc' := 5) h dX12_fars_62 (by decide) ?_
            refine z_sub (L' := [(0, .ref (za B 147)), (1, .int v1), (2, .int v2), (3, .int (x3_5 ||| ((1 : Int32) <<< (x4_5 &&& 31)))), (4, .int (x4_5 + 1))]) [3, 4, 5, 1, 0] rfl ?_
            exact ih (x3_5 ||| ((1 : Int32) <<< (x4_5 &&& 31))) (x4_5 + 1) I5 _ hf hP hE
  refine z_sub (L' := [(0, .ref (za B 147)), (1, .int v1), (2, .int v2), (3, .int 0), (4, .int 0)]) [2, 3, 4, 1, 0] rfl ?_
  obtain ⟨q1, e2, hf⟩ := zbind hf
  refine loop_5_2 _ 0 0 I q1 e2 (fun a ha => ?_) (fun a8 ha  => ?_)
  · have hf := zell ha hf
    exact zsome hf
  have hf := zelr ha hf
  clear ha loop_5_2
  refine z_iload_n h 3 dX12_fars_65 rfl (rfl : 65 + 1 = 66) ?_
  refine z_iret h hr dX12_fars_66 ?_
  exact ⟨congrArg Prod.fst (zsome hf), congrArg Prod.snd (zsome hf), rfl⟩
noncomputable def f_X12_far (J : zJ) (v1 : Int32) (v2 : Int32) (v3 : Int32) (I : zM) : Option (Int32 × zM) := ((f_X12_noReading J v1 v2 (zu I 147 0 0)).bind fun q1 => (if q1.1 = 0 then ((f_X12_in J (Int32.toInt64 v3) 0 1 q1.2).bind fun q4 => (if q4.1 = 0 then some (((-2), q4.2)) else ((f_X12_readIt J v1 v2 q4.2).bind fun q7 => ((f_X12_fars J v1 v3 q7).bind fun q9 => some ((q9.1, q9.2)))))) else some (((-1), q1.2))))
noncomputable abbrev rmX12_far : Room := { frames := 7, cells := 0, slots := 0, locals := 174 }
theorem zyX12_far : zY yX12_far wsX12_far cX12_far 4 (some .int) 3 := ⟨⟨_, rfl⟩, by decide +kernel⟩
theorem zrX12_far_X12_fars : zRm rmX12_fars rmX12_far 6 := ⟨rfl, rfl, by decide, by decide⟩
theorem zrX12_far_X12_in : zRm rmX12_in rmX12_far 6 := ⟨rfl, rfl, by decide, by decide⟩
theorem zrX12_far_X12_noReading : zRm rmX12_noReading rmX12_far 3 := ⟨rfl, rfl, by decide, by decide⟩
theorem zrX12_far_X12_readIt : zRm rmX12_readIt rmX12_far 7 := ⟨rfl, rfl, by decide, by decide⟩
set_option maxHeartbeats 1000000 in
set_option maxRecDepth 100000 in
theorem c_X12_far (B : zB) (I : zM) (J : zJ) (hJ : zJok J) (v1 : Int32) (v2 : Int32) (v3 : Int32) (r : Int32) (I' : zM) (hf : f_X12_far J v1 v2 v3 I = some (r, I')) : zCi B zKW I J yX12_far wsX12_far rmX12_far [.ref (za B 147), .int v1, .int v2, .int v3] (fun r2 I2 J2 => r2 = r ∧ I2 = I' ∧ J2 = J) := by
  refine z_start (own := RX12) (cc := cX12_far) (nL := 4) (ret := (some .int)) rfl (by decide) rfl (Nat.le_of_ble_eq_true rfl) (L := [(0, .ref (za B 147)), (1, .int v1), (2, .int v2), (3, .int v3)]) rfl (fun G h hr => ?_)
  rw [f_X12_far] at hf
  refine z_aload_n h 0 dX12_far_0 rfl (rfl : 0 + 1 = 1) ?_
  refine z_iconst h 0 dX12_far_1 (by decide) (rfl : 1 + 1 = 2) ?_
  refine z_put (ci := 11) (C := RX12) (T := TX12) (N := 46) h 0 tyX12 tyX12_ok nmX12 rfl rfl (fun _ hq => List.mem_cons_of_mem _ (List.mem_append_right _ hq)) (by decide) (List.mem_of_getElem? (i := 1) rfl) rfl rfl rfl dX12_far_2 (rfl : 2 + 3 = 5) ?_
  refine z_aload_n h 0 dX12_far_5 rfl (rfl : 5 + 1 = 6) ?_
  refine z_iload_n h 1 dX12_far_6 rfl (rfl : 6 + 1 = 7) ?_
  refine z_iload_n h 2 dX12_far_7 rfl (rfl : 7 + 1 = 8) ?_
  obtain ⟨q1, e2, hf⟩ := zbind hf
  refine z_goF (z_runV (C := RX12) (T := TX12) (N := 46) (ci := 11) h [.int v1, .int v2] [] zyX12_noReading (c_X12_noReading B (zu I 147 0 0) J hJ v1 v2 _ _ e2) gX12_far_X12_noReading rfl rfl rfl zrX12_far_X12_noReading rfl (Nat.le_of_ble_eq_true rfl) ⟨Nat.zero_le _, Nat.zero_le _⟩ rfl dX12_far_8) rfl ?_
  refine z_if_eq (pc' := 14) h 16 dX12_far_11 (by decide) rfl (fun c3 => ?_) (fun c3 => ?_)
  · have hf := zitt c3 hf
    refine z_iload_n h 3 dX12_far_16 rfl (rfl : 16 + 1 = 17) ?_
    refine z_i2l h dX12_far_17 (rfl : 17 + 1 = 18) ?_
    refine z_lconst h 0 dX12_far_18 rfl (rfl : 18 + 1 = 19) ?_
    refine z_lconst h 1 dX12_far_19 rfl (rfl : 19 + 1 = 20) ?_
    obtain ⟨q4, e5, hf⟩ := zbind hf
    refine z_goF (z_runS h [.long (Int32.toInt64 v3), .long 0, .long 1] [] zyX12_in (c_X12_in B q1.2 J hJ (Int32.toInt64 v3) 0 1 _ _ e5) gX12_far_X12_in zrX12_far_X12_in rfl (Nat.le_of_ble_eq_true rfl) ⟨Nat.zero_le _, Nat.zero_le _⟩ rfl dX12_far_20) rfl ?_
    refine z_if_ne (pc' := 26) h 29 dX12_far_23 (by decide) rfl (fun c6 => ?_) (fun c6 => ?_)
    · have hf := zitf c6 hf
      refine z_aload_n h 0 dX12_far_29 rfl (rfl : 29 + 1 = 30) ?_
      refine z_iload_n h 1 dX12_far_30 rfl (rfl : 30 + 1 = 31) ?_
      refine z_iload_n h 2 dX12_far_31 rfl (rfl : 31 + 1 = 32) ?_
      obtain ⟨q7, e8, hf⟩ := zbind hf
      refine z_goFv (z_runV (C := RX12) (T := TX12) (N := 46) (ci := 11) h [.int v1, .int v2] [] zyX12_readIt (c_X12_readIt B q4.2 J hJ v1 v2 _ e8) gX12_far_X12_readIt rfl rfl rfl zrX12_far_X12_readIt rfl (Nat.le_of_ble_eq_true rfl) ⟨Nat.zero_le _, Nat.zero_le _⟩ rfl dX12_far_32) rfl ?_
      refine z_aload_n h 0 dX12_far_35 rfl (rfl : 35 + 1 = 36) ?_
      refine z_iload_n h 1 dX12_far_36 rfl (rfl : 36 + 1 = 37) ?_
      refine z_iload_n h 3 dX12_far_37 rfl (rfl : 37 + 1 = 38) ?_
      obtain ⟨q9, e10, hf⟩ := zbind hf
      refine z_goF (z_runV (C := RX12) (T := TX12) (N := 46) (ci := 11) h [.int v1, .int v3] [] zyX12_fars (c_X12_fars B q7 J hJ v1 v3 _ _ e10) gX12_far_X12_fars rfl rfl rfl zrX12_far_X12_fars rfl (Nat.le_of_ble_eq_true rfl) ⟨Nat.zero_le _, Nat.zero_le _⟩ rfl dX12_far_38) rfl ?_
      refine z_iret h hr dX12_far_41 ?_
      exact ⟨congrArg Prod.fst (zsome hf), congrArg Prod.snd (zsome hf), rfl⟩
    · have hf := zitt c6 hf
      refine z_bipush h (-2) dX12_far_26 (by decide) (rfl : 26 + 2 = 28) ?_
      refine z_iret h hr dX12_far_28 ?_
      exact ⟨congrArg Prod.fst (zsome hf), congrArg Prod.snd (zsome hf), rfl⟩
  · have hf := zitf c3 hf
    refine z_iconst h (-1) dX12_far_14 (by decide) (rfl : 14 + 1 = 15) ?_
    refine z_iret h hr dX12_far_15 ?_
    exact ⟨congrArg Prod.fst (zsome hf), congrArg Prod.snd (zsome hf), rfl⟩
noncomputable def f_X12_alike (J : zJ) (v1 : Int32) (v2 : Int32) (I : zM) : Option (Int32 × zM) := (if zin (((12 : Int32) * v1) + v2) 96 = true then (if zin ((((12 : Int32) * v1) + (6 : Int32)) + v2) 96 = true then (if I 164 (Int32.toNatClampNeg (((12 : Int32) * v1) + v2)) = I 164 (Int32.toNatClampNeg ((((12 : Int32) * v1) + (6 : Int32)) + v2)) then (if zin (((12 : Int32) * v1) + v2) 96 = true then some ((I 164 (Int32.toNatClampNeg (((12 : Int32) * v1) + v2)), I)) else none) else some ((0, I))) else none) else none)
noncomputable abbrev rmX12_alike : Room := { frames := 0, cells := 0, slots := 0, locals := 0 }
theorem zyX12_alike : zY yX12_alike wsX12_alike cX12_alike 3 (some .int) 2 := ⟨⟨_, rfl⟩, by decide +kernel⟩
set_option maxHeartbeats 1000000 in
set_option maxRecDepth 100000 in
theorem c_X12_alike (B : zB) (I : zM) (J : zJ) (hJ : zJok J) (v1 : Int32) (v2 : Int32) (r : Int32) (I' : zM) (hf : f_X12_alike J v1 v2 I = some (r, I')) : zCi B zKW I J yX12_alike wsX12_alike rmX12_alike [.ref (za B 147), .int v1, .int v2] (fun r2 I2 J2 => r2 = r ∧ I2 = I' ∧ J2 = J) := by
  refine z_start (own := RX12) (cc := cX12_alike) (nL := 3) (ret := (some .int)) rfl (by decide) rfl (Nat.le_of_ble_eq_true rfl) (L := [(0, .ref (za B 147)), (1, .int v1), (2, .int v2)]) rfl (fun G h hr => ?_)
  rw [f_X12_alike] at hf
  refine z_aload_n h 0 dX12_alike_0 rfl (rfl : 0 + 1 = 1) ?_
  refine z_getr (ci := 11) (C := RX12) (T := TX12) (N := 46) h 24 164 ((hJ.1 147 24 (by decide)).trans rfl) rfl rfl (fun _ hq => List.mem_cons_of_mem _ (List.mem_append_right _ hq)) (by decide) (List.mem_of_getElem? (i := 1) rfl) rfl dX12_alike_1 (rfl : 1 + 3 = 4) ?_
  refine z_bipush h 12 dX12_alike_4 (by decide) (rfl : 4 + 2 = 6) ?_
  refine z_iload_n h 1 dX12_alike_6 rfl (rfl : 6 + 1 = 7) ?_
  refine z_imul h dX12_alike_7 (rfl : 7 + 1 = 8) ?_
  refine z_iload_n h 2 dX12_alike_8 rfl (rfl : 8 + 1 = 9) ?_
  refine z_iadd h dX12_alike_9 (rfl : 9 + 1 = 10) ?_
  obtain ⟨b1, hf⟩ := zchk hf
  refine z_iald h rfl b1 dX12_alike_10 (rfl : 10 + 1 = 11) ?_
  refine z_aload_n h 0 dX12_alike_11 rfl (rfl : 11 + 1 = 12) ?_
  refine z_getr (ci := 11) (C := RX12) (T := TX12) (N := 46) h 24 164 ((hJ.1 147 24 (by decide)).trans rfl) rfl rfl (fun _ hq => List.mem_cons_of_mem _ (List.mem_append_right _ hq)) (by decide) (List.mem_of_getElem? (i := 1) rfl) rfl dX12_alike_12 (rfl : 12 + 3 = 15) ?_
  refine z_bipush h 12 dX12_alike_15 (by decide) (rfl : 15 + 2 = 17) ?_
  refine z_iload_n h 1 dX12_alike_17 rfl (rfl : 17 + 1 = 18) ?_
  refine z_imul h dX12_alike_18 (rfl : 18 + 1 = 19) ?_
  refine z_bipush h 6 dX12_alike_19 (by decide) (rfl : 19 + 2 = 21) ?_
  refine z_iadd h dX12_alike_21 (rfl : 21 + 1 = 22) ?_
  refine z_iload_n h 2 dX12_alike_22 rfl (rfl : 22 + 1 = 23) ?_
  refine z_iadd h dX12_alike_23 (rfl : 23 + 1 = 24) ?_
  obtain ⟨b2, hf⟩ := zchk hf
  refine z_iald h rfl b2 dX12_alike_24 (rfl : 24 + 1 = 25) ?_
  refine z_icmp_ne (pc' := 28) h 42 dX12_alike_25 (by decide) rfl (fun c3 => ?_) (fun c3 => ?_)
  · have hf := zitf c3 hf
    refine z_iconst h 0 dX12_alike_42 (by decide) (rfl : 42 + 1 = 43) ?_
    refine z_iret h hr dX12_alike_43 ?_
    exact ⟨congrArg Prod.fst (zsome hf), congrArg Prod.snd (zsome hf), rfl⟩
  · have hf := zitt c3 hf
    refine z_aload_n h 0 dX12_alike_28 rfl (rfl : 28 + 1 = 29) ?_
    refine z_getr (ci := 11) (C := RX12) (T := TX12) (N := 46) h 24 164 ((hJ.1 147 24 (by decide)).trans rfl) rfl rfl (fun _ hq => List.mem_cons_of_mem _ (List.mem_append_right _ hq)) (by decide) (List.mem_of_getElem? (i := 1) rfl) rfl dX12_alike_29 (rfl : 29 + 3 = 32) ?_
    refine z_bipush h 12 dX12_alike_32 (by decide) (rfl : 32 + 2 = 34) ?_
    refine z_iload_n h 1 dX12_alike_34 rfl (rfl : 34 + 1 = 35) ?_
    refine z_imul h dX12_alike_35 (rfl : 35 + 1 = 36) ?_
    refine z_iload_n h 2 dX12_alike_36 rfl (rfl : 36 + 1 = 37) ?_
    refine z_iadd h dX12_alike_37 (rfl : 37 + 1 = 38) ?_
    obtain ⟨b4, hf⟩ := zchk hf
    refine z_iald h rfl b4 dX12_alike_38 (rfl : 38 + 1 = 39) ?_
    refine z_goto (pc' := 43) h dX12_alike_39 (by decide) ?_
    refine z_iret h hr dX12_alike_43 ?_
    exact ⟨congrArg Prod.fst (zsome hf), congrArg Prod.snd (zsome hf), rfl⟩
noncomputable def f_X12_words_35 (J : zJ) (u1 : Int32) (u2 : Int32) : Nat → Int32 → Int32 → zM → Option ((Int32 × zM) ⊕ (Int32 × Int32 × zM))
  | 0, _, _, _ => none
  | n + 1, x3_35, x4_35, I35 => (if 6 ≤ x4_35 then some (.inr (x3_35, x4_35, I35)) else (if zin (((6 : Int32) * u1) + x4_35) 48 = true then (if I35 162 (Int32.toNatClampNeg (((6 : Int32) * u1) + x4_35)) = 0 then ((f_X12_alike J u1 x4_35 I35).bind fun q10 => (if q10.1 ≤ 0 then f_X12_words_35 J u1 u2 n (x3_35 ||| (0 : Int32)) (x4_35 + 1) q10.2 else f_X12_words_35 J u1 u2 n (x3_35 ||| ((1 : Int32) <<< (x4_35 &&& 31))) (x4_35 + 1) q10.2)) else f_X12_words_35 J u1 u2 n (x3_35 ||| (0 : Int32)) (x4_35 + 1) I35) else none))
noncomputable def f_X12_words_130 (J : zJ) (u1 : Int32) (u2 : Int32) (u3 : Int32) (u4 : Int32) (u5 : Int32) : Nat → Int32 → zM → Option ((Int32 × zM) ⊕ (Int32 × zM))
  | 0, _, _ => none
  | n + 1, x6_130, I130 => (if 6 ≤ x6_130 then some (.inr (x6_130, I130)) else (if (u5 >>> (x6_130 &&& 31)) &&& (1 : Int32) = 1 then ((f_X12_alike J u1 x6_130 I130).bind fun q17 => (if zin (((6 : Int32) * u1) + x6_130) 48 = true then f_X12_words_130 J u1 u2 u3 u4 u5 n (x6_130 + 1) (zu q17.2 162 (Int32.toNatClampNeg (((6 : Int32) * u1) + x6_130)) q17.1) else none)) else (if zin (((6 : Int32) * u1) + x6_130) 48 = true then (if zin (((6 : Int32) * u1) + x6_130) 48 = true then f_X12_words_130 J u1 u2 u3 u4 u5 n (x6_130 + 1) (zu I130 162 (Int32.toNatClampNeg (((6 : Int32) * u1) + x6_130)) (I130 162 (Int32.toNatClampNeg (((6 : Int32) * u1) + x6_130)))) else none) else none)))
noncomputable def f_X12_words_194 (J : zJ) (u1 : Int32) (u2 : Int32) (u3 : Int32) (u4 : Int32) (u5 : Int32) : Nat → Int32 → Int32 → zM → Option ((Int32 × zM) ⊕ (Int32 × Int32 × zM))
  | 0, _, _, _ => none
  | n + 1, x6_194, x7_194, I194 => (if 4 ≤ x7_194 then some (.inr (x6_194, x7_194, I194)) else (if x6_194 = 0 then some (.inr (x6_194, x7_194, I194)) else (if (u2 >>> (x7_194 &&& 31)) &&& (1 : Int32) = 1 then ((f_X12_readIt J u1 x7_194 I194).bind fun q19 => ((f_X12_fars J u1 0 q19).bind fun q21 => (if q21.1 = 0 then ((f_X12_fars J u1 1 q21.2).bind fun q24 => (if q24.1 = 0 then f_X12_words_194 J u1 u2 u3 u4 u5 n 1 (x7_194 + 1) q24.2 else f_X12_words_194 J u1 u2 u3 u4 u5 n 0 (x7_194 + 1) q24.2)) else f_X12_words_194 J u1 u2 u3 u4 u5 n 0 (x7_194 + 1) q21.2))) else f_X12_words_194 J u1 u2 u3 u4 u5 n x6_194 (x7_194 + 1) I194)))
noncomputable def f_X12_words_270 (J : zJ) (u1 : Int32) (u2 : Int32) (u3 : Int32) (u4 : Int32) (u5 : Int32) (u6 : Int32) : Nat → Int32 → zM → Option ((Int32 × zM) ⊕ (Int32 × zM))
  | 0, _, _ => none
  | n + 1, x7_270, I270 => (if 6 ≤ x7_270 then some (.inr (x7_270, I270)) else (if (u5 >>> (x7_270 &&& 31)) &&& (1 : Int32) = 1 then (if zin (((6 : Int32) * u1) + x7_270) 48 = true then f_X12_words_270 J u1 u2 u3 u4 u5 u6 n (x7_270 + 1) (zu I270 162 (Int32.toNatClampNeg (((6 : Int32) * u1) + x7_270)) 0) else none) else (if zin (((6 : Int32) * u1) + x7_270) 48 = true then (if zin (((6 : Int32) * u1) + x7_270) 48 = true then f_X12_words_270 J u1 u2 u3 u4 u5 u6 n (x7_270 + 1) (zu I270 162 (Int32.toNatClampNeg (((6 : Int32) * u1) + x7_270)) (I270 162 (Int32.toNatClampNeg (((6 : Int32) * u1) + x7_270)))) else none) else none)))
noncomputable def f_X12_words_91 (J : zJ) (u1 : Int32) (u2 : Int32) (u3 : Int32) : Nat → Int32 → Int32 → zM → Option ((Int32 × zM) ⊕ (Int32 × Int32 × zM))
  | 0, _, _, _ => none
  | n + 1, x4_91, x5_91, I91 => (if 64 ≤ x5_91 then some (.inr (x4_91, x5_91, I91)) else (if x5_91 &&& (u3 ^^^ ((-1) : Int32)) = 0 then (if x4_91 = (-9) then ((f_X12_words_130 J u1 u2 u3 x4_91 x5_91 zF 0 I91).bind fun q => Sum.elim (fun a => some (.inl a)) (fun a15 => ((f_X12_words_194 J u1 u2 u3 x4_91 x5_91 zF 1 0 a15.2).bind fun q => Sum.elim (fun a => some (.inl a)) (fun a18 => (if a18.1 = 0 then ((f_X12_words_270 J u1 u2 u3 x4_91 x5_91 a18.1 zF 0 a18.2.2).bind fun q => Sum.elim (fun a => some (.inl a)) (fun a22 => f_X12_words_91 J u1 u2 u3 n x4_91 (x5_91 + 1) a22.2) q) else ((f_X12_words_270 J u1 u2 u3 x5_91 x5_91 a18.1 zF 0 a18.2.2).bind fun q => Sum.elim (fun a => some (.inl a)) (fun a25 => f_X12_words_91 J u1 u2 u3 n x5_91 (x5_91 + 1) a25.2) q))) q)) q) else ((f_X12_bits J x5_91 I91).bind fun q26 => ((f_X12_bits J x4_91 q26.2).bind fun q28 => (if q28.1 ≤ q26.1 then f_X12_words_91 J u1 u2 u3 n x4_91 (x5_91 + 1) q28.2 else ((f_X12_words_130 J u1 u2 u3 x4_91 x5_91 zF 0 q28.2).bind fun q => Sum.elim (fun a => some (.inl a)) (fun a33 => ((f_X12_words_194 J u1 u2 u3 x4_91 x5_91 zF 1 0 a33.2).bind fun q => Sum.elim (fun a => some (.inl a)) (fun a36 => (if a36.1 = 0 then ((f_X12_words_270 J u1 u2 u3 x4_91 x5_91 a36.1 zF 0 a36.2.2).bind fun q => Sum.elim (fun a => some (.inl a)) (fun a40 => f_X12_words_91 J u1 u2 u3 n x4_91 (x5_91 + 1) a40.2) q) else ((f_X12_words_270 J u1 u2 u3 x5_91 x5_91 a36.1 zF 0 a36.2.2).bind fun q => Sum.elim (fun a => some (.inl a)) (fun a43 => f_X12_words_91 J u1 u2 u3 n x5_91 (x5_91 + 1) a43.2) q))) q)) q))))) else f_X12_words_91 J u1 u2 u3 n x4_91 (x5_91 + 1) I91))
noncomputable def f_X12_words (J : zJ) (v1 : Int32) (v2 : Int32) (I : zM) : Option (Int32 × zM) := ((f_X12_noBargain J v1 (zu I 147 0 0)).bind fun q1 => (if q1.1 = 0 then ((f_X12_in J (Int32.toInt64 v2) 1 15 q1.2).bind fun q4 => (if q4.1 = 0 then some (((-2), q4.2)) else ((f_X12_words_35 J v1 v2 zF 0 0 q4.2).bind fun q => Sum.elim (fun a => some a) (fun a9 => ((f_X12_words_91 J v1 v2 a9.1 zF (-9) 0 a9.2.2).bind fun q => Sum.elim (fun a => some a) (fun a12 => some ((a12.1, a12.2.2))) q)) q))) else some (((-1), q1.2))))
noncomputable abbrev rmX12_words : Room := { frames := 7, cells := 0, slots := 0, locals := 174 }
theorem zyX12_words : zY yX12_words wsX12_words cX12_words 8 (some .int) 2 := ⟨⟨_, rfl⟩, by decide +kernel⟩
theorem zrX12_words_X12_alike : zRm rmX12_alike rmX12_words 3 := ⟨rfl, rfl, by decide, by decide⟩
theorem zrX12_words_X12_bits : zRm rmX12_bits rmX12_words 3 := ⟨rfl, rfl, by decide, by decide⟩
theorem zrX12_words_X12_fars : zRm rmX12_fars rmX12_words 6 := ⟨rfl, rfl, by decide, by decide⟩
theorem zrX12_words_X12_in : zRm rmX12_in rmX12_words 6 := ⟨rfl, rfl, by decide, by decide⟩
theorem zrX12_words_X12_noBargain : zRm rmX12_noBargain rmX12_words 2 := ⟨rfl, rfl, by decide, by decide⟩
theorem zrX12_words_X12_readIt : zRm rmX12_readIt rmX12_words 7 := ⟨rfl, rfl, by decide, by decide⟩
set_option maxHeartbeats 1000000 in
set_option maxRecDepth 100000 in
theorem c_X12_words (B : zB) (I : zM) (J : zJ) (hJ : zJok J) (v1 : Int32) (v2 : Int32) (r : Int32) (I' : zM) (hf : f_X12_words J v1 v2 I = some (r, I')) : zCi B zKW I J yX12_words wsX12_words rmX12_words [.ref (za B 147), .int v1, .int v2] (fun r2 I2 J2 => r2 = r ∧ I2 = I' ∧ J2 = J) := by
  refine z_start (own := RX12) (cc := cX12_words) (nL := 8) (ret := (some .int)) rfl (by decide) rfl (Nat.le_of_ble_eq_true rfl) (L := [(0, .ref (za B 147)), (1, .int v1), (2, .int v2)]) rfl (fun G h hr => ?_)
  rw [f_X12_words] at hf
  refine z_aload_n h 0 dX12_words_0 rfl (rfl : 0 + 1 = 1) ?_
  refine z_iconst h 0 dX12_words_1 (by decide) (rfl : 1 + 1 = 2) ?_
  refine z_put (ci := 11) (C := RX12) (T := TX12) (N := 46) h 0 tyX12 tyX12_ok nmX12 rfl rfl (fun _ hq => List.mem_cons_of_mem _ (List.mem_append_right _ hq)) (by decide) (List.mem_of_getElem? (i := 1) rfl) rfl rfl rfl dX12_words_2 (rfl : 2 + 3 = 5) ?_
  refine z_aload_n h 0 dX12_words_5 rfl (rfl : 5 + 1 = 6) ?_
  refine z_iload_n h 1 dX12_words_6 rfl (rfl : 6 + 1 = 7) ?_
  obtain ⟨q1, e2, hf⟩ := zbind hf
  refine z_goF (z_runV (C := RX12) (T := TX12) (N := 46) (ci := 11) h [.int v1] [] zyX12_noBargain (c_X12_noBargain B (zu I 147 0 0) J hJ v1 _ _ e2) gX12_words_X12_noBargain rfl rfl rfl zrX12_words_X12_noBargain rfl (Nat.le_of_ble_eq_true rfl) ⟨Nat.zero_le _, Nat.zero_le _⟩ rfl dX12_words_7) rfl ?_
  refine z_if_eq (pc' := 13) h 15 dX12_words_10 (by decide) rfl (fun c3 => ?_) (fun c3 => ?_)
  · have hf := zitt c3 hf
    refine z_iload_n h 2 dX12_words_15 rfl (rfl : 15 + 1 = 16) ?_
    refine z_i2l h dX12_words_16 (rfl : 16 + 1 = 17) ?_
    refine z_lconst h 1 dX12_words_17 rfl (rfl : 17 + 1 = 18) ?_
    refine z_ldc2 h 15 (List.mem_of_getElem? (i := 2) rfl) dX12_words_18 (rfl : 18 + 3 = 21) ?_
    obtain ⟨q4, e5, hf⟩ := zbind hf
    refine z_goF (z_runS h [.long (Int32.toInt64 v2), .long 1, .long 15] [] zyX12_in (c_X12_in B q1.2 J hJ (Int32.toInt64 v2) 1 15 _ _ e5) gX12_words_X12_in zrX12_words_X12_in rfl (Nat.le_of_ble_eq_true rfl) ⟨Nat.zero_le _, Nat.zero_le _⟩ rfl dX12_words_21) rfl ?_
    refine z_if_ne (pc' := 27) h 30 dX12_words_24 (by decide) rfl (fun c6 => ?_) (fun c6 => ?_)
    · have hf := zitf c6 hf
      refine z_iconst h 0 dX12_words_30 (by decide) (rfl : 30 + 1 = 31) ?_
      refine z_istore_n h [(3, .int 0), (0, .ref (za B 147)), (1, .int v1), (2, .int v2)] dX12_words_31 (by decide) rfl (rfl : 31 + 1 = 32) ?_
      refine z_iconst h 0 dX12_words_32 (by decide) (rfl : 32 + 1 = 33) ?_
      refine z_istore h [(4, .int 0), (3, .int 0), (0, .ref (za B 147)), (1, .int v1), (2, .int v2)] dX12_words_33 (by decide) rfl (rfl : 33 + 2 = 35) ?_
      have loop_35_8 : ∀ (n : Nat) (x3_35 : Int32) (x4_35 : Int32) (I35 : zM) (q : (Int32 × zM) ⊕ (Int32 × Int32 × zM)), f_X12_words_35 J v1 v2 n x3_35 x4_35 I35 = some q → (∀ a, q = .inl a → a = (r, I')) → (∀ a : Int32 × Int32 × zM, q = .inr a → Z B G zKW (a.2.2) (J) (0, 0) 84 [(0, .ref (za B 147)), (1, .int v1), (2, .int v2), (3, .int a.1), (4, .int a.2.1)] []) → Z B G zKW I35 J (0, 0) 35 [(0, .ref (za B 147)), (1, .int v1), (2, .int v2), (3, .int x3_35), (4, .int x4_35)] [] := by
        intro n; induction n with
        | zero => intro x3_35 x4_35 I35 q hf; exact absurd hf (by rw [f_X12_words_35]; exact fun z => by cases z)
        | succ n ih =>
          intro x3_35 x4_35 I35 q hf hP hE; rw [f_X12_words_35] at hf
          refine z_iload h 4 dX12_words_35 rfl (rfl : 35 + 2 = 37) ?_
          refine z_bipush h 6 dX12_words_37 (by decide) (rfl : 37 + 2 = 39) ?_
          refine z_icmp_ge (pc' := 42) h 84 dX12_words_39 (by decide) rfl (fun c9 => ?_) (fun c9 => ?_)
          · have hf := zitt c9 hf
            exact hE (x3_35, x4_35, I35) (zsome hf).symm
          · have hf := zitf c9 hf
            refine z_iload_n h 3 dX12_words_42 rfl (rfl : 42 + 1 = 43) ?_
            refine z_aload_n h 0 dX12_words_43 rfl (rfl : 43 + 1 = 44) ?_
            refine z_getr (ci := 11) (C := RX12) (T := TX12) (N := 46) h 22 162 ((hJ.1 147 22 (by decide)).trans rfl) rfl rfl (fun _ hq => List.mem_cons_of_mem _ (List.mem_append_right _ hq)) (by decide) (List.mem_of_getElem? (i := 3) rfl) rfl dX12_words_44 (rfl : 44 + 3 = 47) ?_
            refine z_bipush h 6 dX12_words_47 (by decide) (rfl : 47 + 2 = 49) ?_
            refine z_iload_n h 1 dX12_words_49 rfl (rfl : 49 + 1 = 50) ?_
            refine z_imul h dX12_words_50 (rfl : 50 + 1 = 51) ?_
            refine z_iload h 4 dX12_words_51 rfl (rfl : 51 + 2 = 53) ?_
            refine z_iadd h dX12_words_53 (rfl : 53 + 1 = 54) ?_
            obtain ⟨b10, hf⟩ := zchk hf
            refine z_iald h rfl b10 dX12_words_54 (rfl : 54 + 1 = 55) ?_
            refine z_if_ne (pc' := 58) h 75 dX12_words_55 (by decide) rfl (fun c11 => ?_) (fun c11 => ?_)
            · have hf := zitf c11 hf
              refine z_iconst h 0 dX12_words_75 (by decide) (rfl : 75 + 1 = 76) ?_
              refine z_ior h dX12_words_76 (rfl : 76 + 1 = 77) ?_
              refine z_istore_n h [(3, .int (x3_35 ||| (0 : Int32))), (0, .ref (za B 147)), (1, .int v1), (2, .int v2), (4, .int x4_35)] dX12_words_77 (by decide) rfl (rfl : 77 + 1 = 78) ?_
              refine z_iinc h 4 (x4_35 + 1) [(4, .int (x4_35 + 1)), (3, .int (x3_35 ||| (0 : Int32))), (0, .ref (za B 147)), (1, .int v1), (2, .int v2)] dX12_words_78 rfl rfl (by decide) rfl (rfl : 78 + 3 = 81) ?_
              refine z_goto (pc' := 35) h dX12_words_81 (by decide) ?_
              refine z_sub (L' := [(0, .ref (za B 147)), (1, .int v1), (2, .int v2), (3, .int (x3_35 ||| (0 : Int32))), (4, .int (x4_35 + 1))]) [2, 3, 4, 1, 0] rfl ?_
              exact ih (x3_35 ||| (0 : Int32)) (x4_35 + 1) I35 _ hf hP hE
            · have hf := zitt c11 hf
              refine z_aload_n h 0 dX12_words_58 rfl (rfl : 58 + 1 = 59) ?_
              refine z_iload_n h 1 dX12_words_59 rfl (rfl : 59 + 1 = 60) ?_
              refine z_iload h 4 dX12_words_60 rfl (rfl : 60 + 2 = 62) ?_
              obtain ⟨q12, e13, hf⟩ := zbind hf
              refine z_goF (z_runV (C := RX12) (T := TX12) (N := 46) (ci := 11) h [.int v1, .int x4_35] [.int x3_35] zyX12_alike (c_X12_alike B I35 J hJ v1 x4_35 _ _ e13) gX12_words_X12_alike rfl rfl rfl zrX12_words_X12_alike rfl (Nat.le_of_ble_eq_true rfl) ⟨Nat.zero_le _, Nat.zero_le _⟩ rfl dX12_words_62) rfl ?_
              refine z_if_le (pc' := 68) h 75 dX12_words_65 (by decide) rfl (fun c14 => ?_) (fun c14 => ?_)
              · have hf := zitt c14 hf
                refine z_iconst h 0 dX12_words_75 (by decide) (rfl : 75 + 1 = 76) ?_
                refine z_ior h dX12_words_76 (rfl : 76 + 1 = 77) ?_
                refine z_istore_n h [(3, .int (x3_35 ||| (0 : Int32))), (0, .ref (za B 147)), (1, .int v1), (2, .int v2), (4, .int x4_35)] dX12_words_77 (by decide) rfl (rfl : 77 + 1 = 78) ?_
                refine z_iinc h 4 (x4_35 + 1) [(4, .int (x4_35 + 1)), (3, .int (x3_35 ||| (0 : Int32))), (0, .ref (za B 147)), (1, .int v1), (2, .int v2)] dX12_words_78 rfl rfl (by decide) rfl (rfl : 78 + 3 = 81) ?_
                refine z_goto (pc' := 35) h dX12_words_81 (by decide) ?_
                refine z_sub (L' := [(0, .ref (za B 147)), (1, .int v1), (2, .int v2), (3, .int (x3_35 ||| (0 : Int32))), (4, .int (x4_35 + 1))]) [2, 3, 4, 1, 0] rfl ?_
                exact ih (x3_35 ||| (0 : Int32)) (x4_35 + 1) q12.2 _ hf hP hE
              · have hf := zitf c14 hf
                refine z_iconst h 1 dX12_words_68 (by decide) (rfl : 68 + 1 = 69) ?_
                refine z_iload h 4 dX12_words_69 rfl (rfl : 69 + 2 = 71) ?_
                refine z_ishl h dX12_words_71 (rfl : 71 + 1 = 72) ?_
                refine z_goto (pc' := 76) h dX12_words_72 (by decide) ?_
                refine z_ior h dX12_words_76 (rfl : 76 + 1 = 77) ?_
                refine z_istore_n h [(3, .int (x3_35 ||| ((1 : Int32) <<< (x4_35 &&& 31)))), (0, .ref (za B 147)), (1, .int v1), (2, .int v2), (4, .int x4_35)] dX12_words_77 (by decide) rfl (rfl : 77 + 1 = 78) ?_
                refine z_iinc h 4 (x4_35 + 1) [(4, .int (x4_35 + 1)), (3, .int (x3_35 ||| ((1 : Int32) <<< (x4_35 &&& 31)))), (0, .ref (za B 147)), (1, .int v1), (2, .int v2)] dX12_words_78 rfl rfl (by decide) rfl (rfl : 78 + 3 = 81) ?_
                refine z_goto (pc' := 35) h dX12_words_81 (by decide) ?_
                refine z_sub (L' := [(0, .ref (za B 147)), (1, .int v1), (2, .int v2), (3, .int (x3_35 ||| ((1 : Int32) <<< (x4_35 &&& 31)))), (4, .int (x4_35 + 1))]) [2, 3, 4, 1, 0] rfl ?_
                exact ih (x3_35 ||| ((1 : Int32) <<< (x4_35 &&& 31))) (x4_35 + 1) q12.2 _ hf hP hE
      refine z_sub (L' := [(0, .ref (za B 147)), (1, .int v1), (2, .int v2), (3, .int 0), (4, .int 0)]) [2, 3, 4, 1, 0] rfl ?_
      obtain ⟨q7, e8, hf⟩ := zbind hf
      refine loop_35_8 _ 0 0 q4.2 q7 e8 (fun a ha => ?_) (fun a15 ha  => ?_)
      · have hf := zell ha hf
        exact zsome hf
      have hf := zelr ha hf
      clear ha loop_35_8
      refine z_bipush h (-9) dX12_words_84 (by decide) (rfl : 84 + 2 = 86) ?_
      refine z_istore h [(4, .int (-9)), (0, .ref (za B 147)), (1, .int v1), (2, .int v2), (3, .int a15.1)] dX12_words_86 (by decide) rfl (rfl : 86 + 2 = 88) ?_
      refine z_iconst h 0 dX12_words_88 (by decide) (rfl : 88 + 1 = 89) ?_
      refine z_istore h [(5, .int 0), (4, .int (-9)), (0, .ref (za B 147)), (1, .int v1), (2, .int v2), (3, .int a15.1)] dX12_words_89 (by decide) rfl (rfl : 89 + 2 = 91) ?_
      have loop_91_17 : ∀ (n : Nat) (x4_91 : Int32) (x5_91 : Int32) (I91 : zM) (q : (Int32 × zM) ⊕ (Int32 × Int32 × zM)), f_X12_words_91 J v1 v2 a15.1 n x4_91 x5_91 I91 = some q → (∀ a, q = .inl a → a = (r, I')) → (∀ a : Int32 × Int32 × zM, q = .inr a → Z B G zKW (a.2.2) (J) (0, 0) 328 [(0, .ref (za B 147)), (1, .int v1), (2, .int v2), (3, .int a15.1), (4, .int a.1), (5, .int a.2.1)] []) → Z B G zKW I91 J (0, 0) 91 [(0, .ref (za B 147)), (1, .int v1), (2, .int v2), (3, .int a15.1), (4, .int x4_91), (5, .int x5_91)] [] := by
        intro n; induction n with
        | zero => intro x4_91 x5_91 I91 q hf; exact absurd hf (by rw [f_X12_words_91]; exact fun z => by cases z)
        | succ n ih =>
          intro x4_91 x5_91 I91 q hf hP hE; rw [f_X12_words_91] at hf
          refine z_iload h 5 dX12_words_91 rfl (rfl : 91 + 2 = 93) ?_
          refine z_bipush h 64 dX12_words_93 (by decide) (rfl : 93 + 2 = 95) ?_
          refine z_icmp_ge (pc' := 98) h 328 dX12_words_95 (by decide) rfl (fun c18 => ?_) (fun c18 => ?_)
          · have hf := zitt c18 hf
            exact hE (x4_91, x5_91, I91) (zsome hf).symm
          · have hf := zitf c18 hf
            refine z_iload h 5 dX12_words_98 rfl (rfl : 98 + 2 = 100) ?_
            refine z_iload_n h 3 dX12_words_100 rfl (rfl : 100 + 1 = 101) ?_
            refine z_iconst h (-1) dX12_words_101 (by decide) (rfl : 101 + 1 = 102) ?_
            refine z_ixor h dX12_words_102 (rfl : 102 + 1 = 103) ?_
            refine z_iand h dX12_words_103 (rfl : 103 + 1 = 104) ?_
            refine z_if_ne (pc' := 107) h 322 dX12_words_104 (by decide) rfl (fun c19 => ?_) (fun c19 => ?_)
            · have hf := zitf c19 hf
              refine z_iinc h 5 (x5_91 + 1) [(5, .int (x5_91 + 1)), (0, .ref (za B 147)), (1, .int v1), (2, .int v2), (3, .int a15.1), (4, .int x4_91)] dX12_words_322 rfl rfl (by decide) rfl (rfl : 322 + 3 = 325) ?_
              refine z_goto (pc' := 91) h dX12_words_325 (by decide) ?_
              refine z_sub (L' := [(0, .ref (za B 147)), (1, .int v1), (2, .int v2), (3, .int a15.1), (4, .int x4_91), (5, .int (x5_91 + 1))]) [1, 2, 3, 4, 5, 0] rfl ?_
              exact ih x4_91 (x5_91 + 1) I91 _ hf hP hE
            · have hf := zitt c19 hf
              refine z_iload h 4 dX12_words_107 rfl (rfl : 107 + 2 = 109) ?_
              refine z_bipush h (-9) dX12_words_109 (by decide) (rfl : 109 + 2 = 111) ?_
              refine z_icmp_eq (pc' := 114) h 127 dX12_words_111 (by decide) rfl (fun c20 => ?_) (fun c20 => ?_)
              · have hf := zitt c20 hf
                refine z_iconst h 0 dX12_words_127 (by decide) (rfl : 127 + 1 = 128) ?_
                refine z_istore h [(6, .int 0), (0, .ref (za B 147)), (1, .int v1), (2, .int v2), (3, .int a15.1), (4, .int x4_91), (5, .int x5_91)] dX12_words_128 (by decide) rfl (rfl : 128 + 2 = 130) ?_
                have loop_130_22 : ∀ (n : Nat) (x6_130 : Int32) (I130 : zM) (q : (Int32 × zM) ⊕ (Int32 × zM)), f_X12_words_130 J v1 v2 a15.1 x4_91 x5_91 n x6_130 I130 = some q → (∀ a, q = .inl a → a = (r, I')) → (∀ a : Int32 × zM, q = .inr a → Z B G zKW (a.2) (J) (0, 0) 188 [(0, .ref (za B 147)), (1, .int v1), (2, .int v2), (3, .int a15.1), (4, .int x4_91), (5, .int x5_91), (6, .int a.1)] []) → Z B G zKW I130 J (0, 0) 130 [(0, .ref (za B 147)), (1, .int v1), (2, .int v2), (3, .int a15.1), (4, .int x4_91), (5, .int x5_91), (6, .int x6_130)] [] := by
                  intro n; induction n with
                  | zero => intro x6_130 I130 q hf; exact absurd hf (by rw [f_X12_words_130]; exact fun z => by cases z)
                  | succ n ih =>
                    intro x6_130 I130 q hf hP hE; rw [f_X12_words_130] at hf
                    refine z_iload h 6 dX12_words_130 rfl (rfl : 130 + 2 = 132) ?_
                    refine z_bipush h 6 dX12_words_132 (by decide) (rfl : 132 + 2 = 134) ?_
                    refine z_icmp_ge (pc' := 137) h 188 dX12_words_134 (by decide) rfl (fun c23 => ?_) (fun c23 => ?_)
                    · have hf := zitt c23 hf
                      exact hE (x6_130, I130) (zsome hf).symm
                    · have hf := zitf c23 hf
                      refine z_aload_n h 0 dX12_words_137 rfl (rfl : 137 + 1 = 138) ?_
                      refine z_getr (ci := 11) (C := RX12) (T := TX12) (N := 46) h 22 162 ((hJ.1 147 22 (by decide)).trans rfl) rfl rfl (fun _ hq => List.mem_cons_of_mem _ (List.mem_append_right _ hq)) (by decide) (List.mem_of_getElem? (i := 3) rfl) rfl dX12_words_138 (rfl : 138 + 3 = 141) ?_
                      refine z_bipush h 6 dX12_words_141 (by decide) (rfl : 141 + 2 = 143) ?_
                      refine z_iload_n h 1 dX12_words_143 rfl (rfl : 143 + 1 = 144) ?_
                      refine z_imul h dX12_words_144 (rfl : 144 + 1 = 145) ?_
                      refine z_iload h 6 dX12_words_145 rfl (rfl : 145 + 2 = 147) ?_
                      refine z_iadd h dX12_words_147 (rfl : 147 + 1 = 148) ?_
                      refine z_iload h 5 dX12_words_148 rfl (rfl : 148 + 2 = 150) ?_
                      refine z_iload h 6 dX12_words_150 rfl (rfl : 150 + 2 = 152) ?_
                      refine z_ishr h dX12_words_152 (rfl : 152 + 1 = 153) ?_
                      refine z_iconst h 1 dX12_words_153 (by decide) (rfl : 153 + 1 = 154) ?_
                      refine z_iand h dX12_words_154 (rfl : 154 + 1 = 155) ?_
                      refine z_iconst h 1 dX12_words_155 (by decide) (rfl : 155 + 1 = 156) ?_
                      refine z_icmp_ne (pc' := 159) h 169 dX12_words_156 (by decide) rfl (fun c24 => ?_) (fun c24 => ?_)
                      · have hf := zitf c24 hf
                        refine z_aload_n h 0 dX12_words_169 rfl (rfl : 169 + 1 = 170) ?_
                        refine z_getr (ci := 11) (C := RX12) (T := TX12) (N := 46) h 22 162 ((hJ.1 147 22 (by decide)).trans rfl) rfl rfl (fun _ hq => List.mem_cons_of_mem _ (List.mem_append_right _ hq)) (by decide) (List.mem_of_getElem? (i := 3) rfl) rfl dX12_words_170 (rfl : 170 + 3 = 173) ?_
                        refine z_bipush h 6 dX12_words_173 (by decide) (rfl : 173 + 2 = 175) ?_
                        refine z_iload_n h 1 dX12_words_175 rfl (rfl : 175 + 1 = 176) ?_
                        refine z_imul h dX12_words_176 (rfl : 176 + 1 = 177) ?_
                        refine z_iload h 6 dX12_words_177 rfl (rfl : 177 + 2 = 179) ?_
                        refine z_iadd h dX12_words_179 (rfl : 179 + 1 = 180) ?_
                        obtain ⟨b25, hf⟩ := zchk hf
                        refine z_iald h rfl b25 dX12_words_180 (rfl : 180 + 1 = 181) ?_
                        obtain ⟨b26, hf⟩ := zchk hf
                        refine z_iast h b26 rfl dX12_words_181 (rfl : 181 + 1 = 182) ?_
                        refine z_iinc h 6 (x6_130 + 1) [(6, .int (x6_130 + 1)), (0, .ref (za B 147)), (1, .int v1), (2, .int v2), (3, .int a15.1), (4, .int x4_91), (5, .int x5_91)] dX12_words_182 rfl rfl (by decide) rfl (rfl : 182 + 3 = 185) ?_
                        refine z_goto (pc' := 130) h dX12_words_185 (by decide) ?_
                        refine z_sub (L' := [(0, .ref (za B 147)), (1, .int v1), (2, .int v2), (3, .int a15.1), (4, .int x4_91), (5, .int x5_91), (6, .int (x6_130 + 1))]) [1, 2, 3, 4, 5, 6, 0] rfl ?_
                        exact ih (x6_130 + 1) (zu I130 162 (Int32.toNatClampNeg (((6 : Int32) * v1) + x6_130)) (I130 162 (Int32.toNatClampNeg (((6 : Int32) * v1) + x6_130)))) _ hf hP hE
                      · have hf := zitt c24 hf
                        refine z_aload_n h 0 dX12_words_159 rfl (rfl : 159 + 1 = 160) ?_
                        refine z_iload_n h 1 dX12_words_160 rfl (rfl : 160 + 1 = 161) ?_
                        refine z_iload h 6 dX12_words_161 rfl (rfl : 161 + 2 = 163) ?_
                        obtain ⟨q27, e28, hf⟩ := zbind hf
                        refine z_goF (z_runV (C := RX12) (T := TX12) (N := 46) (ci := 11) h [.int v1, .int x6_130] [.int (((6 : Int32) * v1) + x6_130), .ref (za B 162)] zyX12_alike (c_X12_alike B I130 J hJ v1 x6_130 _ _ e28) gX12_words_X12_alike rfl rfl rfl zrX12_words_X12_alike rfl (Nat.le_of_ble_eq_true rfl) ⟨Nat.zero_le _, Nat.zero_le _⟩ rfl dX12_words_163) rfl ?_
                        refine z_goto (pc' := 181) h dX12_words_166 (by decide) ?_
                        obtain ⟨b29, hf⟩ := zchk hf
                        refine z_iast h b29 rfl dX12_words_181 (rfl : 181 + 1 = 182) ?_
                        refine z_iinc h 6 (x6_130 + 1) [(6, .int (x6_130 + 1)), (0, .ref (za B 147)), (1, .int v1), (2, .int v2), (3, .int a15.1), (4, .int x4_91), (5, .int x5_91)] dX12_words_182 rfl rfl (by decide) rfl (rfl : 182 + 3 = 185) ?_
                        refine z_goto (pc' := 130) h dX12_words_185 (by decide) ?_
                        refine z_sub (L' := [(0, .ref (za B 147)), (1, .int v1), (2, .int v2), (3, .int a15.1), (4, .int x4_91), (5, .int x5_91), (6, .int (x6_130 + 1))]) [1, 2, 3, 4, 5, 6, 0] rfl ?_
                        exact ih (x6_130 + 1) (zu q27.2 162 (Int32.toNatClampNeg (((6 : Int32) * v1) + x6_130)) q27.1) _ hf hP hE
                refine z_sub (L' := [(0, .ref (za B 147)), (1, .int v1), (2, .int v2), (3, .int a15.1), (4, .int x4_91), (5, .int x5_91), (6, .int 0)]) [1, 2, 3, 4, 5, 6, 0] rfl ?_
                obtain ⟨q21, e22, hf⟩ := zbind hf
                refine loop_130_22 _ 0 I91 q21 e22 (fun a ha => ?_) (fun a30 ha  => ?_)
                · have hf := zell ha hf
                  exact hP _ (zsome hf).symm
                have hf := zelr ha hf
                clear ha loop_130_22
                refine z_iconst h 1 dX12_words_188 (by decide) (rfl : 188 + 1 = 189) ?_
                refine z_istore h [(6, .int 1), (0, .ref (za B 147)), (1, .int v1), (2, .int v2), (3, .int a15.1), (4, .int x4_91), (5, .int x5_91)] dX12_words_189 (by decide) rfl (rfl : 189 + 2 = 191) ?_
                refine z_iconst h 0 dX12_words_191 (by decide) (rfl : 191 + 1 = 192) ?_
                refine z_istore h [(7, .int 0), (6, .int 1), (0, .ref (za B 147)), (1, .int v1), (2, .int v2), (3, .int a15.1), (4, .int x4_91), (5, .int x5_91)] dX12_words_192 (by decide) rfl (rfl : 192 + 2 = 194) ?_
                have loop_194_32 : ∀ (n : Nat) (x6_194 : Int32) (x7_194 : Int32) (I194 : zM) (q : (Int32 × zM) ⊕ (Int32 × Int32 × zM)), f_X12_words_194 J v1 v2 a15.1 x4_91 x5_91 n x6_194 x7_194 I194 = some q → (∀ a, q = .inl a → a = (r, I')) → (∀ a : Int32 × Int32 × zM, q = .inr a → Z B G zKW (a.2.2) (J) (0, 0) 253 [(0, .ref (za B 147)), (1, .int v1), (2, .int v2), (3, .int a15.1), (4, .int x4_91), (5, .int x5_91), (6, .int a.1), (7, .int a.2.1)] []) → Z B G zKW I194 J (0, 0) 194 [(0, .ref (za B 147)), (1, .int v1), (2, .int v2), (3, .int a15.1), (4, .int x4_91), (5, .int x5_91), (6, .int x6_194), (7, .int x7_194)] [] := by
                  intro n; induction n with
                  | zero => intro x6_194 x7_194 I194 q hf; exact absurd hf (by rw [f_X12_words_194]; exact fun z => by cases z)
                  | succ n ih =>
                    intro x6_194 x7_194 I194 q hf hP hE; rw [f_X12_words_194] at hf
                    refine z_iload h 7 dX12_words_194 rfl (rfl : 194 + 2 = 196) ?_
                    refine z_iconst h 4 dX12_words_196 (by decide) (rfl : 196 + 1 = 197) ?_
                    refine z_icmp_ge (pc' := 200) h 253 dX12_words_197 (by decide) rfl (fun c33 => ?_) (fun c33 => ?_)
                    · have hf := zitt c33 hf
                      exact hE (x6_194, x7_194, I194) (zsome hf).symm
                    · have hf := zitf c33 hf
                      refine z_iload h 6 dX12_words_200 rfl (rfl : 200 + 2 = 202) ?_
                      refine z_if_eq (pc' := 205) h 253 dX12_words_202 (by decide) rfl (fun c34 => ?_) (fun c34 => ?_)
                      · have hf := zitt c34 hf
                        exact hE (x6_194, x7_194, I194) (zsome hf).symm
                      · have hf := zitf c34 hf
                        refine z_iload_n h 2 dX12_words_205 rfl (rfl : 205 + 1 = 206) ?_
                        refine z_iload h 7 dX12_words_206 rfl (rfl : 206 + 2 = 208) ?_
                        refine z_ishr h dX12_words_208 (rfl : 208 + 1 = 209) ?_
                        refine z_iconst h 1 dX12_words_209 (by decide) (rfl : 209 + 1 = 210) ?_
                        refine z_iand h dX12_words_210 (rfl : 210 + 1 = 211) ?_
                        refine z_iconst h 1 dX12_words_211 (by decide) (rfl : 211 + 1 = 212) ?_
                        refine z_icmp_ne (pc' := 215) h 247 dX12_words_212 (by decide) rfl (fun c35 => ?_) (fun c35 => ?_)
                        · have hf := zitf c35 hf
                          refine z_iinc h 7 (x7_194 + 1) [(7, .int (x7_194 + 1)), (0, .ref (za B 147)), (1, .int v1), (2, .int v2), (3, .int a15.1), (4, .int x4_91), (5, .int x5_91), (6, .int x6_194)] dX12_words_247 rfl rfl (by decide) rfl (rfl : 247 + 3 = 250) ?_
                          refine z_goto (pc' := 194) h dX12_words_250 (by decide) ?_
                          refine z_sub (L' := [(0, .ref (za B 147)), (1, .int v1), (2, .int v2), (3, .int a15.1), (4, .int x4_91), (5, .int x5_91), (6, .int x6_194), (7, .int (x7_194 + 1))]) [1, 2, 3, 4, 5, 6, 7, 0] rfl ?_
                          exact ih x6_194 (x7_194 + 1) I194 _ hf hP hE
                        · have hf := zitt c35 hf
                          refine z_aload_n h 0 dX12_words_215 rfl (rfl : 215 + 1 = 216) ?_
                          refine z_iload_n h 1 dX12_words_216 rfl (rfl : 216 + 1 = 217) ?_
                          refine z_iload h 7 dX12_words_217 rfl (rfl : 217 + 2 = 219) ?_
                          obtain ⟨q36, e37, hf⟩ := zbind hf
                          refine z_goFv (z_runV (C := RX12) (T := TX12) (N := 46) (ci := 11) h [.int v1, .int x7_194] [] zyX12_readIt (c_X12_readIt B I194 J hJ v1 x7_194 _ e37) gX12_words_X12_readIt rfl rfl rfl zrX12_words_X12_readIt rfl (Nat.le_of_ble_eq_true rfl) ⟨Nat.zero_le _, Nat.zero_le _⟩ rfl dX12_words_219) rfl ?_
                          refine z_aload_n h 0 dX12_words_222 rfl (rfl : 222 + 1 = 223) ?_
                          refine z_iload_n h 1 dX12_words_223 rfl (rfl : 223 + 1 = 224) ?_
                          refine z_iconst h 0 dX12_words_224 (by decide) (rfl : 224 + 1 = 225) ?_
                          obtain ⟨q38, e39, hf⟩ := zbind hf
                          refine z_goF (z_runV (C := RX12) (T := TX12) (N := 46) (ci := 11) h [.int v1, .int 0] [] zyX12_fars (c_X12_fars B q36 J hJ v1 0 _ _ e39) gX12_words_X12_fars rfl rfl rfl zrX12_words_X12_fars rfl (Nat.le_of_ble_eq_true rfl) ⟨Nat.zero_le _, Nat.zero_le _⟩ rfl dX12_words_225) rfl ?_
                          refine z_if_ne (pc' := 231) h 244 dX12_words_228 (by decide) rfl (fun c40 => ?_) (fun c40 => ?_)
                          · have hf := zitf c40 hf
                            refine z_iconst h 0 dX12_words_244 (by decide) (rfl : 244 + 1 = 245) ?_
                            refine z_istore h [(6, .int 0), (0, .ref (za B 147)), (1, .int v1), (2, .int v2), (3, .int a15.1), (4, .int x4_91), (5, .int x5_91), (7, .int x7_194)] dX12_words_245 (by decide) rfl (rfl : 245 + 2 = 247) ?_
                            refine z_iinc h 7 (x7_194 + 1) [(7, .int (x7_194 + 1)), (6, .int 0), (0, .ref (za B 147)), (1, .int v1), (2, .int v2), (3, .int a15.1), (4, .int x4_91), (5, .int x5_91)] dX12_words_247 rfl rfl (by decide) rfl (rfl : 247 + 3 = 250) ?_
                            refine z_goto (pc' := 194) h dX12_words_250 (by decide) ?_
                            refine z_sub (L' := [(0, .ref (za B 147)), (1, .int v1), (2, .int v2), (3, .int a15.1), (4, .int x4_91), (5, .int x5_91), (6, .int 0), (7, .int (x7_194 + 1))]) [2, 3, 4, 5, 6, 7, 1, 0] rfl ?_
                            exact ih 0 (x7_194 + 1) q38.2 _ hf hP hE
                          · have hf := zitt c40 hf
                            refine z_aload_n h 0 dX12_words_231 rfl (rfl : 231 + 1 = 232) ?_
                            refine z_iload_n h 1 dX12_words_232 rfl (rfl : 232 + 1 = 233) ?_
                            refine z_iconst h 1 dX12_words_233 (by decide) (rfl : 233 + 1 = 234) ?_
                            obtain ⟨q41, e42, hf⟩ := zbind hf
                            refine z_goF (z_runV (C := RX12) (T := TX12) (N := 46) (ci := 11) h [.int v1, .int 1] [] zyX12_fars (c_X12_fars B q38.2 J hJ v1 1 _ _ e42) gX12_words_X12_fars rfl rfl rfl zrX12_words_X12_fars rfl (Nat.le_of_ble_eq_true rfl) ⟨Nat.zero_le _, Nat.zero_le _⟩ rfl dX12_words_234) rfl ?_
                            refine z_if_ne (pc' := 240) h 244 dX12_words_237 (by decide) rfl (fun c43 => ?_) (fun c43 => ?_)
                            · have hf := zitf c43 hf
                              refine z_iconst h 0 dX12_words_244 (by decide) (rfl : 244 + 1 = 245) ?_
                              refine z_istore h [(6, .int 0), (0, .ref (za B 147)), (1, .int v1), (2, .int v2), (3, .int a15.1), (4, .int x4_91), (5, .int x5_91), (7, .int x7_194)] dX12_words_245 (by decide) rfl (rfl : 245 + 2 = 247) ?_
                              refine z_iinc h 7 (x7_194 + 1) [(7, .int (x7_194 + 1)), (6, .int 0), (0, .ref (za B 147)), (1, .int v1), (2, .int v2), (3, .int a15.1), (4, .int x4_91), (5, .int x5_91)] dX12_words_247 rfl rfl (by decide) rfl (rfl : 247 + 3 = 250) ?_
                              refine z_goto (pc' := 194) h dX12_words_250 (by decide) ?_
                              refine z_sub (L' := [(0, .ref (za B 147)), (1, .int v1), (2, .int v2), (3, .int a15.1), (4, .int x4_91), (5, .int x5_91), (6, .int 0), (7, .int (x7_194 + 1))]) [2, 3, 4, 5, 6, 7, 1, 0] rfl ?_
                              exact ih 0 (x7_194 + 1) q41.2 _ hf hP hE
                            · have hf := zitt c43 hf
                              refine z_iconst h 1 dX12_words_240 (by decide) (rfl : 240 + 1 = 241) ?_
                              refine z_goto (pc' := 245) h dX12_words_241 (by decide) ?_
                              refine z_istore h [(6, .int 1), (0, .ref (za B 147)), (1, .int v1), (2, .int v2), (3, .int a15.1), (4, .int x4_91), (5, .int x5_91), (7, .int x7_194)] dX12_words_245 (by decide) rfl (rfl : 245 + 2 = 247) ?_
                              refine z_iinc h 7 (x7_194 + 1) [(7, .int (x7_194 + 1)), (6, .int 1), (0, .ref (za B 147)), (1, .int v1), (2, .int v2), (3, .int a15.1), (4, .int x4_91), (5, .int x5_91)] dX12_words_247 rfl rfl (by decide) rfl (rfl : 247 + 3 = 250) ?_
                              refine z_goto (pc' := 194) h dX12_words_250 (by decide) ?_
                              refine z_sub (L' := [(0, .ref (za B 147)), (1, .int v1), (2, .int v2), (3, .int a15.1), (4, .int x4_91), (5, .int x5_91), (6, .int 1), (7, .int (x7_194 + 1))]) [2, 3, 4, 5, 6, 7, 1, 0] rfl ?_
                              exact ih 1 (x7_194 + 1) q41.2 _ hf hP hE
                refine z_sub (L' := [(0, .ref (za B 147)), (1, .int v1), (2, .int v2), (3, .int a15.1), (4, .int x4_91), (5, .int x5_91), (6, .int 1), (7, .int 0)]) [2, 3, 4, 5, 6, 7, 1, 0] rfl ?_
                obtain ⟨q31, e32, hf⟩ := zbind hf
                refine loop_194_32 _ 1 0 a30.2 q31 e32 (fun a ha => ?_) (fun a44 ha  => ?_)
                · have hf := zell ha hf
                  exact hP _ (zsome hf).symm
                have hf := zelr ha hf
                clear ha loop_194_32
                refine z_iload h 6 dX12_words_253 rfl (rfl : 253 + 2 = 255) ?_
                refine z_if_eq (pc' := 258) h 263 dX12_words_255 (by decide) rfl (fun c45 => ?_) (fun c45 => ?_)
                · have hf := zitt c45 hf
                  refine z_iload h 4 dX12_words_263 rfl (rfl : 263 + 2 = 265) ?_
                  refine z_istore h [(4, .int x4_91), (0, .ref (za B 147)), (1, .int v1), (2, .int v2), (3, .int a15.1), (5, .int x5_91), (6, .int a44.1), (7, .int a44.2.1)] dX12_words_265 (by decide) rfl (rfl : 265 + 2 = 267) ?_
                  refine z_iconst h 0 dX12_words_267 (by decide) (rfl : 267 + 1 = 268) ?_
                  refine z_istore h [(7, .int 0), (4, .int x4_91), (0, .ref (za B 147)), (1, .int v1), (2, .int v2), (3, .int a15.1), (5, .int x5_91), (6, .int a44.1)] dX12_words_268 (by decide) rfl (rfl : 268 + 2 = 270) ?_
                  have loop_270_47 : ∀ (n : Nat) (x7_270 : Int32) (I270 : zM) (q : (Int32 × zM) ⊕ (Int32 × zM)), f_X12_words_270 J v1 v2 a15.1 x4_91 x5_91 a44.1 n x7_270 I270 = some q → (∀ a, q = .inl a → a = (r, I')) → (∀ a : Int32 × zM, q = .inr a → Z B G zKW (a.2) (J) (0, 0) 322 [(0, .ref (za B 147)), (1, .int v1), (2, .int v2), (3, .int a15.1), (4, .int x4_91), (5, .int x5_91), (6, .int a44.1), (7, .int a.1)] []) → Z B G zKW I270 J (0, 0) 270 [(0, .ref (za B 147)), (1, .int v1), (2, .int v2), (3, .int a15.1), (4, .int x4_91), (5, .int x5_91), (6, .int a44.1), (7, .int x7_270)] [] := by
                    intro n; induction n with
                    | zero => intro x7_270 I270 q hf; exact absurd hf (by rw [f_X12_words_270]; exact fun z => by cases z)
                    | succ n ih =>
                      intro x7_270 I270 q hf hP hE; rw [f_X12_words_270] at hf
                      refine z_iload h 7 dX12_words_270 rfl (rfl : 270 + 2 = 272) ?_
                      refine z_bipush h 6 dX12_words_272 (by decide) (rfl : 272 + 2 = 274) ?_
                      refine z_icmp_ge (pc' := 277) h 322 dX12_words_274 (by decide) rfl (fun c48 => ?_) (fun c48 => ?_)
                      · have hf := zitt c48 hf
                        exact hE (x7_270, I270) (zsome hf).symm
                      · have hf := zitf c48 hf
                        refine z_aload_n h 0 dX12_words_277 rfl (rfl : 277 + 1 = 278) ?_
                        refine z_getr (ci := 11) (C := RX12) (T := TX12) (N := 46) h 22 162 ((hJ.1 147 22 (by decide)).trans rfl) rfl rfl (fun _ hq => List.mem_cons_of_mem _ (List.mem_append_right _ hq)) (by decide) (List.mem_of_getElem? (i := 3) rfl) rfl dX12_words_278 (rfl : 278 + 3 = 281) ?_
                        refine z_bipush h 6 dX12_words_281 (by decide) (rfl : 281 + 2 = 283) ?_
                        refine z_iload_n h 1 dX12_words_283 rfl (rfl : 283 + 1 = 284) ?_
                        refine z_imul h dX12_words_284 (rfl : 284 + 1 = 285) ?_
                        refine z_iload h 7 dX12_words_285 rfl (rfl : 285 + 2 = 287) ?_
                        refine z_iadd h dX12_words_287 (rfl : 287 + 1 = 288) ?_
                        refine z_iload h 5 dX12_words_288 rfl (rfl : 288 + 2 = 290) ?_
                        refine z_iload h 7 dX12_words_290 rfl (rfl : 290 + 2 = 292) ?_
                        refine z_ishr h dX12_words_292 (rfl : 292 + 1 = 293) ?_
                        refine z_iconst h 1 dX12_words_293 (by decide) (rfl : 293 + 1 = 294) ?_
                        refine z_iand h dX12_words_294 (rfl : 294 + 1 = 295) ?_
                        refine z_iconst h 1 dX12_words_295 (by decide) (rfl : 295 + 1 = 296) ?_
                        refine z_icmp_ne (pc' := 299) h 303 dX12_words_296 (by decide) rfl (fun c49 => ?_) (fun c49 => ?_)
                        · have hf := zitf c49 hf
                          refine z_aload_n h 0 dX12_words_303 rfl (rfl : 303 + 1 = 304) ?_
                          refine z_getr (ci := 11) (C := RX12) (T := TX12) (N := 46) h 22 162 ((hJ.1 147 22 (by decide)).trans rfl) rfl rfl (fun _ hq => List.mem_cons_of_mem _ (List.mem_append_right _ hq)) (by decide) (List.mem_of_getElem? (i := 3) rfl) rfl dX12_words_304 (rfl : 304 + 3 = 307) ?_
                          refine z_bipush h 6 dX12_words_307 (by decide) (rfl : 307 + 2 = 309) ?_
                          refine z_iload_n h 1 dX12_words_309 rfl (rfl : 309 + 1 = 310) ?_
                          refine z_imul h dX12_words_310 (rfl : 310 + 1 = 311) ?_
                          refine z_iload h 7 dX12_words_311 rfl (rfl : 311 + 2 = 313) ?_
                          refine z_iadd h dX12_words_313 (rfl : 313 + 1 = 314) ?_
                          obtain ⟨b50, hf⟩ := zchk hf
                          refine z_iald h rfl b50 dX12_words_314 (rfl : 314 + 1 = 315) ?_
                          obtain ⟨b51, hf⟩ := zchk hf
                          refine z_iast h b51 rfl dX12_words_315 (rfl : 315 + 1 = 316) ?_
                          refine z_iinc h 7 (x7_270 + 1) [(7, .int (x7_270 + 1)), (0, .ref (za B 147)), (1, .int v1), (2, .int v2), (3, .int a15.1), (4, .int x4_91), (5, .int x5_91), (6, .int a44.1)] dX12_words_316 rfl rfl (by decide) rfl (rfl : 316 + 3 = 319) ?_
                          refine z_goto (pc' := 270) h dX12_words_319 (by decide) ?_
                          refine z_sub (L' := [(0, .ref (za B 147)), (1, .int v1), (2, .int v2), (3, .int a15.1), (4, .int x4_91), (5, .int x5_91), (6, .int a44.1), (7, .int (x7_270 + 1))]) [1, 2, 3, 4, 5, 6, 7, 0] rfl ?_
                          exact ih (x7_270 + 1) (zu I270 162 (Int32.toNatClampNeg (((6 : Int32) * v1) + x7_270)) (I270 162 (Int32.toNatClampNeg (((6 : Int32) * v1) + x7_270)))) _ hf hP hE
                        · have hf := zitt c49 hf
                          refine z_iconst h 0 dX12_words_299 (by decide) (rfl : 299 + 1 = 300) ?_
                          refine z_goto (pc' := 315) h dX12_words_300 (by decide) ?_
                          obtain ⟨b52, hf⟩ := zchk hf
                          refine z_iast h b52 rfl dX12_words_315 (rfl : 315 + 1 = 316) ?_
                          refine z_iinc h 7 (x7_270 + 1) [(7, .int (x7_270 + 1)), (0, .ref (za B 147)), (1, .int v1), (2, .int v2), (3, .int a15.1), (4, .int x4_91), (5, .int x5_91), (6, .int a44.1)] dX12_words_316 rfl rfl (by decide) rfl (rfl : 316 + 3 = 319) ?_
                          refine z_goto (pc' := 270) h dX12_words_319 (by decide) ?_
                          refine z_sub (L' := [(0, .ref (za B 147)), (1, .int v1), (2, .int v2), (3, .int a15.1), (4, .int x4_91), (5, .int x5_91), (6, .int a44.1), (7, .int (x7_270 + 1))]) [1, 2, 3, 4, 5, 6, 7, 0] rfl ?_
                          exact ih (x7_270 + 1) (zu I270 162 (Int32.toNatClampNeg (((6 : Int32) * v1) + x7_270)) 0) _ hf hP hE
                  refine z_sub (L' := [(0, .ref (za B 147)), (1, .int v1), (2, .int v2), (3, .int a15.1), (4, .int x4_91), (5, .int x5_91), (6, .int a44.1), (7, .int 0)]) [2, 3, 4, 5, 1, 6, 7, 0] rfl ?_
                  obtain ⟨q46, e47, hf⟩ := zbind hf
                  refine loop_270_47 _ 0 a44.2.2 q46 e47 (fun a ha => ?_) (fun a53 ha  => ?_)
                  · have hf := zell ha hf
                    exact hP _ (zsome hf).symm
                  have hf := zelr ha hf
                  clear ha loop_270_47
                  refine z_iinc h 5 (x5_91 + 1) [(5, .int (x5_91 + 1)), (0, .ref (za B 147)), (1, .int v1), (2, .int v2), (3, .int a15.1), (4, .int x4_91), (6, .int a44.1), (7, .int a53.1)] dX12_words_322 rfl rfl (by decide) rfl (rfl : 322 + 3 = 325) ?_
                  refine z_goto (pc' := 91) h dX12_words_325 (by decide) ?_
                  refine z_sub (L' := [(0, .ref (za B 147)), (1, .int v1), (2, .int v2), (3, .int a15.1), (4, .int x4_91), (5, .int (x5_91 + 1))]) [1, 2, 3, 4, 5, 0] rfl ?_
                  exact ih x4_91 (x5_91 + 1) a53.2 _ hf hP hE
                · have hf := zitf c45 hf
                  refine z_iload h 5 dX12_words_258 rfl (rfl : 258 + 2 = 260) ?_
                  refine z_goto (pc' := 265) h dX12_words_260 (by decide) ?_
                  refine z_istore h [(4, .int x5_91), (0, .ref (za B 147)), (1, .int v1), (2, .int v2), (3, .int a15.1), (5, .int x5_91), (6, .int a44.1), (7, .int a44.2.1)] dX12_words_265 (by decide) rfl (rfl : 265 + 2 = 267) ?_
                  refine z_iconst h 0 dX12_words_267 (by decide) (rfl : 267 + 1 = 268) ?_
                  refine z_istore h [(7, .int 0), (4, .int x5_91), (0, .ref (za B 147)), (1, .int v1), (2, .int v2), (3, .int a15.1), (5, .int x5_91), (6, .int a44.1)] dX12_words_268 (by decide) rfl (rfl : 268 + 2 = 270) ?_
                  have loop_270_55 : ∀ (n : Nat) (x7_270 : Int32) (I270 : zM) (q : (Int32 × zM) ⊕ (Int32 × zM)), f_X12_words_270 J v1 v2 a15.1 x5_91 x5_91 a44.1 n x7_270 I270 = some q → (∀ a, q = .inl a → a = (r, I')) → (∀ a : Int32 × zM, q = .inr a → Z B G zKW (a.2) (J) (0, 0) 322 [(0, .ref (za B 147)), (1, .int v1), (2, .int v2), (3, .int a15.1), (4, .int x5_91), (5, .int x5_91), (6, .int a44.1), (7, .int a.1)] []) → Z B G zKW I270 J (0, 0) 270 [(0, .ref (za B 147)), (1, .int v1), (2, .int v2), (3, .int a15.1), (4, .int x5_91), (5, .int x5_91), (6, .int a44.1), (7, .int x7_270)] [] := by
                    intro n; induction n with
                    | zero => intro x7_270 I270 q hf; exact absurd hf (by rw [f_X12_words_270]; exact fun z => by cases z)
                    | succ n ih =>
                      intro x7_270 I270 q hf hP hE; rw [f_X12_words_270] at hf
                      refine z_iload h 7 dX12_words_270 rfl (rfl : 270 + 2 = 272) ?_
                      refine z_bipush h 6 dX12_words_272 (by decide) (rfl : 272 + 2 = 274) ?_
                      refine z_icmp_ge (pc' := 277) h 322 dX12_words_274 (by decide) rfl (fun c56 => ?_) (fun c56 => ?_)
                      · have hf := zitt c56 hf
                        exact hE (x7_270, I270) (zsome hf).symm
                      · have hf := zitf c56 hf
                        refine z_aload_n h 0 dX12_words_277 rfl (rfl : 277 + 1 = 278) ?_
                        refine z_getr (ci := 11) (C := RX12) (T := TX12) (N := 46) h 22 162 ((hJ.1 147 22 (by decide)).trans rfl) rfl rfl (fun _ hq => List.mem_cons_of_mem _ (List.mem_append_right _ hq)) (by decide) (List.mem_of_getElem? (i := 3) rfl) rfl dX12_words_278 (rfl : 278 + 3 = 281) ?_
                        refine z_bipush h 6 dX12_words_281 (by decide) (rfl : 281 + 2 = 283) ?_
                        refine z_iload_n h 1 dX12_words_283 rfl (rfl : 283 + 1 = 284) ?_
                        refine z_imul h dX12_words_284 (rfl : 284 + 1 = 285) ?_
                        refine z_iload h 7 dX12_words_285 rfl (rfl : 285 + 2 = 287) ?_
                        refine z_iadd h dX12_words_287 (rfl : 287 + 1 = 288) ?_
                        refine z_iload h 5 dX12_words_288 rfl (rfl : 288 + 2 = 290) ?_
                        refine z_iload h 7 dX12_words_290 rfl (rfl : 290 + 2 = 292) ?_
                        refine z_ishr h dX12_words_292 (rfl : 292 + 1 = 293) ?_
                        refine z_iconst h 1 dX12_words_293 (by decide) (rfl : 293 + 1 = 294) ?_
                        refine z_iand h dX12_words_294 (rfl : 294 + 1 = 295) ?_
                        refine z_iconst h 1 dX12_words_295 (by decide) (rfl : 295 + 1 = 296) ?_
                        refine z_icmp_ne (pc' := 299) h 303 dX12_words_296 (by decide) rfl (fun c57 => ?_) (fun c57 => ?_)
                        · have hf := zitf c57 hf
                          refine z_aload_n h 0 dX12_words_303 rfl (rfl : 303 + 1 = 304) ?_
                          refine z_getr (ci := 11) (C := RX12) (T := TX12) (N := 46) h 22 162 ((hJ.1 147 22 (by decide)).trans rfl) rfl rfl (fun _ hq => List.mem_cons_of_mem _ (List.mem_append_right _ hq)) (by decide) (List.mem_of_getElem? (i := 3) rfl) rfl dX12_words_304 (rfl : 304 + 3 = 307) ?_
                          refine z_bipush h 6 dX12_words_307 (by decide) (rfl : 307 + 2 = 309) ?_
                          refine z_iload_n h 1 dX12_words_309 rfl (rfl : 309 + 1 = 310) ?_
                          refine z_imul h dX12_words_310 (rfl : 310 + 1 = 311) ?_
                          refine z_iload h 7 dX12_words_311 rfl (rfl : 311 + 2 = 313) ?_
                          refine z_iadd h dX12_words_313 (rfl : 313 + 1 = 314) ?_
                          obtain ⟨b58, hf⟩ := zchk hf
                          refine z_iald h rfl b58 dX12_words_314 (rfl : 314 + 1 = 315) ?_
                          obtain ⟨b59, hf⟩ := zchk hf
                          refine z_iast h b59 rfl dX12_words_315 (rfl : 315 + 1 = 316) ?_
                          refine z_iinc h 7 (x7_270 + 1) [(7, .int (x7_270 + 1)), (0, .ref (za B 147)), (1, .int v1), (2, .int v2), (3, .int a15.1), (4, .int x5_91), (5, .int x5_91), (6, .int a44.1)] dX12_words_316 rfl rfl (by decide) rfl (rfl : 316 + 3 = 319) ?_
                          refine z_goto (pc' := 270) h dX12_words_319 (by decide) ?_
                          refine z_sub (L' := [(0, .ref (za B 147)), (1, .int v1), (2, .int v2), (3, .int a15.1), (4, .int x5_91), (5, .int x5_91), (6, .int a44.1), (7, .int (x7_270 + 1))]) [1, 2, 3, 4, 5, 6, 7, 0] rfl ?_
                          exact ih (x7_270 + 1) (zu I270 162 (Int32.toNatClampNeg (((6 : Int32) * v1) + x7_270)) (I270 162 (Int32.toNatClampNeg (((6 : Int32) * v1) + x7_270)))) _ hf hP hE
                        · have hf := zitt c57 hf
                          refine z_iconst h 0 dX12_words_299 (by decide) (rfl : 299 + 1 = 300) ?_
                          refine z_goto (pc' := 315) h dX12_words_300 (by decide) ?_
                          obtain ⟨b60, hf⟩ := zchk hf
                          refine z_iast h b60 rfl dX12_words_315 (rfl : 315 + 1 = 316) ?_
                          refine z_iinc h 7 (x7_270 + 1) [(7, .int (x7_270 + 1)), (0, .ref (za B 147)), (1, .int v1), (2, .int v2), (3, .int a15.1), (4, .int x5_91), (5, .int x5_91), (6, .int a44.1)] dX12_words_316 rfl rfl (by decide) rfl (rfl : 316 + 3 = 319) ?_
                          refine z_goto (pc' := 270) h dX12_words_319 (by decide) ?_
                          refine z_sub (L' := [(0, .ref (za B 147)), (1, .int v1), (2, .int v2), (3, .int a15.1), (4, .int x5_91), (5, .int x5_91), (6, .int a44.1), (7, .int (x7_270 + 1))]) [1, 2, 3, 4, 5, 6, 7, 0] rfl ?_
                          exact ih (x7_270 + 1) (zu I270 162 (Int32.toNatClampNeg (((6 : Int32) * v1) + x7_270)) 0) _ hf hP hE
                  refine z_sub (L' := [(0, .ref (za B 147)), (1, .int v1), (2, .int v2), (3, .int a15.1), (4, .int x5_91), (5, .int x5_91), (6, .int a44.1), (7, .int 0)]) [2, 3, 4, 5, 1, 6, 7, 0] rfl ?_
                  obtain ⟨q54, e55, hf⟩ := zbind hf
                  refine loop_270_55 _ 0 a44.2.2 q54 e55 (fun a ha => ?_) (fun a61 ha  => ?_)
                  · have hf := zell ha hf
                    exact hP _ (zsome hf).symm
                  have hf := zelr ha hf
                  clear ha loop_270_55
                  refine z_iinc h 5 (x5_91 + 1) [(5, .int (x5_91 + 1)), (0, .ref (za B 147)), (1, .int v1), (2, .int v2), (3, .int a15.1), (4, .int x5_91), (6, .int a44.1), (7, .int a61.1)] dX12_words_322 rfl rfl (by decide) rfl (rfl : 322 + 3 = 325) ?_
                  refine z_goto (pc' := 91) h dX12_words_325 (by decide) ?_
                  refine z_sub (L' := [(0, .ref (za B 147)), (1, .int v1), (2, .int v2), (3, .int a15.1), (4, .int x5_91), (5, .int (x5_91 + 1))]) [1, 2, 3, 4, 5, 0] rfl ?_
                  exact ih x5_91 (x5_91 + 1) a61.2 _ hf hP hE
              · have hf := zitf c20 hf
                refine z_iload h 5 dX12_words_114 rfl (rfl : 114 + 2 = 116) ?_
                obtain ⟨q62, e63, hf⟩ := zbind hf
                refine z_goF (z_runS h [.int x5_91] [] zyX12_bits (c_X12_bits B I91 J hJ x5_91 _ _ e63) gX12_words_X12_bits zrX12_words_X12_bits rfl (Nat.le_of_ble_eq_true rfl) ⟨Nat.zero_le _, Nat.zero_le _⟩ rfl dX12_words_116) rfl ?_
                refine z_iload h 4 dX12_words_119 rfl (rfl : 119 + 2 = 121) ?_
                obtain ⟨q64, e65, hf⟩ := zbind hf
                refine z_goF (z_runS h [.int x4_91] [.int q62.1] zyX12_bits (c_X12_bits B q62.2 J hJ x4_91 _ _ e65) gX12_words_X12_bits zrX12_words_X12_bits rfl (Nat.le_of_ble_eq_true rfl) ⟨Nat.zero_le _, Nat.zero_le _⟩ rfl dX12_words_121) rfl ?_
                refine z_icmp_ge (pc' := 127) h 322 dX12_words_124 (by decide) rfl (fun c66 => ?_) (fun c66 => ?_)
                · have hf := zitt c66 hf
                  refine z_iinc h 5 (x5_91 + 1) [(5, .int (x5_91 + 1)), (0, .ref (za B 147)), (1, .int v1), (2, .int v2), (3, .int a15.1), (4, .int x4_91)] dX12_words_322 rfl rfl (by decide) rfl (rfl : 322 + 3 = 325) ?_
                  refine z_goto (pc' := 91) h dX12_words_325 (by decide) ?_
                  refine z_sub (L' := [(0, .ref (za B 147)), (1, .int v1), (2, .int v2), (3, .int a15.1), (4, .int x4_91), (5, .int (x5_91 + 1))]) [1, 2, 3, 4, 5, 0] rfl ?_
                  exact ih x4_91 (x5_91 + 1) q64.2 _ hf hP hE
                · have hf := zitf c66 hf
                  refine z_iconst h 0 dX12_words_127 (by decide) (rfl : 127 + 1 = 128) ?_
                  refine z_istore h [(6, .int 0), (0, .ref (za B 147)), (1, .int v1), (2, .int v2), (3, .int a15.1), (4, .int x4_91), (5, .int x5_91)] dX12_words_128 (by decide) rfl (rfl : 128 + 2 = 130) ?_
                  have loop_130_68 : ∀ (n : Nat) (x6_130 : Int32) (I130 : zM) (q : (Int32 × zM) ⊕ (Int32 × zM)), f_X12_words_130 J v1 v2 a15.1 x4_91 x5_91 n x6_130 I130 = some q → (∀ a, q = .inl a → a = (r, I')) → (∀ a : Int32 × zM, q = .inr a → Z B G zKW (a.2) (J) (0, 0) 188 [(0, .ref (za B 147)), (1, .int v1), (2, .int v2), (3, .int a15.1), (4, .int x4_91), (5, .int x5_91), (6, .int a.1)] []) → Z B G zKW I130 J (0, 0) 130 [(0, .ref (za B 147)), (1, .int v1), (2, .int v2), (3, .int a15.1), (4, .int x4_91), (5, .int x5_91), (6, .int x6_130)] [] := by
                    intro n; induction n with
                    | zero => intro x6_130 I130 q hf; exact absurd hf (by rw [f_X12_words_130]; exact fun z => by cases z)
                    | succ n ih =>
                      intro x6_130 I130 q hf hP hE; rw [f_X12_words_130] at hf
                      refine z_iload h 6 dX12_words_130 rfl (rfl : 130 + 2 = 132) ?_
                      refine z_bipush h 6 dX12_words_132 (by decide) (rfl : 132 + 2 = 134) ?_
                      refine z_icmp_ge (pc' := 137) h 188 dX12_words_134 (by decide) rfl (fun c69 => ?_) (fun c69 => ?_)
                      · have hf := zitt c69 hf
                        exact hE (x6_130, I130) (zsome hf).symm
                      · have hf := zitf c69 hf
                        refine z_aload_n h 0 dX12_words_137 rfl (rfl : 137 + 1 = 138) ?_
                        refine z_getr (ci := 11) (C := RX12) (T := TX12) (N := 46) h 22 162 ((hJ.1 147 22 (by decide)).trans rfl) rfl rfl (fun _ hq => List.mem_cons_of_mem _ (List.mem_append_right _ hq)) (by decide) (List.mem_of_getElem? (i := 3) rfl) rfl dX12_words_138 (rfl : 138 + 3 = 141) ?_
                        refine z_bipush h 6 dX12_words_141 (by decide) (rfl : 141 + 2 = 143) ?_
                        refine z_iload_n h 1 dX12_words_143 rfl (rfl : 143 + 1 = 144) ?_
                        refine z_imul h dX12_words_144 (rfl : 144 + 1 = 145) ?_
                        refine z_iload h 6 dX12_words_145 rfl (rfl : 145 + 2 = 147) ?_
                        refine z_iadd h dX12_words_147 (rfl : 147 + 1 = 148) ?_
                        refine z_iload h 5 dX12_words_148 rfl (rfl : 148 + 2 = 150) ?_
                        refine z_iload h 6 dX12_words_150 rfl (rfl : 150 + 2 = 152) ?_
                        refine z_ishr h dX12_words_152 (rfl : 152 + 1 = 153) ?_
                        refine z_iconst h 1 dX12_words_153 (by decide) (rfl : 153 + 1 = 154) ?_
                        refine z_iand h dX12_words_154 (rfl : 154 + 1 = 155) ?_
                        refine z_iconst h 1 dX12_words_155 (by decide) (rfl : 155 + 1 = 156) ?_
                        refine z_icmp_ne (pc' := 159) h 169 dX12_words_156 (by decide) rfl (fun c70 => ?_) (fun c70 => ?_)
                        · have hf := zitf c70 hf
                          refine z_aload_n h 0 dX12_words_169 rfl (rfl : 169 + 1 = 170) ?_
                          refine z_getr (ci := 11) (C := RX12) (T := TX12) (N := 46) h 22 162 ((hJ.1 147 22 (by decide)).trans rfl) rfl rfl (fun _ hq => List.mem_cons_of_mem _ (List.mem_append_right _ hq)) (by decide) (List.mem_of_getElem? (i := 3) rfl) rfl dX12_words_170 (rfl : 170 + 3 = 173) ?_
                          refine z_bipush h 6 dX12_words_173 (by decide) (rfl : 173 + 2 = 175) ?_
                          refine z_iload_n h 1 dX12_words_175 rfl (rfl : 175 + 1 = 176) ?_
                          refine z_imul h dX12_words_176 (rfl : 176 + 1 = 177) ?_
                          refine z_iload h 6 dX12_words_177 rfl (rfl : 177 + 2 = 179) ?_
                          refine z_iadd h dX12_words_179 (rfl : 179 + 1 = 180) ?_
                          obtain ⟨b71, hf⟩ := zchk hf
                          refine z_iald h rfl b71 dX12_words_180 (rfl : 180 + 1 = 181) ?_
                          obtain ⟨b72, hf⟩ := zchk hf
                          refine z_iast h b72 rfl dX12_words_181 (rfl : 181 + 1 = 182) ?_
                          refine z_iinc h 6 (x6_130 + 1) [(6, .int (x6_130 + 1)), (0, .ref (za B 147)), (1, .int v1), (2, .int v2), (3, .int a15.1), (4, .int x4_91), (5, .int x5_91)] dX12_words_182 rfl rfl (by decide) rfl (rfl : 182 + 3 = 185) ?_
                          refine z_goto (pc' := 130) h dX12_words_185 (by decide) ?_
                          refine z_sub (L' := [(0, .ref (za B 147)), (1, .int v1), (2, .int v2), (3, .int a15.1), (4, .int x4_91), (5, .int x5_91), (6, .int (x6_130 + 1))]) [1, 2, 3, 4, 5, 6, 0] rfl ?_
                          exact ih (x6_130 + 1) (zu I130 162 (Int32.toNatClampNeg (((6 : Int32) * v1) + x6_130)) (I130 162 (Int32.toNatClampNeg (((6 : Int32) * v1) + x6_130)))) _ hf hP hE
                        · have hf := zitt c70 hf
                          refine z_aload_n h 0 dX12_words_159 rfl (rfl : 159 + 1 = 160) ?_
                          refine z_iload_n h 1 dX12_words_160 rfl (rfl : 160 + 1 = 161) ?_
                          refine z_iload h 6 dX12_words_161 rfl (rfl : 161 + 2 = 163) ?_
                          obtain ⟨q73, e74, hf⟩ := zbind hf
                          refine z_goF (z_runV (C := RX12) (T := TX12) (N := 46) (ci := 11) h [.int v1, .int x6_130] [.int (((6 : Int32) * v1) + x6_130), .ref (za B 162)] zyX12_alike (c_X12_alike B I130 J hJ v1 x6_130 _ _ e74) gX12_words_X12_alike rfl rfl rfl zrX12_words_X12_alike rfl (Nat.le_of_ble_eq_true rfl) ⟨Nat.zero_le _, Nat.zero_le _⟩ rfl dX12_words_163) rfl ?_
                          refine z_goto (pc' := 181) h dX12_words_166 (by decide) ?_
                          obtain ⟨b75, hf⟩ := zchk hf
                          refine z_iast h b75 rfl dX12_words_181 (rfl : 181 + 1 = 182) ?_
                          refine z_iinc h 6 (x6_130 + 1) [(6, .int (x6_130 + 1)), (0, .ref (za B 147)), (1, .int v1), (2, .int v2), (3, .int a15.1), (4, .int x4_91), (5, .int x5_91)] dX12_words_182 rfl rfl (by decide) rfl (rfl : 182 + 3 = 185) ?_
                          refine z_goto (pc' := 130) h dX12_words_185 (by decide) ?_
                          refine z_sub (L' := [(0, .ref (za B 147)), (1, .int v1), (2, .int v2), (3, .int a15.1), (4, .int x4_91), (5, .int x5_91), (6, .int (x6_130 + 1))]) [1, 2, 3, 4, 5, 6, 0] rfl ?_
                          exact ih (x6_130 + 1) (zu q73.2 162 (Int32.toNatClampNeg (((6 : Int32) * v1) + x6_130)) q73.1) _ hf hP hE
                  refine z_sub (L' := [(0, .ref (za B 147)), (1, .int v1), (2, .int v2), (3, .int a15.1), (4, .int x4_91), (5, .int x5_91), (6, .int 0)]) [1, 2, 3, 4, 5, 6, 0] rfl ?_
                  obtain ⟨q67, e68, hf⟩ := zbind hf
                  refine loop_130_68 _ 0 q64.2 q67 e68 (fun a ha => ?_) (fun a76 ha  => ?_)
                  · have hf := zell ha hf
                    exact hP _ (zsome hf).symm
                  have hf := zelr ha hf
                  clear ha loop_130_68
                  refine z_iconst h 1 dX12_words_188 (by decide) (rfl : 188 + 1 = 189) ?_
                  refine z_istore h [(6, .int 1), (0, .ref (za B 147)), (1, .int v1), (2, .int v2), (3, .int a15.1), (4, .int x4_91), (5, .int x5_91)] dX12_words_189 (by decide) rfl (rfl : 189 + 2 = 191) ?_
                  refine z_iconst h 0 dX12_words_191 (by decide) (rfl : 191 + 1 = 192) ?_
                  refine z_istore h [(7, .int 0), (6, .int 1), (0, .ref (za B 147)), (1, .int v1), (2, .int v2), (3, .int a15.1), (4, .int x4_91), (5, .int x5_91)] dX12_words_192 (by decide) rfl (rfl : 192 + 2 = 194) ?_
                  have loop_194_78 : ∀ (n : Nat) (x6_194 : Int32) (x7_194 : Int32) (I194 : zM) (q : (Int32 × zM) ⊕ (Int32 × Int32 × zM)), f_X12_words_194 J v1 v2 a15.1 x4_91 x5_91 n x6_194 x7_194 I194 = some q → (∀ a, q = .inl a → a = (r, I')) → (∀ a : Int32 × Int32 × zM, q = .inr a → Z B G zKW (a.2.2) (J) (0, 0) 253 [(0, .ref (za B 147)), (1, .int v1), (2, .int v2), (3, .int a15.1), (4, .int x4_91), (5, .int x5_91), (6, .int a.1), (7, .int a.2.1)] []) → Z B G zKW I194 J (0, 0) 194 [(0, .ref (za B 147)), (1, .int v1), (2, .int v2), (3, .int a15.1), (4, .int x4_91), (5, .int x5_91), (6, .int x6_194), (7, .int x7_194)] [] := by
                    intro n; induction n with
                    | zero => intro x6_194 x7_194 I194 q hf; exact absurd hf (by rw [f_X12_words_194]; exact fun z => by cases z)
                    | succ n ih =>
                      intro x6_194 x7_194 I194 q hf hP hE; rw [f_X12_words_194] at hf
                      refine z_iload h 7 dX12_words_194 rfl (rfl : 194 + 2 = 196) ?_
                      refine z_iconst h 4 dX12_words_196 (by decide) (rfl : 196 + 1 = 197) ?_
                      refine z_icmp_ge (pc' := 200) h 253 dX12_words_197 (by decide) rfl (fun c79 => ?_) (fun c79 => ?_)
                      · have hf := zitt c79 hf
                        exact hE (x6_194, x7_194, I194) (zsome hf).symm
                      · have hf := zitf c79 hf
                        refine z_iload h 6 dX12_words_200 rfl (rfl : 200 + 2 = 202) ?_
                        refine z_if_eq (pc' := 205) h 253 dX12_words_202 (by decide) rfl (fun c80 => ?_) (fun c80 => ?_)
                        · have hf := zitt c80 hf
                          exact hE (x6_194, x7_194, I194) (zsome hf).symm
                        · have hf := zitf c80 hf
                          refine z_iload_n h 2 dX12_words_205 rfl (rfl : 205 + 1 = 206) ?_
                          refine z_iload h 7 dX12_words_206 rfl (rfl : 206 + 2 = 208) ?_
                          refine z_ishr h dX12_words_208 (rfl : 208 + 1 = 209) ?_
                          refine z_iconst h 1 dX12_words_209 (by decide) (rfl : 209 + 1 = 210) ?_
                          refine z_iand h dX12_words_210 (rfl : 210 + 1 = 211) ?_
                          refine z_iconst h 1 dX12_words_211 (by decide) (rfl : 211 + 1 = 212) ?_
                          refine z_icmp_ne (pc' := 215) h 247 dX12_words_212 (by decide) rfl (fun c81 => ?_) (fun c81 => ?_)
                          · have hf := zitf c81 hf
                            refine z_iinc h 7 (x7_194 + 1) [(7, .int (x7_194 + 1)), (0, .ref (za B 147)), (1, .int v1), (2, .int v2), (3, .int a15.1), (4, .int x4_91), (5, .int x5_91), (6, .int x6_194)] dX12_words_247 rfl rfl (by decide) rfl (rfl : 247 + 3 = 250) ?_
                            refine z_goto (pc' := 194) h dX12_words_250 (by decide) ?_
                            refine z_sub (L' := [(0, .ref (za B 147)), (1, .int v1), (2, .int v2), (3, .int a15.1), (4, .int x4_91), (5, .int x5_91), (6, .int x6_194), (7, .int (x7_194 + 1))]) [1, 2, 3, 4, 5, 6, 7, 0] rfl ?_
                            exact ih x6_194 (x7_194 + 1) I194 _ hf hP hE
                          · have hf := zitt c81 hf
                            refine z_aload_n h 0 dX12_words_215 rfl (rfl : 215 + 1 = 216) ?_
                            refine z_iload_n h 1 dX12_words_216 rfl (rfl : 216 + 1 = 217) ?_
                            refine z_iload h 7 dX12_words_217 rfl (rfl : 217 + 2 = 219) ?_
                            obtain ⟨q82, e83, hf⟩ := zbind hf
                            refine z_goFv (z_runV (C := RX12) (T := TX12) (N := 46) (ci := 11) h [.int v1, .int x7_194] [] zyX12_readIt (c_X12_readIt B I194 J hJ v1 x7_194 _ e83) gX12_words_X12_readIt rfl rfl rfl zrX12_words_X12_readIt rfl (Nat.le_of_ble_eq_true rfl) ⟨Nat.zero_le _, Nat.zero_le _⟩ rfl dX12_words_219) rfl ?_
                            refine z_aload_n h 0 dX12_words_222 rfl (rfl : 222 + 1 = 223) ?_
                            refine z_iload_n h 1 dX12_words_223 rfl (rfl : 223 + 1 = 224) ?_
                            refine z_iconst h 0 dX12_words_224 (by decide) (rfl : 224 + 1 = 225) ?_
                            obtain ⟨q84, e85, hf⟩ := zbind hf
                            refine z_goF (z_runV (C := RX12) (T := TX12) (N := 46) (ci := 11) h [.int v1, .int 0] [] zyX12_fars (c_X12_fars B q82 J hJ v1 0 _ _ e85) gX12_words_X12_fars rfl rfl rfl zrX12_words_X12_fars rfl (Nat.le_of_ble_eq_true rfl) ⟨Nat.zero_le _, Nat.zero_le _⟩ rfl dX12_words_225) rfl ?_
                            refine z_if_ne (pc' := 231) h 244 dX12_words_228 (by decide) rfl (fun c86 => ?_) (fun c86 => ?_)
                            · have hf := zitf c86 hf
                              refine z_iconst h 0 dX12_words_244 (by decide) (rfl : 244 + 1 = 245) ?_
                              refine z_istore h [(6, .int 0), (0, .ref (za B 147)), (1, .int v1), (2, .int v2), (3, .int a15.1), (4, .int x4_91), (5, .int x5_91), (7, .int x7_194)] dX12_words_245 (by decide) rfl (rfl : 245 + 2 = 247) ?_
                              refine z_iinc h 7 (x7_194 + 1) [(7, .int (x7_194 + 1)), (6, .int 0), (0, .ref (za B 147)), (1, .int v1), (2, .int v2), (3, .int a15.1), (4, .int x4_91), (5, .int x5_91)] dX12_words_247 rfl rfl (by decide) rfl (rfl : 247 + 3 = 250) ?_
                              refine z_goto (pc' := 194) h dX12_words_250 (by decide) ?_
                              refine z_sub (L' := [(0, .ref (za B 147)), (1, .int v1), (2, .int v2), (3, .int a15.1), (4, .int x4_91), (5, .int x5_91), (6, .int 0), (7, .int (x7_194 + 1))]) [2, 3, 4, 5, 6, 7, 1, 0] rfl ?_
                              exact ih 0 (x7_194 + 1) q84.2 _ hf hP hE
                            · have hf := zitt c86 hf
                              refine z_aload_n h 0 dX12_words_231 rfl (rfl : 231 + 1 = 232) ?_
                              refine z_iload_n h 1 dX12_words_232 rfl (rfl : 232 + 1 = 233) ?_
                              refine z_iconst h 1 dX12_words_233 (by decide) (rfl : 233 + 1 = 234) ?_
                              obtain ⟨q87, e88, hf⟩ := zbind hf
                              refine z_goF (z_runV (C := RX12) (T := TX12) (N := 46) (ci := 11) h [.int v1, .int 1] [] zyX12_fars (c_X12_fars B q84.2 J hJ v1 1 _ _ e88) gX12_words_X12_fars rfl rfl rfl zrX12_words_X12_fars rfl (Nat.le_of_ble_eq_true rfl) ⟨Nat.zero_le _, Nat.zero_le _⟩ rfl dX12_words_234) rfl ?_
                              refine z_if_ne (pc' := 240) h 244 dX12_words_237 (by decide) rfl (fun c89 => ?_) (fun c89 => ?_)
                              · have hf := zitf c89 hf
                                refine z_iconst h 0 dX12_words_244 (by decide) (rfl : 244 + 1 = 245) ?_
                                refine z_istore h [(6, .int 0), (0, .ref (za B 147)), (1, .int v1), (2, .int v2), (3, .int a15.1), (4, .int x4_91), (5, .int x5_91), (7, .int x7_194)] dX12_words_245 (by decide) rfl (rfl : 245 + 2 = 247) ?_
                                refine z_iinc h 7 (x7_194 + 1) [(7, .int (x7_194 + 1)), (6, .int 0), (0, .ref (za B 147)), (1, .int v1), (2, .int v2), (3, .int a15.1), (4, .int x4_91), (5, .int x5_91)] dX12_words_247 rfl rfl (by decide) rfl (rfl : 247 + 3 = 250) ?_
                                refine z_goto (pc' := 194) h dX12_words_250 (by decide) ?_
                                refine z_sub (L' := [(0, .ref (za B 147)), (1, .int v1), (2, .int v2), (3, .int a15.1), (4, .int x4_91), (5, .int x5_91), (6, .int 0), (7, .int (x7_194 + 1))]) [2, 3, 4, 5, 6, 7, 1, 0] rfl ?_
                                exact ih 0 (x7_194 + 1) q87.2 _ hf hP hE
                              · have hf := zitt c89 hf
                                refine z_iconst h 1 dX12_words_240 (by decide) (rfl : 240 + 1 = 241) ?_
                                refine z_goto (pc' := 245) h dX12_words_241 (by decide) ?_
                                refine z_istore h [(6, .int 1), (0, .ref (za B 147)), (1, .int v1), (2, .int v2), (3, .int a15.1), (4, .int x4_91), (5, .int x5_91), (7, .int x7_194)] dX12_words_245 (by decide) rfl (rfl : 245 + 2 = 247) ?_
                                refine z_iinc h 7 (x7_194 + 1) [(7, .int (x7_194 + 1)), (6, .int 1), (0, .ref (za B 147)), (1, .int v1), (2, .int v2), (3, .int a15.1), (4, .int x4_91), (5, .int x5_91)] dX12_words_247 rfl rfl (by decide) rfl (rfl : 247 + 3 = 250) ?_
                                refine z_goto (pc' := 194) h dX12_words_250 (by decide) ?_
                                refine z_sub (L' := [(0, .ref (za B 147)), (1, .int v1), (2, .int v2), (3, .int a15.1), (4, .int x4_91), (5, .int x5_91), (6, .int 1), (7, .int (x7_194 + 1))]) [2, 3, 4, 5, 6, 7, 1, 0] rfl ?_
                                exact ih 1 (x7_194 + 1) q87.2 _ hf hP hE
                  refine z_sub (L' := [(0, .ref (za B 147)), (1, .int v1), (2, .int v2), (3, .int a15.1), (4, .int x4_91), (5, .int x5_91), (6, .int 1), (7, .int 0)]) [2, 3, 4, 5, 6, 7, 1, 0] rfl ?_
                  obtain ⟨q77, e78, hf⟩ := zbind hf
                  refine loop_194_78 _ 1 0 a76.2 q77 e78 (fun a ha => ?_) (fun a90 ha  => ?_)
                  · have hf := zell ha hf
                    exact hP _ (zsome hf).symm
                  have hf := zelr ha hf
                  clear ha loop_194_78
                  refine z_iload h 6 dX12_words_253 rfl (rfl : 253 + 2 = 255) ?_
                  refine z_if_eq (pc' := 258) h 263 dX12_words_255 (by decide) rfl (fun c91 => ?_) (fun c91 => ?_)
                  · have hf := zitt c91 hf
                    refine z_iload h 4 dX12_words_263 rfl (rfl : 263 + 2 = 265) ?_
                    refine z_istore h [(4, .int x4_91), (0, .ref (za B 147)), (1, .int v1), (2, .int v2), (3, .int a15.1), (5, .int x5_91), (6, .int a90.1), (7, .int a90.2.1)] dX12_words_265 (by decide) rfl (rfl : 265 + 2 = 267) ?_
                    refine z_iconst h 0 dX12_words_267 (by decide) (rfl : 267 + 1 = 268) ?_
                    refine z_istore h [(7, .int 0), (4, .int x4_91), (0, .ref (za B 147)), (1, .int v1), (2, .int v2), (3, .int a15.1), (5, .int x5_91), (6, .int a90.1)] dX12_words_268 (by decide) rfl (rfl : 268 + 2 = 270) ?_
                    have loop_270_93 : ∀ (n : Nat) (x7_270 : Int32) (I270 : zM) (q : (Int32 × zM) ⊕ (Int32 × zM)), f_X12_words_270 J v1 v2 a15.1 x4_91 x5_91 a90.1 n x7_270 I270 = some q → (∀ a, q = .inl a → a = (r, I')) → (∀ a : Int32 × zM, q = .inr a → Z B G zKW (a.2) (J) (0, 0) 322 [(0, .ref (za B 147)), (1, .int v1), (2, .int v2), (3, .int a15.1), (4, .int x4_91), (5, .int x5_91), (6, .int a90.1), (7, .int a.1)] []) → Z B G zKW I270 J (0, 0) 270 [(0, .ref (za B 147)), (1, .int v1), (2, .int v2), (3, .int a15.1), (4, .int x4_91), (5, .int x5_91), (6, .int a90.1), (7, .int x7_270)] [] := by
                      intro n; induction n with
                      | zero => intro x7_270 I270 q hf; exact absurd hf (by rw [f_X12_words_270]; exact fun z => by cases z)
                      | succ n ih =>
                        intro x7_270 I270 q hf hP hE; rw [f_X12_words_270] at hf
                        refine z_iload h 7 dX12_words_270 rfl (rfl : 270 + 2 = 272) ?_
                        refine z_bipush h 6 dX12_words_272 (by decide) (rfl : 272 + 2 = 274) ?_
                        refine z_icmp_ge (pc' := 277) h 322 dX12_words_274 (by decide) rfl (fun c94 => ?_) (fun c94 => ?_)
                        · have hf := zitt c94 hf
                          exact hE (x7_270, I270) (zsome hf).symm
                        · have hf := zitf c94 hf
                          refine z_aload_n h 0 dX12_words_277 rfl (rfl : 277 + 1 = 278) ?_
                          refine z_getr (ci := 11) (C := RX12) (T := TX12) (N := 46) h 22 162 ((hJ.1 147 22 (by decide)).trans rfl) rfl rfl (fun _ hq => List.mem_cons_of_mem _ (List.mem_append_right _ hq)) (by decide) (List.mem_of_getElem? (i := 3) rfl) rfl dX12_words_278 (rfl : 278 + 3 = 281) ?_
                          refine z_bipush h 6 dX12_words_281 (by decide) (rfl : 281 + 2 = 283) ?_
                          refine z_iload_n h 1 dX12_words_283 rfl (rfl : 283 + 1 = 284) ?_
                          refine z_imul h dX12_words_284 (rfl : 284 + 1 = 285) ?_
                          refine z_iload h 7 dX12_words_285 rfl (rfl : 285 + 2 = 287) ?_
                          refine z_iadd h dX12_words_287 (rfl : 287 + 1 = 288) ?_
                          refine z_iload h 5 dX12_words_288 rfl (rfl : 288 + 2 = 290) ?_
                          refine z_iload h 7 dX12_words_290 rfl (rfl : 290 + 2 = 292) ?_
                          refine z_ishr h dX12_words_292 (rfl : 292 + 1 = 293) ?_
                          refine z_iconst h 1 dX12_words_293 (by decide) (rfl : 293 + 1 = 294) ?_
                          refine z_iand h dX12_words_294 (rfl : 294 + 1 = 295) ?_
                          refine z_iconst h 1 dX12_words_295 (by decide) (rfl : 295 + 1 = 296) ?_
                          refine z_icmp_ne (pc' := 299) h 303 dX12_words_296 (by decide) rfl (fun c95 => ?_) (fun c95 => ?_)
                          · have hf := zitf c95 hf
                            refine z_aload_n h 0 dX12_words_303 rfl (rfl : 303 + 1 = 304) ?_
                            refine z_getr (ci := 11) (C := RX12) (T := TX12) (N := 46) h 22 162 ((hJ.1 147 22 (by decide)).trans rfl) rfl rfl (fun _ hq => List.mem_cons_of_mem _ (List.mem_append_right _ hq)) (by decide) (List.mem_of_getElem? (i := 3) rfl) rfl dX12_words_304 (rfl : 304 + 3 = 307) ?_
                            refine z_bipush h 6 dX12_words_307 (by decide) (rfl : 307 + 2 = 309) ?_
                            refine z_iload_n h 1 dX12_words_309 rfl (rfl : 309 + 1 = 310) ?_
                            refine z_imul h dX12_words_310 (rfl : 310 + 1 = 311) ?_
                            refine z_iload h 7 dX12_words_311 rfl (rfl : 311 + 2 = 313) ?_
                            refine z_iadd h dX12_words_313 (rfl : 313 + 1 = 314) ?_
                            obtain ⟨b96, hf⟩ := zchk hf
                            refine z_iald h rfl b96 dX12_words_314 (rfl : 314 + 1 = 315) ?_
                            obtain ⟨b97, hf⟩ := zchk hf
                            refine z_iast h b97 rfl dX12_words_315 (rfl : 315 + 1 = 316) ?_
                            refine z_iinc h 7 (x7_270 + 1) [(7, .int (x7_270 + 1)), (0, .ref (za B 147)), (1, .int v1), (2, .int v2), (3, .int a15.1), (4, .int x4_91), (5, .int x5_91), (6, .int a90.1)] dX12_words_316 rfl rfl (by decide) rfl (rfl : 316 + 3 = 319) ?_
                            refine z_goto (pc' := 270) h dX12_words_319 (by decide) ?_
                            refine z_sub (L' := [(0, .ref (za B 147)), (1, .int v1), (2, .int v2), (3, .int a15.1), (4, .int x4_91), (5, .int x5_91), (6, .int a90.1), (7, .int (x7_270 + 1))]) [1, 2, 3, 4, 5, 6, 7, 0] rfl ?_
                            exact ih (x7_270 + 1) (zu I270 162 (Int32.toNatClampNeg (((6 : Int32) * v1) + x7_270)) (I270 162 (Int32.toNatClampNeg (((6 : Int32) * v1) + x7_270)))) _ hf hP hE
                          · have hf := zitt c95 hf
                            refine z_iconst h 0 dX12_words_299 (by decide) (rfl : 299 + 1 = 300) ?_
                            refine z_goto (pc' := 315) h dX12_words_300 (by decide) ?_
                            obtain ⟨b98, hf⟩ := zchk hf
                            refine z_iast h b98 rfl dX12_words_315 (rfl : 315 + 1 = 316) ?_
                            refine z_iinc h 7 (x7_270 + 1) [(7, .int (x7_270 + 1)), (0, .ref (za B 147)), (1, .int v1), (2, .int v2), (3, .int a15.1), (4, .int x4_91), (5, .int x5_91), (6, .int a90.1)] dX12_words_316 rfl rfl (by decide) rfl (rfl : 316 + 3 = 319) ?_
                            refine z_goto (pc' := 270) h dX12_words_319 (by decide) ?_
                            refine z_sub (L' := [(0, .ref (za B 147)), (1, .int v1), (2, .int v2), (3, .int a15.1), (4, .int x4_91), (5, .int x5_91), (6, .int a90.1), (7, .int (x7_270 + 1))]) [1, 2, 3, 4, 5, 6, 7, 0] rfl ?_
                            exact ih (x7_270 + 1) (zu I270 162 (Int32.toNatClampNeg (((6 : Int32) * v1) + x7_270)) 0) _ hf hP hE
                    refine z_sub (L' := [(0, .ref (za B 147)), (1, .int v1), (2, .int v2), (3, .int a15.1), (4, .int x4_91), (5, .int x5_91), (6, .int a90.1), (7, .int 0)]) [2, 3, 4, 5, 1, 6, 7, 0] rfl ?_
                    obtain ⟨q92, e93, hf⟩ := zbind hf
                    refine loop_270_93 _ 0 a90.2.2 q92 e93 (fun a ha => ?_) (fun a99 ha  => ?_)
                    · have hf := zell ha hf
                      exact hP _ (zsome hf).symm
                    have hf := zelr ha hf
                    clear ha loop_270_93
                    refine z_iinc h 5 (x5_91 + 1) [(5, .int (x5_91 + 1)), (0, .ref (za B 147)), (1, .int v1), (2, .int v2), (3, .int a15.1), (4, .int x4_91), (6, .int a90.1), (7, .int a99.1)] dX12_words_322 rfl rfl (by decide) rfl (rfl : 322 + 3 = 325) ?_
                    refine z_goto (pc' := 91) h dX12_words_325 (by decide) ?_
                    refine z_sub (L' := [(0, .ref (za B 147)), (1, .int v1), (2, .int v2), (3, .int a15.1), (4, .int x4_91), (5, .int (x5_91 + 1))]) [1, 2, 3, 4, 5, 0] rfl ?_
                    exact ih x4_91 (x5_91 + 1) a99.2 _ hf hP hE
                  · have hf := zitf c91 hf
                    refine z_iload h 5 dX12_words_258 rfl (rfl : 258 + 2 = 260) ?_
                    refine z_goto (pc' := 265) h dX12_words_260 (by decide) ?_
                    refine z_istore h [(4, .int x5_91), (0, .ref (za B 147)), (1, .int v1), (2, .int v2), (3, .int a15.1), (5, .int x5_91), (6, .int a90.1), (7, .int a90.2.1)] dX12_words_265 (by decide) rfl (rfl : 265 + 2 = 267) ?_
                    refine z_iconst h 0 dX12_words_267 (by decide) (rfl : 267 + 1 = 268) ?_
                    refine z_istore h [(7, .int 0), (4, .int x5_91), (0, .ref (za B 147)), (1, .int v1), (2, .int v2), (3, .int a15.1), (5, .int x5_91), (6, .int a90.1)] dX12_words_268 (by decide) rfl (rfl : 268 + 2 = 270) ?_
                    have loop_270_101 : ∀ (n : Nat) (x7_270 : Int32) (I270 : zM) (q : (Int32 × zM) ⊕ (Int32 × zM)), f_X12_words_270 J v1 v2 a15.1 x5_91 x5_91 a90.1 n x7_270 I270 = some q → (∀ a, q = .inl a → a = (r, I')) → (∀ a : Int32 × zM, q = .inr a → Z B G zKW (a.2) (J) (0, 0) 322 [(0, .ref (za B 147)), (1, .int v1), (2, .int v2), (3, .int a15.1), (4, .int x5_91), (5, .int x5_91), (6, .int a90.1), (7, .int a.1)] []) → Z B G zKW I270 J (0, 0) 270 [(0, .ref (za B 147)), (1, .int v1), (2, .int v2), (3, .int a15.1), (4, .int x5_91), (5, .int x5_91), (6, .int a90.1), (7, .int x7_270)] [] := by
                      intro n; induction n with
                      | zero => intro x7_270 I270 q hf; exact absurd hf (by rw [f_X12_words_270]; exact fun z => by cases z)
                      | succ n ih =>
                        intro x7_270 I270 q hf hP hE; rw [f_X12_words_270] at hf
                        refine z_iload h 7 dX12_words_270 rfl (rfl : 270 + 2 = 272) ?_
                        refine z_bipush h 6 dX12_words_272 (by decide) (rfl : 272 + 2 = 274) ?_
                        refine z_icmp_ge (pc' := 277) h 322 dX12_words_274 (by decide) rfl (fun c102 => ?_) (fun c102 => ?_)
                        · have hf := zitt c102 hf
                          exact hE (x7_270, I270) (zsome hf).symm
                        · have hf := zitf c102 hf
                          refine z_aload_n h 0 dX12_words_277 rfl (rfl : 277 + 1 = 278) ?_
                          refine z_getr (ci := 11) (C := RX12) (T := TX12) (N := 46) h 22 162 ((hJ.1 147 22 (by decide)).trans rfl) rfl rfl (fun _ hq => List.mem_cons_of_mem _ (List.mem_append_right _ hq)) (by decide) (List.mem_of_getElem? (i := 3) rfl) rfl dX12_words_278 (rfl : 278 + 3 = 281) ?_
                          refine z_bipush h 6 dX12_words_281 (by decide) (rfl : 281 + 2 = 283) ?_
                          refine z_iload_n h 1 dX12_words_283 rfl (rfl : 283 + 1 = 284) ?_
                          refine z_imul h dX12_words_284 (rfl : 284 + 1 = 285) ?_
                          refine z_iload h 7 dX12_words_285 rfl (rfl : 285 + 2 = 287) ?_
                          refine z_iadd h dX12_words_287 (rfl : 287 + 1 = 288) ?_
                          refine z_iload h 5 dX12_words_288 rfl (rfl : 288 + 2 = 290) ?_
                          refine z_iload h 7 dX12_words_290 rfl (rfl : 290 + 2 = 292) ?_
                          refine z_ishr h dX12_words_292 (rfl : 292 + 1 = 293) ?_
                          refine z_iconst h 1 dX12_words_293 (by decide) (rfl : 293 + 1 = 294) ?_
                          refine z_iand h dX12_words_294 (rfl : 294 + 1 = 295) ?_
                          refine z_iconst h 1 dX12_words_295 (by decide) (rfl : 295 + 1 = 296) ?_
                          refine z_icmp_ne (pc' := 299) h 303 dX12_words_296 (by decide) rfl (fun c103 => ?_) (fun c103 => ?_)
                          · have hf := zitf c103 hf
                            refine z_aload_n h 0 dX12_words_303 rfl (rfl : 303 + 1 = 304) ?_
                            refine z_getr (ci := 11) (C := RX12) (T := TX12) (N := 46) h 22 162 ((hJ.1 147 22 (by decide)).trans rfl) rfl rfl (fun _ hq => List.mem_cons_of_mem _ (List.mem_append_right _ hq)) (by decide) (List.mem_of_getElem? (i := 3) rfl) rfl dX12_words_304 (rfl : 304 + 3 = 307) ?_
                            refine z_bipush h 6 dX12_words_307 (by decide) (rfl : 307 + 2 = 309) ?_
                            refine z_iload_n h 1 dX12_words_309 rfl (rfl : 309 + 1 = 310) ?_
                            refine z_imul h dX12_words_310 (rfl : 310 + 1 = 311) ?_
                            refine z_iload h 7 dX12_words_311 rfl (rfl : 311 + 2 = 313) ?_
                            refine z_iadd h dX12_words_313 (rfl : 313 + 1 = 314) ?_
                            obtain ⟨b104, hf⟩ := zchk hf
                            refine z_iald h rfl b104 dX12_words_314 (rfl : 314 + 1 = 315) ?_
                            obtain ⟨b105, hf⟩ := zchk hf
                            refine z_iast h b105 rfl dX12_words_315 (rfl : 315 + 1 = 316) ?_
                            refine z_iinc h 7 (x7_270 + 1) [(7, .int (x7_270 + 1)), (0, .ref (za B 147)), (1, .int v1), (2, .int v2), (3, .int a15.1), (4, .int x5_91), (5, .int x5_91), (6, .int a90.1)] dX12_words_316 rfl rfl (by decide) rfl (rfl : 316 + 3 = 319) ?_
                            refine z_goto (pc' := 270) h dX12_words_319 (by decide) ?_
                            refine z_sub (L' := [(0, .ref (za B 147)), (1, .int v1), (2, .int v2), (3, .int a15.1), (4, .int x5_91), (5, .int x5_91), (6, .int a90.1), (7, .int (x7_270 + 1))]) [1, 2, 3, 4, 5, 6, 7, 0] rfl ?_
                            exact ih (x7_270 + 1) (zu I270 162 (Int32.toNatClampNeg (((6 : Int32) * v1) + x7_270)) (I270 162 (Int32.toNatClampNeg (((6 : Int32) * v1) + x7_270)))) _ hf hP hE
                          · have hf := zitt c103 hf
                            refine z_iconst h 0 dX12_words_299 (by decide) (rfl : 299 + 1 = 300) ?_
                            refine z_goto (pc' := 315) h dX12_words_300 (by decide) ?_
                            obtain ⟨b106, hf⟩ := zchk hf
                            refine z_iast h b106 rfl dX12_words_315 (rfl : 315 + 1 = 316) ?_
                            refine z_iinc h 7 (x7_270 + 1) [(7, .int (x7_270 + 1)), (0, .ref (za B 147)), (1, .int v1), (2, .int v2), (3, .int a15.1), (4, .int x5_91), (5, .int x5_91), (6, .int a90.1)] dX12_words_316 rfl rfl (by decide) rfl (rfl : 316 + 3 = 319) ?_
                            refine z_goto (pc' := 270) h dX12_words_319 (by decide) ?_
                            refine z_sub (L' := [(0, .ref (za B 147)), (1, .int v1), (2, .int v2), (3, .int a15.1), (4, .int x5_91), (5, .int x5_91), (6, .int a90.1), (7, .int (x7_270 + 1))]) [1, 2, 3, 4, 5, 6, 7, 0] rfl ?_
                            exact ih (x7_270 + 1) (zu I270 162 (Int32.toNatClampNeg (((6 : Int32) * v1) + x7_270)) 0) _ hf hP hE
                    refine z_sub (L' := [(0, .ref (za B 147)), (1, .int v1), (2, .int v2), (3, .int a15.1), (4, .int x5_91), (5, .int x5_91), (6, .int a90.1), (7, .int 0)]) [2, 3, 4, 5, 1, 6, 7, 0] rfl ?_
                    obtain ⟨q100, e101, hf⟩ := zbind hf
                    refine loop_270_101 _ 0 a90.2.2 q100 e101 (fun a ha => ?_) (fun a107 ha  => ?_)
                    · have hf := zell ha hf
                      exact hP _ (zsome hf).symm
                    have hf := zelr ha hf
                    clear ha loop_270_101
                    refine z_iinc h 5 (x5_91 + 1) [(5, .int (x5_91 + 1)), (0, .ref (za B 147)), (1, .int v1), (2, .int v2), (3, .int a15.1), (4, .int x5_91), (6, .int a90.1), (7, .int a107.1)] dX12_words_322 rfl rfl (by decide) rfl (rfl : 322 + 3 = 325) ?_
                    refine z_goto (pc' := 91) h dX12_words_325 (by decide) ?_
                    refine z_sub (L' := [(0, .ref (za B 147)), (1, .int v1), (2, .int v2), (3, .int a15.1), (4, .int x5_91), (5, .int (x5_91 + 1))]) [1, 2, 3, 4, 5, 0] rfl ?_
                    exact ih x5_91 (x5_91 + 1) a107.2 _ hf hP hE
      refine z_sub (L' := [(0, .ref (za B 147)), (1, .int v1), (2, .int v2), (3, .int a15.1), (4, .int (-9)), (5, .int 0)]) [2, 3, 4, 5, 1, 0] rfl ?_
      obtain ⟨q16, e17, hf⟩ := zbind hf
      refine loop_91_17 _ (-9) 0 a15.2.2 q16 e17 (fun a ha => ?_) (fun a108 ha  => ?_)
      · have hf := zell ha hf
        exact zsome hf
      have hf := zelr ha hf
      clear ha loop_91_17
      refine z_iload h 4 dX12_words_328 rfl (rfl : 328 + 2 = 330) ?_
      refine z_iret h hr dX12_words_330 ?_
      exact ⟨congrArg Prod.fst (zsome hf), congrArg Prod.snd (zsome hf), rfl⟩
    · have hf := zitt c6 hf
      refine z_bipush h (-2) dX12_words_27 (by decide) (rfl : 27 + 2 = 29) ?_
      refine z_iret h hr dX12_words_29 ?_
      exact ⟨congrArg Prod.fst (zsome hf), congrArg Prod.snd (zsome hf), rfl⟩
  · have hf := zitf c3 hf
    refine z_iconst h (-1) dX12_words_13 (by decide) (rfl : 13 + 1 = 14) ?_
    refine z_iret h hr dX12_words_14 ?_
    exact ⟨congrArg Prod.fst (zsome hf), congrArg Prod.snd (zsome hf), rfl⟩
noncomputable def f_X12_worthOf_16 (J : zJ) (u1 : Int32) (u2 : Int32) (u3 : Int32) : Nat → Int32 → Int32 → zM → Option ((Int32 × zM) ⊕ (Int32 × Int32 × zM))
  | 0, _, _, _ => none
  | n + 1, x4_16, x5_16, I16 => (if I16 147 25 ≤ x5_16 then some (.inr (x4_16, x5_16, I16)) else ((f_X12_readIt J x5_16 u1 I16).bind fun q2 => ((f_X12_alike J x5_16 u2 q2).bind fun q4 => (if q4.1 ≤ 0 then f_X12_worthOf_16 J u1 u2 u3 n (x4_16 + (0 : Int32)) (x5_16 + 1) q4.2 else (if zin u2 6 = true then ((f_X12_alike J x5_16 u2 q4.2).bind fun q8 => (if q4.2 175 (Int32.toNatClampNeg u2) = q8.1 then f_X12_worthOf_16 J u1 u2 u3 n (x4_16 + (1 : Int32)) (x5_16 + 1) q8.2 else f_X12_worthOf_16 J u1 u2 u3 n (x4_16 + (0 : Int32)) (x5_16 + 1) q8.2)) else none)))))
noncomputable def f_X12_worthOf (J : zJ) (v1 : Int32) (v2 : Int32) (v3 : Int32) (I : zM) : Option (Int32 × zM) := ((f_X12_worthOf_16 J v1 v2 v3 zF 0 0 (zu (zu I 147 32 v2) 147 33 v3)).bind fun q => Sum.elim (fun a => some a) (fun a3 => some ((a3.1, zu a3.2.2 147 32 (-9)))) q)
noncomputable abbrev rmX12_worthOf : Room := { frames := 7, cells := 0, slots := 0, locals := 174 }
theorem zyX12_worthOf : zY yX12_worthOf wsX12_worthOf cX12_worthOf 6 (some .int) 3 := ⟨⟨_, rfl⟩, by decide +kernel⟩
theorem zrX12_worthOf_X12_alike : zRm rmX12_alike rmX12_worthOf 3 := ⟨rfl, rfl, by decide, by decide⟩
theorem zrX12_worthOf_X12_readIt : zRm rmX12_readIt rmX12_worthOf 7 := ⟨rfl, rfl, by decide, by decide⟩
set_option maxHeartbeats 1000000 in
set_option maxRecDepth 100000 in
theorem c_X12_worthOf (B : zB) (I : zM) (J : zJ) (hJ : zJok J) (v1 : Int32) (v2 : Int32) (v3 : Int32) (r : Int32) (I' : zM) (hf : f_X12_worthOf J v1 v2 v3 I = some (r, I')) : zCi B zKW I J yX12_worthOf wsX12_worthOf rmX12_worthOf [.ref (za B 147), .int v1, .int v2, .int v3] (fun r2 I2 J2 => r2 = r ∧ I2 = I' ∧ J2 = J) := by
  refine z_start (own := RX12) (cc := cX12_worthOf) (nL := 6) (ret := (some .int)) rfl (by decide) rfl (Nat.le_of_ble_eq_true rfl) (L := [(0, .ref (za B 147)), (1, .int v1), (2, .int v2), (3, .int v3)]) rfl (fun G h hr => ?_)
  rw [f_X12_worthOf] at hf
  refine z_aload_n h 0 dX12_worthOf_0 rfl (rfl : 0 + 1 = 1) ?_
  refine z_iload_n h 2 dX12_worthOf_1 rfl (rfl : 1 + 1 = 2) ?_
  refine z_put (ci := 11) (C := RX12) (T := TX12) (N := 46) h 32 tyX12 tyX12_ok nmX12 rfl rfl (fun _ hq => List.mem_cons_of_mem _ (List.mem_append_right _ hq)) (by decide) (List.mem_of_getElem? (i := 1) rfl) rfl rfl rfl dX12_worthOf_2 (rfl : 2 + 3 = 5) ?_
  refine z_aload_n h 0 dX12_worthOf_5 rfl (rfl : 5 + 1 = 6) ?_
  refine z_iload_n h 3 dX12_worthOf_6 rfl (rfl : 6 + 1 = 7) ?_
  refine z_put (ci := 11) (C := RX12) (T := TX12) (N := 46) h 33 tyX12 tyX12_ok nmX12 rfl rfl (fun _ hq => List.mem_cons_of_mem _ (List.mem_append_right _ hq)) (by decide) (List.mem_of_getElem? (i := 2) rfl) rfl rfl rfl dX12_worthOf_7 (rfl : 7 + 3 = 10) ?_
  refine z_iconst h 0 dX12_worthOf_10 (by decide) (rfl : 10 + 1 = 11) ?_
  refine z_istore h [(4, .int 0), (0, .ref (za B 147)), (1, .int v1), (2, .int v2), (3, .int v3)] dX12_worthOf_11 (by decide) rfl (rfl : 11 + 2 = 13) ?_
  refine z_iconst h 0 dX12_worthOf_13 (by decide) (rfl : 13 + 1 = 14) ?_
  refine z_istore h [(5, .int 0), (4, .int 0), (0, .ref (za B 147)), (1, .int v1), (2, .int v2), (3, .int v3)] dX12_worthOf_14 (by decide) rfl (rfl : 14 + 2 = 16) ?_
  have loop_16_2 : ∀ (n : Nat) (x4_16 : Int32) (x5_16 : Int32) (I16 : zM) (q : (Int32 × zM) ⊕ (Int32 × Int32 × zM)), f_X12_worthOf_16 J v1 v2 v3 n x4_16 x5_16 I16 = some q → (∀ a, q = .inl a → a = (r, I')) → (∀ a : Int32 × Int32 × zM, q = .inr a → Z B G zKW (a.2.2) (J) (0, 0) 74 [(0, .ref (za B 147)), (1, .int v1), (2, .int v2), (3, .int v3), (4, .int a.1), (5, .int a.2.1)] []) → Z B G zKW I16 J (0, 0) 16 [(0, .ref (za B 147)), (1, .int v1), (2, .int v2), (3, .int v3), (4, .int x4_16), (5, .int x5_16)] [] := by
    intro n; induction n with
    | zero => intro x4_16 x5_16 I16 q hf; exact absurd hf (by rw [f_X12_worthOf_16]; exact fun z => by cases z)
    | succ n ih =>
      intro x4_16 x5_16 I16 q hf hP hE; rw [f_X12_worthOf_16] at hf
      refine z_iload h 5 dX12_worthOf_16 rfl (rfl : 16 + 2 = 18) ?_
      refine z_aload_n h 0 dX12_worthOf_18 rfl (rfl : 18 + 1 = 19) ?_
      refine z_get (ci := 11) (C := RX12) (T := TX12) (N := 46) h 25 rfl rfl (fun _ hq => List.mem_cons_of_mem _ (List.mem_append_right _ hq)) (by decide) (List.mem_of_getElem? (i := 3) rfl) rfl dX12_worthOf_19 (rfl : 19 + 3 = 22) ?_
      refine z_icmp_ge (pc' := 25) h 74 dX12_worthOf_22 (by decide) rfl (fun c3 => ?_) (fun c3 => ?_)
      · have hf := zitt c3 hf
        exact hE (x4_16, x5_16, I16) (zsome hf).symm
      · have hf := zitf c3 hf
        refine z_aload_n h 0 dX12_worthOf_25 rfl (rfl : 25 + 1 = 26) ?_
        refine z_iload h 5 dX12_worthOf_26 rfl (rfl : 26 + 2 = 28) ?_
        refine z_iload_n h 1 dX12_worthOf_28 rfl (rfl : 28 + 1 = 29) ?_
        obtain ⟨q4, e5, hf⟩ := zbind hf
        refine z_goFv (z_runV (C := RX12) (T := TX12) (N := 46) (ci := 11) h [.int x5_16, .int v1] [] zyX12_readIt (c_X12_readIt B I16 J hJ x5_16 v1 _ e5) gX12_worthOf_X12_readIt rfl rfl rfl zrX12_worthOf_X12_readIt rfl (Nat.le_of_ble_eq_true rfl) ⟨Nat.zero_le _, Nat.zero_le _⟩ rfl dX12_worthOf_29) rfl ?_
        refine z_iload h 4 dX12_worthOf_32 rfl (rfl : 32 + 2 = 34) ?_
        refine z_aload_n h 0 dX12_worthOf_34 rfl (rfl : 34 + 1 = 35) ?_
        refine z_iload h 5 dX12_worthOf_35 rfl (rfl : 35 + 2 = 37) ?_
        refine z_iload_n h 2 dX12_worthOf_37 rfl (rfl : 37 + 1 = 38) ?_
        obtain ⟨q6, e7, hf⟩ := zbind hf
        refine z_goF (z_runV (C := RX12) (T := TX12) (N := 46) (ci := 11) h [.int x5_16, .int v2] [.int x4_16] zyX12_alike (c_X12_alike B q4 J hJ x5_16 v2 _ _ e7) gX12_worthOf_X12_alike rfl rfl rfl zrX12_worthOf_X12_alike rfl (Nat.le_of_ble_eq_true rfl) ⟨Nat.zero_le _, Nat.zero_le _⟩ rfl dX12_worthOf_38) rfl ?_
        refine z_if_le (pc' := 44) h 64 dX12_worthOf_41 (by decide) rfl (fun c8 => ?_) (fun c8 => ?_)
        · have hf := zitt c8 hf
          refine z_iconst h 0 dX12_worthOf_64 (by decide) (rfl : 64 + 1 = 65) ?_
          refine z_iadd h dX12_worthOf_65 (rfl : 65 + 1 = 66) ?_
          refine z_istore h [(4, .int (x4_16 + (0 : Int32))), (0, .ref (za B 147)), (1, .int v1), (2, .int v2), (3, .int v3), (5, .int x5_16)] dX12_worthOf_66 (by decide) rfl (rfl : 66 + 2 = 68) ?_
          refine z_iinc h 5 (x5_16 + 1) [(5, .int (x5_16 + 1)), (4, .int (x4_16 + (0 : Int32))), (0, .ref (za B 147)), (1, .int v1), (2, .int v2), (3, .int v3)] dX12_worthOf_68 rfl rfl (by decide) rfl (rfl : 68 + 3 = 71) ?_
          refine z_goto (pc' := 16) h dX12_worthOf_71 (by decide) ?_
          refine z_sub (L' := [(0, .ref (za B 147)), (1, .int v1), (2, .int v2), (3, .int v3), (4, .int (x4_16 + (0 : Int32))), (5, .int (x5_16 + 1))]) [2, 3, 4, 5, 1, 0] rfl ?_
          exact ih (x4_16 + (0 : Int32)) (x5_16 + 1) q6.2 _ hf hP hE
        · have hf := zitf c8 hf
          refine z_aload_n h 0 dX12_worthOf_44 rfl (rfl : 44 + 1 = 45) ?_
          refine z_getr (ci := 11) (C := RX12) (T := TX12) (N := 46) h 43 175 ((hJ.1 147 43 (by decide)).trans rfl) rfl rfl (fun _ hq => List.mem_cons_of_mem _ (List.mem_append_right _ hq)) (by decide) (List.mem_of_getElem? (i := 4) rfl) rfl dX12_worthOf_45 (rfl : 45 + 3 = 48) ?_
          refine z_iload_n h 2 dX12_worthOf_48 rfl (rfl : 48 + 1 = 49) ?_
          obtain ⟨b9, hf⟩ := zchk hf
          refine z_iald h rfl b9 dX12_worthOf_49 (rfl : 49 + 1 = 50) ?_
          refine z_aload_n h 0 dX12_worthOf_50 rfl (rfl : 50 + 1 = 51) ?_
          refine z_iload h 5 dX12_worthOf_51 rfl (rfl : 51 + 2 = 53) ?_
          refine z_iload_n h 2 dX12_worthOf_53 rfl (rfl : 53 + 1 = 54) ?_
          obtain ⟨q10, e11, hf⟩ := zbind hf
          refine z_goF (z_runV (C := RX12) (T := TX12) (N := 46) (ci := 11) h [.int x5_16, .int v2] [.int (q6.2 175 (Int32.toNatClampNeg v2)), .int x4_16] zyX12_alike (c_X12_alike B q6.2 J hJ x5_16 v2 _ _ e11) gX12_worthOf_X12_alike rfl rfl rfl zrX12_worthOf_X12_alike rfl (Nat.le_of_ble_eq_true rfl) ⟨Nat.zero_le _, Nat.zero_le _⟩ rfl dX12_worthOf_54) rfl ?_
          refine z_icmp_ne (pc' := 60) h 64 dX12_worthOf_57 (by decide) rfl (fun c12 => ?_) (fun c12 => ?_)
          · have hf := zitf c12 hf
            refine z_iconst h 0 dX12_worthOf_64 (by decide) (rfl : 64 + 1 = 65) ?_
            refine z_iadd h dX12_worthOf_65 (rfl : 65 + 1 = 66) ?_
            refine z_istore h [(4, .int (x4_16 + (0 : Int32))), (0, .ref (za B 147)), (1, .int v1), (2, .int v2), (3, .int v3), (5, .int x5_16)] dX12_worthOf_66 (by decide) rfl (rfl : 66 + 2 = 68) ?_
            refine z_iinc h 5 (x5_16 + 1) [(5, .int (x5_16 + 1)), (4, .int (x4_16 + (0 : Int32))), (0, .ref (za B 147)), (1, .int v1), (2, .int v2), (3, .int v3)] dX12_worthOf_68 rfl rfl (by decide) rfl (rfl : 68 + 3 = 71) ?_
            refine z_goto (pc' := 16) h dX12_worthOf_71 (by decide) ?_
            refine z_sub (L' := [(0, .ref (za B 147)), (1, .int v1), (2, .int v2), (3, .int v3), (4, .int (x4_16 + (0 : Int32))), (5, .int (x5_16 + 1))]) [2, 3, 4, 5, 1, 0] rfl ?_
            exact ih (x4_16 + (0 : Int32)) (x5_16 + 1) q10.2 _ hf hP hE
          · have hf := zitt c12 hf
            refine z_iconst h 1 dX12_worthOf_60 (by decide) (rfl : 60 + 1 = 61) ?_
            refine z_goto (pc' := 65) h dX12_worthOf_61 (by decide) ?_
            refine z_iadd h dX12_worthOf_65 (rfl : 65 + 1 = 66) ?_
            refine z_istore h [(4, .int (x4_16 + (1 : Int32))), (0, .ref (za B 147)), (1, .int v1), (2, .int v2), (3, .int v3), (5, .int x5_16)] dX12_worthOf_66 (by decide) rfl (rfl : 66 + 2 = 68) ?_
            refine z_iinc h 5 (x5_16 + 1) [(5, .int (x5_16 + 1)), (4, .int (x4_16 + (1 : Int32))), (0, .ref (za B 147)), (1, .int v1), (2, .int v2), (3, .int v3)] dX12_worthOf_68 rfl rfl (by decide) rfl (rfl : 68 + 3 = 71) ?_
            refine z_goto (pc' := 16) h dX12_worthOf_71 (by decide) ?_
            refine z_sub (L' := [(0, .ref (za B 147)), (1, .int v1), (2, .int v2), (3, .int v3), (4, .int (x4_16 + (1 : Int32))), (5, .int (x5_16 + 1))]) [2, 3, 4, 5, 1, 0] rfl ?_
            exact ih (x4_16 + (1 : Int32)) (x5_16 + 1) q10.2 _ hf hP hE
  refine z_sub (L' := [(0, .ref (za B 147)), (1, .int v1), (2, .int v2), (3, .int v3), (4, .int 0), (5, .int 0)]) [2, 3, 4, 5, 1, 0] rfl ?_
  obtain ⟨q1, e2, hf⟩ := zbind hf
  refine loop_16_2 _ 0 0 (zu (zu I 147 32 v2) 147 33 v3) q1 e2 (fun a ha => ?_) (fun a13 ha  => ?_)
  · have hf := zell ha hf
    exact zsome hf
  have hf := zelr ha hf
  clear ha loop_16_2
  refine z_aload_n h 0 dX12_worthOf_74 rfl (rfl : 74 + 1 = 75) ?_
  refine z_bipush h (-9) dX12_worthOf_75 (by decide) (rfl : 75 + 2 = 77) ?_
  refine z_put (ci := 11) (C := RX12) (T := TX12) (N := 46) h 32 tyX12 tyX12_ok nmX12 rfl rfl (fun _ hq => List.mem_cons_of_mem _ (List.mem_append_right _ hq)) (by decide) (List.mem_of_getElem? (i := 1) rfl) rfl rfl rfl dX12_worthOf_77 (rfl : 77 + 3 = 80) ?_
  refine z_iload h 4 dX12_worthOf_80 rfl (rfl : 80 + 2 = 82) ?_
  refine z_iret h hr dX12_worthOf_82 ?_
  exact ⟨congrArg Prod.fst (zsome hf), congrArg Prod.snd (zsome hf), rfl⟩
noncomputable def f_X12_worth (J : zJ) (v1 : Int32) (v2 : Int32) (v3 : Int32) (I : zM) : Option (Int32 × zM) := ((f_X12_noOrder J v1 (zu I 147 0 0)).bind fun q1 => (if q1.1 = 0 then ((f_X12_noGap J v2 q1.2).bind fun q4 => (if q4.1 = 0 then ((f_X12_in J (Int32.toInt64 v3) 1 5 q4.2).bind fun q7 => (if q7.1 = 0 then some (((-2), q7.2)) else ((f_X12_worthOf J v1 v2 v3 q7.2).bind fun q10 => some ((q10.1, q10.2))))) else some (((-1), q4.2)))) else some (((-1), q1.2))))
noncomputable abbrev rmX12_worth : Room := { frames := 8, cells := 0, slots := 0, locals := 199 }
theorem zyX12_worth : zY yX12_worth wsX12_worth cX12_worth 4 (some .int) 3 := ⟨⟨_, rfl⟩, by decide +kernel⟩
theorem zrX12_worth_X12_in : zRm rmX12_in rmX12_worth 6 := ⟨rfl, rfl, by decide, by decide⟩
theorem zrX12_worth_X12_noGap : zRm rmX12_noGap rmX12_worth 1 := ⟨rfl, rfl, by decide, by decide⟩
theorem zrX12_worth_X12_noOrder : zRm rmX12_noOrder rmX12_worth 1 := ⟨rfl, rfl, by decide, by decide⟩
theorem zrX12_worth_X12_worthOf : zRm rmX12_worthOf rmX12_worth 6 := ⟨rfl, rfl, by decide, by decide⟩
set_option maxHeartbeats 1000000 in
set_option maxRecDepth 100000 in
theorem c_X12_worth (B : zB) (I : zM) (J : zJ) (hJ : zJok J) (v1 : Int32) (v2 : Int32) (v3 : Int32) (r : Int32) (I' : zM) (hf : f_X12_worth J v1 v2 v3 I = some (r, I')) : zCi B zKW I J yX12_worth wsX12_worth rmX12_worth [.ref (za B 147), .int v1, .int v2, .int v3] (fun r2 I2 J2 => r2 = r ∧ I2 = I' ∧ J2 = J) := by
  refine z_start (own := RX12) (cc := cX12_worth) (nL := 4) (ret := (some .int)) rfl (by decide) rfl (Nat.le_of_ble_eq_true rfl) (L := [(0, .ref (za B 147)), (1, .int v1), (2, .int v2), (3, .int v3)]) rfl (fun G h hr => ?_)
  rw [f_X12_worth] at hf
  refine z_aload_n h 0 dX12_worth_0 rfl (rfl : 0 + 1 = 1) ?_
  refine z_iconst h 0 dX12_worth_1 (by decide) (rfl : 1 + 1 = 2) ?_
  refine z_put (ci := 11) (C := RX12) (T := TX12) (N := 46) h 0 tyX12 tyX12_ok nmX12 rfl rfl (fun _ hq => List.mem_cons_of_mem _ (List.mem_append_right _ hq)) (by decide) (List.mem_of_getElem? (i := 1) rfl) rfl rfl rfl dX12_worth_2 (rfl : 2 + 3 = 5) ?_
  refine z_iload_n h 1 dX12_worth_5 rfl (rfl : 5 + 1 = 6) ?_
  obtain ⟨q1, e2, hf⟩ := zbind hf
  refine z_goF (z_runS h [.int v1] [] zyX12_noOrder (c_X12_noOrder B (zu I 147 0 0) J hJ v1 _ _ e2) gX12_worth_X12_noOrder zrX12_worth_X12_noOrder rfl (Nat.le_of_ble_eq_true rfl) ⟨Nat.zero_le _, Nat.zero_le _⟩ rfl dX12_worth_6) rfl ?_
  refine z_if_ne (pc' := 12) h 19 dX12_worth_9 (by decide) rfl (fun c3 => ?_) (fun c3 => ?_)
  · have hf := zitf c3 hf
    refine z_iconst h (-1) dX12_worth_19 (by decide) (rfl : 19 + 1 = 20) ?_
    refine z_iret h hr dX12_worth_20 ?_
    exact ⟨congrArg Prod.fst (zsome hf), congrArg Prod.snd (zsome hf), rfl⟩
  · have hf := zitt c3 hf
    refine z_iload_n h 2 dX12_worth_12 rfl (rfl : 12 + 1 = 13) ?_
    obtain ⟨q4, e5, hf⟩ := zbind hf
    refine z_goF (z_runS h [.int v2] [] zyX12_noGap (c_X12_noGap B q1.2 J hJ v2 _ _ e5) gX12_worth_X12_noGap zrX12_worth_X12_noGap rfl (Nat.le_of_ble_eq_true rfl) ⟨Nat.zero_le _, Nat.zero_le _⟩ rfl dX12_worth_13) rfl ?_
    refine z_if_eq (pc' := 19) h 21 dX12_worth_16 (by decide) rfl (fun c6 => ?_) (fun c6 => ?_)
    · have hf := zitt c6 hf
      refine z_iload_n h 3 dX12_worth_21 rfl (rfl : 21 + 1 = 22) ?_
      refine z_i2l h dX12_worth_22 (rfl : 22 + 1 = 23) ?_
      refine z_lconst h 1 dX12_worth_23 rfl (rfl : 23 + 1 = 24) ?_
      refine z_ldc2 h 5 (List.mem_of_getElem? (i := 2) rfl) dX12_worth_24 (rfl : 24 + 3 = 27) ?_
      obtain ⟨q7, e8, hf⟩ := zbind hf
      refine z_goF (z_runS h [.long (Int32.toInt64 v3), .long 1, .long 5] [] zyX12_in (c_X12_in B q4.2 J hJ (Int32.toInt64 v3) 1 5 _ _ e8) gX12_worth_X12_in zrX12_worth_X12_in rfl (Nat.le_of_ble_eq_true rfl) ⟨Nat.zero_le _, Nat.zero_le _⟩ rfl dX12_worth_27) rfl ?_
      refine z_if_eq (pc' := 33) h 43 dX12_worth_30 (by decide) rfl (fun c9 => ?_) (fun c9 => ?_)
      · have hf := zitt c9 hf
        refine z_bipush h (-2) dX12_worth_43 (by decide) (rfl : 43 + 2 = 45) ?_
        refine z_iret h hr dX12_worth_45 ?_
        exact ⟨congrArg Prod.fst (zsome hf), congrArg Prod.snd (zsome hf), rfl⟩
      · have hf := zitf c9 hf
        refine z_aload_n h 0 dX12_worth_33 rfl (rfl : 33 + 1 = 34) ?_
        refine z_iload_n h 1 dX12_worth_34 rfl (rfl : 34 + 1 = 35) ?_
        refine z_iload_n h 2 dX12_worth_35 rfl (rfl : 35 + 1 = 36) ?_
        refine z_iload_n h 3 dX12_worth_36 rfl (rfl : 36 + 1 = 37) ?_
        obtain ⟨q10, e11, hf⟩ := zbind hf
        refine z_goF (z_runV (C := RX12) (T := TX12) (N := 46) (ci := 11) h [.int v1, .int v2, .int v3] [] zyX12_worthOf (c_X12_worthOf B q7.2 J hJ v1 v2 v3 _ _ e11) gX12_worth_X12_worthOf rfl rfl rfl zrX12_worth_X12_worthOf rfl (Nat.le_of_ble_eq_true rfl) ⟨Nat.zero_le _, Nat.zero_le _⟩ rfl dX12_worth_37) rfl ?_
        refine z_goto (pc' := 45) h dX12_worth_40 (by decide) ?_
        refine z_iret h hr dX12_worth_45 ?_
        exact ⟨congrArg Prod.fst (zsome hf), congrArg Prod.snd (zsome hf), rfl⟩
    · have hf := zitf c6 hf
      refine z_iconst h (-1) dX12_worth_19 (by decide) (rfl : 19 + 1 = 20) ?_
      refine z_iret h hr dX12_worth_20 ?_
      exact ⟨congrArg Prod.fst (zsome hf), congrArg Prod.snd (zsome hf), rfl⟩
noncomputable def f_X12_best_30 (J : zJ) (u1 : Int32) (u2 : Int32) : Nat → Int32 → Int32 → Int32 → zM → Option ((Int32 × zM) ⊕ (Int32 × Int32 × Int32 × zM))
  | 0, _, _, _, _ => none
  | n + 1, x3_30, x4_30, x5_30, I30 => (if zin u2 6 = true then (if I30 148 (Int32.toNatClampNeg u2) < x5_30 then some (.inr (x3_30, x4_30, x5_30, I30)) else ((f_X12_worthOf J u1 u2 x5_30 I30).bind fun q9 => (if q9.1 ≤ x4_30 then f_X12_best_30 J u1 u2 n x3_30 x4_30 (x5_30 + 1) q9.2 else f_X12_best_30 J u1 u2 n x5_30 q9.1 (x5_30 + 1) q9.2))) else none)
noncomputable def f_X12_best (J : zJ) (v1 : Int32) (v2 : Int32) (I : zM) : Option (Int32 × zM) := ((f_X12_noOrder J v1 (zu I 147 0 0)).bind fun q1 => (if q1.1 = 0 then ((f_X12_noGap J v2 q1.2).bind fun q4 => (if q4.1 = 0 then ((f_X12_best_30 J v1 v2 zF (-9) (-1) 1 q4.2).bind fun q => Sum.elim (fun a => some a) (fun a9 => some ((a9.1, a9.2.2.2))) q) else some (((-1), q4.2)))) else some (((-1), q1.2))))
noncomputable abbrev rmX12_best : Room := { frames := 8, cells := 0, slots := 0, locals := 199 }
theorem zyX12_best : zY yX12_best wsX12_best cX12_best 7 (some .int) 2 := ⟨⟨_, rfl⟩, by decide +kernel⟩
theorem zrX12_best_X12_noGap : zRm rmX12_noGap rmX12_best 1 := ⟨rfl, rfl, by decide, by decide⟩
theorem zrX12_best_X12_noOrder : zRm rmX12_noOrder rmX12_best 1 := ⟨rfl, rfl, by decide, by decide⟩
theorem zrX12_best_X12_worthOf : zRm rmX12_worthOf rmX12_best 6 := ⟨rfl, rfl, by decide, by decide⟩
set_option maxHeartbeats 1000000 in
set_option maxRecDepth 100000 in
theorem c_X12_best (B : zB) (I : zM) (J : zJ) (hJ : zJok J) (v1 : Int32) (v2 : Int32) (r : Int32) (I' : zM) (hf : f_X12_best J v1 v2 I = some (r, I')) : zCi B zKW I J yX12_best wsX12_best rmX12_best [.ref (za B 147), .int v1, .int v2] (fun r2 I2 J2 => r2 = r ∧ I2 = I' ∧ J2 = J) := by
  refine z_start (own := RX12) (cc := cX12_best) (nL := 7) (ret := (some .int)) rfl (by decide) rfl (Nat.le_of_ble_eq_true rfl) (L := [(0, .ref (za B 147)), (1, .int v1), (2, .int v2)]) rfl (fun G h hr => ?_)
  rw [f_X12_best] at hf
  refine z_aload_n h 0 dX12_best_0 rfl (rfl : 0 + 1 = 1) ?_
  refine z_iconst h 0 dX12_best_1 (by decide) (rfl : 1 + 1 = 2) ?_
  refine z_put (ci := 11) (C := RX12) (T := TX12) (N := 46) h 0 tyX12 tyX12_ok nmX12 rfl rfl (fun _ hq => List.mem_cons_of_mem _ (List.mem_append_right _ hq)) (by decide) (List.mem_of_getElem? (i := 1) rfl) rfl rfl rfl dX12_best_2 (rfl : 2 + 3 = 5) ?_
  refine z_iload_n h 1 dX12_best_5 rfl (rfl : 5 + 1 = 6) ?_
  obtain ⟨q1, e2, hf⟩ := zbind hf
  refine z_goF (z_runS h [.int v1] [] zyX12_noOrder (c_X12_noOrder B (zu I 147 0 0) J hJ v1 _ _ e2) gX12_best_X12_noOrder zrX12_best_X12_noOrder rfl (Nat.le_of_ble_eq_true rfl) ⟨Nat.zero_le _, Nat.zero_le _⟩ rfl dX12_best_6) rfl ?_
  refine z_if_ne (pc' := 12) h 19 dX12_best_9 (by decide) rfl (fun c3 => ?_) (fun c3 => ?_)
  · have hf := zitf c3 hf
    refine z_iconst h (-1) dX12_best_19 (by decide) (rfl : 19 + 1 = 20) ?_
    refine z_iret h hr dX12_best_20 ?_
    exact ⟨congrArg Prod.fst (zsome hf), congrArg Prod.snd (zsome hf), rfl⟩
  · have hf := zitt c3 hf
    refine z_iload_n h 2 dX12_best_12 rfl (rfl : 12 + 1 = 13) ?_
    obtain ⟨q4, e5, hf⟩ := zbind hf
    refine z_goF (z_runS h [.int v2] [] zyX12_noGap (c_X12_noGap B q1.2 J hJ v2 _ _ e5) gX12_best_X12_noGap zrX12_best_X12_noGap rfl (Nat.le_of_ble_eq_true rfl) ⟨Nat.zero_le _, Nat.zero_le _⟩ rfl dX12_best_13) rfl ?_
    refine z_if_eq (pc' := 19) h 21 dX12_best_16 (by decide) rfl (fun c6 => ?_) (fun c6 => ?_)
    · have hf := zitt c6 hf
      refine z_bipush h (-9) dX12_best_21 (by decide) (rfl : 21 + 2 = 23) ?_
      refine z_istore_n h [(3, .int (-9)), (0, .ref (za B 147)), (1, .int v1), (2, .int v2)] dX12_best_23 (by decide) rfl (rfl : 23 + 1 = 24) ?_
      refine z_iconst h (-1) dX12_best_24 (by decide) (rfl : 24 + 1 = 25) ?_
      refine z_istore h [(4, .int (-1)), (3, .int (-9)), (0, .ref (za B 147)), (1, .int v1), (2, .int v2)] dX12_best_25 (by decide) rfl (rfl : 25 + 2 = 27) ?_
      refine z_iconst h 1 dX12_best_27 (by decide) (rfl : 27 + 1 = 28) ?_
      refine z_istore h [(5, .int 1), (4, .int (-1)), (3, .int (-9)), (0, .ref (za B 147)), (1, .int v1), (2, .int v2)] dX12_best_28 (by decide) rfl (rfl : 28 + 2 = 30) ?_
      have loop_30_8 : ∀ (n : Nat) (x3_30 : Int32) (x4_30 : Int32) (x5_30 : Int32) (I30 : zM) (q : (Int32 × zM) ⊕ (Int32 × Int32 × Int32 × zM)), f_X12_best_30 J v1 v2 n x3_30 x4_30 x5_30 I30 = some q → (∀ a, q = .inl a → a = (r, I')) → (∀ a : Int32 × Int32 × Int32 × zM, q = .inr a → Z B G zKW (a.2.2.2) (J) (0, 0) 71 [(0, .ref (za B 147)), (1, .int v1), (2, .int v2), (3, .int a.1), (4, .int a.2.1), (5, .int a.2.2.1)] []) → Z B G zKW I30 J (0, 0) 30 [(0, .ref (za B 147)), (1, .int v1), (2, .int v2), (3, .int x3_30), (4, .int x4_30), (5, .int x5_30)] [] := by
        intro n; induction n with
        | zero => intro x3_30 x4_30 x5_30 I30 q hf; exact absurd hf (by rw [f_X12_best_30]; exact fun z => by cases z)
        | succ n ih =>
          intro x3_30 x4_30 x5_30 I30 q hf hP hE; rw [f_X12_best_30] at hf
          refine z_iload h 5 dX12_best_30 rfl (rfl : 30 + 2 = 32) ?_
          refine z_aload_n h 0 dX12_best_32 rfl (rfl : 32 + 1 = 33) ?_
          refine z_getr (ci := 11) (C := RX12) (T := TX12) (N := 46) h 1 148 ((hJ.1 147 1 (by decide)).trans rfl) rfl rfl (fun _ hq => List.mem_cons_of_mem _ (List.mem_append_right _ hq)) (by decide) (List.mem_of_getElem? (i := 2) rfl) rfl dX12_best_33 (rfl : 33 + 3 = 36) ?_
          refine z_iload_n h 2 dX12_best_36 rfl (rfl : 36 + 1 = 37) ?_
          obtain ⟨b9, hf⟩ := zchk hf
          refine z_iald h rfl b9 dX12_best_37 (rfl : 37 + 1 = 38) ?_
          refine z_icmp_gt (pc' := 41) h 71 dX12_best_38 (by decide) rfl (fun c10 => ?_) (fun c10 => ?_)
          · have hf := zitt c10 hf
            exact hE (x3_30, x4_30, x5_30, I30) (zsome hf).symm
          · have hf := zitf c10 hf
            refine z_aload_n h 0 dX12_best_41 rfl (rfl : 41 + 1 = 42) ?_
            refine z_iload_n h 1 dX12_best_42 rfl (rfl : 42 + 1 = 43) ?_
            refine z_iload_n h 2 dX12_best_43 rfl (rfl : 43 + 1 = 44) ?_
            refine z_iload h 5 dX12_best_44 rfl (rfl : 44 + 2 = 46) ?_
            obtain ⟨q11, e12, hf⟩ := zbind hf
            refine z_goF (z_runV (C := RX12) (T := TX12) (N := 46) (ci := 11) h [.int v1, .int v2, .int x5_30] [] zyX12_worthOf (c_X12_worthOf B I30 J hJ v1 v2 x5_30 _ _ e12) gX12_best_X12_worthOf rfl rfl rfl zrX12_best_X12_worthOf rfl (Nat.le_of_ble_eq_true rfl) ⟨Nat.zero_le _, Nat.zero_le _⟩ rfl dX12_best_46) rfl ?_
            refine z_istore h [(6, .int q11.1), (0, .ref (za B 147)), (1, .int v1), (2, .int v2), (3, .int x3_30), (4, .int x4_30), (5, .int x5_30)] dX12_best_49 (by decide) rfl (rfl : 49 + 2 = 51) ?_
            refine z_iload h 0 dX12_best_51 rfl (rfl : 51 + 2 = 53) ?_
            refine z_iload h 5 dX12_best_53 rfl (rfl : 53 + 2 = 55) ?_
            refine z_icmp_le (pc' := 58) h 65 dX12_best_55 (by decide) rfl (fun c13 => ?_) (fun c13 => ?_)
            · have hf := zitt c13 hf
              refine z_iinc h 6 (x5_30 + 1) [(5, .int (x5_30 + 1)), (6, .int q11.1), (0, .ref (za B 147)), (1, .int v1), (2, .int v2), (3, .int x3_30), (4, .int x4_30)] dX12_best_65 rfl rfl (by decide) rfl (rfl : 65 + 3 = 68) ?_
              refine z_goto (pc' := 30) h dX12_best_68 (by decide) ?_
              refine z_sub (L' := [(0, .ref (za B 147)), (1, .int v1), (2, .int v2), (3, .int x3_30), (4, .int x4_30), (5, .int (x5_30 + 1))]) [2, 3, 4, 5, 6, 0] rfl ?_
              exact ih x3_30 x4_30 (x5_30 + 1) q11.2 _ hf hP hE
            · have hf := zitf c13 hf
              refine z_iload h 0 dX12_best_58 rfl (rfl : 58 + 2 = 60) ?_
              refine z_istore h [(4, .int q11.1), (6, .int q11.1), (0, .ref (za B 147)), (1, .int v1), (2, .int v2), (3, .int x3_30), (5, .int x5_30)] dX12_best_60 (by decide) rfl (rfl : 60 + 2 = 62) ?_
              refine z_iload h 6 dX12_best_62 rfl (rfl : 62 + 2 = 64) ?_
              refine z_istore_n h [(3, .int x5_30), (4, .int q11.1), (6, .int q11.1), (0, .ref (za B 147)), (1, .int v1), (2, .int v2), (5, .int x5_30)] dX12_best_64 (by decide) rfl (rfl : 64 + 1 = 65) ?_
              refine z_iinc h 6 (x5_30 + 1) [(5, .int (x5_30 + 1)), (3, .int x5_30), (4, .int q11.1), (6, .int q11.1), (0, .ref (za B 147)), (1, .int v1), (2, .int v2)] dX12_best_65 rfl rfl (by decide) rfl (rfl : 65 + 3 = 68) ?_
              refine z_goto (pc' := 30) h dX12_best_68 (by decide) ?_
              refine z_sub (L' := [(0, .ref (za B 147)), (1, .int v1), (2, .int v2), (3, .int x5_30), (4, .int q11.1), (5, .int (x5_30 + 1))]) [4, 5, 6, 1, 2, 0] rfl ?_
              exact ih x5_30 q11.1 (x5_30 + 1) q11.2 _ hf hP hE
      refine z_sub (L' := [(0, .ref (za B 147)), (1, .int v1), (2, .int v2), (3, .int (-9)), (4, .int (-1)), (5, .int 1)]) [3, 4, 5, 2, 1, 0] rfl ?_
      obtain ⟨q7, e8, hf⟩ := zbind hf
      refine loop_30_8 _ (-9) (-1) 1 q4.2 q7 e8 (fun a ha => ?_) (fun a14 ha  => ?_)
      · have hf := zell ha hf
        exact zsome hf
      have hf := zelr ha hf
      clear ha loop_30_8
      refine z_iload_n h 3 dX12_best_71 rfl (rfl : 71 + 1 = 72) ?_
      refine z_iret h hr dX12_best_72 ?_
      exact ⟨congrArg Prod.fst (zsome hf), congrArg Prod.snd (zsome hf), rfl⟩
    · have hf := zitf c6 hf
      refine z_iconst h (-1) dX12_best_19 (by decide) (rfl : 19 + 1 = 20) ?_
      refine z_iret h hr dX12_best_20 ?_
      exact ⟨congrArg Prod.fst (zsome hf), congrArg Prod.snd (zsome hf), rfl⟩
noncomputable def f_X12_save_2 (J : zJ) (u1 : Int32) : Nat → Int32 → zM → Option ((zM) ⊕ (Int32 × zM))
  | 0, _, _ => none
  | n + 1, x2_2, I2 => (if 144 ≤ x2_2 then some (.inr (x2_2, I2)) else (if zin x2_2 144 = true then (if zin (((144 : Int32) * u1) + x2_2) 432 = true then f_X12_save_2 J u1 n (x2_2 + 1) (zu I2 166 (Int32.toNatClampNeg (((144 : Int32) * u1) + x2_2)) (I2 152 (Int32.toNatClampNeg x2_2))) else none) else none))
noncomputable def f_X12_save_35 (J : zJ) (u1 : Int32) : Nat → Int32 → zM → Option ((zM) ⊕ (Int32 × zM))
  | 0, _, _ => none
  | n + 1, x2_35, I35 => (if 15 ≤ x2_35 then some (.inr (x2_35, I35)) else (if zin x2_35 15 = true then (if zin (((15 : Int32) * u1) + x2_35) 45 = true then (if vp_nar .boolean (I35 153 (Int32.toNatClampNeg x2_35)) = I35 153 (Int32.toNatClampNeg x2_35) then f_X12_save_35 J u1 n (x2_35 + 1) (zu I35 168 (Int32.toNatClampNeg (((15 : Int32) * u1) + x2_35)) (I35 153 (Int32.toNatClampNeg x2_35))) else none) else none) else none))
noncomputable def f_X12_save (J : zJ) (v1 : Int32) (I : zM) : Option (zM) := ((f_X12_save_2 J v1 zF 0 I).bind fun q => Sum.elim (fun a => some a) (fun a3 => ((f_X12_save_35 J v1 zF 0 a3.2).bind fun q => Sum.elim (fun a => some a) (fun a6 => (if zin v1 3 = true then some (zu a6.2 167 (Int32.toNatClampNeg v1) (a6.2 147 6)) else none)) q)) q)
noncomputable abbrev rmX12_save : Room := { frames := 0, cells := 0, slots := 0, locals := 0 }
theorem zyX12_save : zY yX12_save wsX12_save cX12_save 3 none 1 := ⟨⟨_, rfl⟩, by decide +kernel⟩
set_option maxHeartbeats 1000000 in
set_option maxRecDepth 100000 in
theorem c_X12_save (B : zB) (I : zM) (J : zJ) (hJ : zJok J) (v1 : Int32) (I' : zM) (hf : f_X12_save J v1 I = some I') : zCv B zKW I J yX12_save wsX12_save rmX12_save [.ref (za B 147), .int v1] (fun I2 J2 => I2 = I' ∧ J2 = J) := by
  refine z_start (own := RX12) (cc := cX12_save) (nL := 3) (ret := none) rfl (by decide) rfl (Nat.le_of_ble_eq_true rfl) (L := [(0, .ref (za B 147)), (1, .int v1)]) rfl (fun G h hr => ?_)
  rw [f_X12_save] at hf
  refine z_iconst h 0 dX12_save_0 (by decide) (rfl : 0 + 1 = 1) ?_
  refine z_istore_n h [(2, .int 0), (0, .ref (za B 147)), (1, .int v1)] dX12_save_1 (by decide) rfl (rfl : 1 + 1 = 2) ?_
  have loop_2_2 : ∀ (n : Nat) (x2_2 : Int32) (I2 : zM) (q : (zM) ⊕ (Int32 × zM)), f_X12_save_2 J v1 n x2_2 I2 = some q → (∀ a, q = .inl a → a = I') → (∀ a : Int32 × zM, q = .inr a → Z B G zKW (a.2) (J) (0, 0) 33 [(0, .ref (za B 147)), (1, .int v1), (2, .int a.1)] []) → Z B G zKW I2 J (0, 0) 2 [(0, .ref (za B 147)), (1, .int v1), (2, .int x2_2)] [] := by
    intro n; induction n with
    | zero => intro x2_2 I2 q hf; exact absurd hf (by rw [f_X12_save_2]; exact fun z => by cases z)
    | succ n ih =>
      intro x2_2 I2 q hf hP hE; rw [f_X12_save_2] at hf
      refine z_iload_n h 2 dX12_save_2 rfl (rfl : 2 + 1 = 3) ?_
      refine z_sipush h 144 dX12_save_3 (by decide) (rfl : 3 + 3 = 6) ?_
      refine z_icmp_ge (pc' := 9) h 33 dX12_save_6 (by decide) rfl (fun c3 => ?_) (fun c3 => ?_)
      · have hf := zitt c3 hf
        exact hE (x2_2, I2) (zsome hf).symm
      · have hf := zitf c3 hf
        refine z_aload_n h 0 dX12_save_9 rfl (rfl : 9 + 1 = 10) ?_
        refine z_getr (ci := 11) (C := RX12) (T := TX12) (N := 46) h 28 166 ((hJ.1 147 28 (by decide)).trans rfl) rfl rfl (fun _ hq => List.mem_cons_of_mem _ (List.mem_append_right _ hq)) (by decide) (List.mem_of_getElem? (i := 1) rfl) rfl dX12_save_10 (rfl : 10 + 3 = 13) ?_
        refine z_sipush h 144 dX12_save_13 (by decide) (rfl : 13 + 3 = 16) ?_
        refine z_iload_n h 1 dX12_save_16 rfl (rfl : 16 + 1 = 17) ?_
        refine z_imul h dX12_save_17 (rfl : 17 + 1 = 18) ?_
        refine z_iload_n h 2 dX12_save_18 rfl (rfl : 18 + 1 = 19) ?_
        refine z_iadd h dX12_save_19 (rfl : 19 + 1 = 20) ?_
        refine z_aload_n h 0 dX12_save_20 rfl (rfl : 20 + 1 = 21) ?_
        refine z_getr (ci := 11) (C := RX12) (T := TX12) (N := 46) h 5 152 ((hJ.1 147 5 (by decide)).trans rfl) rfl rfl (fun _ hq => List.mem_cons_of_mem _ (List.mem_append_right _ hq)) (by decide) (List.mem_of_getElem? (i := 2) rfl) rfl dX12_save_21 (rfl : 21 + 3 = 24) ?_
        refine z_iload_n h 2 dX12_save_24 rfl (rfl : 24 + 1 = 25) ?_
        obtain ⟨b4, hf⟩ := zchk hf
        refine z_iald h rfl b4 dX12_save_25 (rfl : 25 + 1 = 26) ?_
        obtain ⟨b5, hf⟩ := zchk hf
        refine z_iast h b5 rfl dX12_save_26 (rfl : 26 + 1 = 27) ?_
        refine z_iinc h 2 (x2_2 + 1) [(2, .int (x2_2 + 1)), (0, .ref (za B 147)), (1, .int v1)] dX12_save_27 rfl rfl (by decide) rfl (rfl : 27 + 3 = 30) ?_
        refine z_goto (pc' := 2) h dX12_save_30 (by decide) ?_
        refine z_sub (L' := [(0, .ref (za B 147)), (1, .int v1), (2, .int (x2_2 + 1))]) [1, 2, 0] rfl ?_
        exact ih (x2_2 + 1) (zu I2 166 (Int32.toNatClampNeg (((144 : Int32) * v1) + x2_2)) (I2 152 (Int32.toNatClampNeg x2_2))) _ hf hP hE
  refine z_sub (L' := [(0, .ref (za B 147)), (1, .int v1), (2, .int 0)]) [1, 2, 0] rfl ?_
  obtain ⟨q1, e2, hf⟩ := zbind hf
  refine loop_2_2 _ 0 I q1 e2 (fun a ha => ?_) (fun a6 ha  => ?_)
  · have hf := zell ha hf
    exact zsome hf
  have hf := zelr ha hf
  clear ha loop_2_2
  refine z_iconst h 0 dX12_save_33 (by decide) (rfl : 33 + 1 = 34) ?_
  refine z_istore_n h [(2, .int 0), (0, .ref (za B 147)), (1, .int v1)] dX12_save_34 (by decide) rfl (rfl : 34 + 1 = 35) ?_
  have loop_35_8 : ∀ (n : Nat) (x2_35 : Int32) (I35 : zM) (q : (zM) ⊕ (Int32 × zM)), f_X12_save_35 J v1 n x2_35 I35 = some q → (∀ a, q = .inl a → a = I') → (∀ a : Int32 × zM, q = .inr a → Z B G zKW (a.2) (J) (0, 0) 64 [(0, .ref (za B 147)), (1, .int v1), (2, .int a.1)] []) → Z B G zKW I35 J (0, 0) 35 [(0, .ref (za B 147)), (1, .int v1), (2, .int x2_35)] [] := by
    intro n; induction n with
    | zero => intro x2_35 I35 q hf; exact absurd hf (by rw [f_X12_save_35]; exact fun z => by cases z)
    | succ n ih =>
      intro x2_35 I35 q hf hP hE; rw [f_X12_save_35] at hf
      refine z_iload_n h 2 dX12_save_35 rfl (rfl : 35 + 1 = 36) ?_
      refine z_bipush h 15 dX12_save_36 (by decide) (rfl : 36 + 2 = 38) ?_
      refine z_icmp_ge (pc' := 41) h 64 dX12_save_38 (by decide) rfl (fun c9 => ?_) (fun c9 => ?_)
      · have hf := zitt c9 hf
        exact hE (x2_35, I35) (zsome hf).symm
      · have hf := zitf c9 hf
        refine z_aload_n h 0 dX12_save_41 rfl (rfl : 41 + 1 = 42) ?_
        refine z_getr (ci := 11) (C := RX12) (T := TX12) (N := 46) h 30 168 ((hJ.1 147 30 (by decide)).trans rfl) rfl rfl (fun _ hq => List.mem_cons_of_mem _ (List.mem_append_right _ hq)) (by decide) (List.mem_of_getElem? (i := 3) rfl) rfl dX12_save_42 (rfl : 42 + 3 = 45) ?_
        refine z_bipush h 15 dX12_save_45 (by decide) (rfl : 45 + 2 = 47) ?_
        refine z_iload_n h 1 dX12_save_47 rfl (rfl : 47 + 1 = 48) ?_
        refine z_imul h dX12_save_48 (rfl : 48 + 1 = 49) ?_
        refine z_iload_n h 2 dX12_save_49 rfl (rfl : 49 + 1 = 50) ?_
        refine z_iadd h dX12_save_50 (rfl : 50 + 1 = 51) ?_
        refine z_aload_n h 0 dX12_save_51 rfl (rfl : 51 + 1 = 52) ?_
        refine z_getr (ci := 11) (C := RX12) (T := TX12) (N := 46) h 7 153 ((hJ.1 147 7 (by decide)).trans rfl) rfl rfl (fun _ hq => List.mem_cons_of_mem _ (List.mem_append_right _ hq)) (by decide) (List.mem_of_getElem? (i := 4) rfl) rfl dX12_save_52 (rfl : 52 + 3 = 55) ?_
        refine z_iload_n h 2 dX12_save_55 rfl (rfl : 55 + 1 = 56) ?_
        obtain ⟨b10, hf⟩ := zchk hf
        refine z_zald h rfl b10 dX12_save_56 (rfl : 56 + 1 = 57) ?_
        obtain ⟨b11, hf⟩ := zchk hf
        obtain ⟨b12, hf⟩ := zchk hf
        refine z_zast h b11 b12 rfl dX12_save_57 (rfl : 57 + 1 = 58) ?_
        refine z_iinc h 2 (x2_35 + 1) [(2, .int (x2_35 + 1)), (0, .ref (za B 147)), (1, .int v1)] dX12_save_58 rfl rfl (by decide) rfl (rfl : 58 + 3 = 61) ?_
        refine z_goto (pc' := 35) h dX12_save_61 (by decide) ?_
        refine z_sub (L' := [(0, .ref (za B 147)), (1, .int v1), (2, .int (x2_35 + 1))]) [1, 2, 0] rfl ?_
        exact ih (x2_35 + 1) (zu I35 168 (Int32.toNatClampNeg (((15 : Int32) * v1) + x2_35)) (I35 153 (Int32.toNatClampNeg x2_35))) _ hf hP hE
  refine z_sub (L' := [(0, .ref (za B 147)), (1, .int v1), (2, .int 0)]) [1, 2, 0] rfl ?_
  obtain ⟨q7, e8, hf⟩ := zbind hf
  refine loop_35_8 _ 0 a6.2 q7 e8 (fun a ha => ?_) (fun a13 ha  => ?_)
  · have hf := zell ha hf
    exact zsome hf
  have hf := zelr ha hf
  clear ha loop_35_8
  refine z_aload_n h 0 dX12_save_64 rfl (rfl : 64 + 1 = 65) ?_
  refine z_getr (ci := 11) (C := RX12) (T := TX12) (N := 46) h 29 167 ((hJ.1 147 29 (by decide)).trans rfl) rfl rfl (fun _ hq => List.mem_cons_of_mem _ (List.mem_append_right _ hq)) (by decide) (List.mem_of_getElem? (i := 5) rfl) rfl dX12_save_65 (rfl : 65 + 3 = 68) ?_
  refine z_iload_n h 1 dX12_save_68 rfl (rfl : 68 + 1 = 69) ?_
  refine z_aload_n h 0 dX12_save_69 rfl (rfl : 69 + 1 = 70) ?_
  refine z_get (ci := 11) (C := RX12) (T := TX12) (N := 46) h 6 rfl rfl (fun _ hq => List.mem_cons_of_mem _ (List.mem_append_right _ hq)) (by decide) (List.mem_of_getElem? (i := 6) rfl) rfl dX12_save_70 (rfl : 70 + 3 = 73) ?_
  obtain ⟨b14, hf⟩ := zchk hf
  refine z_iast h b14 rfl dX12_save_73 (rfl : 73 + 1 = 74) ?_
  refine z_vret h hr dX12_save_74 ?_
  exact ⟨(zsome hf), rfl⟩
noncomputable def f_X12_load_2 (J : zJ) (u1 : Int32) : Nat → Int32 → zM → Option ((zM) ⊕ (Int32 × zM))
  | 0, _, _ => none
  | n + 1, x2_2, I2 => (if 144 ≤ x2_2 then some (.inr (x2_2, I2)) else (if zin (((144 : Int32) * u1) + x2_2) 432 = true then (if zin x2_2 144 = true then f_X12_load_2 J u1 n (x2_2 + 1) (zu I2 152 (Int32.toNatClampNeg x2_2) (I2 166 (Int32.toNatClampNeg (((144 : Int32) * u1) + x2_2)))) else none) else none))
noncomputable def f_X12_load_35 (J : zJ) (u1 : Int32) : Nat → Int32 → zM → Option ((zM) ⊕ (Int32 × zM))
  | 0, _, _ => none
  | n + 1, x2_35, I35 => (if 15 ≤ x2_35 then some (.inr (x2_35, I35)) else (if zin (((15 : Int32) * u1) + x2_35) 45 = true then (if zin x2_35 15 = true then (if vp_nar .boolean (I35 168 (Int32.toNatClampNeg (((15 : Int32) * u1) + x2_35))) = I35 168 (Int32.toNatClampNeg (((15 : Int32) * u1) + x2_35)) then f_X12_load_35 J u1 n (x2_35 + 1) (zu I35 153 (Int32.toNatClampNeg x2_35) (I35 168 (Int32.toNatClampNeg (((15 : Int32) * u1) + x2_35)))) else none) else none) else none))
noncomputable def f_X12_load (J : zJ) (v1 : Int32) (I : zM) : Option (zM) := ((f_X12_load_2 J v1 zF 0 I).bind fun q => Sum.elim (fun a => some a) (fun a3 => ((f_X12_load_35 J v1 zF 0 a3.2).bind fun q => Sum.elim (fun a => some a) (fun a6 => (if zin v1 3 = true then some (zu a6.2 147 6 (a6.2 167 (Int32.toNatClampNeg v1))) else none)) q)) q)
noncomputable abbrev rmX12_load : Room := { frames := 0, cells := 0, slots := 0, locals := 0 }
theorem zyX12_load : zY yX12_load wsX12_load cX12_load 3 none 1 := ⟨⟨_, rfl⟩, by decide +kernel⟩
set_option maxHeartbeats 1000000 in
set_option maxRecDepth 100000 in
theorem c_X12_load (B : zB) (I : zM) (J : zJ) (hJ : zJok J) (v1 : Int32) (I' : zM) (hf : f_X12_load J v1 I = some I') : zCv B zKW I J yX12_load wsX12_load rmX12_load [.ref (za B 147), .int v1] (fun I2 J2 => I2 = I' ∧ J2 = J) := by
  refine z_start (own := RX12) (cc := cX12_load) (nL := 3) (ret := none) rfl (by decide) rfl (Nat.le_of_ble_eq_true rfl) (L := [(0, .ref (za B 147)), (1, .int v1)]) rfl (fun G h hr => ?_)
  rw [f_X12_load] at hf
  refine z_iconst h 0 dX12_load_0 (by decide) (rfl : 0 + 1 = 1) ?_
  refine z_istore_n h [(2, .int 0), (0, .ref (za B 147)), (1, .int v1)] dX12_load_1 (by decide) rfl (rfl : 1 + 1 = 2) ?_
  have loop_2_2 : ∀ (n : Nat) (x2_2 : Int32) (I2 : zM) (q : (zM) ⊕ (Int32 × zM)), f_X12_load_2 J v1 n x2_2 I2 = some q → (∀ a, q = .inl a → a = I') → (∀ a : Int32 × zM, q = .inr a → Z B G zKW (a.2) (J) (0, 0) 33 [(0, .ref (za B 147)), (1, .int v1), (2, .int a.1)] []) → Z B G zKW I2 J (0, 0) 2 [(0, .ref (za B 147)), (1, .int v1), (2, .int x2_2)] [] := by
    intro n; induction n with
    | zero => intro x2_2 I2 q hf; exact absurd hf (by rw [f_X12_load_2]; exact fun z => by cases z)
    | succ n ih =>
      intro x2_2 I2 q hf hP hE; rw [f_X12_load_2] at hf
      refine z_iload_n h 2 dX12_load_2 rfl (rfl : 2 + 1 = 3) ?_
      refine z_sipush h 144 dX12_load_3 (by decide) (rfl : 3 + 3 = 6) ?_
      refine z_icmp_ge (pc' := 9) h 33 dX12_load_6 (by decide) rfl (fun c3 => ?_) (fun c3 => ?_)
      · have hf := zitt c3 hf
        exact hE (x2_2, I2) (zsome hf).symm
      · have hf := zitf c3 hf
        refine z_aload_n h 0 dX12_load_9 rfl (rfl : 9 + 1 = 10) ?_
        refine z_getr (ci := 11) (C := RX12) (T := TX12) (N := 46) h 5 152 ((hJ.1 147 5 (by decide)).trans rfl) rfl rfl (fun _ hq => List.mem_cons_of_mem _ (List.mem_append_right _ hq)) (by decide) (List.mem_of_getElem? (i := 1) rfl) rfl dX12_load_10 (rfl : 10 + 3 = 13) ?_
        refine z_iload_n h 2 dX12_load_13 rfl (rfl : 13 + 1 = 14) ?_
        refine z_aload_n h 0 dX12_load_14 rfl (rfl : 14 + 1 = 15) ?_
        refine z_getr (ci := 11) (C := RX12) (T := TX12) (N := 46) h 28 166 ((hJ.1 147 28 (by decide)).trans rfl) rfl rfl (fun _ hq => List.mem_cons_of_mem _ (List.mem_append_right _ hq)) (by decide) (List.mem_of_getElem? (i := 2) rfl) rfl dX12_load_15 (rfl : 15 + 3 = 18) ?_
        refine z_sipush h 144 dX12_load_18 (by decide) (rfl : 18 + 3 = 21) ?_
        refine z_iload_n h 1 dX12_load_21 rfl (rfl : 21 + 1 = 22) ?_
        refine z_imul h dX12_load_22 (rfl : 22 + 1 = 23) ?_
        refine z_iload_n h 2 dX12_load_23 rfl (rfl : 23 + 1 = 24) ?_
        refine z_iadd h dX12_load_24 (rfl : 24 + 1 = 25) ?_
        obtain ⟨b4, hf⟩ := zchk hf
        refine z_iald h rfl b4 dX12_load_25 (rfl : 25 + 1 = 26) ?_
        obtain ⟨b5, hf⟩ := zchk hf
        refine z_iast h b5 rfl dX12_load_26 (rfl : 26 + 1 = 27) ?_
        refine z_iinc h 2 (x2_2 + 1) [(2, .int (x2_2 + 1)), (0, .ref (za B 147)), (1, .int v1)] dX12_load_27 rfl rfl (by decide) rfl (rfl : 27 + 3 = 30) ?_
        refine z_goto (pc' := 2) h dX12_load_30 (by decide) ?_
        refine z_sub (L' := [(0, .ref (za B 147)), (1, .int v1), (2, .int (x2_2 + 1))]) [1, 2, 0] rfl ?_
        exact ih (x2_2 + 1) (zu I2 152 (Int32.toNatClampNeg x2_2) (I2 166 (Int32.toNatClampNeg (((144 : Int32) * v1) + x2_2)))) _ hf hP hE
  refine z_sub (L' := [(0, .ref (za B 147)), (1, .int v1), (2, .int 0)]) [1, 2, 0] rfl ?_
  obtain ⟨q1, e2, hf⟩ := zbind hf
  refine loop_2_2 _ 0 I q1 e2 (fun a ha => ?_) (fun a6 ha  => ?_)
  · have hf := zell ha hf
    exact zsome hf
  have hf := zelr ha hf
  clear ha loop_2_2
  refine z_iconst h 0 dX12_load_33 (by decide) (rfl : 33 + 1 = 34) ?_
  refine z_istore_n h [(2, .int 0), (0, .ref (za B 147)), (1, .int v1)] dX12_load_34 (by decide) rfl (rfl : 34 + 1 = 35) ?_
  have loop_35_8 : ∀ (n : Nat) (x2_35 : Int32) (I35 : zM) (q : (zM) ⊕ (Int32 × zM)), f_X12_load_35 J v1 n x2_35 I35 = some q → (∀ a, q = .inl a → a = I') → (∀ a : Int32 × zM, q = .inr a → Z B G zKW (a.2) (J) (0, 0) 64 [(0, .ref (za B 147)), (1, .int v1), (2, .int a.1)] []) → Z B G zKW I35 J (0, 0) 35 [(0, .ref (za B 147)), (1, .int v1), (2, .int x2_35)] [] := by
    intro n; induction n with
    | zero => intro x2_35 I35 q hf; exact absurd hf (by rw [f_X12_load_35]; exact fun z => by cases z)
    | succ n ih =>
      intro x2_35 I35 q hf hP hE; rw [f_X12_load_35] at hf
      refine z_iload_n h 2 dX12_load_35 rfl (rfl : 35 + 1 = 36) ?_
      refine z_bipush h 15 dX12_load_36 (by decide) (rfl : 36 + 2 = 38) ?_
      refine z_icmp_ge (pc' := 41) h 64 dX12_load_38 (by decide) rfl (fun c9 => ?_) (fun c9 => ?_)
      · have hf := zitt c9 hf
        exact hE (x2_35, I35) (zsome hf).symm
      · have hf := zitf c9 hf
        refine z_aload_n h 0 dX12_load_41 rfl (rfl : 41 + 1 = 42) ?_
        refine z_getr (ci := 11) (C := RX12) (T := TX12) (N := 46) h 7 153 ((hJ.1 147 7 (by decide)).trans rfl) rfl rfl (fun _ hq => List.mem_cons_of_mem _ (List.mem_append_right _ hq)) (by decide) (List.mem_of_getElem? (i := 3) rfl) rfl dX12_load_42 (rfl : 42 + 3 = 45) ?_
        refine z_iload_n h 2 dX12_load_45 rfl (rfl : 45 + 1 = 46) ?_
        refine z_aload_n h 0 dX12_load_46 rfl (rfl : 46 + 1 = 47) ?_
        refine z_getr (ci := 11) (C := RX12) (T := TX12) (N := 46) h 30 168 ((hJ.1 147 30 (by decide)).trans rfl) rfl rfl (fun _ hq => List.mem_cons_of_mem _ (List.mem_append_right _ hq)) (by decide) (List.mem_of_getElem? (i := 4) rfl) rfl dX12_load_47 (rfl : 47 + 3 = 50) ?_
        refine z_bipush h 15 dX12_load_50 (by decide) (rfl : 50 + 2 = 52) ?_
        refine z_iload_n h 1 dX12_load_52 rfl (rfl : 52 + 1 = 53) ?_
        refine z_imul h dX12_load_53 (rfl : 53 + 1 = 54) ?_
        refine z_iload_n h 2 dX12_load_54 rfl (rfl : 54 + 1 = 55) ?_
        refine z_iadd h dX12_load_55 (rfl : 55 + 1 = 56) ?_
        obtain ⟨b10, hf⟩ := zchk hf
        refine z_zald h rfl b10 dX12_load_56 (rfl : 56 + 1 = 57) ?_
        obtain ⟨b11, hf⟩ := zchk hf
        obtain ⟨b12, hf⟩ := zchk hf
        refine z_zast h b11 b12 rfl dX12_load_57 (rfl : 57 + 1 = 58) ?_
        refine z_iinc h 2 (x2_35 + 1) [(2, .int (x2_35 + 1)), (0, .ref (za B 147)), (1, .int v1)] dX12_load_58 rfl rfl (by decide) rfl (rfl : 58 + 3 = 61) ?_
        refine z_goto (pc' := 35) h dX12_load_61 (by decide) ?_
        refine z_sub (L' := [(0, .ref (za B 147)), (1, .int v1), (2, .int (x2_35 + 1))]) [1, 2, 0] rfl ?_
        exact ih (x2_35 + 1) (zu I35 153 (Int32.toNatClampNeg x2_35) (I35 168 (Int32.toNatClampNeg (((15 : Int32) * v1) + x2_35)))) _ hf hP hE
  refine z_sub (L' := [(0, .ref (za B 147)), (1, .int v1), (2, .int 0)]) [1, 2, 0] rfl ?_
  obtain ⟨q7, e8, hf⟩ := zbind hf
  refine loop_35_8 _ 0 a6.2 q7 e8 (fun a ha => ?_) (fun a13 ha  => ?_)
  · have hf := zell ha hf
    exact zsome hf
  have hf := zelr ha hf
  clear ha loop_35_8
  refine z_aload_n h 0 dX12_load_64 rfl (rfl : 64 + 1 = 65) ?_
  refine z_aload_n h 0 dX12_load_65 rfl (rfl : 65 + 1 = 66) ?_
  refine z_getr (ci := 11) (C := RX12) (T := TX12) (N := 46) h 29 167 ((hJ.1 147 29 (by decide)).trans rfl) rfl rfl (fun _ hq => List.mem_cons_of_mem _ (List.mem_append_right _ hq)) (by decide) (List.mem_of_getElem? (i := 5) rfl) rfl dX12_load_66 (rfl : 66 + 3 = 69) ?_
  refine z_iload_n h 1 dX12_load_69 rfl (rfl : 69 + 1 = 70) ?_
  obtain ⟨b14, hf⟩ := zchk hf
  refine z_iald h rfl b14 dX12_load_70 (rfl : 70 + 1 = 71) ?_
  refine z_put (ci := 11) (C := RX12) (T := TX12) (N := 46) h 6 tyX12 tyX12_ok nmX12 rfl rfl (fun _ hq => List.mem_cons_of_mem _ (List.mem_append_right _ hq)) (by decide) (List.mem_of_getElem? (i := 6) rfl) rfl rfl rfl dX12_load_71 (rfl : 71 + 3 = 74) ?_
  refine z_vret h hr dX12_load_74 ?_
  exact ⟨(zsome hf), rfl⟩
