noncomputable def f_X12_noSlot (J : zJ) (v0 : Int32) (I : zM) : Option (Int32 × zM) := ((f_X12_in J (Int32.toInt64 v0) 0 1 I).bind fun q1 => (if q1.1 = 0 then some ((1, q1.2)) else some ((0, q1.2))))
noncomputable abbrev rmX12_noSlot : Room := { frames := 1, cells := 0, slots := 0, locals := 25 }
theorem zyX12_noSlot : zY yX12_noSlot wsX12_noSlot cX12_noSlot 1 (some .boolean) 1 := ⟨⟨_, rfl⟩, by decide +kernel⟩
theorem zrX12_noSlot_X12_in : zRm rmX12_in rmX12_noSlot 6 := ⟨rfl, rfl, by decide, by decide⟩
set_option maxHeartbeats 1000000 in
set_option maxRecDepth 100000 in
theorem c_X12_noSlot (B : zB) (I : zM) (J : zJ) (hJ : zJok J) (v0 : Int32) (r : Int32) (I' : zM) (hf : f_X12_noSlot J v0 I = some (r, I')) : zCi B zKW I J yX12_noSlot wsX12_noSlot rmX12_noSlot [.int v0] (fun r2 I2 J2 => r2 = r ∧ I2 = I' ∧ J2 = J) := by
  refine z_start (own := RX12) (cc := cX12_noSlot) (nL := 1) (ret := (some .boolean)) rfl (by decide) rfl (Nat.le_of_ble_eq_true rfl) (L := [(0, .int v0)]) rfl (fun G h hr => ?_)
  rw [f_X12_noSlot] at hf
  refine z_iload_n h 0 dX12_noSlot_0 rfl (rfl : 0 + 1 = 1) ?_
  refine z_i2l h dX12_noSlot_1 (rfl : 1 + 1 = 2) ?_
  refine z_lconst h 0 dX12_noSlot_2 rfl (rfl : 2 + 1 = 3) ?_
  refine z_lconst h 1 dX12_noSlot_3 rfl (rfl : 3 + 1 = 4) ?_
  obtain ⟨q1, e2, hf⟩ := zbind hf
  refine z_goF (z_runS h [.long (Int32.toInt64 v0), .long 0, .long 1] [] zyX12_in (c_X12_in B I J hJ (Int32.toInt64 v0) 0 1 _ _ e2) gX12_noSlot_X12_in zrX12_noSlot_X12_in rfl (Nat.le_of_ble_eq_true rfl) ⟨Nat.zero_le _, Nat.zero_le _⟩ rfl dX12_noSlot_4) rfl ?_
  refine z_if_ne (pc' := 10) h 14 dX12_noSlot_7 (by decide) rfl (fun c3 => ?_) (fun c3 => ?_)
  · have hf := zitf c3 hf
    refine z_iconst h 0 dX12_noSlot_14 (by decide) (rfl : 14 + 1 = 15) ?_
    refine z_zret h hr dX12_noSlot_15 (Or.inl rfl) ?_
    exact ⟨congrArg Prod.fst (zsome hf), congrArg Prod.snd (zsome hf), rfl⟩
  · have hf := zitt c3 hf
    refine z_iconst h 1 dX12_noSlot_10 (by decide) (rfl : 10 + 1 = 11) ?_
    refine z_goto (pc' := 15) h dX12_noSlot_11 (by decide) ?_
    refine z_zret h hr dX12_noSlot_15 (Or.inr rfl) ?_
    exact ⟨congrArg Prod.fst (zsome hf), congrArg Prod.snd (zsome hf), rfl⟩
noncomputable def f_X12_keep (J : zJ) (v1 : Int32) (I : zM) : Option (Int32 × zM) := ((f_X12_noSlot J v1 (zu I 147 0 0)).bind fun q1 => (if q1.1 = 0 then ((f_X12_save J v1 q1.2).bind fun q4 => (if zin v1 3 = true then some (((zu q4 169 (Int32.toNatClampNeg v1) 1) 147 6, zu q4 169 (Int32.toNatClampNeg v1) 1)) else none)) else some (((-1), q1.2))))
noncomputable abbrev rmX12_keep : Room := { frames := 2, cells := 0, slots := 0, locals := 45 }
theorem zyX12_keep : zY yX12_keep wsX12_keep cX12_keep 2 (some .int) 1 := ⟨⟨_, rfl⟩, by decide +kernel⟩
theorem zrX12_keep_X12_noSlot : zRm rmX12_noSlot rmX12_keep 1 := ⟨rfl, rfl, by decide, by decide⟩
theorem zrX12_keep_X12_save : zRm rmX12_save rmX12_keep 3 := ⟨rfl, rfl, by decide, by decide⟩
set_option maxHeartbeats 1000000 in
set_option maxRecDepth 100000 in
theorem c_X12_keep (B : zB) (I : zM) (J : zJ) (hJ : zJok J) (v1 : Int32) (r : Int32) (I' : zM) (hf : f_X12_keep J v1 I = some (r, I')) : zCi B zKW I J yX12_keep wsX12_keep rmX12_keep [.ref (za B 147), .int v1] (fun r2 I2 J2 => r2 = r ∧ I2 = I' ∧ J2 = J) := by
  refine z_start (own := RX12) (cc := cX12_keep) (nL := 2) (ret := (some .int)) rfl (by decide) rfl (Nat.le_of_ble_eq_true rfl) (L := [(0, .ref (za B 147)), (1, .int v1)]) rfl (fun G h hr => ?_)
  rw [f_X12_keep] at hf
  refine z_aload_n h 0 dX12_keep_0 rfl (rfl : 0 + 1 = 1) ?_
  refine z_iconst h 0 dX12_keep_1 (by decide) (rfl : 1 + 1 = 2) ?_
  refine z_put (ci := 11) (C := RX12) (T := TX12) (N := 46) h 0 tyX12 tyX12_ok nmX12 rfl rfl (fun _ hq => List.mem_cons_of_mem _ (List.mem_append_right _ hq)) (by decide) (List.mem_of_getElem? (i := 1) rfl) rfl rfl rfl dX12_keep_2 (rfl : 2 + 3 = 5) ?_
  refine z_iload_n h 1 dX12_keep_5 rfl (rfl : 5 + 1 = 6) ?_
  obtain ⟨q1, e2, hf⟩ := zbind hf
  refine z_goF (z_runS h [.int v1] [] zyX12_noSlot (c_X12_noSlot B (zu I 147 0 0) J hJ v1 _ _ e2) gX12_keep_X12_noSlot zrX12_keep_X12_noSlot rfl (Nat.le_of_ble_eq_true rfl) ⟨Nat.zero_le _, Nat.zero_le _⟩ rfl dX12_keep_6) rfl ?_
  refine z_if_eq (pc' := 12) h 14 dX12_keep_9 (by decide) rfl (fun c3 => ?_) (fun c3 => ?_)
  · have hf := zitt c3 hf
    refine z_aload_n h 0 dX12_keep_14 rfl (rfl : 14 + 1 = 15) ?_
    refine z_iload_n h 1 dX12_keep_15 rfl (rfl : 15 + 1 = 16) ?_
    obtain ⟨q4, e5, hf⟩ := zbind hf
    refine z_goFv (z_runV (C := RX12) (T := TX12) (N := 46) (ci := 11) h [.int v1] [] zyX12_save (c_X12_save B q1.2 J hJ v1 _ e5) gX12_keep_X12_save rfl rfl rfl zrX12_keep_X12_save rfl (Nat.le_of_ble_eq_true rfl) ⟨Nat.zero_le _, Nat.zero_le _⟩ rfl dX12_keep_16) rfl ?_
    refine z_aload_n h 0 dX12_keep_19 rfl (rfl : 19 + 1 = 20) ?_
    refine z_getr (ci := 11) (C := RX12) (T := TX12) (N := 46) h 31 169 ((hJ.1 147 31 (by decide)).trans rfl) rfl rfl (fun _ hq => List.mem_cons_of_mem _ (List.mem_append_right _ hq)) (by decide) (List.mem_of_getElem? (i := 2) rfl) rfl dX12_keep_20 (rfl : 20 + 3 = 23) ?_
    refine z_iload_n h 1 dX12_keep_23 rfl (rfl : 23 + 1 = 24) ?_
    refine z_iconst h 1 dX12_keep_24 (by decide) (rfl : 24 + 1 = 25) ?_
    obtain ⟨b6, hf⟩ := zchk hf
    refine z_zast h b6 rfl rfl dX12_keep_25 (rfl : 25 + 1 = 26) ?_
    refine z_aload_n h 0 dX12_keep_26 rfl (rfl : 26 + 1 = 27) ?_
    refine z_get (ci := 11) (C := RX12) (T := TX12) (N := 46) h 6 rfl rfl (fun _ hq => List.mem_cons_of_mem _ (List.mem_append_right _ hq)) (by decide) (List.mem_of_getElem? (i := 3) rfl) rfl dX12_keep_27 (rfl : 27 + 3 = 30) ?_
    refine z_iret h hr dX12_keep_30 ?_
    exact ⟨congrArg Prod.fst (zsome hf), congrArg Prod.snd (zsome hf), rfl⟩
  · have hf := zitf c3 hf
    refine z_iconst h (-1) dX12_keep_12 (by decide) (rfl : 12 + 1 = 13) ?_
    refine z_iret h hr dX12_keep_13 ?_
    exact ⟨congrArg Prod.fst (zsome hf), congrArg Prod.snd (zsome hf), rfl⟩
noncomputable def f_X12_again (J : zJ) (v1 : Int32) (I : zM) : Option (Int32 × zM) := ((f_X12_noSlot J v1 (zu I 147 0 0)).bind fun q1 => (if q1.1 = 0 then (if zin v1 3 = true then (if q1.2 169 (Int32.toNatClampNeg v1) = 0 then some (((-3), q1.2)) else ((f_X12_load J v1 q1.2).bind fun q6 => some ((q6 147 6, q6)))) else none) else some (((-1), q1.2))))
noncomputable abbrev rmX12_again : Room := { frames := 2, cells := 0, slots := 0, locals := 45 }
theorem zyX12_again : zY yX12_again wsX12_again cX12_again 2 (some .int) 1 := ⟨⟨_, rfl⟩, by decide +kernel⟩
theorem zrX12_again_X12_load : zRm rmX12_load rmX12_again 3 := ⟨rfl, rfl, by decide, by decide⟩
theorem zrX12_again_X12_noSlot : zRm rmX12_noSlot rmX12_again 1 := ⟨rfl, rfl, by decide, by decide⟩
set_option maxHeartbeats 1000000 in
set_option maxRecDepth 100000 in
theorem c_X12_again (B : zB) (I : zM) (J : zJ) (hJ : zJok J) (v1 : Int32) (r : Int32) (I' : zM) (hf : f_X12_again J v1 I = some (r, I')) : zCi B zKW I J yX12_again wsX12_again rmX12_again [.ref (za B 147), .int v1] (fun r2 I2 J2 => r2 = r ∧ I2 = I' ∧ J2 = J) := by
  refine z_start (own := RX12) (cc := cX12_again) (nL := 2) (ret := (some .int)) rfl (by decide) rfl (Nat.le_of_ble_eq_true rfl) (L := [(0, .ref (za B 147)), (1, .int v1)]) rfl (fun G h hr => ?_)
  rw [f_X12_again] at hf
  refine z_aload_n h 0 dX12_again_0 rfl (rfl : 0 + 1 = 1) ?_
  refine z_iconst h 0 dX12_again_1 (by decide) (rfl : 1 + 1 = 2) ?_
  refine z_put (ci := 11) (C := RX12) (T := TX12) (N := 46) h 0 tyX12 tyX12_ok nmX12 rfl rfl (fun _ hq => List.mem_cons_of_mem _ (List.mem_append_right _ hq)) (by decide) (List.mem_of_getElem? (i := 1) rfl) rfl rfl rfl dX12_again_2 (rfl : 2 + 3 = 5) ?_
  refine z_iload_n h 1 dX12_again_5 rfl (rfl : 5 + 1 = 6) ?_
  obtain ⟨q1, e2, hf⟩ := zbind hf
  refine z_goF (z_runS h [.int v1] [] zyX12_noSlot (c_X12_noSlot B (zu I 147 0 0) J hJ v1 _ _ e2) gX12_again_X12_noSlot zrX12_again_X12_noSlot rfl (Nat.le_of_ble_eq_true rfl) ⟨Nat.zero_le _, Nat.zero_le _⟩ rfl dX12_again_6) rfl ?_
  refine z_if_eq (pc' := 12) h 14 dX12_again_9 (by decide) rfl (fun c3 => ?_) (fun c3 => ?_)
  · have hf := zitt c3 hf
    refine z_aload_n h 0 dX12_again_14 rfl (rfl : 14 + 1 = 15) ?_
    refine z_getr (ci := 11) (C := RX12) (T := TX12) (N := 46) h 31 169 ((hJ.1 147 31 (by decide)).trans rfl) rfl rfl (fun _ hq => List.mem_cons_of_mem _ (List.mem_append_right _ hq)) (by decide) (List.mem_of_getElem? (i := 2) rfl) rfl dX12_again_15 (rfl : 15 + 3 = 18) ?_
    refine z_iload_n h 1 dX12_again_18 rfl (rfl : 18 + 1 = 19) ?_
    obtain ⟨b4, hf⟩ := zchk hf
    refine z_zald h rfl b4 dX12_again_19 (rfl : 19 + 1 = 20) ?_
    refine z_if_ne (pc' := 23) h 26 dX12_again_20 (by decide) rfl (fun c5 => ?_) (fun c5 => ?_)
    · have hf := zitf c5 hf
      refine z_aload_n h 0 dX12_again_26 rfl (rfl : 26 + 1 = 27) ?_
      refine z_iload_n h 1 dX12_again_27 rfl (rfl : 27 + 1 = 28) ?_
      obtain ⟨q6, e7, hf⟩ := zbind hf
      refine z_goFv (z_runV (C := RX12) (T := TX12) (N := 46) (ci := 11) h [.int v1] [] zyX12_load (c_X12_load B q1.2 J hJ v1 _ e7) gX12_again_X12_load rfl rfl rfl zrX12_again_X12_load rfl (Nat.le_of_ble_eq_true rfl) ⟨Nat.zero_le _, Nat.zero_le _⟩ rfl dX12_again_28) rfl ?_
      refine z_aload_n h 0 dX12_again_31 rfl (rfl : 31 + 1 = 32) ?_
      refine z_get (ci := 11) (C := RX12) (T := TX12) (N := 46) h 6 rfl rfl (fun _ hq => List.mem_cons_of_mem _ (List.mem_append_right _ hq)) (by decide) (List.mem_of_getElem? (i := 3) rfl) rfl dX12_again_32 (rfl : 32 + 3 = 35) ?_
      refine z_iret h hr dX12_again_35 ?_
      exact ⟨congrArg Prod.fst (zsome hf), congrArg Prod.snd (zsome hf), rfl⟩
    · have hf := zitt c5 hf
      refine z_bipush h (-3) dX12_again_23 (by decide) (rfl : 23 + 2 = 25) ?_
      refine z_iret h hr dX12_again_25 ?_
      exact ⟨congrArg Prod.fst (zsome hf), congrArg Prod.snd (zsome hf), rfl⟩
  · have hf := zitf c3 hf
    refine z_iconst h (-1) dX12_again_12 (by decide) (rfl : 12 + 1 = 13) ?_
    refine z_iret h hr dX12_again_13 ?_
    exact ⟨congrArg Prod.fst (zsome hf), congrArg Prod.snd (zsome hf), rfl⟩
noncomputable def f_X12_since_43 (J : zJ) (u1 : Int32) (u2 : Int32) : Nat → Int32 → Int32 → zM → Option ((Int32 × zM) ⊕ (Int32 × Int32 × zM))
  | 0, _, _, _ => none
  | n + 1, x3_43, x4_43, I43 => (if I43 147 25 ≤ x4_43 then some (.inr (x3_43, x4_43, I43)) else ((f_X12_readIt J x4_43 u1 I43).bind fun q12 => ((f_X12_put J  q12).bind fun q14 => ((f_X12_load J u2 q14).bind fun q16 => ((f_X12_readIt J x4_43 u1 q16).bind fun q18 => ((f_X12_unlike J  q18).bind fun q20 => (if q20.1 = 0 then ((f_X12_load J 2 q20.2).bind fun q25 => f_X12_since_43 J u1 u2 n (x3_43 + (0 : Int32)) (x4_43 + 1) q25) else ((f_X12_load J 2 q20.2).bind fun q23 => f_X12_since_43 J u1 u2 n (x3_43 + (1 : Int32)) (x4_43 + 1) q23))))))))
noncomputable def f_X12_since (J : zJ) (v1 : Int32) (v2 : Int32) (I : zM) : Option (Int32 × zM) := ((f_X12_noOrder J v1 (zu I 147 0 0)).bind fun q1 => (if q1.1 = 0 then ((f_X12_noSlot J v2 q1.2).bind fun q4 => (if q4.1 = 0 then (if zin v2 3 = true then (if q4.2 169 (Int32.toNatClampNeg v2) = 0 then some (((-3), q4.2)) else ((f_X12_save J 2 q4.2).bind fun q9 => ((f_X12_since_43 J v1 v2 zF 0 0 q9).bind fun q => Sum.elim (fun a => some a) (fun a13 => some ((a13.1, a13.2.2))) q))) else none) else some (((-1), q4.2)))) else some (((-1), q1.2))))
noncomputable abbrev rmX12_since : Room := { frames := 7, cells := 0, slots := 0, locals := 174 }
theorem zyX12_since : zY yX12_since wsX12_since cX12_since 5 (some .int) 2 := ⟨⟨_, rfl⟩, by decide +kernel⟩
theorem zrX12_since_X12_load : zRm rmX12_load rmX12_since 3 := ⟨rfl, rfl, by decide, by decide⟩
theorem zrX12_since_X12_noOrder : zRm rmX12_noOrder rmX12_since 1 := ⟨rfl, rfl, by decide, by decide⟩
theorem zrX12_since_X12_noSlot : zRm rmX12_noSlot rmX12_since 1 := ⟨rfl, rfl, by decide, by decide⟩
theorem zrX12_since_X12_put : zRm rmX12_put rmX12_since 2 := ⟨rfl, rfl, by decide, by decide⟩
theorem zrX12_since_X12_readIt : zRm rmX12_readIt rmX12_since 7 := ⟨rfl, rfl, by decide, by decide⟩
theorem zrX12_since_X12_save : zRm rmX12_save rmX12_since 3 := ⟨rfl, rfl, by decide, by decide⟩
theorem zrX12_since_X12_unlike : zRm rmX12_unlike rmX12_since 3 := ⟨rfl, rfl, by decide, by decide⟩
set_option maxHeartbeats 1000000 in
set_option maxRecDepth 100000 in
theorem c_X12_since (B : zB) (I : zM) (J : zJ) (hJ : zJok J) (v1 : Int32) (v2 : Int32) (r : Int32) (I' : zM) (hf : f_X12_since J v1 v2 I = some (r, I')) : zCi B zKW I J yX12_since wsX12_since rmX12_since [.ref (za B 147), .int v1, .int v2] (fun r2 I2 J2 => r2 = r ∧ I2 = I' ∧ J2 = J) := by
  refine z_start (own := RX12) (cc := cX12_since) (nL := 5) (ret := (some .int)) rfl (by decide) rfl (Nat.le_of_ble_eq_true rfl) (L := [(0, .ref (za B 147)), (1, .int v1), (2, .int v2)]) rfl (fun G h hr => ?_)
  rw [f_X12_since] at hf
  refine z_aload_n h 0 dX12_since_0 rfl (rfl : 0 + 1 = 1) ?_
  refine z_iconst h 0 dX12_since_1 (by decide) (rfl : 1 + 1 = 2) ?_
  refine z_put (ci := 11) (C := RX12) (T := TX12) (N := 46) h 0 tyX12 tyX12_ok nmX12 rfl rfl (fun _ hq => List.mem_cons_of_mem _ (List.mem_append_right _ hq)) (by decide) (List.mem_of_getElem? (i := 1) rfl) rfl rfl rfl dX12_since_2 (rfl : 2 + 3 = 5) ?_
  refine z_iload_n h 1 dX12_since_5 rfl (rfl : 5 + 1 = 6) ?_
  obtain ⟨q1, e2, hf⟩ := zbind hf
  refine z_goF (z_runS h [.int v1] [] zyX12_noOrder (c_X12_noOrder B (zu I 147 0 0) J hJ v1 _ _ e2) gX12_since_X12_noOrder zrX12_since_X12_noOrder rfl (Nat.le_of_ble_eq_true rfl) ⟨Nat.zero_le _, Nat.zero_le _⟩ rfl dX12_since_6) rfl ?_
  refine z_if_ne (pc' := 12) h 19 dX12_since_9 (by decide) rfl (fun c3 => ?_) (fun c3 => ?_)
  · have hf := zitf c3 hf
    refine z_iconst h (-1) dX12_since_19 (by decide) (rfl : 19 + 1 = 20) ?_
    refine z_iret h hr dX12_since_20 ?_
    exact ⟨congrArg Prod.fst (zsome hf), congrArg Prod.snd (zsome hf), rfl⟩
  · have hf := zitt c3 hf
    refine z_iload_n h 2 dX12_since_12 rfl (rfl : 12 + 1 = 13) ?_
    obtain ⟨q4, e5, hf⟩ := zbind hf
    refine z_goF (z_runS h [.int v2] [] zyX12_noSlot (c_X12_noSlot B q1.2 J hJ v2 _ _ e5) gX12_since_X12_noSlot zrX12_since_X12_noSlot rfl (Nat.le_of_ble_eq_true rfl) ⟨Nat.zero_le _, Nat.zero_le _⟩ rfl dX12_since_13) rfl ?_
    refine z_if_eq (pc' := 19) h 21 dX12_since_16 (by decide) rfl (fun c6 => ?_) (fun c6 => ?_)
    · have hf := zitt c6 hf
      refine z_aload_n h 0 dX12_since_21 rfl (rfl : 21 + 1 = 22) ?_
      refine z_getr (ci := 11) (C := RX12) (T := TX12) (N := 46) h 31 169 ((hJ.1 147 31 (by decide)).trans rfl) rfl rfl (fun _ hq => List.mem_cons_of_mem _ (List.mem_append_right _ hq)) (by decide) (List.mem_of_getElem? (i := 2) rfl) rfl dX12_since_22 (rfl : 22 + 3 = 25) ?_
      refine z_iload_n h 2 dX12_since_25 rfl (rfl : 25 + 1 = 26) ?_
      obtain ⟨b7, hf⟩ := zchk hf
      refine z_zald h rfl b7 dX12_since_26 (rfl : 26 + 1 = 27) ?_
      refine z_if_ne (pc' := 30) h 33 dX12_since_27 (by decide) rfl (fun c8 => ?_) (fun c8 => ?_)
      · have hf := zitf c8 hf
        refine z_aload_n h 0 dX12_since_33 rfl (rfl : 33 + 1 = 34) ?_
        refine z_iconst h 2 dX12_since_34 (by decide) (rfl : 34 + 1 = 35) ?_
        obtain ⟨q9, e10, hf⟩ := zbind hf
        refine z_goFv (z_runV (C := RX12) (T := TX12) (N := 46) (ci := 11) h [.int 2] [] zyX12_save (c_X12_save B q4.2 J hJ 2 _ e10) gX12_since_X12_save rfl rfl rfl zrX12_since_X12_save rfl (Nat.le_of_ble_eq_true rfl) ⟨Nat.zero_le _, Nat.zero_le _⟩ rfl dX12_since_35) rfl ?_
        refine z_iconst h 0 dX12_since_38 (by decide) (rfl : 38 + 1 = 39) ?_
        refine z_istore_n h [(3, .int 0), (0, .ref (za B 147)), (1, .int v1), (2, .int v2)] dX12_since_39 (by decide) rfl (rfl : 39 + 1 = 40) ?_
        refine z_iconst h 0 dX12_since_40 (by decide) (rfl : 40 + 1 = 41) ?_
        refine z_istore h [(4, .int 0), (3, .int 0), (0, .ref (za B 147)), (1, .int v1), (2, .int v2)] dX12_since_41 (by decide) rfl (rfl : 41 + 2 = 43) ?_
        have loop_43_12 : ∀ (n : Nat) (x3_43 : Int32) (x4_43 : Int32) (I43 : zM) (q : (Int32 × zM) ⊕ (Int32 × Int32 × zM)), f_X12_since_43 J v1 v2 n x3_43 x4_43 I43 = some q → (∀ a, q = .inl a → a = (r, I')) → (∀ a : Int32 × Int32 × zM, q = .inr a → Z B G zKW (a.2.2) (J) (0, 0) 101 [(0, .ref (za B 147)), (1, .int v1), (2, .int v2), (3, .int a.1), (4, .int a.2.1)] []) → Z B G zKW I43 J (0, 0) 43 [(0, .ref (za B 147)), (1, .int v1), (2, .int v2), (3, .int x3_43), (4, .int x4_43)] [] := by
          intro n; induction n with
          | zero => intro x3_43 x4_43 I43 q hf; exact absurd hf (by rw [f_X12_since_43]; exact fun z => by cases z)
          | succ n ih =>
            intro x3_43 x4_43 I43 q hf hP hE; rw [f_X12_since_43] at hf
            refine z_iload h 4 dX12_since_43 rfl (rfl : 43 + 2 = 45) ?_
            refine z_aload_n h 0 dX12_since_45 rfl (rfl : 45 + 1 = 46) ?_
            refine z_get (ci := 11) (C := RX12) (T := TX12) (N := 46) h 25 rfl rfl (fun _ hq => List.mem_cons_of_mem _ (List.mem_append_right _ hq)) (by decide) (List.mem_of_getElem? (i := 3) rfl) rfl dX12_since_46 (rfl : 46 + 3 = 49) ?_
            refine z_icmp_ge (pc' := 52) h 101 dX12_since_49 (by decide) rfl (fun c13 => ?_) (fun c13 => ?_)
            · have hf := zitt c13 hf
              exact hE (x3_43, x4_43, I43) (zsome hf).symm
            · have hf := zitf c13 hf
              refine z_aload_n h 0 dX12_since_52 rfl (rfl : 52 + 1 = 53) ?_
              refine z_iload h 4 dX12_since_53 rfl (rfl : 53 + 2 = 55) ?_
              refine z_iload_n h 1 dX12_since_55 rfl (rfl : 55 + 1 = 56) ?_
              obtain ⟨q14, e15, hf⟩ := zbind hf
              refine z_goFv (z_runV (C := RX12) (T := TX12) (N := 46) (ci := 11) h [.int x4_43, .int v1] [] zyX12_readIt (c_X12_readIt B I43 J hJ x4_43 v1 _ e15) gX12_since_X12_readIt rfl rfl rfl zrX12_since_X12_readIt rfl (Nat.le_of_ble_eq_true rfl) ⟨Nat.zero_le _, Nat.zero_le _⟩ rfl dX12_since_56) rfl ?_
              refine z_aload_n h 0 dX12_since_59 rfl (rfl : 59 + 1 = 60) ?_
              obtain ⟨q16, e17, hf⟩ := zbind hf
              refine z_goFv (z_runV (C := RX12) (T := TX12) (N := 46) (ci := 11) h [] [] zyX12_put (c_X12_put B q14 J hJ  _ e17) gX12_since_X12_put rfl rfl rfl zrX12_since_X12_put rfl (Nat.le_of_ble_eq_true rfl) ⟨Nat.zero_le _, Nat.zero_le _⟩ rfl dX12_since_60) rfl ?_
              refine z_aload_n h 0 dX12_since_63 rfl (rfl : 63 + 1 = 64) ?_
              refine z_iload_n h 2 dX12_since_64 rfl (rfl : 64 + 1 = 65) ?_
              obtain ⟨q18, e19, hf⟩ := zbind hf
              refine z_goFv (z_runV (C := RX12) (T := TX12) (N := 46) (ci := 11) h [.int v2] [] zyX12_load (c_X12_load B q16 J hJ v2 _ e19) gX12_since_X12_load rfl rfl rfl zrX12_since_X12_load rfl (Nat.le_of_ble_eq_true rfl) ⟨Nat.zero_le _, Nat.zero_le _⟩ rfl dX12_since_65) rfl ?_
              refine z_aload_n h 0 dX12_since_68 rfl (rfl : 68 + 1 = 69) ?_
              refine z_iload h 4 dX12_since_69 rfl (rfl : 69 + 2 = 71) ?_
              refine z_iload_n h 1 dX12_since_71 rfl (rfl : 71 + 1 = 72) ?_
              obtain ⟨q20, e21, hf⟩ := zbind hf
              refine z_goFv (z_runV (C := RX12) (T := TX12) (N := 46) (ci := 11) h [.int x4_43, .int v1] [] zyX12_readIt (c_X12_readIt B q18 J hJ x4_43 v1 _ e21) gX12_since_X12_readIt rfl rfl rfl zrX12_since_X12_readIt rfl (Nat.le_of_ble_eq_true rfl) ⟨Nat.zero_le _, Nat.zero_le _⟩ rfl dX12_since_72) rfl ?_
              refine z_iload_n h 3 dX12_since_75 rfl (rfl : 75 + 1 = 76) ?_
              refine z_aload_n h 0 dX12_since_76 rfl (rfl : 76 + 1 = 77) ?_
              obtain ⟨q22, e23, hf⟩ := zbind hf
              refine z_goF (z_runV (C := RX12) (T := TX12) (N := 46) (ci := 11) h [] [.int x3_43] zyX12_unlike (c_X12_unlike B q20 J hJ  _ _ e23) gX12_since_X12_unlike rfl rfl rfl zrX12_since_X12_unlike rfl (Nat.le_of_ble_eq_true rfl) ⟨Nat.zero_le _, Nat.zero_le _⟩ rfl dX12_since_77) rfl ?_
              refine z_if_ne (pc' := 83) h 87 dX12_since_80 (by decide) rfl (fun c24 => ?_) (fun c24 => ?_)
              · have hf := zitf c24 hf
                refine z_iconst h 1 dX12_since_87 (by decide) (rfl : 87 + 1 = 88) ?_
                refine z_iadd h dX12_since_88 (rfl : 88 + 1 = 89) ?_
                refine z_istore_n h [(3, .int (x3_43 + (1 : Int32))), (0, .ref (za B 147)), (1, .int v1), (2, .int v2), (4, .int x4_43)] dX12_since_89 (by decide) rfl (rfl : 89 + 1 = 90) ?_
                refine z_aload_n h 1 dX12_since_90 rfl (rfl : 90 + 1 = 91) ?_
                refine z_iconst h 2 dX12_since_91 (by decide) (rfl : 91 + 1 = 92) ?_
                obtain ⟨q25, e26, hf⟩ := zbind hf
                refine z_goFv (z_runV (C := RX12) (T := TX12) (N := 46) (ci := 11) h [.int 2] [] zyX12_load (c_X12_load B q22.2 J hJ 2 _ e26) gX12_since_X12_load rfl rfl rfl zrX12_since_X12_load rfl (Nat.le_of_ble_eq_true rfl) ⟨Nat.zero_le _, Nat.zero_le _⟩ rfl dX12_since_92) rfl ?_
                refine z_iinc h 4 (x4_43 + 1) [(4, .int (x4_43 + 1)), (3, .int (x3_43 + (1 : Int32))), (0, .ref (za B 147)), (1, .int v1), (2, .int v2)] dX12_since_95 rfl rfl (by decide) rfl (rfl : 95 + 3 = 98) ?_
                refine z_goto (pc' := 43) h dX12_since_98 (by decide) ?_
                refine z_sub (L' := [(0, .ref (za B 147)), (1, .int v1), (2, .int v2), (3, .int (x3_43 + (1 : Int32))), (4, .int (x4_43 + 1))]) [2, 3, 4, 1, 0] rfl ?_
                exact ih (x3_43 + (1 : Int32)) (x4_43 + 1) q25 _ hf hP hE
              · have hf := zitt c24 hf
                refine z_iconst h 0 dX12_since_83 (by decide) (rfl : 83 + 1 = 84) ?_
                refine z_goto (pc' := 88) h dX12_since_84 (by decide) ?_
                refine z_iadd h dX12_since_88 (rfl : 88 + 1 = 89) ?_
                refine z_istore_n h [(3, .int (x3_43 + (0 : Int32))), (0, .ref (za B 147)), (1, .int v1), (2, .int v2), (4, .int x4_43)] dX12_since_89 (by decide) rfl (rfl : 89 + 1 = 90) ?_
                refine z_aload_n h 1 dX12_since_90 rfl (rfl : 90 + 1 = 91) ?_
                refine z_iconst h 2 dX12_since_91 (by decide) (rfl : 91 + 1 = 92) ?_
                obtain ⟨q27, e28, hf⟩ := zbind hf
                refine z_goFv (z_runV (C := RX12) (T := TX12) (N := 46) (ci := 11) h [.int 2] [] zyX12_load (c_X12_load B q22.2 J hJ 2 _ e28) gX12_since_X12_load rfl rfl rfl zrX12_since_X12_load rfl (Nat.le_of_ble_eq_true rfl) ⟨Nat.zero_le _, Nat.zero_le _⟩ rfl dX12_since_92) rfl ?_
                refine z_iinc h 4 (x4_43 + 1) [(4, .int (x4_43 + 1)), (3, .int (x3_43 + (0 : Int32))), (0, .ref (za B 147)), (1, .int v1), (2, .int v2)] dX12_since_95 rfl rfl (by decide) rfl (rfl : 95 + 3 = 98) ?_
                refine z_goto (pc' := 43) h dX12_since_98 (by decide) ?_
                refine z_sub (L' := [(0, .ref (za B 147)), (1, .int v1), (2, .int v2), (3, .int (x3_43 + (0 : Int32))), (4, .int (x4_43 + 1))]) [2, 3, 4, 1, 0] rfl ?_
                exact ih (x3_43 + (0 : Int32)) (x4_43 + 1) q27 _ hf hP hE
        refine z_sub (L' := [(0, .ref (za B 147)), (1, .int v1), (2, .int v2), (3, .int 0), (4, .int 0)]) [2, 3, 4, 1, 0] rfl ?_
        obtain ⟨q11, e12, hf⟩ := zbind hf
        refine loop_43_12 _ 0 0 q9 q11 e12 (fun a ha => ?_) (fun a29 ha  => ?_)
        · have hf := zell ha hf
          exact zsome hf
        have hf := zelr ha hf
        clear ha loop_43_12
        refine z_iload_n h 3 dX12_since_101 rfl (rfl : 101 + 1 = 102) ?_
        refine z_iret h hr dX12_since_102 ?_
        exact ⟨congrArg Prod.fst (zsome hf), congrArg Prod.snd (zsome hf), rfl⟩
      · have hf := zitt c8 hf
        refine z_bipush h (-3) dX12_since_30 (by decide) (rfl : 30 + 2 = 32) ?_
        refine z_iret h hr dX12_since_32 ?_
        exact ⟨congrArg Prod.fst (zsome hf), congrArg Prod.snd (zsome hf), rfl⟩
    · have hf := zitf c6 hf
      refine z_iconst h (-1) dX12_since_19 (by decide) (rfl : 19 + 1 = 20) ?_
      refine z_iret h hr dX12_since_20 ?_
      exact ⟨congrArg Prod.fst (zsome hf), congrArg Prod.snd (zsome hf), rfl⟩
noncomputable def f_X12_count_9 (J : zJ) (u1 : Int32) : Nat → Int32 → Int32 → zM → Option ((Int32 × zM) ⊕ (Int32 × Int32 × zM))
  | 0, _, _, _ => none
  | n + 1, x2_9, x3_9, I9 => (if 6 ≤ x3_9 then some (.inr (x2_9, x3_9, I9)) else (if zin x3_9 6 = true then (if I9 148 (Int32.toNatClampNeg x3_9) ≤ 0 then f_X12_count_9 J u1 n (x2_9 + (0 : Int32)) (x3_9 + 1) I9 else f_X12_count_9 J u1 n (x2_9 + (1 : Int32)) (x3_9 + 1) I9) else none))
noncomputable def f_X12_count (J : zJ) (v1 : Int32) (I : zM) : Option (Int32 × zM) := ((f_X12_count_9 J v1 zF 0 0 (zu I 147 0 0)).bind fun q => Sum.elim (fun a => some a) (fun a3 => (if v1 = 0 then some ((a3.1, a3.2.2)) else (if v1 = 1 then some ((a3.2.2 147 6, a3.2.2)) else (if v1 = 2 then some ((a3.2.2 147 12, a3.2.2)) else (if v1 = 3 then some ((a3.2.2 147 15, a3.2.2)) else (if v1 = 4 then some ((a3.2.2 147 25, a3.2.2)) else some (((-2), a3.2.2)))))))) q)
noncomputable abbrev rmX12_count : Room := { frames := 0, cells := 0, slots := 0, locals := 0 }
theorem zyX12_count : zY yX12_count wsX12_count cX12_count 4 (some .int) 1 := ⟨⟨_, rfl⟩, by decide +kernel⟩
set_option maxHeartbeats 1000000 in
set_option maxRecDepth 100000 in
theorem c_X12_count (B : zB) (I : zM) (J : zJ) (hJ : zJok J) (v1 : Int32) (r : Int32) (I' : zM) (hf : f_X12_count J v1 I = some (r, I')) : zCi B zKW I J yX12_count wsX12_count rmX12_count [.ref (za B 147), .int v1] (fun r2 I2 J2 => r2 = r ∧ I2 = I' ∧ J2 = J) := by
  refine z_start (own := RX12) (cc := cX12_count) (nL := 4) (ret := (some .int)) rfl (by decide) rfl (Nat.le_of_ble_eq_true rfl) (L := [(0, .ref (za B 147)), (1, .int v1)]) rfl (fun G h hr => ?_)
  rw [f_X12_count] at hf
  refine z_aload_n h 0 dX12_count_0 rfl (rfl : 0 + 1 = 1) ?_
  refine z_iconst h 0 dX12_count_1 (by decide) (rfl : 1 + 1 = 2) ?_
  refine z_put (ci := 11) (C := RX12) (T := TX12) (N := 46) h 0 tyX12 tyX12_ok nmX12 rfl rfl (fun _ hq => List.mem_cons_of_mem _ (List.mem_append_right _ hq)) (by decide) (List.mem_of_getElem? (i := 1) rfl) rfl rfl rfl dX12_count_2 (rfl : 2 + 3 = 5) ?_
  refine z_iconst h 0 dX12_count_5 (by decide) (rfl : 5 + 1 = 6) ?_
  refine z_istore_n h [(2, .int 0), (0, .ref (za B 147)), (1, .int v1)] dX12_count_6 (by decide) rfl (rfl : 6 + 1 = 7) ?_
  refine z_iconst h 0 dX12_count_7 (by decide) (rfl : 7 + 1 = 8) ?_
  refine z_istore_n h [(3, .int 0), (2, .int 0), (0, .ref (za B 147)), (1, .int v1)] dX12_count_8 (by decide) rfl (rfl : 8 + 1 = 9) ?_
  have loop_9_2 : ∀ (n : Nat) (x2_9 : Int32) (x3_9 : Int32) (I9 : zM) (q : (Int32 × zM) ⊕ (Int32 × Int32 × zM)), f_X12_count_9 J v1 n x2_9 x3_9 I9 = some q → (∀ a, q = .inl a → a = (r, I')) → (∀ a : Int32 × Int32 × zM, q = .inr a → Z B G zKW (a.2.2) (J) (0, 0) 38 [(0, .ref (za B 147)), (1, .int v1), (2, .int a.1), (3, .int a.2.1)] []) → Z B G zKW I9 J (0, 0) 9 [(0, .ref (za B 147)), (1, .int v1), (2, .int x2_9), (3, .int x3_9)] [] := by
    intro n; induction n with
    | zero => intro x2_9 x3_9 I9 q hf; exact absurd hf (by rw [f_X12_count_9]; exact fun z => by cases z)
    | succ n ih =>
      intro x2_9 x3_9 I9 q hf hP hE; rw [f_X12_count_9] at hf
      refine z_iload_n h 3 dX12_count_9 rfl (rfl : 9 + 1 = 10) ?_
      refine z_bipush h 6 dX12_count_10 (by decide) (rfl : 10 + 2 = 12) ?_
      refine z_icmp_ge (pc' := 15) h 38 dX12_count_12 (by decide) rfl (fun c3 => ?_) (fun c3 => ?_)
      · have hf := zitt c3 hf
        exact hE (x2_9, x3_9, I9) (zsome hf).symm
      · have hf := zitf c3 hf
        refine z_iload_n h 2 dX12_count_15 rfl (rfl : 15 + 1 = 16) ?_
        refine z_aload_n h 0 dX12_count_16 rfl (rfl : 16 + 1 = 17) ?_
        refine z_getr (ci := 11) (C := RX12) (T := TX12) (N := 46) h 1 148 ((hJ.1 147 1 (by decide)).trans rfl) rfl rfl (fun _ hq => List.mem_cons_of_mem _ (List.mem_append_right _ hq)) (by decide) (List.mem_of_getElem? (i := 2) rfl) rfl dX12_count_17 (rfl : 17 + 3 = 20) ?_
        refine z_iload_n h 3 dX12_count_20 rfl (rfl : 20 + 1 = 21) ?_
        obtain ⟨b4, hf⟩ := zchk hf
        refine z_iald h rfl b4 dX12_count_21 (rfl : 21 + 1 = 22) ?_
        refine z_if_le (pc' := 25) h 29 dX12_count_22 (by decide) rfl (fun c5 => ?_) (fun c5 => ?_)
        · have hf := zitt c5 hf
          refine z_iconst h 0 dX12_count_29 (by decide) (rfl : 29 + 1 = 30) ?_
          refine z_iadd h dX12_count_30 (rfl : 30 + 1 = 31) ?_
          refine z_istore_n h [(2, .int (x2_9 + (0 : Int32))), (0, .ref (za B 147)), (1, .int v1), (3, .int x3_9)] dX12_count_31 (by decide) rfl (rfl : 31 + 1 = 32) ?_
          refine z_iinc h 3 (x3_9 + 1) [(3, .int (x3_9 + 1)), (2, .int (x2_9 + (0 : Int32))), (0, .ref (za B 147)), (1, .int v1)] dX12_count_32 rfl rfl (by decide) rfl (rfl : 32 + 3 = 35) ?_
          refine z_goto (pc' := 9) h dX12_count_35 (by decide) ?_
          refine z_sub (L' := [(0, .ref (za B 147)), (1, .int v1), (2, .int (x2_9 + (0 : Int32))), (3, .int (x3_9 + 1))]) [2, 3, 1, 0] rfl ?_
          exact ih (x2_9 + (0 : Int32)) (x3_9 + 1) I9 _ hf hP hE
        · have hf := zitf c5 hf
          refine z_iconst h 1 dX12_count_25 (by decide) (rfl : 25 + 1 = 26) ?_
          refine z_goto (pc' := 30) h dX12_count_26 (by decide) ?_
          refine z_iadd h dX12_count_30 (rfl : 30 + 1 = 31) ?_
          refine z_istore_n h [(2, .int (x2_9 + (1 : Int32))), (0, .ref (za B 147)), (1, .int v1), (3, .int x3_9)] dX12_count_31 (by decide) rfl (rfl : 31 + 1 = 32) ?_
          refine z_iinc h 3 (x3_9 + 1) [(3, .int (x3_9 + 1)), (2, .int (x2_9 + (1 : Int32))), (0, .ref (za B 147)), (1, .int v1)] dX12_count_32 rfl rfl (by decide) rfl (rfl : 32 + 3 = 35) ?_
          refine z_goto (pc' := 9) h dX12_count_35 (by decide) ?_
          refine z_sub (L' := [(0, .ref (za B 147)), (1, .int v1), (2, .int (x2_9 + (1 : Int32))), (3, .int (x3_9 + 1))]) [2, 3, 1, 0] rfl ?_
          exact ih (x2_9 + (1 : Int32)) (x3_9 + 1) I9 _ hf hP hE
  refine z_sub (L' := [(0, .ref (za B 147)), (1, .int v1), (2, .int 0), (3, .int 0)]) [2, 3, 1, 0] rfl ?_
  obtain ⟨q1, e2, hf⟩ := zbind hf
  refine loop_9_2 _ 0 0 (zu I 147 0 0) q1 e2 (fun a ha => ?_) (fun a6 ha  => ?_)
  · have hf := zell ha hf
    exact zsome hf
  have hf := zelr ha hf
  clear ha loop_9_2
  refine z_iload_n h 1 dX12_count_38 rfl (rfl : 38 + 1 = 39) ?_
  by_cases c7 : v1 = 0
  · have hf := zitt c7 hf
    refine z_tabIn h 72 dX12_count_39 (by rw [c7]; decide) (by rw [c7]; decide) (by rw [c7]; rfl) (by decide) ?_
    refine z_iload_n h 2 dX12_count_72 rfl (rfl : 72 + 1 = 73) ?_
    refine z_iret h hr dX12_count_73 ?_
    exact ⟨congrArg Prod.fst (zsome hf), congrArg Prod.snd (zsome hf), rfl⟩
  have hf := zitf c7 hf
  by_cases c8 : v1 = 1
  · have hf := zitt c8 hf
    refine z_tabIn h 74 dX12_count_39 (by rw [c8]; decide) (by rw [c8]; decide) (by rw [c8]; rfl) (by decide) ?_
    refine z_aload_n h 0 dX12_count_74 rfl (rfl : 74 + 1 = 75) ?_
    refine z_get (ci := 11) (C := RX12) (T := TX12) (N := 46) h 6 rfl rfl (fun _ hq => List.mem_cons_of_mem _ (List.mem_append_right _ hq)) (by decide) (List.mem_of_getElem? (i := 3) rfl) rfl dX12_count_75 (rfl : 75 + 3 = 78) ?_
    refine z_iret h hr dX12_count_78 ?_
    exact ⟨congrArg Prod.fst (zsome hf), congrArg Prod.snd (zsome hf), rfl⟩
  have hf := zitf c8 hf
  by_cases c9 : v1 = 2
  · have hf := zitt c9 hf
    refine z_tabIn h 79 dX12_count_39 (by rw [c9]; decide) (by rw [c9]; decide) (by rw [c9]; rfl) (by decide) ?_
    refine z_aload_n h 0 dX12_count_79 rfl (rfl : 79 + 1 = 80) ?_
    refine z_get (ci := 11) (C := RX12) (T := TX12) (N := 46) h 12 rfl rfl (fun _ hq => List.mem_cons_of_mem _ (List.mem_append_right _ hq)) (by decide) (List.mem_of_getElem? (i := 4) rfl) rfl dX12_count_80 (rfl : 80 + 3 = 83) ?_
    refine z_iret h hr dX12_count_83 ?_
    exact ⟨congrArg Prod.fst (zsome hf), congrArg Prod.snd (zsome hf), rfl⟩
  have hf := zitf c9 hf
  by_cases c10 : v1 = 3
  · have hf := zitt c10 hf
    refine z_tabIn h 84 dX12_count_39 (by rw [c10]; decide) (by rw [c10]; decide) (by rw [c10]; rfl) (by decide) ?_
    refine z_aload_n h 0 dX12_count_84 rfl (rfl : 84 + 1 = 85) ?_
    refine z_get (ci := 11) (C := RX12) (T := TX12) (N := 46) h 15 rfl rfl (fun _ hq => List.mem_cons_of_mem _ (List.mem_append_right _ hq)) (by decide) (List.mem_of_getElem? (i := 5) rfl) rfl dX12_count_85 (rfl : 85 + 3 = 88) ?_
    refine z_iret h hr dX12_count_88 ?_
    exact ⟨congrArg Prod.fst (zsome hf), congrArg Prod.snd (zsome hf), rfl⟩
  have hf := zitf c10 hf
  by_cases c11 : v1 = 4
  · have hf := zitt c11 hf
    refine z_tabIn h 89 dX12_count_39 (by rw [c11]; decide) (by rw [c11]; decide) (by rw [c11]; rfl) (by decide) ?_
    refine z_aload_n h 0 dX12_count_89 rfl (rfl : 89 + 1 = 90) ?_
    refine z_get (ci := 11) (C := RX12) (T := TX12) (N := 46) h 25 rfl rfl (fun _ hq => List.mem_cons_of_mem _ (List.mem_append_right _ hq)) (by decide) (List.mem_of_getElem? (i := 6) rfl) rfl dX12_count_90 (rfl : 90 + 3 = 93) ?_
    refine z_iret h hr dX12_count_93 ?_
    exact ⟨congrArg Prod.fst (zsome hf), congrArg Prod.snd (zsome hf), rfl⟩
  have hf := zitf c11 hf
  refine z_tabOut h 94 dX12_count_39 (zt_5 c7 c8 c9 c10 c11) (by decide) ?_
  refine z_bipush h (-2) dX12_count_94 (by decide) (rfl : 94 + 2 = 96) ?_
  refine z_iret h hr dX12_count_96 ?_
  exact ⟨congrArg Prod.fst (zsome hf), congrArg Prod.snd (zsome hf), rfl⟩
noncomputable def f_J0_isLatin1_aae02 (J : zJ) (w0 : Nat) (I : zM) : Option (Int32 × zM) := some ((1, I))
noncomputable abbrev rmJ0_isLatin1_aae02 : Room := { frames := 0, cells := 0, slots := 0, locals := 0 }
theorem zyJ0_isLatin1_aae02 : zY yJ0_isLatin1_aae02 wsJ0_isLatin1_aae02 cJ0_isLatin1_aae02 1 (some .boolean) 0 := ⟨⟨_, rfl⟩, by decide +kernel⟩
set_option maxHeartbeats 1000000 in
set_option maxRecDepth 100000 in
theorem c_J0_isLatin1_aae02 (B : zB) (I : zM) (J : zJ) (hJ : zJok J) (w0 : Nat) (a0 : Nat) (r : Int32) (I' : zM) (hf : f_J0_isLatin1_aae02 J w0 I = some (r, I')) : zCix B zKW I J yJ0_isLatin1_aae02 wsJ0_isLatin1_aae02 rmJ0_isLatin1_aae02 [.ref a0] [(w0, a0, true)] (fun r2 I2 J2 => r2 = r ∧ I2 = I' ∧ J2 = J) := by
  refine z_startx (own := RJ0) (cc := cJ0_isLatin1_aae02) (nL := 1) (ret := (some .boolean)) rfl (by decide) rfl (Nat.le_of_ble_eq_true rfl) (L := [(0, .ref a0)]) rfl (fun G h hr hxs => ?_)
  have hs0 := (hxs _ List.mem_cons_self).1 rfl
  rw [f_J0_isLatin1_aae02] at hf
  refine z_getsC h (List.mem_of_getElem? (i := 1) rfl) dJ0_isLatin1_aae02_0 (rfl : 0 + 3 = 3) ?_
  refine z_if_eq (pc' := 6) h 17 dJ0_isLatin1_aae02_3 (by decide) rfl (fun q => absurd q (by decide)) (fun _ => ?_)
  refine z_aload_n h 0 dJ0_isLatin1_aae02_6 rfl (rfl : 6 + 1 = 7) ?_
  refine z_getSc h hs0 (List.mem_of_getElem? (i := 2) rfl) dJ0_isLatin1_aae02_7 (rfl : 7 + 3 = 10) ?_
  refine z_if_ne (pc' := 13) h 17 dJ0_isLatin1_aae02_10 (by decide) rfl (fun q => absurd q (by decide)) (fun _ => ?_)
  refine z_iconst h 1 dJ0_isLatin1_aae02_13 (by decide) (rfl : 13 + 1 = 14) ?_
  refine z_goto (pc' := 18) h dJ0_isLatin1_aae02_14 (by decide) ?_
  refine z_zret h hr dJ0_isLatin1_aae02_18 (Or.inr rfl) ?_
  exact ⟨congrArg Prod.fst (zsome hf), congrArg Prod.snd (zsome hf), rfl⟩
noncomputable def f_J0_coder_7d493 (J : zJ) (w0 : Nat) (I : zM) : Option (Int32 × zM) := some ((0, I))
noncomputable abbrev rmJ0_coder_7d493 : Room := { frames := 0, cells := 0, slots := 0, locals := 0 }
theorem zyJ0_coder_7d493 : zY yJ0_coder_7d493 wsJ0_coder_7d493 cJ0_coder_7d493 1 (some .byte) 0 := ⟨⟨_, rfl⟩, by decide +kernel⟩
set_option maxHeartbeats 1000000 in
set_option maxRecDepth 100000 in
theorem c_J0_coder_7d493 (B : zB) (I : zM) (J : zJ) (hJ : zJok J) (w0 : Nat) (a0 : Nat) (r : Int32) (I' : zM) (hf : f_J0_coder_7d493 J w0 I = some (r, I')) : zCix B zKW I J yJ0_coder_7d493 wsJ0_coder_7d493 rmJ0_coder_7d493 [.ref a0] [(w0, a0, true)] (fun r2 I2 J2 => r2 = r ∧ I2 = I' ∧ J2 = J) := by
  refine z_startx (own := RJ0) (cc := cJ0_coder_7d493) (nL := 1) (ret := (some .byte)) rfl (by decide) rfl (Nat.le_of_ble_eq_true rfl) (L := [(0, .ref a0)]) rfl (fun G h hr hxs => ?_)
  have hs0 := (hxs _ List.mem_cons_self).1 rfl
  rw [f_J0_coder_7d493] at hf
  refine z_getsC h (List.mem_of_getElem? (i := 1) rfl) dJ0_coder_7d493_0 (rfl : 0 + 3 = 3) ?_
  refine z_if_eq (pc' := 6) h 13 dJ0_coder_7d493_3 (by decide) rfl (fun q => absurd q (by decide)) (fun _ => ?_)
  refine z_aload_n h 0 dJ0_coder_7d493_6 rfl (rfl : 6 + 1 = 7) ?_
  refine z_getSc h hs0 (List.mem_of_getElem? (i := 2) rfl) dJ0_coder_7d493_7 (rfl : 7 + 3 = 10) ?_
  refine z_goto (pc' := 14) h dJ0_coder_7d493_10 (by decide) ?_
  refine z_bret h hr dJ0_coder_7d493_14 rfl ?_
  exact ⟨congrArg Prod.fst (zsome hf), congrArg Prod.snd (zsome hf), rfl⟩
noncomputable def f_J0_length_8abf5 (J : zJ) (w0 : Nat) (I : zM) : Option (Int32 × zM) := ((f_J0_coder_7d493 J w0 I).bind fun q2 => some (((nI (zlen.getD w0 0)) >>> (q2.1 &&& 31), q2.2)))
noncomputable abbrev rmJ0_length_8abf5 : Room := { frames := 1, cells := 0, slots := 0, locals := 20 }
theorem zyJ0_length_8abf5 : zY yJ0_length_8abf5 wsJ0_length_8abf5 cJ0_length_8abf5 1 (some .int) 0 := ⟨⟨_, rfl⟩, by decide +kernel⟩
theorem zrJ0_length_8abf5_J0_coder_7d493 : zRm rmJ0_coder_7d493 rmJ0_length_8abf5 1 := ⟨rfl, rfl, by decide, by decide⟩
set_option maxHeartbeats 1000000 in
set_option maxRecDepth 100000 in
theorem c_J0_length_8abf5 (B : zB) (I : zM) (J : zJ) (hJ : zJok J) (w0 : Nat) (a0 : Nat) (r : Int32) (I' : zM) (hf : f_J0_length_8abf5 J w0 I = some (r, I')) : zCix B zKW I J yJ0_length_8abf5 wsJ0_length_8abf5 rmJ0_length_8abf5 [.ref a0] [(w0, a0, true)] (fun r2 I2 J2 => r2 = r ∧ I2 = I' ∧ J2 = J) := by
  refine z_startx (own := RJ0) (cc := cJ0_length_8abf5) (nL := 1) (ret := (some .int)) rfl (by decide) rfl (Nat.le_of_ble_eq_true rfl) (L := [(0, .ref a0)]) rfl (fun G h hr hxs => ?_)
  have hs0 := (hxs _ List.mem_cons_self).1 rfl
  rw [f_J0_length_8abf5] at hf
  refine z_aload_n h 0 dJ0_length_8abf5_0 rfl (rfl : 0 + 1 = 1) ?_
  refine z_getSv h hs0 (List.mem_of_getElem? (i := 1) rfl) dJ0_length_8abf5_1 (rfl : 1 + 3 = 4) (fun v1 hv1 => ?_)
  refine z_bylen h hv1 dJ0_length_8abf5_4 (rfl : 4 + 1 = 5) ?_
  refine z_aload_n h 0 dJ0_length_8abf5_5 rfl (rfl : 5 + 1 = 6) ?_
  obtain ⟨q2, e3, hf⟩ := zbind hf
  refine z_goF (z_runVx h [] [.int (nI (zlen.getD w0 0))] zyJ0_coder_7d493 (c_J0_coder_7d493 B I J hJ w0 a0 _ _ e3) hs0 gJ0_length_8abf5_J0_coder_7d493 rfl rfl zrJ0_length_8abf5_J0_coder_7d493 rfl (Nat.le_of_ble_eq_true rfl) ⟨Nat.zero_le _, Nat.zero_le _⟩ rfl dJ0_length_8abf5_6) rfl ?_
  refine z_ishr h dJ0_length_8abf5_9 (rfl : 9 + 1 = 10) ?_
  refine z_iret h hr dJ0_length_8abf5_10 ?_
  exact ⟨congrArg Prod.fst (zsome hf), congrArg Prod.snd (zsome hf), rfl⟩
noncomputable def f_J1_canEncode_9a6ad (J : zJ) (v0 : Int32) (I : zM) : Option (Int32 × zM) := (if v0 < 0 then some ((0, I)) else (if 255 < v0 then some ((0, I)) else some ((1, I))))
noncomputable abbrev rmJ1_canEncode_9a6ad : Room := { frames := 0, cells := 0, slots := 0, locals := 0 }
theorem zyJ1_canEncode_9a6ad : zY yJ1_canEncode_9a6ad wsJ1_canEncode_9a6ad cJ1_canEncode_9a6ad 1 (some .boolean) 1 := ⟨⟨_, rfl⟩, by decide +kernel⟩
set_option maxHeartbeats 1000000 in
set_option maxRecDepth 100000 in
theorem c_J1_canEncode_9a6ad (B : zB) (I : zM) (J : zJ) (hJ : zJok J) (v0 : Int32) (r : Int32) (I' : zM) (hf : f_J1_canEncode_9a6ad J v0 I = some (r, I')) : zCi B zKW I J yJ1_canEncode_9a6ad wsJ1_canEncode_9a6ad rmJ1_canEncode_9a6ad [.int v0] (fun r2 I2 J2 => r2 = r ∧ I2 = I' ∧ J2 = J) := by
  refine z_start (own := RJ1) (cc := cJ1_canEncode_9a6ad) (nL := 1) (ret := (some .boolean)) rfl (by decide) rfl (Nat.le_of_ble_eq_true rfl) (L := [(0, .int v0)]) rfl (fun G h hr => ?_)
  rw [f_J1_canEncode_9a6ad] at hf
  refine z_iload_n h 0 dJ1_canEncode_9a6ad_0 rfl (rfl : 0 + 1 = 1) ?_
  refine z_if_lt (pc' := 4) h 15 dJ1_canEncode_9a6ad_1 (by decide) rfl (fun c1 => ?_) (fun c1 => ?_)
  · have hf := zitt c1 hf
    refine z_iconst h 0 dJ1_canEncode_9a6ad_15 (by decide) (rfl : 15 + 1 = 16) ?_
    refine z_zret h hr dJ1_canEncode_9a6ad_16 (Or.inl rfl) ?_
    exact ⟨congrArg Prod.fst (zsome hf), congrArg Prod.snd (zsome hf), rfl⟩
  · have hf := zitf c1 hf
    refine z_iload_n h 0 dJ1_canEncode_9a6ad_4 rfl (rfl : 4 + 1 = 5) ?_
    refine z_sipush h 255 dJ1_canEncode_9a6ad_5 (by decide) (rfl : 5 + 3 = 8) ?_
    refine z_icmp_gt (pc' := 11) h 15 dJ1_canEncode_9a6ad_8 (by decide) rfl (fun c2 => ?_) (fun c2 => ?_)
    · have hf := zitt c2 hf
      refine z_iconst h 0 dJ1_canEncode_9a6ad_15 (by decide) (rfl : 15 + 1 = 16) ?_
      refine z_zret h hr dJ1_canEncode_9a6ad_16 (Or.inl rfl) ?_
      exact ⟨congrArg Prod.fst (zsome hf), congrArg Prod.snd (zsome hf), rfl⟩
    · have hf := zitf c2 hf
      refine z_iconst h 1 dJ1_canEncode_9a6ad_11 (by decide) (rfl : 11 + 1 = 12) ?_
      refine z_goto (pc' := 16) h dJ1_canEncode_9a6ad_12 (by decide) ?_
      refine z_zret h hr dJ1_canEncode_9a6ad_16 (Or.inr rfl) ?_
      exact ⟨congrArg Prod.fst (zsome hf), congrArg Prod.snd (zsome hf), rfl⟩
noncomputable def f_J1_indexOfChar_4cfef_7 (J : zJ) (w0 : Nat) (u1 : Int32) (u2 : Int32) (u3 : Int32) (u4 : Int32) : Nat → Int32 → zM → Option ((Int32 × zM) ⊕ (Int32 × zM))
  | 0, _, _ => none
  | n + 1, x5_7, I7 => (if u3 ≤ x5_7 then some (.inr (x5_7, I7)) else (if zin x5_7 (zlen.getD w0 0) = true then (if (zbyt.getD w0 []).getD (Int32.toNatClampNeg x5_7) 0 = u4 then some (.inl ((x5_7, I7))) else f_J1_indexOfChar_4cfef_7 J w0 u1 u2 u3 u4 n (x5_7 + 1) I7) else none))
noncomputable def f_J1_indexOfChar_4cfef (J : zJ) (w0 : Nat) (v1 : Int32) (v2 : Int32) (v3 : Int32) (I : zM) : Option (Int32 × zM) := ((f_J1_indexOfChar_4cfef_7 J w0 v1 v2 v3 ((Int32.toInt8 v1).toInt32) zF v2 I).bind fun q => Sum.elim (fun a => some a) (fun a3 => some (((-1), a3.2))) q)
noncomputable abbrev rmJ1_indexOfChar_4cfef : Room := { frames := 0, cells := 0, slots := 0, locals := 0 }
theorem zyJ1_indexOfChar_4cfef : zY yJ1_indexOfChar_4cfef wsJ1_indexOfChar_4cfef cJ1_indexOfChar_4cfef 6 (some .int) 4 := ⟨⟨_, rfl⟩, by decide +kernel⟩
set_option maxHeartbeats 1000000 in
set_option maxRecDepth 100000 in
theorem c_J1_indexOfChar_4cfef (B : zB) (I : zM) (J : zJ) (hJ : zJok J) (w0 : Nat) (a0 : Nat) (v1 : Int32) (v2 : Int32) (v3 : Int32) (r : Int32) (I' : zM) (hf : f_J1_indexOfChar_4cfef J w0 v1 v2 v3 I = some (r, I')) : zCix B zKW I J yJ1_indexOfChar_4cfef wsJ1_indexOfChar_4cfef rmJ1_indexOfChar_4cfef [.ref a0, .int v1, .int v2, .int v3] [(w0, a0, false)] (fun r2 I2 J2 => r2 = r ∧ I2 = I' ∧ J2 = J) := by
  refine z_startx (own := RJ1) (cc := cJ1_indexOfChar_4cfef) (nL := 6) (ret := (some .int)) rfl (by decide) rfl (Nat.le_of_ble_eq_true rfl) (L := [(0, .ref a0), (1, .int v1), (2, .int v2), (3, .int v3)]) rfl (fun G h hr hxs => ?_)
  have hs0 := (hxs _ List.mem_cons_self).2 rfl
  rw [f_J1_indexOfChar_4cfef] at hf
  refine z_iload_n h 1 dJ1_indexOfChar_4cfef_0 rfl (rfl : 0 + 1 = 1) ?_
  refine z_i2b h dJ1_indexOfChar_4cfef_1 (rfl : 1 + 1 = 2) ?_
  refine z_istore h [(4, .int ((Int32.toInt8 v1).toInt32)), (0, .ref a0), (1, .int v1), (2, .int v2), (3, .int v3)] dJ1_indexOfChar_4cfef_2 (by decide) rfl (rfl : 2 + 2 = 4) ?_
  refine z_iload_n h 3 dJ1_indexOfChar_4cfef_4 rfl (rfl : 4 + 1 = 5) ?_
  refine z_istore h [(5, .int v2), (4, .int ((Int32.toInt8 v1).toInt32)), (0, .ref a0), (1, .int v1), (2, .int v2), (3, .int v3)] dJ1_indexOfChar_4cfef_5 (by decide) rfl (rfl : 5 + 2 = 7) ?_
  have loop_7_2 : ∀ (n : Nat) (x5_7 : Int32) (I7 : zM) (q : (Int32 × zM) ⊕ (Int32 × zM)), f_J1_indexOfChar_4cfef_7 J w0 v1 v2 v3 ((Int32.toInt8 v1).toInt32) n x5_7 I7 = some q → (∀ a, q = .inl a → a = (r, I')) → (∀ a : Int32 × zM, q = .inr a → Z B G zKW (a.2) (J) (0, 0) 31 [(0, .ref a0), (1, .int v1), (2, .int v2), (3, .int v3), (4, .int ((Int32.toInt8 v1).toInt32)), (5, .int a.1)] []) → Z B G zKW I7 J (0, 0) 7 [(0, .ref a0), (1, .int v1), (2, .int v2), (3, .int v3), (4, .int ((Int32.toInt8 v1).toInt32)), (5, .int x5_7)] [] := by
    intro n; induction n with
    | zero => intro x5_7 I7 q hf; exact absurd hf (by rw [f_J1_indexOfChar_4cfef_7]; exact fun z => by cases z)
    | succ n ih =>
      intro x5_7 I7 q hf hP hE; rw [f_J1_indexOfChar_4cfef_7] at hf
      refine z_iload h 5 dJ1_indexOfChar_4cfef_7 rfl (rfl : 7 + 2 = 9) ?_
      refine z_iload_n h 3 dJ1_indexOfChar_4cfef_9 rfl (rfl : 9 + 1 = 10) ?_
      refine z_icmp_ge (pc' := 13) h 31 dJ1_indexOfChar_4cfef_10 (by decide) rfl (fun c3 => ?_) (fun c3 => ?_)
      · have hf := zitt c3 hf
        exact hE (x5_7, I7) (zsome hf).symm
      · have hf := zitf c3 hf
        refine z_aload_n h 0 dJ1_indexOfChar_4cfef_13 rfl (rfl : 13 + 1 = 14) ?_
        refine z_iload h 5 dJ1_indexOfChar_4cfef_14 rfl (rfl : 14 + 2 = 16) ?_
        obtain ⟨b4, hf⟩ := zchk hf
        refine z_byld h hs0 b4 dJ1_indexOfChar_4cfef_16 (rfl : 16 + 1 = 17) ?_
        refine z_iload h 4 dJ1_indexOfChar_4cfef_17 rfl (rfl : 17 + 2 = 19) ?_
        refine z_icmp_ne (pc' := 22) h 25 dJ1_indexOfChar_4cfef_19 (by decide) rfl (fun c5 => ?_) (fun c5 => ?_)
        · have hf := zitf c5 hf
          refine z_iinc h 5 (x5_7 + 1) [(5, .int (x5_7 + 1)), (0, .ref a0), (1, .int v1), (2, .int v2), (3, .int v3), (4, .int ((Int32.toInt8 v1).toInt32))] dJ1_indexOfChar_4cfef_25 rfl rfl (by decide) rfl (rfl : 25 + 3 = 28) ?_
          refine z_goto (pc' := 7) h dJ1_indexOfChar_4cfef_28 (by decide) ?_
          refine z_sub (L' := [(0, .ref a0), (1, .int v1), (2, .int v2), (3, .int v3), (4, .int ((Int32.toInt8 v1).toInt32)), (5, .int (x5_7 + 1))]) [1, 2, 3, 4, 5, 0] rfl ?_
          exact ih (x5_7 + 1) I7 _ hf hP hE
        · have hf := zitt c5 hf
          refine z_iload h 5 dJ1_indexOfChar_4cfef_22 rfl (rfl : 22 + 2 = 24) ?_
          refine z_iret h hr dJ1_indexOfChar_4cfef_24 ?_
          exact ⟨congrArg Prod.fst (hP _ (zsome hf).symm), congrArg Prod.snd (hP _ (zsome hf).symm), rfl⟩
  refine z_sub (L' := [(0, .ref a0), (1, .int v1), (2, .int v2), (3, .int v3), (4, .int ((Int32.toInt8 v1).toInt32)), (5, .int v2)]) [2, 3, 4, 5, 1, 0] rfl ?_
  obtain ⟨q1, e2, hf⟩ := zbind hf
  refine loop_7_2 _ v2 I q1 e2 (fun a ha => ?_) (fun a6 ha  => ?_)
  · have hf := zell ha hf
    exact zsome hf
  have hf := zelr ha hf
  clear ha loop_7_2
  refine z_iconst h (-1) dJ1_indexOfChar_4cfef_31 (by decide) (rfl : 31 + 1 = 32) ?_
  refine z_iret h hr dJ1_indexOfChar_4cfef_32 ?_
  exact ⟨congrArg Prod.fst (zsome hf), congrArg Prod.snd (zsome hf), rfl⟩
noncomputable def f_J1_indexOf_4cfef (J : zJ) (w0 : Nat) (v1 : Int32) (v2 : Int32) (v3 : Int32) (I : zM) : Option (Int32 × zM) := ((f_J1_canEncode_9a6ad J v1 I).bind fun q1 => (if q1.1 = 0 then some (((-1), q1.2)) else (if (if v2 < 0 then 0 else v2) < (if nI (zlen.getD w0 0) < v3 then nI (zlen.getD w0 0) else v3) then ((f_J1_indexOfChar_4cfef J w0 v1 (if v2 < 0 then 0 else v2) (if nI (zlen.getD w0 0) < v3 then nI (zlen.getD w0 0) else v3) q1.2).bind fun q5 => some ((q5.1, q5.2))) else some (((-1), q1.2)))))
noncomputable abbrev rmJ1_indexOf_4cfef : Room := { frames := 1, cells := 0, slots := 0, locals := 30 }
theorem zyJ1_indexOf_4cfef : zY yJ1_indexOf_4cfef wsJ1_indexOf_4cfef cJ1_indexOf_4cfef 4 (some .int) 4 := ⟨⟨_, rfl⟩, by decide +kernel⟩
theorem zrJ1_indexOf_4cfef_J1_canEncode_9a6ad : zRm rmJ1_canEncode_9a6ad rmJ1_indexOf_4cfef 1 := ⟨rfl, rfl, by decide, by decide⟩
theorem zrJ1_indexOf_4cfef_J1_indexOfChar_4cfef : zRm rmJ1_indexOfChar_4cfef rmJ1_indexOf_4cfef 6 := ⟨rfl, rfl, by decide, by decide⟩
set_option maxHeartbeats 1000000 in
set_option maxRecDepth 100000 in
theorem c_J1_indexOf_4cfef (B : zB) (I : zM) (J : zJ) (hJ : zJok J) (w0 : Nat) (a0 : Nat) (v1 : Int32) (v2 : Int32) (v3 : Int32) (r : Int32) (I' : zM) (hf : f_J1_indexOf_4cfef J w0 v1 v2 v3 I = some (r, I')) : zCix B zKW I J yJ1_indexOf_4cfef wsJ1_indexOf_4cfef rmJ1_indexOf_4cfef [.ref a0, .int v1, .int v2, .int v3] [(w0, a0, false)] (fun r2 I2 J2 => r2 = r ∧ I2 = I' ∧ J2 = J) := by
  refine z_startx (own := RJ1) (cc := cJ1_indexOf_4cfef) (nL := 4) (ret := (some .int)) rfl (by decide) rfl (Nat.le_of_ble_eq_true rfl) (L := [(0, .ref a0), (1, .int v1), (2, .int v2), (3, .int v3)]) rfl (fun G h hr hxs => ?_)
  have hs0 := (hxs _ List.mem_cons_self).2 rfl
  rw [f_J1_indexOf_4cfef] at hf
  refine z_iload_n h 1 dJ1_indexOf_4cfef_0 rfl (rfl : 0 + 1 = 1) ?_
  obtain ⟨q1, e2, hf⟩ := zbind hf
  refine z_goF (z_runS h [.int v1] [] zyJ1_canEncode_9a6ad (c_J1_canEncode_9a6ad B I J hJ v1 _ _ e2) gJ1_indexOf_4cfef_J1_canEncode_9a6ad zrJ1_indexOf_4cfef_J1_canEncode_9a6ad rfl (Nat.le_of_ble_eq_true rfl) ⟨Nat.zero_le _, Nat.zero_le _⟩ rfl dJ1_indexOf_4cfef_1) rfl ?_
  refine z_if_ne (pc' := 7) h 9 dJ1_indexOf_4cfef_4 (by decide) rfl (fun c3 => ?_) (fun c3 => ?_)
  · have hf := zitf c3 hf
    refine z_iload_n h 2 dJ1_indexOf_4cfef_9 rfl (rfl : 9 + 1 = 10) ?_
    refine z_iconst h 0 dJ1_indexOf_4cfef_10 (by decide) (rfl : 10 + 1 = 11) ?_
    refine z_mmax h (List.mem_of_getElem? (i := 1) rfl) (List.mem_of_getElem? (i := 2) rfl) (List.mem_of_getElem? (i := 3) rfl) (List.mem_of_getElem? (i := 4) rfl) (by decide) ⟨Nat.zero_le _, Nat.zero_le _⟩ dJ1_indexOf_4cfef_11 (rfl : 11 + 3 = 14) ?_
    refine z_istore_n h [(2, .int (if v2 < 0 then 0 else v2)), (0, .ref a0), (1, .int v1), (3, .int v3)] dJ1_indexOf_4cfef_14 (by decide) rfl (rfl : 14 + 1 = 15) ?_
    refine z_iload_n h 3 dJ1_indexOf_4cfef_15 rfl (rfl : 15 + 1 = 16) ?_
    refine z_aload_n h 1 dJ1_indexOf_4cfef_16 rfl (rfl : 16 + 1 = 17) ?_
    refine z_bylen h hs0 dJ1_indexOf_4cfef_17 (rfl : 17 + 1 = 18) ?_
    refine z_mmin h (List.mem_of_getElem? (i := 5) rfl) (List.mem_of_getElem? (i := 6) rfl) (List.mem_of_getElem? (i := 3) rfl) (List.mem_of_getElem? (i := 7) rfl) (by decide) ⟨Nat.zero_le _, Nat.zero_le _⟩ dJ1_indexOf_4cfef_18 (rfl : 18 + 3 = 21) ?_
    refine z_istore_n h [(3, .int (if nI (zlen.getD w0 0) < v3 then nI (zlen.getD w0 0) else v3)), (2, .int (if v2 < 0 then 0 else v2)), (0, .ref a0), (1, .int v1)] dJ1_indexOf_4cfef_21 (by decide) rfl (rfl : 21 + 1 = 22) ?_
    refine z_iload_n h 1 dJ1_indexOf_4cfef_22 rfl (rfl : 22 + 1 = 23) ?_
    refine z_iload_n h 0 dJ1_indexOf_4cfef_23 rfl (rfl : 23 + 1 = 24) ?_
    refine z_icmp_lt (pc' := 27) h 29 dJ1_indexOf_4cfef_24 (by decide) rfl (fun c4 => ?_) (fun c4 => ?_)
    · have hf := zitt c4 hf
      refine z_aload_n h 2 dJ1_indexOf_4cfef_29 rfl (rfl : 29 + 1 = 30) ?_
      refine z_iload_n h 3 dJ1_indexOf_4cfef_30 rfl (rfl : 30 + 1 = 31) ?_
      refine z_iload_n h 1 dJ1_indexOf_4cfef_31 rfl (rfl : 31 + 1 = 32) ?_
      refine z_iload_n h 0 dJ1_indexOf_4cfef_32 rfl (rfl : 32 + 1 = 33) ?_
      obtain ⟨q5, e6, hf⟩ := zbind hf
      refine z_goF (z_runSx h [.ref a0, .int v1, .int (if v2 < 0 then 0 else v2), .int (if nI (zlen.getD w0 0) < v3 then nI (zlen.getD w0 0) else v3)] [] zyJ1_indexOfChar_4cfef (c_J1_indexOfChar_4cfef B q1.2 J hJ w0 a0 v1 (if v2 < 0 then 0 else v2) (if nI (zlen.getD w0 0) < v3 then nI (zlen.getD w0 0) else v3) _ _ e6) hs0 gJ1_indexOf_4cfef_J1_indexOfChar_4cfef zrJ1_indexOf_4cfef_J1_indexOfChar_4cfef rfl (Nat.le_of_ble_eq_true rfl) ⟨Nat.zero_le _, Nat.zero_le _⟩ rfl dJ1_indexOf_4cfef_33) rfl ?_
      refine z_iret h hr dJ1_indexOf_4cfef_36 ?_
      exact ⟨congrArg Prod.fst (zsome hf), congrArg Prod.snd (zsome hf), rfl⟩
    · have hf := zitf c4 hf
      refine z_iconst h (-1) dJ1_indexOf_4cfef_27 (by decide) (rfl : 27 + 1 = 28) ?_
      refine z_iret h hr dJ1_indexOf_4cfef_28 ?_
      exact ⟨congrArg Prod.fst (zsome hf), congrArg Prod.snd (zsome hf), rfl⟩
  · have hf := zitt c3 hf
    refine z_iconst h (-1) dJ1_indexOf_4cfef_7 (by decide) (rfl : 7 + 1 = 8) ?_
    refine z_iret h hr dJ1_indexOf_4cfef_8 ?_
    exact ⟨congrArg Prod.fst (zsome hf), congrArg Prod.snd (zsome hf), rfl⟩
noncomputable def f_J0_indexOf_7cf53 (J : zJ) (w0 : Nat) (v1 : Int32) (v2 : Int32) (I : zM) : Option (Int32 × zM) := ((f_J0_isLatin1_aae02 J w0 I).bind fun q1 => (if q1.1 = 0 then ((f_J0_length_8abf5 J w0 q1.2).bind fun q5 => none) else ((f_J0_length_8abf5 J w0 q1.2).bind fun q8 => ((f_J1_indexOf_4cfef J w0 v1 v2 q8.1 q8.2).bind fun q10 => some ((q10.1, q10.2))))))
noncomputable abbrev rmJ0_indexOf_7cf53 : Room := { frames := 5, cells := 0, slots := 0, locals := 116 }
theorem zyJ0_indexOf_7cf53 : zY yJ0_indexOf_7cf53 wsJ0_indexOf_7cf53 cJ0_indexOf_7cf53 3 (some .int) 2 := ⟨⟨_, rfl⟩, by decide +kernel⟩
theorem zrJ0_indexOf_7cf53_J0_isLatin1_aae02 : zRm rmJ0_isLatin1_aae02 rmJ0_indexOf_7cf53 1 := ⟨rfl, rfl, by decide, by decide⟩
theorem zrJ0_indexOf_7cf53_J0_length_8abf5 : zRm rmJ0_length_8abf5 rmJ0_indexOf_7cf53 1 := ⟨rfl, rfl, by decide, by decide⟩
theorem zrJ0_indexOf_7cf53_J1_indexOf_4cfef : zRm rmJ1_indexOf_4cfef rmJ0_indexOf_7cf53 4 := ⟨rfl, rfl, by decide, by decide⟩
set_option maxHeartbeats 1000000 in
set_option maxRecDepth 100000 in
theorem c_J0_indexOf_7cf53 (B : zB) (I : zM) (J : zJ) (hJ : zJok J) (w0 : Nat) (a0 : Nat) (v1 : Int32) (v2 : Int32) (r : Int32) (I' : zM) (hf : f_J0_indexOf_7cf53 J w0 v1 v2 I = some (r, I')) : zCix B zKW I J yJ0_indexOf_7cf53 wsJ0_indexOf_7cf53 rmJ0_indexOf_7cf53 [.ref a0, .int v1, .int v2] [(w0, a0, true)] (fun r2 I2 J2 => r2 = r ∧ I2 = I' ∧ J2 = J) := by
  refine z_startx (own := RJ0) (cc := cJ0_indexOf_7cf53) (nL := 3) (ret := (some .int)) rfl (by decide) rfl (Nat.le_of_ble_eq_true rfl) (L := [(0, .ref a0), (1, .int v1), (2, .int v2)]) rfl (fun G h hr hxs => ?_)
  have hs0 := (hxs _ List.mem_cons_self).1 rfl
  rw [f_J0_indexOf_7cf53] at hf
  refine z_aload_n h 0 dJ0_indexOf_7cf53_0 rfl (rfl : 0 + 1 = 1) ?_
  obtain ⟨q1, e2, hf⟩ := zbind hf
  refine z_goF (z_runVx h [] [] zyJ0_isLatin1_aae02 (c_J0_isLatin1_aae02 B I J hJ w0 a0 _ _ e2) hs0 gJ0_indexOf_7cf53_J0_isLatin1_aae02 rfl rfl zrJ0_indexOf_7cf53_J0_isLatin1_aae02 rfl (Nat.le_of_ble_eq_true rfl) ⟨Nat.zero_le _, Nat.zero_le _⟩ rfl dJ0_indexOf_7cf53_1) rfl ?_
  refine z_if_eq (pc' := 7) h 23 dJ0_indexOf_7cf53_4 (by decide) rfl (fun c3 => ?_) (fun c3 => ?_)
  · have hf := zitt c3 hf
    refine z_aload_n h 0 dJ0_indexOf_7cf53_23 rfl (rfl : 23 + 1 = 24) ?_
    refine z_getSv h hs0 (List.mem_of_getElem? (i := 1) rfl) dJ0_indexOf_7cf53_24 (rfl : 24 + 3 = 27) (fun v4 hv4 => ?_)
    refine z_iload_n h 1 dJ0_indexOf_7cf53_27 rfl (rfl : 27 + 1 = 28) ?_
    refine z_iload_n h 2 dJ0_indexOf_7cf53_28 rfl (rfl : 28 + 1 = 29) ?_
    refine z_aload_n h 0 dJ0_indexOf_7cf53_29 rfl (rfl : 29 + 1 = 30) ?_
    obtain ⟨q5, e6, hf⟩ := zbind hf
    refine z_goF (z_runVx h [] [.int v2, .int v1, .ref v4] zyJ0_length_8abf5 (c_J0_length_8abf5 B q1.2 J hJ w0 a0 _ _ e6) hs0 gJ0_indexOf_7cf53_J0_length_8abf5 rfl rfl zrJ0_indexOf_7cf53_J0_length_8abf5 rfl (Nat.le_of_ble_eq_true rfl) ⟨Nat.zero_le _, Nat.zero_le _⟩ rfl dJ0_indexOf_7cf53_30) rfl ?_
    cases hf
  · have hf := zitf c3 hf
    refine z_aload_n h 0 dJ0_indexOf_7cf53_7 rfl (rfl : 7 + 1 = 8) ?_
    refine z_getSv h hs0 (List.mem_of_getElem? (i := 1) rfl) dJ0_indexOf_7cf53_8 (rfl : 8 + 3 = 11) (fun v7 hv7 => ?_)
    refine z_iload_n h 1 dJ0_indexOf_7cf53_11 rfl (rfl : 11 + 1 = 12) ?_
    refine z_iload_n h 2 dJ0_indexOf_7cf53_12 rfl (rfl : 12 + 1 = 13) ?_
    refine z_aload_n h 0 dJ0_indexOf_7cf53_13 rfl (rfl : 13 + 1 = 14) ?_
    obtain ⟨q8, e9, hf⟩ := zbind hf
    refine z_goF (z_runVx h [] [.int v2, .int v1, .ref v7] zyJ0_length_8abf5 (c_J0_length_8abf5 B q1.2 J hJ w0 a0 _ _ e9) hs0 gJ0_indexOf_7cf53_J0_length_8abf5 rfl rfl zrJ0_indexOf_7cf53_J0_length_8abf5 rfl (Nat.le_of_ble_eq_true rfl) ⟨Nat.zero_le _, Nat.zero_le _⟩ rfl dJ0_indexOf_7cf53_14) rfl ?_
    obtain ⟨q10, e11, hf⟩ := zbind hf
    refine z_goF (z_runSx h [.ref v7, .int v1, .int v2, .int q8.1] [] zyJ1_indexOf_4cfef (c_J1_indexOf_4cfef B q8.2 J hJ w0 v7 v1 v2 q8.1 _ _ e11) hv7 gJ0_indexOf_7cf53_J1_indexOf_4cfef zrJ0_indexOf_7cf53_J1_indexOf_4cfef rfl (Nat.le_of_ble_eq_true rfl) ⟨Nat.zero_le _, Nat.zero_le _⟩ rfl dJ0_indexOf_7cf53_17) rfl ?_
    refine z_goto (pc' := 36) h dJ0_indexOf_7cf53_20 (by decide) ?_
    refine z_iret h hr dJ0_indexOf_7cf53_36 ?_
    exact ⟨congrArg Prod.fst (zsome hf), congrArg Prod.snd (zsome hf), rfl⟩
noncomputable def f_J0_indexOf_0f7a4 (J : zJ) (w0 : Nat) (v1 : Int32) (I : zM) : Option (Int32 × zM) := ((f_J0_indexOf_7cf53 J w0 v1 0 I).bind fun q1 => some ((q1.1, q1.2)))
noncomputable abbrev rmJ0_indexOf_0f7a4 : Room := { frames := 6, cells := 0, slots := 0, locals := 138 }
theorem zyJ0_indexOf_0f7a4 : zY yJ0_indexOf_0f7a4 wsJ0_indexOf_0f7a4 cJ0_indexOf_0f7a4 2 (some .int) 1 := ⟨⟨_, rfl⟩, by decide +kernel⟩
theorem zrJ0_indexOf_0f7a4_J0_indexOf_7cf53 : zRm rmJ0_indexOf_7cf53 rmJ0_indexOf_0f7a4 3 := ⟨rfl, rfl, by decide, by decide⟩
set_option maxHeartbeats 1000000 in
set_option maxRecDepth 100000 in
theorem c_J0_indexOf_0f7a4 (B : zB) (I : zM) (J : zJ) (hJ : zJok J) (w0 : Nat) (a0 : Nat) (v1 : Int32) (r : Int32) (I' : zM) (hf : f_J0_indexOf_0f7a4 J w0 v1 I = some (r, I')) : zCix B zKW I J yJ0_indexOf_0f7a4 wsJ0_indexOf_0f7a4 rmJ0_indexOf_0f7a4 [.ref a0, .int v1] [(w0, a0, true)] (fun r2 I2 J2 => r2 = r ∧ I2 = I' ∧ J2 = J) := by
  refine z_startx (own := RJ0) (cc := cJ0_indexOf_0f7a4) (nL := 2) (ret := (some .int)) rfl (by decide) rfl (Nat.le_of_ble_eq_true rfl) (L := [(0, .ref a0), (1, .int v1)]) rfl (fun G h hr hxs => ?_)
  have hs0 := (hxs _ List.mem_cons_self).1 rfl
  rw [f_J0_indexOf_0f7a4] at hf
  refine z_aload_n h 0 dJ0_indexOf_0f7a4_0 rfl (rfl : 0 + 1 = 1) ?_
  refine z_iload_n h 1 dJ0_indexOf_0f7a4_1 rfl (rfl : 1 + 1 = 2) ?_
  refine z_iconst h 0 dJ0_indexOf_0f7a4_2 (by decide) (rfl : 2 + 1 = 3) ?_
  obtain ⟨q1, e2, hf⟩ := zbind hf
  refine z_goF (z_runVx h [.int v1, .int 0] [] zyJ0_indexOf_7cf53 (c_J0_indexOf_7cf53 B I J hJ w0 a0 v1 0 _ _ e2) hs0 gJ0_indexOf_0f7a4_J0_indexOf_7cf53 rfl rfl zrJ0_indexOf_0f7a4_J0_indexOf_7cf53 rfl (Nat.le_of_ble_eq_true rfl) ⟨Nat.zero_le _, Nat.zero_le _⟩ rfl dJ0_indexOf_0f7a4_3) rfl ?_
  refine z_iret h hr dJ0_indexOf_0f7a4_6 ?_
  exact ⟨congrArg Prod.fst (zsome hf), congrArg Prod.snd (zsome hf), rfl⟩
noncomputable def f_X4_accept (J : zJ) (p0 : Nat) (v1 : Int32) (v2 : Int32) (I : zM) : Option (Int32 × zM) := ((f_J0_indexOf_0f7a4 J 0 v2 I).bind fun q2 => (if q2.1 < 0 then some (((-9), q2.2)) else (if 5 ≤ q2.2 p0 1 then some (((-9), q2.2)) else ((f_X4_has J p0 q2.1 q2.2).bind fun q6 => (if q6.1 = 0 then (if zin (q6.2 p0 1) 5 = true then some ((v1, zu (zu q6.2 (zR p0 0) (Int32.toNatClampNeg (q6.2 p0 1)) q2.1) p0 1 (((zu q6.2 (zR p0 0) (Int32.toNatClampNeg (q6.2 p0 1)) q2.1) p0 1) + (1 : Int32)))) else none) else some (((-9), q6.2)))))))
noncomputable abbrev rmX4_accept : Room := { frames := 7, cells := 0, slots := 0, locals := 159 }
theorem zyX4_accept : zY yX4_accept wsX4_accept cX4_accept 4 (some .int) 2 := ⟨⟨_, rfl⟩, by decide +kernel⟩
theorem zrX4_accept_J0_indexOf_0f7a4 : zRm rmJ0_indexOf_0f7a4 rmX4_accept 2 := ⟨rfl, rfl, by decide, by decide⟩
theorem zrX4_accept_X4_has : zRm rmX4_has rmX4_accept 3 := ⟨rfl, rfl, by decide, by decide⟩
set_option maxHeartbeats 1000000 in
set_option maxRecDepth 100000 in
theorem c_X4_accept (B : zB) (I : zM) (J : zJ) (hJ : zJok J) (p0 : Nat) (k0 : zKW[p0]? = some (.inr 4)) (v1 : Int32) (v2 : Int32) (r : Int32) (I' : zM) (hf : f_X4_accept J p0 v1 v2 I = some (r, I')) : zCi B zKW I J yX4_accept wsX4_accept rmX4_accept [.ref (za B p0), .int v1, .int v2] (fun r2 I2 J2 => r2 = r ∧ I2 = I' ∧ J2 = J) := by
  refine z_start (own := RX4) (cc := cX4_accept) (nL := 4) (ret := (some .int)) rfl (by decide) rfl (Nat.le_of_ble_eq_true rfl) (L := [(0, .ref (za B p0)), (1, .int v1), (2, .int v2)]) rfl (fun G h hr => ?_)
  rw [f_X4_accept] at hf
  refine z_ldcS h 0 (Or.inl ⟨rfl, rfl, rfl⟩) dX4_accept_0 (rfl : 0 + 2 = 2) (fun a1 ha1 => ?_)
  refine z_iload_n h 2 dX4_accept_2 rfl (rfl : 2 + 1 = 3) ?_
  obtain ⟨q2, e3, hf⟩ := zbind hf
  refine z_goF (z_runVx h [.int v2] [] zyJ0_indexOf_0f7a4 (c_J0_indexOf_0f7a4 B I J hJ 0 a1 v2 _ _ e3) ha1 gX4_accept_J0_indexOf_0f7a4 rfl rfl zrX4_accept_J0_indexOf_0f7a4 rfl (Nat.le_of_ble_eq_true rfl) ⟨Nat.zero_le _, Nat.zero_le _⟩ rfl dX4_accept_3) rfl ?_
  refine z_istore_n h [(3, .int q2.1), (0, .ref (za B p0)), (1, .int v1), (2, .int v2)] dX4_accept_6 (by decide) rfl (rfl : 6 + 1 = 7) ?_
  refine z_iload_n h 0 dX4_accept_7 rfl (rfl : 7 + 1 = 8) ?_
  refine z_if_lt (pc' := 11) h 31 dX4_accept_8 (by decide) rfl (fun c4 => ?_) (fun c4 => ?_)
  · have hf := zitt c4 hf
    refine z_bipush h (-9) dX4_accept_31 (by decide) (rfl : 31 + 2 = 33) ?_
    refine z_iret h hr dX4_accept_33 ?_
    exact ⟨congrArg Prod.fst (zsome hf), congrArg Prod.snd (zsome hf), rfl⟩
  · have hf := zitf c4 hf
    refine z_aload_n h 1 dX4_accept_11 rfl (rfl : 11 + 1 = 12) ?_
    refine z_get (ci := 4) (C := RX4) (T := TX4) (N := 2) h 1 k0 rfl (fun _ hq => List.mem_cons_of_mem _ (List.mem_append_right _ hq)) (by decide) (List.mem_of_getElem? (i := 1) rfl) rfl dX4_accept_12 (rfl : 12 + 3 = 15) ?_
    refine z_aload_n h 1 dX4_accept_15 rfl (rfl : 15 + 1 = 16) ?_
    refine z_getr (ci := 4) (C := RX4) (T := TX4) (N := 2) h 0 (zR p0 0) (zf_4_0 hJ k0).1 k0 rfl (fun _ hq => List.mem_cons_of_mem _ (List.mem_append_right _ hq)) (by decide) (List.mem_of_getElem? (i := 2) rfl) rfl dX4_accept_16 (rfl : 16 + 3 = 19) ?_
    refine z_alen h 5 (zf_4_0 hJ k0).2 (by decide) (by decide) dX4_accept_19 (rfl : 19 + 1 = 20) ?_
    refine z_icmp_ge (pc' := 23) h 31 dX4_accept_20 (by decide) rfl (fun c5 => ?_) (fun c5 => ?_)
    · have hf := zitt c5 hf
      refine z_bipush h (-9) dX4_accept_31 (by decide) (rfl : 31 + 2 = 33) ?_
      refine z_iret h hr dX4_accept_33 ?_
      exact ⟨congrArg Prod.fst (zsome hf), congrArg Prod.snd (zsome hf), rfl⟩
    · have hf := zitf c5 hf
      refine z_aload_n h 1 dX4_accept_23 rfl (rfl : 23 + 1 = 24) ?_
      refine z_iload_n h 0 dX4_accept_24 rfl (rfl : 24 + 1 = 25) ?_
      obtain ⟨q6, e7, hf⟩ := zbind hf
      refine z_goF (z_runV (C := RX4) (T := TX4) (N := 2) (ci := 4) h [.int q2.1] [] zyX4_has (c_X4_has B q2.2 J hJ p0 k0 q2.1 _ _ e7) gX4_accept_X4_has rfl k0 rfl zrX4_accept_X4_has rfl (Nat.le_of_ble_eq_true rfl) ⟨Nat.zero_le _, Nat.zero_le _⟩ rfl dX4_accept_25) rfl ?_
      refine z_if_eq (pc' := 31) h 34 dX4_accept_28 (by decide) rfl (fun c8 => ?_) (fun c8 => ?_)
      · have hf := zitt c8 hf
        refine z_aload_n h 1 dX4_accept_34 rfl (rfl : 34 + 1 = 35) ?_
        refine z_getr (ci := 4) (C := RX4) (T := TX4) (N := 2) h 0 (zR p0 0) (zf_4_0 hJ k0).1 k0 rfl (fun _ hq => List.mem_cons_of_mem _ (List.mem_append_right _ hq)) (by decide) (List.mem_of_getElem? (i := 2) rfl) rfl dX4_accept_35 (rfl : 35 + 3 = 38) ?_
        refine z_aload_n h 1 dX4_accept_38 rfl (rfl : 38 + 1 = 39) ?_
        refine z_get (ci := 4) (C := RX4) (T := TX4) (N := 2) h 1 k0 rfl (fun _ hq => List.mem_cons_of_mem _ (List.mem_append_right _ hq)) (by decide) (List.mem_of_getElem? (i := 1) rfl) rfl dX4_accept_39 (rfl : 39 + 3 = 42) ?_
        refine z_iload_n h 0 dX4_accept_42 rfl (rfl : 42 + 1 = 43) ?_
        obtain ⟨b9, hf⟩ := zchk hf
        refine z_iast h b9 (zf_4_0 hJ k0).2 dX4_accept_43 (rfl : 43 + 1 = 44) ?_
        refine z_aload_n h 1 dX4_accept_44 rfl (rfl : 44 + 1 = 45) ?_
        refine z_dup h rfl dX4_accept_45 (rfl : 45 + 1 = 46) ?_
        refine z_get (ci := 4) (C := RX4) (T := TX4) (N := 2) h 1 k0 rfl (fun _ hq => List.mem_cons_of_mem _ (List.mem_append_right _ hq)) (by decide) (List.mem_of_getElem? (i := 1) rfl) rfl dX4_accept_46 (rfl : 46 + 3 = 49) ?_
        refine z_iconst h 1 dX4_accept_49 (by decide) (rfl : 49 + 1 = 50) ?_
        refine z_iadd h dX4_accept_50 (rfl : 50 + 1 = 51) ?_
        refine z_put (ci := 4) (C := RX4) (T := TX4) (N := 2) h 1 tyX4 tyX4_ok nmX4 k0 rfl (fun _ hq => List.mem_cons_of_mem _ (List.mem_append_right _ hq)) (by decide) (List.mem_of_getElem? (i := 1) rfl) rfl rfl rfl dX4_accept_51 (rfl : 51 + 3 = 54) ?_
        refine z_iload_n h 2 dX4_accept_54 rfl (rfl : 54 + 1 = 55) ?_
        refine z_iret h hr dX4_accept_55 ?_
        exact ⟨congrArg Prod.fst (zsome hf), congrArg Prod.snd (zsome hf), rfl⟩
      · have hf := zitf c8 hf
        refine z_bipush h (-9) dX4_accept_31 (by decide) (rfl : 31 + 2 = 33) ?_
        refine z_iret h hr dX4_accept_33 ?_
        exact ⟨congrArg Prod.fst (zsome hf), congrArg Prod.snd (zsome hf), rfl⟩
theorem zt_10 {x : Int32} (c0 : ¬ x = 0) (c1 : ¬ x = 1) (c2 : ¬ x = 2) (c3 : ¬ x = 3) (c4 : ¬ x = 4) (c5 : ¬ x = 5) (c6 : ¬ x = 6) (c7 : ¬ x = 7) (c8 : ¬ x = 8) (c9 : ¬ x = 9) : x.toInt < 0 ∨ 9 < x.toInt := by
  have e0 : ((0 : Int32)).toInt = 0 := by decide
  have e1 : ((1 : Int32)).toInt = 1 := by decide
  have e2 : ((2 : Int32)).toInt = 2 := by decide
  have e3 : ((3 : Int32)).toInt = 3 := by decide
  have e4 : ((4 : Int32)).toInt = 4 := by decide
  have e5 : ((5 : Int32)).toInt = 5 := by decide
  have e6 : ((6 : Int32)).toInt = 6 := by decide
  have e7 : ((7 : Int32)).toInt = 7 := by decide
  have e8 : ((8 : Int32)).toInt = 8 := by decide
  have e9 : ((9 : Int32)).toInt = 9 := by decide
  simp only [← Int32.toInt_inj] at c0 c1 c2 c3 c4 c5 c6 c7 c8 c9
  omega
noncomputable def f_X6_accept (J : zJ) (p0 : Nat) (v1 : Int32) (v2 : Int32) (I : zM) : Option (Int32 × zM) := (if v1 = 0 then ((f_J0_indexOf_0f7a4 J 1 v2 I).bind fun q3 => (if 0 ≤ (zu q3.2 p0 0 q3.1) p0 0 then some ((1, zu q3.2 p0 0 q3.1)) else some (((-9), zu q3.2 p0 0 q3.1)))) else (if v1 = 1 then ((f_X11_figure J v2 0 5 I).bind fun q7 => (if (zu q7.2 p0 1 q7.1) p0 1 = (-9) then some (((-9), zu q7.2 p0 1 q7.1)) else some ((2, zu q7.2 p0 1 q7.1)))) else (if v1 = 2 then (if v2 = 61 then some ((3, I)) else some (((-9), I))) else (if v1 = 3 then ((f_X11_figure J v2 1 5 I).bind fun q13 => (if (zu q13.2 p0 2 q13.1) p0 2 = (-9) then some (((-9), zu q13.2 p0 2 q13.1)) else some ((4, zu q13.2 p0 2 q13.1)))) else (if v1 = 4 then (if v2 = 63 then some ((5, I)) else ((f_X6_acceptBehindIf J v2 I).bind fun q18 => some ((q18.1, q18.2)))) else (if v1 = 5 then ((f_X11_figure J v2 0 5 I).bind fun q21 => (if (zu q21.2 p0 3 q21.1) p0 3 = (-9) then some (((-9), zu q21.2 p0 3 q21.1)) else some ((6, zu q21.2 p0 3 q21.1)))) else (if v1 = 6 then (if v2 = 61 then some ((7, I)) else some (((-9), I))) else (if v1 = 7 then ((f_X11_figure J v2 0 5 I).bind fun q27 => (if (zu q27.2 p0 4 q27.1) p0 4 = (-9) then some (((-9), zu q27.2 p0 4 q27.1)) else some ((8, zu q27.2 p0 4 q27.1)))) else (if v1 = 8 then ((f_X6_acceptBehindIf J v2 I).bind fun q31 => some ((q31.1, q31.2))) else (if v1 = 9 then ((f_X11_figure J v2 0 2 I).bind fun q34 => (if (zu q34.2 p0 5 q34.1) p0 5 = (-9) then some (((-9), zu q34.2 p0 5 q34.1)) else some ((10, zu q34.2 p0 5 q34.1)))) else some (((-9), I))))))))))))
noncomputable abbrev rmX6_accept : Room := { frames := 7, cells := 0, slots := 0, locals := 159 }
theorem zyX6_accept : zY yX6_accept wsX6_accept cX6_accept 3 (some .int) 2 := ⟨⟨_, rfl⟩, by decide +kernel⟩
theorem zrX6_accept_J0_indexOf_0f7a4 : zRm rmJ0_indexOf_0f7a4 rmX6_accept 2 := ⟨rfl, rfl, by decide, by decide⟩
theorem zrX6_accept_X11_figure : zRm rmX11_figure rmX6_accept 4 := ⟨rfl, rfl, by decide, by decide⟩
theorem zrX6_accept_X6_acceptBehindIf : zRm rmX6_acceptBehindIf rmX6_accept 1 := ⟨rfl, rfl, by decide, by decide⟩
set_option maxHeartbeats 1000000 in
set_option maxRecDepth 100000 in
theorem c_X6_accept (B : zB) (I : zM) (J : zJ) (hJ : zJok J) (p0 : Nat) (k0 : zKW[p0]? = some (.inr 6)) (v1 : Int32) (v2 : Int32) (r : Int32) (I' : zM) (hf : f_X6_accept J p0 v1 v2 I = some (r, I')) : zCi B zKW I J yX6_accept wsX6_accept rmX6_accept [.ref (za B p0), .int v1, .int v2] (fun r2 I2 J2 => r2 = r ∧ I2 = I' ∧ J2 = J) := by
  refine z_start (own := RX6) (cc := cX6_accept) (nL := 3) (ret := (some .int)) rfl (by decide) rfl (Nat.le_of_ble_eq_true rfl) (L := [(0, .ref (za B p0)), (1, .int v1), (2, .int v2)]) rfl (fun G h hr => ?_)
  rw [f_X6_accept] at hf
  refine z_iload_n h 1 dX6_accept_0 rfl (rfl : 0 + 1 = 1) ?_
  by_cases c1 : v1 = 0
  · have hf := zitt c1 hf
    refine z_tabIn h 56 dX6_accept_1 (by rw [c1]; decide) (by rw [c1]; decide) (by rw [c1]; rfl) (by decide) ?_
    refine z_aload_n h 0 dX6_accept_56 rfl (rfl : 56 + 1 = 57) ?_
    refine z_ldcS h 1 (Or.inr (Or.inl ⟨rfl, rfl, rfl⟩)) dX6_accept_57 (rfl : 57 + 2 = 59) (fun a2 ha2 => ?_)
    refine z_iload_n h 2 dX6_accept_59 rfl (rfl : 59 + 1 = 60) ?_
    obtain ⟨q3, e4, hf⟩ := zbind hf
    refine z_goF (z_runVx h [.int v2] [.ref (za B p0)] zyJ0_indexOf_0f7a4 (c_J0_indexOf_0f7a4 B I J hJ 1 a2 v2 _ _ e4) ha2 gX6_accept_J0_indexOf_0f7a4 rfl rfl zrX6_accept_J0_indexOf_0f7a4 rfl (Nat.le_of_ble_eq_true rfl) ⟨Nat.zero_le _, Nat.zero_le _⟩ rfl dX6_accept_60) rfl ?_
    refine z_put (ci := 6) (C := RX6) (T := TX6) (N := 6) h 0 tyX6 tyX6_ok nmX6 k0 rfl (fun _ hq => List.mem_cons_of_mem _ (List.mem_append_right _ hq)) (by decide) (List.mem_of_getElem? (i := 1) rfl) rfl rfl rfl dX6_accept_63 (rfl : 63 + 3 = 66) ?_
    refine z_aload_n h 0 dX6_accept_66 rfl (rfl : 66 + 1 = 67) ?_
    refine z_get (ci := 6) (C := RX6) (T := TX6) (N := 6) h 0 k0 rfl (fun _ hq => List.mem_cons_of_mem _ (List.mem_append_right _ hq)) (by decide) (List.mem_of_getElem? (i := 1) rfl) rfl dX6_accept_67 (rfl : 67 + 3 = 70) ?_
    refine z_if_ge (pc' := 73) h 78 dX6_accept_70 (by decide) rfl (fun c5 => ?_) (fun c5 => ?_)
    · have hf := zitt c5 hf
      refine z_iconst h 1 dX6_accept_78 (by decide) (rfl : 78 + 1 = 79) ?_
      refine z_iret h hr dX6_accept_79 ?_
      exact ⟨congrArg Prod.fst (zsome hf), congrArg Prod.snd (zsome hf), rfl⟩
    · have hf := zitf c5 hf
      refine z_bipush h (-9) dX6_accept_73 (by decide) (rfl : 73 + 2 = 75) ?_
      refine z_goto (pc' := 79) h dX6_accept_75 (by decide) ?_
      refine z_iret h hr dX6_accept_79 ?_
      exact ⟨congrArg Prod.fst (zsome hf), congrArg Prod.snd (zsome hf), rfl⟩
  have hf := zitf c1 hf
  by_cases c6 : v1 = 1
  · have hf := zitt c6 hf
    refine z_tabIn h 80 dX6_accept_1 (by rw [c6]; decide) (by rw [c6]; decide) (by rw [c6]; rfl) (by decide) ?_
    refine z_aload_n h 0 dX6_accept_80 rfl (rfl : 80 + 1 = 81) ?_
    refine z_iload_n h 2 dX6_accept_81 rfl (rfl : 81 + 1 = 82) ?_
    refine z_iconst h 0 dX6_accept_82 (by decide) (rfl : 82 + 1 = 83) ?_
    refine z_iconst h 5 dX6_accept_83 (by decide) (rfl : 83 + 1 = 84) ?_
    obtain ⟨q7, e8, hf⟩ := zbind hf
    refine z_goF (z_runSN (host := "LeftOut") h [.int v2, .int 0, .int 5] [.ref (za B p0)] zyX11_figure (c_X11_figure B I J hJ v2 0 5 _ _ e8) gX6_accept_X11_figure_n38 (List.mem_of_getElem? (i := 11) rfl) (List.mem_of_getElem? (i := 96) rfl) (List.mem_of_getElem? (i := 97) rfl) zrX6_accept_X11_figure rfl (Nat.le_of_ble_eq_true rfl) ⟨Nat.zero_le _, Nat.zero_le _⟩ rfl dX6_accept_84) rfl ?_
    refine z_put (ci := 6) (C := RX6) (T := TX6) (N := 6) h 1 tyX6 tyX6_ok nmX6 k0 rfl (fun _ hq => List.mem_cons_of_mem _ (List.mem_append_right _ hq)) (by decide) (List.mem_of_getElem? (i := 2) rfl) rfl rfl rfl dX6_accept_87 (rfl : 87 + 3 = 90) ?_
    refine z_aload_n h 0 dX6_accept_90 rfl (rfl : 90 + 1 = 91) ?_
    refine z_get (ci := 6) (C := RX6) (T := TX6) (N := 6) h 1 k0 rfl (fun _ hq => List.mem_cons_of_mem _ (List.mem_append_right _ hq)) (by decide) (List.mem_of_getElem? (i := 2) rfl) rfl dX6_accept_91 (rfl : 91 + 3 = 94) ?_
    refine z_bipush h (-9) dX6_accept_94 (by decide) (rfl : 94 + 2 = 96) ?_
    refine z_icmp_ne (pc' := 99) h 104 dX6_accept_96 (by decide) rfl (fun c9 => ?_) (fun c9 => ?_)
    · have hf := zitf c9 hf
      refine z_iconst h 2 dX6_accept_104 (by decide) (rfl : 104 + 1 = 105) ?_
      refine z_iret h hr dX6_accept_105 ?_
      exact ⟨congrArg Prod.fst (zsome hf), congrArg Prod.snd (zsome hf), rfl⟩
    · have hf := zitt c9 hf
      refine z_bipush h (-9) dX6_accept_99 (by decide) (rfl : 99 + 2 = 101) ?_
      refine z_goto (pc' := 105) h dX6_accept_101 (by decide) ?_
      refine z_iret h hr dX6_accept_105 ?_
      exact ⟨congrArg Prod.fst (zsome hf), congrArg Prod.snd (zsome hf), rfl⟩
  have hf := zitf c6 hf
  by_cases c10 : v1 = 2
  · have hf := zitt c10 hf
    refine z_tabIn h 106 dX6_accept_1 (by rw [c10]; decide) (by rw [c10]; decide) (by rw [c10]; rfl) (by decide) ?_
    refine z_iload_n h 2 dX6_accept_106 rfl (rfl : 106 + 1 = 107) ?_
    refine z_bipush h 61 dX6_accept_107 (by decide) (rfl : 107 + 2 = 109) ?_
    refine z_icmp_ne (pc' := 112) h 116 dX6_accept_109 (by decide) rfl (fun c11 => ?_) (fun c11 => ?_)
    · have hf := zitf c11 hf
      refine z_bipush h (-9) dX6_accept_116 (by decide) (rfl : 116 + 2 = 118) ?_
      refine z_iret h hr dX6_accept_118 ?_
      exact ⟨congrArg Prod.fst (zsome hf), congrArg Prod.snd (zsome hf), rfl⟩
    · have hf := zitt c11 hf
      refine z_iconst h 3 dX6_accept_112 (by decide) (rfl : 112 + 1 = 113) ?_
      refine z_goto (pc' := 118) h dX6_accept_113 (by decide) ?_
      refine z_iret h hr dX6_accept_118 ?_
      exact ⟨congrArg Prod.fst (zsome hf), congrArg Prod.snd (zsome hf), rfl⟩
  have hf := zitf c10 hf
  by_cases c12 : v1 = 3
  · have hf := zitt c12 hf
    refine z_tabIn h 119 dX6_accept_1 (by rw [c12]; decide) (by rw [c12]; decide) (by rw [c12]; rfl) (by decide) ?_
    refine z_aload_n h 0 dX6_accept_119 rfl (rfl : 119 + 1 = 120) ?_
    refine z_iload_n h 2 dX6_accept_120 rfl (rfl : 120 + 1 = 121) ?_
    refine z_iconst h 1 dX6_accept_121 (by decide) (rfl : 121 + 1 = 122) ?_
    refine z_iconst h 5 dX6_accept_122 (by decide) (rfl : 122 + 1 = 123) ?_
    obtain ⟨q13, e14, hf⟩ := zbind hf
    refine z_goF (z_runSN (host := "LeftOut") h [.int v2, .int 1, .int 5] [.ref (za B p0)] zyX11_figure (c_X11_figure B I J hJ v2 1 5 _ _ e14) gX6_accept_X11_figure_n38 (List.mem_of_getElem? (i := 11) rfl) (List.mem_of_getElem? (i := 96) rfl) (List.mem_of_getElem? (i := 97) rfl) zrX6_accept_X11_figure rfl (Nat.le_of_ble_eq_true rfl) ⟨Nat.zero_le _, Nat.zero_le _⟩ rfl dX6_accept_123) rfl ?_
    refine z_put (ci := 6) (C := RX6) (T := TX6) (N := 6) h 2 tyX6 tyX6_ok nmX6 k0 rfl (fun _ hq => List.mem_cons_of_mem _ (List.mem_append_right _ hq)) (by decide) (List.mem_of_getElem? (i := 3) rfl) rfl rfl rfl dX6_accept_126 (rfl : 126 + 3 = 129) ?_
    refine z_aload_n h 0 dX6_accept_129 rfl (rfl : 129 + 1 = 130) ?_
    refine z_get (ci := 6) (C := RX6) (T := TX6) (N := 6) h 2 k0 rfl (fun _ hq => List.mem_cons_of_mem _ (List.mem_append_right _ hq)) (by decide) (List.mem_of_getElem? (i := 3) rfl) rfl dX6_accept_130 (rfl : 130 + 3 = 133) ?_
    refine z_bipush h (-9) dX6_accept_133 (by decide) (rfl : 133 + 2 = 135) ?_
    refine z_icmp_ne (pc' := 138) h 143 dX6_accept_135 (by decide) rfl (fun c15 => ?_) (fun c15 => ?_)
    · have hf := zitf c15 hf
      refine z_iconst h 4 dX6_accept_143 (by decide) (rfl : 143 + 1 = 144) ?_
      refine z_iret h hr dX6_accept_144 ?_
      exact ⟨congrArg Prod.fst (zsome hf), congrArg Prod.snd (zsome hf), rfl⟩
    · have hf := zitt c15 hf
      refine z_bipush h (-9) dX6_accept_138 (by decide) (rfl : 138 + 2 = 140) ?_
      refine z_goto (pc' := 144) h dX6_accept_140 (by decide) ?_
      refine z_iret h hr dX6_accept_144 ?_
      exact ⟨congrArg Prod.fst (zsome hf), congrArg Prod.snd (zsome hf), rfl⟩
  have hf := zitf c12 hf
  by_cases c16 : v1 = 4
  · have hf := zitt c16 hf
    refine z_tabIn h 145 dX6_accept_1 (by rw [c16]; decide) (by rw [c16]; decide) (by rw [c16]; rfl) (by decide) ?_
    refine z_iload_n h 2 dX6_accept_145 rfl (rfl : 145 + 1 = 146) ?_
    refine z_bipush h 63 dX6_accept_146 (by decide) (rfl : 146 + 2 = 148) ?_
    refine z_icmp_ne (pc' := 151) h 155 dX6_accept_148 (by decide) rfl (fun c17 => ?_) (fun c17 => ?_)
    · have hf := zitf c17 hf
      refine z_iload_n h 2 dX6_accept_155 rfl (rfl : 155 + 1 = 156) ?_
      obtain ⟨q18, e19, hf⟩ := zbind hf
      refine z_goF (z_runS h [.int v2] [] zyX6_acceptBehindIf (c_X6_acceptBehindIf B I J hJ v2 _ _ e19) gX6_accept_X6_acceptBehindIf zrX6_accept_X6_acceptBehindIf rfl (Nat.le_of_ble_eq_true rfl) ⟨Nat.zero_le _, Nat.zero_le _⟩ rfl dX6_accept_156) rfl ?_
      refine z_iret h hr dX6_accept_159 ?_
      exact ⟨congrArg Prod.fst (zsome hf), congrArg Prod.snd (zsome hf), rfl⟩
    · have hf := zitt c17 hf
      refine z_iconst h 5 dX6_accept_151 (by decide) (rfl : 151 + 1 = 152) ?_
      refine z_goto (pc' := 159) h dX6_accept_152 (by decide) ?_
      refine z_iret h hr dX6_accept_159 ?_
      exact ⟨congrArg Prod.fst (zsome hf), congrArg Prod.snd (zsome hf), rfl⟩
  have hf := zitf c16 hf
  by_cases c20 : v1 = 5
  · have hf := zitt c20 hf
    refine z_tabIn h 160 dX6_accept_1 (by rw [c20]; decide) (by rw [c20]; decide) (by rw [c20]; rfl) (by decide) ?_
    refine z_aload_n h 0 dX6_accept_160 rfl (rfl : 160 + 1 = 161) ?_
    refine z_iload_n h 2 dX6_accept_161 rfl (rfl : 161 + 1 = 162) ?_
    refine z_iconst h 0 dX6_accept_162 (by decide) (rfl : 162 + 1 = 163) ?_
    refine z_iconst h 5 dX6_accept_163 (by decide) (rfl : 163 + 1 = 164) ?_
    obtain ⟨q21, e22, hf⟩ := zbind hf
    refine z_goF (z_runSN (host := "LeftOut") h [.int v2, .int 0, .int 5] [.ref (za B p0)] zyX11_figure (c_X11_figure B I J hJ v2 0 5 _ _ e22) gX6_accept_X11_figure_n38 (List.mem_of_getElem? (i := 11) rfl) (List.mem_of_getElem? (i := 96) rfl) (List.mem_of_getElem? (i := 97) rfl) zrX6_accept_X11_figure rfl (Nat.le_of_ble_eq_true rfl) ⟨Nat.zero_le _, Nat.zero_le _⟩ rfl dX6_accept_164) rfl ?_
    refine z_put (ci := 6) (C := RX6) (T := TX6) (N := 6) h 3 tyX6 tyX6_ok nmX6 k0 rfl (fun _ hq => List.mem_cons_of_mem _ (List.mem_append_right _ hq)) (by decide) (List.mem_of_getElem? (i := 4) rfl) rfl rfl rfl dX6_accept_167 (rfl : 167 + 3 = 170) ?_
    refine z_aload_n h 0 dX6_accept_170 rfl (rfl : 170 + 1 = 171) ?_
    refine z_get (ci := 6) (C := RX6) (T := TX6) (N := 6) h 3 k0 rfl (fun _ hq => List.mem_cons_of_mem _ (List.mem_append_right _ hq)) (by decide) (List.mem_of_getElem? (i := 4) rfl) rfl dX6_accept_171 (rfl : 171 + 3 = 174) ?_
    refine z_bipush h (-9) dX6_accept_174 (by decide) (rfl : 174 + 2 = 176) ?_
    refine z_icmp_ne (pc' := 179) h 184 dX6_accept_176 (by decide) rfl (fun c23 => ?_) (fun c23 => ?_)
    · have hf := zitf c23 hf
      refine z_bipush h 6 dX6_accept_184 (by decide) (rfl : 184 + 2 = 186) ?_
      refine z_iret h hr dX6_accept_186 ?_
      exact ⟨congrArg Prod.fst (zsome hf), congrArg Prod.snd (zsome hf), rfl⟩
    · have hf := zitt c23 hf
      refine z_bipush h (-9) dX6_accept_179 (by decide) (rfl : 179 + 2 = 181) ?_
      refine z_goto (pc' := 186) h dX6_accept_181 (by decide) ?_
      refine z_iret h hr dX6_accept_186 ?_
      exact ⟨congrArg Prod.fst (zsome hf), congrArg Prod.snd (zsome hf), rfl⟩
  have hf := zitf c20 hf
  by_cases c24 : v1 = 6
  · have hf := zitt c24 hf
    refine z_tabIn h 187 dX6_accept_1 (by rw [c24]; decide) (by rw [c24]; decide) (by rw [c24]; rfl) (by decide) ?_
    refine z_iload_n h 2 dX6_accept_187 rfl (rfl : 187 + 1 = 188) ?_
    refine z_bipush h 61 dX6_accept_188 (by decide) (rfl : 188 + 2 = 190) ?_
    refine z_icmp_ne (pc' := 193) h 198 dX6_accept_190 (by decide) rfl (fun c25 => ?_) (fun c25 => ?_)
    · have hf := zitf c25 hf
      refine z_bipush h (-9) dX6_accept_198 (by decide) (rfl : 198 + 2 = 200) ?_
      refine z_iret h hr dX6_accept_200 ?_
      exact ⟨congrArg Prod.fst (zsome hf), congrArg Prod.snd (zsome hf), rfl⟩
    · have hf := zitt c25 hf
      refine z_bipush h 7 dX6_accept_193 (by decide) (rfl : 193 + 2 = 195) ?_
      refine z_goto (pc' := 200) h dX6_accept_195 (by decide) ?_
      refine z_iret h hr dX6_accept_200 ?_
      exact ⟨congrArg Prod.fst (zsome hf), congrArg Prod.snd (zsome hf), rfl⟩
  have hf := zitf c24 hf
  by_cases c26 : v1 = 7
  · have hf := zitt c26 hf
    refine z_tabIn h 201 dX6_accept_1 (by rw [c26]; decide) (by rw [c26]; decide) (by rw [c26]; rfl) (by decide) ?_
    refine z_aload_n h 0 dX6_accept_201 rfl (rfl : 201 + 1 = 202) ?_
    refine z_iload_n h 2 dX6_accept_202 rfl (rfl : 202 + 1 = 203) ?_
    refine z_iconst h 0 dX6_accept_203 (by decide) (rfl : 203 + 1 = 204) ?_
    refine z_iconst h 5 dX6_accept_204 (by decide) (rfl : 204 + 1 = 205) ?_
    obtain ⟨q27, e28, hf⟩ := zbind hf
    refine z_goF (z_runSN (host := "LeftOut") h [.int v2, .int 0, .int 5] [.ref (za B p0)] zyX11_figure (c_X11_figure B I J hJ v2 0 5 _ _ e28) gX6_accept_X11_figure_n38 (List.mem_of_getElem? (i := 11) rfl) (List.mem_of_getElem? (i := 96) rfl) (List.mem_of_getElem? (i := 97) rfl) zrX6_accept_X11_figure rfl (Nat.le_of_ble_eq_true rfl) ⟨Nat.zero_le _, Nat.zero_le _⟩ rfl dX6_accept_205) rfl ?_
    refine z_put (ci := 6) (C := RX6) (T := TX6) (N := 6) h 4 tyX6 tyX6_ok nmX6 k0 rfl (fun _ hq => List.mem_cons_of_mem _ (List.mem_append_right _ hq)) (by decide) (List.mem_of_getElem? (i := 5) rfl) rfl rfl rfl dX6_accept_208 (rfl : 208 + 3 = 211) ?_
    refine z_aload_n h 0 dX6_accept_211 rfl (rfl : 211 + 1 = 212) ?_
    refine z_get (ci := 6) (C := RX6) (T := TX6) (N := 6) h 4 k0 rfl (fun _ hq => List.mem_cons_of_mem _ (List.mem_append_right _ hq)) (by decide) (List.mem_of_getElem? (i := 5) rfl) rfl dX6_accept_212 (rfl : 212 + 3 = 215) ?_
    refine z_bipush h (-9) dX6_accept_215 (by decide) (rfl : 215 + 2 = 217) ?_
    refine z_icmp_ne (pc' := 220) h 225 dX6_accept_217 (by decide) rfl (fun c29 => ?_) (fun c29 => ?_)
    · have hf := zitf c29 hf
      refine z_bipush h 8 dX6_accept_225 (by decide) (rfl : 225 + 2 = 227) ?_
      refine z_iret h hr dX6_accept_227 ?_
      exact ⟨congrArg Prod.fst (zsome hf), congrArg Prod.snd (zsome hf), rfl⟩
    · have hf := zitt c29 hf
      refine z_bipush h (-9) dX6_accept_220 (by decide) (rfl : 220 + 2 = 222) ?_
      refine z_goto (pc' := 227) h dX6_accept_222 (by decide) ?_
      refine z_iret h hr dX6_accept_227 ?_
      exact ⟨congrArg Prod.fst (zsome hf), congrArg Prod.snd (zsome hf), rfl⟩
  have hf := zitf c26 hf
  by_cases c30 : v1 = 8
  · have hf := zitt c30 hf
    refine z_tabIn h 228 dX6_accept_1 (by rw [c30]; decide) (by rw [c30]; decide) (by rw [c30]; rfl) (by decide) ?_
    refine z_iload_n h 2 dX6_accept_228 rfl (rfl : 228 + 1 = 229) ?_
    obtain ⟨q31, e32, hf⟩ := zbind hf
    refine z_goF (z_runS h [.int v2] [] zyX6_acceptBehindIf (c_X6_acceptBehindIf B I J hJ v2 _ _ e32) gX6_accept_X6_acceptBehindIf zrX6_accept_X6_acceptBehindIf rfl (Nat.le_of_ble_eq_true rfl) ⟨Nat.zero_le _, Nat.zero_le _⟩ rfl dX6_accept_229) rfl ?_
    refine z_iret h hr dX6_accept_232 ?_
    exact ⟨congrArg Prod.fst (zsome hf), congrArg Prod.snd (zsome hf), rfl⟩
  have hf := zitf c30 hf
  by_cases c33 : v1 = 9
  · have hf := zitt c33 hf
    refine z_tabIn h 233 dX6_accept_1 (by rw [c33]; decide) (by rw [c33]; decide) (by rw [c33]; rfl) (by decide) ?_
    refine z_aload_n h 0 dX6_accept_233 rfl (rfl : 233 + 1 = 234) ?_
    refine z_iload_n h 2 dX6_accept_234 rfl (rfl : 234 + 1 = 235) ?_
    refine z_iconst h 0 dX6_accept_235 (by decide) (rfl : 235 + 1 = 236) ?_
    refine z_iconst h 2 dX6_accept_236 (by decide) (rfl : 236 + 1 = 237) ?_
    obtain ⟨q34, e35, hf⟩ := zbind hf
    refine z_goF (z_runSN (host := "LeftOut") h [.int v2, .int 0, .int 2] [.ref (za B p0)] zyX11_figure (c_X11_figure B I J hJ v2 0 2 _ _ e35) gX6_accept_X11_figure_n38 (List.mem_of_getElem? (i := 11) rfl) (List.mem_of_getElem? (i := 96) rfl) (List.mem_of_getElem? (i := 97) rfl) zrX6_accept_X11_figure rfl (Nat.le_of_ble_eq_true rfl) ⟨Nat.zero_le _, Nat.zero_le _⟩ rfl dX6_accept_237) rfl ?_
    refine z_put (ci := 6) (C := RX6) (T := TX6) (N := 6) h 5 tyX6 tyX6_ok nmX6 k0 rfl (fun _ hq => List.mem_cons_of_mem _ (List.mem_append_right _ hq)) (by decide) (List.mem_of_getElem? (i := 6) rfl) rfl rfl rfl dX6_accept_240 (rfl : 240 + 3 = 243) ?_
    refine z_aload_n h 0 dX6_accept_243 rfl (rfl : 243 + 1 = 244) ?_
    refine z_get (ci := 6) (C := RX6) (T := TX6) (N := 6) h 5 k0 rfl (fun _ hq => List.mem_cons_of_mem _ (List.mem_append_right _ hq)) (by decide) (List.mem_of_getElem? (i := 6) rfl) rfl dX6_accept_244 (rfl : 244 + 3 = 247) ?_
    refine z_bipush h (-9) dX6_accept_247 (by decide) (rfl : 247 + 2 = 249) ?_
    refine z_icmp_ne (pc' := 252) h 257 dX6_accept_249 (by decide) rfl (fun c36 => ?_) (fun c36 => ?_)
    · have hf := zitf c36 hf
      refine z_bipush h 10 dX6_accept_257 (by decide) (rfl : 257 + 2 = 259) ?_
      refine z_iret h hr dX6_accept_259 ?_
      exact ⟨congrArg Prod.fst (zsome hf), congrArg Prod.snd (zsome hf), rfl⟩
    · have hf := zitt c36 hf
      refine z_bipush h (-9) dX6_accept_252 (by decide) (rfl : 252 + 2 = 254) ?_
      refine z_goto (pc' := 259) h dX6_accept_254 (by decide) ?_
      refine z_iret h hr dX6_accept_259 ?_
      exact ⟨congrArg Prod.fst (zsome hf), congrArg Prod.snd (zsome hf), rfl⟩
  have hf := zitf c33 hf
  refine z_tabOut h 260 dX6_accept_1 (zt_10 c1 c6 c10 c12 c16 c20 c24 c26 c30 c33) (by decide) ?_
  refine z_bipush h (-9) dX6_accept_260 (by decide) (rfl : 260 + 2 = 262) ?_
  refine z_iret h hr dX6_accept_262 ?_
  exact ⟨congrArg Prod.fst (zsome hf), congrArg Prod.snd (zsome hf), rfl⟩
noncomputable def f_X8_acceptCrossed (J : zJ) (p0 : Nat) (v1 : Int32) (I : zM) : Option (Int32 × zM) := ((f_J0_indexOf_0f7a4 J 0 v1 I).bind fun q2 => (if q2.1 < 0 then some (((-9), q2.2)) else ((f_X11_bit J ((14 : Int32) &&& ((q2.2 p0 1) ^^^ ((-1) : Int32))) q2.1 q2.2).bind fun q5 => (if q5.1 = 0 then some (((-9), q5.2)) else some ((0, zu q5.2 p0 1 ((q5.2 p0 1) ||| ((1 : Int32) <<< (q2.1 &&& 31)))))))))
noncomputable abbrev rmX8_acceptCrossed : Room := { frames := 7, cells := 0, slots := 0, locals := 159 }
theorem zyX8_acceptCrossed : zY yX8_acceptCrossed wsX8_acceptCrossed cX8_acceptCrossed 3 (some .int) 1 := ⟨⟨_, rfl⟩, by decide +kernel⟩
theorem zrX8_acceptCrossed_J0_indexOf_0f7a4 : zRm rmJ0_indexOf_0f7a4 rmX8_acceptCrossed 2 := ⟨rfl, rfl, by decide, by decide⟩
theorem zrX8_acceptCrossed_X11_bit : zRm rmX11_bit rmX8_acceptCrossed 2 := ⟨rfl, rfl, by decide, by decide⟩
set_option maxHeartbeats 1000000 in
set_option maxRecDepth 100000 in
theorem c_X8_acceptCrossed (B : zB) (I : zM) (J : zJ) (hJ : zJok J) (p0 : Nat) (k0 : zKW[p0]? = some (.inr 8)) (v1 : Int32) (r : Int32) (I' : zM) (hf : f_X8_acceptCrossed J p0 v1 I = some (r, I')) : zCi B zKW I J yX8_acceptCrossed wsX8_acceptCrossed rmX8_acceptCrossed [.ref (za B p0), .int v1] (fun r2 I2 J2 => r2 = r ∧ I2 = I' ∧ J2 = J) := by
  refine z_start (own := RX8) (cc := cX8_acceptCrossed) (nL := 3) (ret := (some .int)) rfl (by decide) rfl (Nat.le_of_ble_eq_true rfl) (L := [(0, .ref (za B p0)), (1, .int v1)]) rfl (fun G h hr => ?_)
  rw [f_X8_acceptCrossed] at hf
  refine z_ldcS h 0 (Or.inr (Or.inr ⟨rfl, rfl, rfl⟩)) dX8_acceptCrossed_0 (rfl : 0 + 2 = 2) (fun a1 ha1 => ?_)
  refine z_iload_n h 1 dX8_acceptCrossed_2 rfl (rfl : 2 + 1 = 3) ?_
  obtain ⟨q2, e3, hf⟩ := zbind hf
  refine z_goF (z_runVx h [.int v1] [] zyJ0_indexOf_0f7a4 (c_J0_indexOf_0f7a4 B I J hJ 0 a1 v1 _ _ e3) ha1 gX8_acceptCrossed_J0_indexOf_0f7a4 rfl rfl zrX8_acceptCrossed_J0_indexOf_0f7a4 rfl (Nat.le_of_ble_eq_true rfl) ⟨Nat.zero_le _, Nat.zero_le _⟩ rfl dX8_acceptCrossed_3) rfl ?_
  refine z_istore_n h [(2, .int q2.1), (0, .ref (za B p0)), (1, .int v1)] dX8_acceptCrossed_6 (by decide) rfl (rfl : 6 + 1 = 7) ?_
  refine z_iload_n h 0 dX8_acceptCrossed_7 rfl (rfl : 7 + 1 = 8) ?_
  refine z_if_lt (pc' := 11) h 27 dX8_acceptCrossed_8 (by decide) rfl (fun c4 => ?_) (fun c4 => ?_)
  · have hf := zitt c4 hf
    refine z_bipush h (-9) dX8_acceptCrossed_27 (by decide) (rfl : 27 + 2 = 29) ?_
    refine z_iret h hr dX8_acceptCrossed_29 ?_
    exact ⟨congrArg Prod.fst (zsome hf), congrArg Prod.snd (zsome hf), rfl⟩
  · have hf := zitf c4 hf
    refine z_bipush h 14 dX8_acceptCrossed_11 (by decide) (rfl : 11 + 2 = 13) ?_
    refine z_aload_n h 1 dX8_acceptCrossed_13 rfl (rfl : 13 + 1 = 14) ?_
    refine z_get (ci := 8) (C := RX8) (T := TX8) (N := 3) h 1 k0 rfl (fun _ hq => List.mem_cons_of_mem _ (List.mem_append_right _ hq)) (by decide) (List.mem_of_getElem? (i := 1) rfl) rfl dX8_acceptCrossed_14 (rfl : 14 + 3 = 17) ?_
    refine z_iconst h (-1) dX8_acceptCrossed_17 (by decide) (rfl : 17 + 1 = 18) ?_
    refine z_ixor h dX8_acceptCrossed_18 (rfl : 18 + 1 = 19) ?_
    refine z_iand h dX8_acceptCrossed_19 (rfl : 19 + 1 = 20) ?_
    refine z_iload_n h 0 dX8_acceptCrossed_20 rfl (rfl : 20 + 1 = 21) ?_
    obtain ⟨q5, e6, hf⟩ := zbind hf
    refine z_goF (z_runSN (host := "LeftOut") h [.int ((14 : Int32) &&& ((q2.2 p0 1) ^^^ ((-1) : Int32))), .int q2.1] [] zyX11_bit (c_X11_bit B q2.2 J hJ ((14 : Int32) &&& ((q2.2 p0 1) ^^^ ((-1) : Int32))) q2.1 _ _ e6) gX8_acceptCrossed_X11_bit_n44 (List.mem_of_getElem? (i := 13) rfl) (List.mem_of_getElem? (i := 91) rfl) (List.mem_of_getElem? (i := 92) rfl) zrX8_acceptCrossed_X11_bit rfl (Nat.le_of_ble_eq_true rfl) ⟨Nat.zero_le _, Nat.zero_le _⟩ rfl dX8_acceptCrossed_21) rfl ?_
    refine z_if_ne (pc' := 27) h 30 dX8_acceptCrossed_24 (by decide) rfl (fun c7 => ?_) (fun c7 => ?_)
    · have hf := zitf c7 hf
      refine z_aload_n h 1 dX8_acceptCrossed_30 rfl (rfl : 30 + 1 = 31) ?_
      refine z_dup h rfl dX8_acceptCrossed_31 (rfl : 31 + 1 = 32) ?_
      refine z_get (ci := 8) (C := RX8) (T := TX8) (N := 3) h 1 k0 rfl (fun _ hq => List.mem_cons_of_mem _ (List.mem_append_right _ hq)) (by decide) (List.mem_of_getElem? (i := 1) rfl) rfl dX8_acceptCrossed_32 (rfl : 32 + 3 = 35) ?_
      refine z_iconst h 1 dX8_acceptCrossed_35 (by decide) (rfl : 35 + 1 = 36) ?_
      refine z_iload_n h 0 dX8_acceptCrossed_36 rfl (rfl : 36 + 1 = 37) ?_
      refine z_ishl h dX8_acceptCrossed_37 (rfl : 37 + 1 = 38) ?_
      refine z_ior h dX8_acceptCrossed_38 (rfl : 38 + 1 = 39) ?_
      refine z_put (ci := 8) (C := RX8) (T := TX8) (N := 3) h 1 tyX8 tyX8_ok nmX8 k0 rfl (fun _ hq => List.mem_cons_of_mem _ (List.mem_append_right _ hq)) (by decide) (List.mem_of_getElem? (i := 1) rfl) rfl rfl rfl dX8_acceptCrossed_39 (rfl : 39 + 3 = 42) ?_
      refine z_iconst h 0 dX8_acceptCrossed_42 (by decide) (rfl : 42 + 1 = 43) ?_
      refine z_iret h hr dX8_acceptCrossed_43 ?_
      exact ⟨congrArg Prod.fst (zsome hf), congrArg Prod.snd (zsome hf), rfl⟩
    · have hf := zitt c7 hf
      refine z_bipush h (-9) dX8_acceptCrossed_27 (by decide) (rfl : 27 + 2 = 29) ?_
      refine z_iret h hr dX8_acceptCrossed_29 ?_
      exact ⟨congrArg Prod.fst (zsome hf), congrArg Prod.snd (zsome hf), rfl⟩
noncomputable def f_X8_accept (J : zJ) (p0 : Nat) (v1 : Int32) (v2 : Int32) (I : zM) : Option (Int32 × zM) := (if v1 = 0 then ((f_X8_acceptItem J p0 v2 I).bind fun q2 => some ((q2.1, q2.2))) else (if v1 = 1 then (if v2 = 61 then some ((2, I)) else some (((-9), I))) else (if v1 = 2 then ((f_X8_acceptValue J p0 v2 I).bind fun q7 => some ((q7.1, q7.2))) else (if v1 = 3 then ((f_X8_acceptCrossed J p0 v2 I).bind fun q10 => some ((q10.1, q10.2))) else some (((-9), I))))))
noncomputable abbrev rmX8_accept : Room := { frames := 8, cells := 0, slots := 0, locals := 181 }
theorem zyX8_accept : zY yX8_accept wsX8_accept cX8_accept 3 (some .int) 2 := ⟨⟨_, rfl⟩, by decide +kernel⟩
theorem zrX8_accept_X8_acceptCrossed : zRm rmX8_acceptCrossed rmX8_accept 3 := ⟨rfl, rfl, by decide, by decide⟩
theorem zrX8_accept_X8_acceptItem : zRm rmX8_acceptItem rmX8_accept 3 := ⟨rfl, rfl, by decide, by decide⟩
theorem zrX8_accept_X8_acceptValue : zRm rmX8_acceptValue rmX8_accept 3 := ⟨rfl, rfl, by decide, by decide⟩
set_option maxHeartbeats 1000000 in
set_option maxRecDepth 100000 in
theorem c_X8_accept (B : zB) (I : zM) (J : zJ) (hJ : zJok J) (p0 : Nat) (k0 : zKW[p0]? = some (.inr 8)) (v1 : Int32) (v2 : Int32) (r : Int32) (I' : zM) (hf : f_X8_accept J p0 v1 v2 I = some (r, I')) : zCi B zKW I J yX8_accept wsX8_accept rmX8_accept [.ref (za B p0), .int v1, .int v2] (fun r2 I2 J2 => r2 = r ∧ I2 = I' ∧ J2 = J) := by
  refine z_start (own := RX8) (cc := cX8_accept) (nL := 3) (ret := (some .int)) rfl (by decide) rfl (Nat.le_of_ble_eq_true rfl) (L := [(0, .ref (za B p0)), (1, .int v1), (2, .int v2)]) rfl (fun G h hr => ?_)
  rw [f_X8_accept] at hf
  refine z_iload_n h 1 dX8_accept_0 rfl (rfl : 0 + 1 = 1) ?_
  by_cases c1 : v1 = 0
  · have hf := zitt c1 hf
    refine z_tabIn h 32 dX8_accept_1 (by rw [c1]; decide) (by rw [c1]; decide) (by rw [c1]; rfl) (by decide) ?_
    refine z_aload_n h 0 dX8_accept_32 rfl (rfl : 32 + 1 = 33) ?_
    refine z_iload_n h 2 dX8_accept_33 rfl (rfl : 33 + 1 = 34) ?_
    obtain ⟨q2, e3, hf⟩ := zbind hf
    refine z_goF (z_runV (C := RX8) (T := TX8) (N := 3) (ci := 8) h [.int v2] [] zyX8_acceptItem (c_X8_acceptItem B I J hJ p0 k0 v2 _ _ e3) gX8_accept_X8_acceptItem rfl k0 rfl zrX8_accept_X8_acceptItem rfl (Nat.le_of_ble_eq_true rfl) ⟨Nat.zero_le _, Nat.zero_le _⟩ rfl dX8_accept_34) rfl ?_
    refine z_iret h hr dX8_accept_37 ?_
    exact ⟨congrArg Prod.fst (zsome hf), congrArg Prod.snd (zsome hf), rfl⟩
  have hf := zitf c1 hf
  by_cases c4 : v1 = 1
  · have hf := zitt c4 hf
    refine z_tabIn h 38 dX8_accept_1 (by rw [c4]; decide) (by rw [c4]; decide) (by rw [c4]; rfl) (by decide) ?_
    refine z_iload_n h 2 dX8_accept_38 rfl (rfl : 38 + 1 = 39) ?_
    refine z_bipush h 61 dX8_accept_39 (by decide) (rfl : 39 + 2 = 41) ?_
    refine z_icmp_ne (pc' := 44) h 48 dX8_accept_41 (by decide) rfl (fun c5 => ?_) (fun c5 => ?_)
    · have hf := zitf c5 hf
      refine z_bipush h (-9) dX8_accept_48 (by decide) (rfl : 48 + 2 = 50) ?_
      refine z_iret h hr dX8_accept_50 ?_
      exact ⟨congrArg Prod.fst (zsome hf), congrArg Prod.snd (zsome hf), rfl⟩
    · have hf := zitt c5 hf
      refine z_iconst h 2 dX8_accept_44 (by decide) (rfl : 44 + 1 = 45) ?_
      refine z_goto (pc' := 50) h dX8_accept_45 (by decide) ?_
      refine z_iret h hr dX8_accept_50 ?_
      exact ⟨congrArg Prod.fst (zsome hf), congrArg Prod.snd (zsome hf), rfl⟩
  have hf := zitf c4 hf
  by_cases c6 : v1 = 2
  · have hf := zitt c6 hf
    refine z_tabIn h 51 dX8_accept_1 (by rw [c6]; decide) (by rw [c6]; decide) (by rw [c6]; rfl) (by decide) ?_
    refine z_aload_n h 0 dX8_accept_51 rfl (rfl : 51 + 1 = 52) ?_
    refine z_iload_n h 2 dX8_accept_52 rfl (rfl : 52 + 1 = 53) ?_
    obtain ⟨q7, e8, hf⟩ := zbind hf
    refine z_goF (z_runV (C := RX8) (T := TX8) (N := 3) (ci := 8) h [.int v2] [] zyX8_acceptValue (c_X8_acceptValue B I J hJ p0 k0 v2 _ _ e8) gX8_accept_X8_acceptValue rfl k0 rfl zrX8_accept_X8_acceptValue rfl (Nat.le_of_ble_eq_true rfl) ⟨Nat.zero_le _, Nat.zero_le _⟩ rfl dX8_accept_53) rfl ?_
    refine z_iret h hr dX8_accept_56 ?_
    exact ⟨congrArg Prod.fst (zsome hf), congrArg Prod.snd (zsome hf), rfl⟩
  have hf := zitf c6 hf
  by_cases c9 : v1 = 3
  · have hf := zitt c9 hf
    refine z_tabIn h 57 dX8_accept_1 (by rw [c9]; decide) (by rw [c9]; decide) (by rw [c9]; rfl) (by decide) ?_
    refine z_aload_n h 0 dX8_accept_57 rfl (rfl : 57 + 1 = 58) ?_
    refine z_iload_n h 2 dX8_accept_58 rfl (rfl : 58 + 1 = 59) ?_
    obtain ⟨q10, e11, hf⟩ := zbind hf
    refine z_goF (z_runV (C := RX8) (T := TX8) (N := 3) (ci := 8) h [.int v2] [] zyX8_acceptCrossed (c_X8_acceptCrossed B I J hJ p0 k0 v2 _ _ e11) gX8_accept_X8_acceptCrossed rfl k0 rfl zrX8_accept_X8_acceptCrossed rfl (Nat.le_of_ble_eq_true rfl) ⟨Nat.zero_le _, Nat.zero_le _⟩ rfl dX8_accept_59) rfl ?_
    refine z_iret h hr dX8_accept_62 ?_
    exact ⟨congrArg Prod.fst (zsome hf), congrArg Prod.snd (zsome hf), rfl⟩
  have hf := zitf c9 hf
  refine z_tabOut h 63 dX8_accept_1 (zt_4 c1 c4 c6 c9) (by decide) ?_
  refine z_bipush h (-9) dX8_accept_63 (by decide) (rfl : 63 + 2 = 65) ?_
  refine z_iret h hr dX8_accept_65 ?_
  exact ⟨congrArg Prod.fst (zsome hf), congrArg Prod.snd (zsome hf), rfl⟩
noncomputable def f_X10_readFrom_X4_8 (J : zJ) (r0 : Nat) : Nat → Int32 → Int32 → zM → Option ((Int32 × zM) ⊕ (Int32 × Int32 × zM))
  | 0, _, _, _ => none
  | n + 1, x2_8, x3_8, I8 => (if I8 16 1 ≤ x3_8 then some (.inr (x2_8, x3_8, I8)) else (if 24 ≤ x3_8 then some (.inr (x2_8, x3_8, I8)) else (if zin x3_8 24 = true then ((f_X4_accept J r0 x2_8 (I8 17 (Int32.toNatClampNeg x3_8)) I8).bind fun q6 => (if q6.1 = (-9) then some (.inl ((x3_8, q6.2))) else f_X10_readFrom_X4_8 J r0 n q6.1 (x3_8 + 1) q6.2)) else none)))
noncomputable def f_X10_readFrom_X4 (J : zJ) (p0 : Nat) (I : zM) : Option (Int32 × zM) := ((f_X4_clear J p0 I).bind fun q1 => ((f_X10_readFrom_X4_8 J p0 zF 0 0 q1).bind fun q => Sum.elim (fun a => some a) (fun a5 => ((f_X4_isWhole J p0 a5.1 a5.2.2).bind fun q6 => (if q6.1 = 0 then some ((q6.2 16 1, q6.2)) else some (((-9), q6.2))))) q))
noncomputable abbrev rmX10_readFrom : Room := { frames := 9, cells := 0, slots := 0, locals := 203 }
theorem zyX10_readFrom : zY yX10_readFrom wsX10_readFrom cX10_readFrom 4 (some .int) 1 := ⟨⟨_, rfl⟩, by decide +kernel⟩
theorem zrX10_readFrom_X4_accept : zRm rmX4_accept rmX10_readFrom 4 := ⟨rfl, rfl, by decide, by decide⟩
theorem zrX10_readFrom_X4_clear : zRm rmX4_clear rmX10_readFrom 1 := ⟨rfl, rfl, by decide, by decide⟩
theorem zrX10_readFrom_X4_isWhole : zRm rmX4_isWhole rmX10_readFrom 2 := ⟨rfl, rfl, by decide, by decide⟩
set_option maxHeartbeats 1000000 in
set_option maxRecDepth 100000 in
theorem c_X10_readFrom_X4 (B : zB) (I : zM) (J : zJ) (hJ : zJok J) (p0 : Nat) (k0 : zKW[p0]? = some (.inr 4)) (r : Int32) (I' : zM) (hf : f_X10_readFrom_X4 J p0 I = some (r, I')) : zCi B zKW I J yX10_readFrom wsX10_readFrom rmX10_readFrom [.ref (za B p0), .ref (za B 16)] (fun r2 I2 J2 => r2 = r ∧ I2 = I' ∧ J2 = J) := by
  refine z_start (own := RX10) (cc := cX10_readFrom) (nL := 4) (ret := (some .int)) rfl (by decide) rfl (Nat.le_of_ble_eq_true rfl) (L := [(0, .ref (za B p0)), (1, .ref (za B 16))]) rfl (fun G h hr => ?_)
  rw [f_X10_readFrom_X4] at hf
  refine z_aload_n h 0 dX10_readFrom_0 rfl (rfl : 0 + 1 = 1) ?_
  obtain ⟨q1, e2, hf⟩ := zbind hf
  refine z_goFv (z_runU (C := RX4) (T := TX4) (N := 2) (ci := 4) h [] [] zyX4_clear (c_X4_clear B I J hJ p0 k0 _ e2) gX10_readFrom_X4_clear_u9X4 (List.mem_of_getElem? (i := 22) rfl) ⟨rfl, by decide, by decide⟩ k0 rfl zrX10_readFrom_X4_clear rfl (Nat.le_of_ble_eq_true rfl) ⟨Nat.zero_le _, Nat.zero_le _⟩ rfl dX10_readFrom_1) rfl ?_
  refine z_iconst h 0 dX10_readFrom_4 (by decide) (rfl : 4 + 1 = 5) ?_
  refine z_istore_n h [(2, .int 0), (0, .ref (za B p0)), (1, .ref (za B 16))] dX10_readFrom_5 (by decide) rfl (rfl : 5 + 1 = 6) ?_
  refine z_iconst h 0 dX10_readFrom_6 (by decide) (rfl : 6 + 1 = 7) ?_
  refine z_istore_n h [(3, .int 0), (2, .int 0), (0, .ref (za B p0)), (1, .ref (za B 16))] dX10_readFrom_7 (by decide) rfl (rfl : 7 + 1 = 8) ?_
  have loop_8_4 : ∀ (n : Nat) (x2_8 : Int32) (x3_8 : Int32) (I8 : zM) (q : (Int32 × zM) ⊕ (Int32 × Int32 × zM)), f_X10_readFrom_X4_8 J p0 n x2_8 x3_8 I8 = some q → (∀ a, q = .inl a → a = (r, I')) → (∀ a : Int32 × Int32 × zM, q = .inr a → Z B G zKW (a.2.2) (J) (0, 0) 48 [(0, .ref (za B p0)), (1, .ref (za B 16)), (2, .int a.1), (3, .int a.2.1)] []) → Z B G zKW I8 J (0, 0) 8 [(0, .ref (za B p0)), (1, .ref (za B 16)), (2, .int x2_8), (3, .int x3_8)] [] := by
    intro n; induction n with
    | zero => intro x2_8 x3_8 I8 q hf; exact absurd hf (by rw [f_X10_readFrom_X4_8]; exact fun z => by cases z)
    | succ n ih =>
      intro x2_8 x3_8 I8 q hf hP hE; rw [f_X10_readFrom_X4_8] at hf
      refine z_iload_n h 3 dX10_readFrom_8 rfl (rfl : 8 + 1 = 9) ?_
      refine z_aload_n h 1 dX10_readFrom_9 rfl (rfl : 9 + 1 = 10) ?_
      refine z_get (ci := 9) (C := RX9) (T := TX9) (N := 2) h 1 rfl rfl (fun _ hq => List.mem_cons_of_mem _ (List.mem_append_left _ (List.mem_append_left _ (List.mem_append_left _ (List.mem_append_right _ hq))))) (by decide) (List.mem_of_getElem? (i := 1) rfl) rfl dX10_readFrom_10 (rfl : 10 + 3 = 13) ?_
      refine z_icmp_ge (pc' := 16) h 48 dX10_readFrom_13 (by decide) rfl (fun c5 => ?_) (fun c5 => ?_)
      · have hf := zitt c5 hf
        exact hE (x2_8, x3_8, I8) (zsome hf).symm
      · have hf := zitf c5 hf
        refine z_iload_n h 3 dX10_readFrom_16 rfl (rfl : 16 + 1 = 17) ?_
        refine z_bipush h 24 dX10_readFrom_17 (by decide) (rfl : 17 + 2 = 19) ?_
        refine z_icmp_ge (pc' := 22) h 48 dX10_readFrom_19 (by decide) rfl (fun c6 => ?_) (fun c6 => ?_)
        · have hf := zitt c6 hf
          exact hE (x2_8, x3_8, I8) (zsome hf).symm
        · have hf := zitf c6 hf
          refine z_aload_n h 0 dX10_readFrom_22 rfl (rfl : 22 + 1 = 23) ?_
          refine z_iload_n h 2 dX10_readFrom_23 rfl (rfl : 23 + 1 = 24) ?_
          refine z_aload_n h 1 dX10_readFrom_24 rfl (rfl : 24 + 1 = 25) ?_
          refine z_getr (ci := 9) (C := RX9) (T := TX9) (N := 2) h 0 17 ((hJ.1 16 0 (by decide)).trans rfl) rfl rfl (fun _ hq => List.mem_cons_of_mem _ (List.mem_append_left _ (List.mem_append_left _ (List.mem_append_left _ (List.mem_append_right _ hq))))) (by decide) (List.mem_of_getElem? (i := 2) rfl) rfl dX10_readFrom_25 (rfl : 25 + 3 = 28) ?_
          refine z_iload_n h 3 dX10_readFrom_28 rfl (rfl : 28 + 1 = 29) ?_
          obtain ⟨b7, hf⟩ := zchk hf
          refine z_cald h rfl b7 dX10_readFrom_29 (rfl : 29 + 1 = 30) ?_
          obtain ⟨q8, e9, hf⟩ := zbind hf
          refine z_goF (z_runU (C := RX4) (T := TX4) (N := 2) (ci := 4) h [.int x2_8, .int (I8 17 (Int32.toNatClampNeg x3_8))] [] zyX4_accept (c_X4_accept B I8 J hJ p0 k0 x2_8 (I8 17 (Int32.toNatClampNeg x3_8)) _ _ e9) gX10_readFrom_X4_accept_u24X4 (List.mem_of_getElem? (i := 23) rfl) ⟨rfl, by decide, by decide⟩ k0 rfl zrX10_readFrom_X4_accept rfl (Nat.le_of_ble_eq_true rfl) ⟨Nat.zero_le _, Nat.zero_le _⟩ rfl dX10_readFrom_30) rfl ?_
          refine z_istore_n h [(2, .int q8.1), (0, .ref (za B p0)), (1, .ref (za B 16)), (3, .int x3_8)] dX10_readFrom_33 (by decide) rfl (rfl : 33 + 1 = 34) ?_
          refine z_iload_n h 0 dX10_readFrom_34 rfl (rfl : 34 + 1 = 35) ?_
          refine z_bipush h (-9) dX10_readFrom_35 (by decide) (rfl : 35 + 2 = 37) ?_
          refine z_icmp_ne (pc' := 40) h 42 dX10_readFrom_37 (by decide) rfl (fun c10 => ?_) (fun c10 => ?_)
          · have hf := zitf c10 hf
            refine z_iinc h 3 (x3_8 + 1) [(3, .int (x3_8 + 1)), (2, .int q8.1), (0, .ref (za B p0)), (1, .ref (za B 16))] dX10_readFrom_42 rfl rfl (by decide) rfl (rfl : 42 + 3 = 45) ?_
            refine z_goto (pc' := 8) h dX10_readFrom_45 (by decide) ?_
            refine z_sub (L' := [(0, .ref (za B p0)), (1, .ref (za B 16)), (2, .int q8.1), (3, .int (x3_8 + 1))]) [2, 3, 1, 0] rfl ?_
            exact ih q8.1 (x3_8 + 1) q8.2 _ hf hP hE
          · have hf := zitt c10 hf
            refine z_iload_n h 3 dX10_readFrom_40 rfl (rfl : 40 + 1 = 41) ?_
            refine z_iret h hr dX10_readFrom_41 ?_
            exact ⟨congrArg Prod.fst (hP _ (zsome hf).symm), congrArg Prod.snd (hP _ (zsome hf).symm), rfl⟩
  refine z_sub (L' := [(0, .ref (za B p0)), (1, .ref (za B 16)), (2, .int 0), (3, .int 0)]) [2, 3, 1, 0] rfl ?_
  obtain ⟨q3, e4, hf⟩ := zbind hf
  refine loop_8_4 _ 0 0 q1 q3 e4 (fun a ha => ?_) (fun a11 ha  => ?_)
  · have hf := zell ha hf
    exact zsome hf
  have hf := zelr ha hf
  clear ha loop_8_4
  refine z_aload_n h 0 dX10_readFrom_48 rfl (rfl : 48 + 1 = 49) ?_
  refine z_iload_n h 2 dX10_readFrom_49 rfl (rfl : 49 + 1 = 50) ?_
  obtain ⟨q12, e13, hf⟩ := zbind hf
  refine z_goF (z_runU (C := RX4) (T := TX4) (N := 2) (ci := 4) h [.int a11.1] [] zyX4_isWhole (c_X4_isWhole B a11.2.2 J hJ p0 k0 a11.1 _ _ e13) gX10_readFrom_X4_isWhole_u28X4 (List.mem_of_getElem? (i := 24) rfl) ⟨rfl, by decide, by decide⟩ k0 rfl zrX10_readFrom_X4_isWhole rfl (Nat.le_of_ble_eq_true rfl) ⟨Nat.zero_le _, Nat.zero_le _⟩ rfl dX10_readFrom_50) rfl ?_
  refine z_if_eq (pc' := 56) h 61 dX10_readFrom_53 (by decide) rfl (fun c14 => ?_) (fun c14 => ?_)
  · have hf := zitt c14 hf
    refine z_aload_n h 1 dX10_readFrom_61 rfl (rfl : 61 + 1 = 62) ?_
    refine z_get (ci := 9) (C := RX9) (T := TX9) (N := 2) h 1 rfl rfl (fun _ hq => List.mem_cons_of_mem _ (List.mem_append_left _ (List.mem_append_left _ (List.mem_append_left _ (List.mem_append_right _ hq))))) (by decide) (List.mem_of_getElem? (i := 1) rfl) rfl dX10_readFrom_62 (rfl : 62 + 3 = 65) ?_
    refine z_iret h hr dX10_readFrom_65 ?_
    exact ⟨congrArg Prod.fst (zsome hf), congrArg Prod.snd (zsome hf), rfl⟩
  · have hf := zitf c14 hf
    refine z_bipush h (-9) dX10_readFrom_56 (by decide) (rfl : 56 + 2 = 58) ?_
    refine z_goto (pc' := 65) h dX10_readFrom_58 (by decide) ?_
    refine z_iret h hr dX10_readFrom_65 ?_
    exact ⟨congrArg Prod.fst (zsome hf), congrArg Prod.snd (zsome hf), rfl⟩
noncomputable def f_X10_readFrom_X6_8 (J : zJ) (r0 : Nat) : Nat → Int32 → Int32 → zM → Option ((Int32 × zM) ⊕ (Int32 × Int32 × zM))
  | 0, _, _, _ => none
  | n + 1, x2_8, x3_8, I8 => (if I8 16 1 ≤ x3_8 then some (.inr (x2_8, x3_8, I8)) else (if 24 ≤ x3_8 then some (.inr (x2_8, x3_8, I8)) else (if zin x3_8 24 = true then ((f_X6_accept J r0 x2_8 (I8 17 (Int32.toNatClampNeg x3_8)) I8).bind fun q6 => (if q6.1 = (-9) then some (.inl ((x3_8, q6.2))) else f_X10_readFrom_X6_8 J r0 n q6.1 (x3_8 + 1) q6.2)) else none)))
noncomputable def f_X10_readFrom_X6 (J : zJ) (p0 : Nat) (I : zM) : Option (Int32 × zM) := ((f_X6_clear J p0 I).bind fun q1 => ((f_X10_readFrom_X6_8 J p0 zF 0 0 q1).bind fun q => Sum.elim (fun a => some a) (fun a5 => ((f_X6_isWhole J p0 a5.1 a5.2.2).bind fun q6 => (if q6.1 = 0 then some ((q6.2 16 1, q6.2)) else some (((-9), q6.2))))) q))
theorem zrX10_readFrom_X6_accept : zRm rmX6_accept rmX10_readFrom 3 := ⟨rfl, rfl, by decide, by decide⟩
theorem zrX10_readFrom_X6_clear : zRm rmX6_clear rmX10_readFrom 1 := ⟨rfl, rfl, by decide, by decide⟩
theorem zrX10_readFrom_X6_isWhole : zRm rmX6_isWhole rmX10_readFrom 2 := ⟨rfl, rfl, by decide, by decide⟩
set_option maxHeartbeats 1000000 in
set_option maxRecDepth 100000 in
theorem c_X10_readFrom_X6 (B : zB) (I : zM) (J : zJ) (hJ : zJok J) (p0 : Nat) (k0 : zKW[p0]? = some (.inr 6)) (r : Int32) (I' : zM) (hf : f_X10_readFrom_X6 J p0 I = some (r, I')) : zCi B zKW I J yX10_readFrom wsX10_readFrom rmX10_readFrom [.ref (za B p0), .ref (za B 16)] (fun r2 I2 J2 => r2 = r ∧ I2 = I' ∧ J2 = J) := by
  refine z_start (own := RX10) (cc := cX10_readFrom) (nL := 4) (ret := (some .int)) rfl (by decide) rfl (Nat.le_of_ble_eq_true rfl) (L := [(0, .ref (za B p0)), (1, .ref (za B 16))]) rfl (fun G h hr => ?_)
  rw [f_X10_readFrom_X6] at hf
  refine z_aload_n h 0 dX10_readFrom_0 rfl (rfl : 0 + 1 = 1) ?_
  obtain ⟨q1, e2, hf⟩ := zbind hf
  refine z_goFv (z_runU (C := RX6) (T := TX6) (N := 6) (ci := 6) h [] [] zyX6_clear (c_X6_clear B I J hJ p0 k0 _ e2) gX10_readFrom_X6_clear_u9X6 (List.mem_of_getElem? (i := 22) rfl) ⟨rfl, by decide, by decide⟩ k0 rfl zrX10_readFrom_X6_clear rfl (Nat.le_of_ble_eq_true rfl) ⟨Nat.zero_le _, Nat.zero_le _⟩ rfl dX10_readFrom_1) rfl ?_
  refine z_iconst h 0 dX10_readFrom_4 (by decide) (rfl : 4 + 1 = 5) ?_
  refine z_istore_n h [(2, .int 0), (0, .ref (za B p0)), (1, .ref (za B 16))] dX10_readFrom_5 (by decide) rfl (rfl : 5 + 1 = 6) ?_
  refine z_iconst h 0 dX10_readFrom_6 (by decide) (rfl : 6 + 1 = 7) ?_
  refine z_istore_n h [(3, .int 0), (2, .int 0), (0, .ref (za B p0)), (1, .ref (za B 16))] dX10_readFrom_7 (by decide) rfl (rfl : 7 + 1 = 8) ?_
  have loop_8_4 : ∀ (n : Nat) (x2_8 : Int32) (x3_8 : Int32) (I8 : zM) (q : (Int32 × zM) ⊕ (Int32 × Int32 × zM)), f_X10_readFrom_X6_8 J p0 n x2_8 x3_8 I8 = some q → (∀ a, q = .inl a → a = (r, I')) → (∀ a : Int32 × Int32 × zM, q = .inr a → Z B G zKW (a.2.2) (J) (0, 0) 48 [(0, .ref (za B p0)), (1, .ref (za B 16)), (2, .int a.1), (3, .int a.2.1)] []) → Z B G zKW I8 J (0, 0) 8 [(0, .ref (za B p0)), (1, .ref (za B 16)), (2, .int x2_8), (3, .int x3_8)] [] := by
    intro n; induction n with
    | zero => intro x2_8 x3_8 I8 q hf; exact absurd hf (by rw [f_X10_readFrom_X6_8]; exact fun z => by cases z)
    | succ n ih =>
      intro x2_8 x3_8 I8 q hf hP hE; rw [f_X10_readFrom_X6_8] at hf
      refine z_iload_n h 3 dX10_readFrom_8 rfl (rfl : 8 + 1 = 9) ?_
      refine z_aload_n h 1 dX10_readFrom_9 rfl (rfl : 9 + 1 = 10) ?_
      refine z_get (ci := 9) (C := RX9) (T := TX9) (N := 2) h 1 rfl rfl (fun _ hq => List.mem_cons_of_mem _ (List.mem_append_left _ (List.mem_append_left _ (List.mem_append_left _ (List.mem_append_right _ hq))))) (by decide) (List.mem_of_getElem? (i := 1) rfl) rfl dX10_readFrom_10 (rfl : 10 + 3 = 13) ?_
      refine z_icmp_ge (pc' := 16) h 48 dX10_readFrom_13 (by decide) rfl (fun c5 => ?_) (fun c5 => ?_)
      · have hf := zitt c5 hf
        exact hE (x2_8, x3_8, I8) (zsome hf).symm
      · have hf := zitf c5 hf
        refine z_iload_n h 3 dX10_readFrom_16 rfl (rfl : 16 + 1 = 17) ?_
        refine z_bipush h 24 dX10_readFrom_17 (by decide) (rfl : 17 + 2 = 19) ?_
        refine z_icmp_ge (pc' := 22) h 48 dX10_readFrom_19 (by decide) rfl (fun c6 => ?_) (fun c6 => ?_)
        · have hf := zitt c6 hf
          exact hE (x2_8, x3_8, I8) (zsome hf).symm
        · have hf := zitf c6 hf
          refine z_aload_n h 0 dX10_readFrom_22 rfl (rfl : 22 + 1 = 23) ?_
          refine z_iload_n h 2 dX10_readFrom_23 rfl (rfl : 23 + 1 = 24) ?_
          refine z_aload_n h 1 dX10_readFrom_24 rfl (rfl : 24 + 1 = 25) ?_
          refine z_getr (ci := 9) (C := RX9) (T := TX9) (N := 2) h 0 17 ((hJ.1 16 0 (by decide)).trans rfl) rfl rfl (fun _ hq => List.mem_cons_of_mem _ (List.mem_append_left _ (List.mem_append_left _ (List.mem_append_left _ (List.mem_append_right _ hq))))) (by decide) (List.mem_of_getElem? (i := 2) rfl) rfl dX10_readFrom_25 (rfl : 25 + 3 = 28) ?_
          refine z_iload_n h 3 dX10_readFrom_28 rfl (rfl : 28 + 1 = 29) ?_
          obtain ⟨b7, hf⟩ := zchk hf
          refine z_cald h rfl b7 dX10_readFrom_29 (rfl : 29 + 1 = 30) ?_
          obtain ⟨q8, e9, hf⟩ := zbind hf
          refine z_goF (z_runU (C := RX6) (T := TX6) (N := 6) (ci := 6) h [.int x2_8, .int (I8 17 (Int32.toNatClampNeg x3_8))] [] zyX6_accept (c_X6_accept B I8 J hJ p0 k0 x2_8 (I8 17 (Int32.toNatClampNeg x3_8)) _ _ e9) gX10_readFrom_X6_accept_u24X6 (List.mem_of_getElem? (i := 23) rfl) ⟨rfl, by decide, by decide⟩ k0 rfl zrX10_readFrom_X6_accept rfl (Nat.le_of_ble_eq_true rfl) ⟨Nat.zero_le _, Nat.zero_le _⟩ rfl dX10_readFrom_30) rfl ?_
          refine z_istore_n h [(2, .int q8.1), (0, .ref (za B p0)), (1, .ref (za B 16)), (3, .int x3_8)] dX10_readFrom_33 (by decide) rfl (rfl : 33 + 1 = 34) ?_
          refine z_iload_n h 0 dX10_readFrom_34 rfl (rfl : 34 + 1 = 35) ?_
          refine z_bipush h (-9) dX10_readFrom_35 (by decide) (rfl : 35 + 2 = 37) ?_
          refine z_icmp_ne (pc' := 40) h 42 dX10_readFrom_37 (by decide) rfl (fun c10 => ?_) (fun c10 => ?_)
          · have hf := zitf c10 hf
            refine z_iinc h 3 (x3_8 + 1) [(3, .int (x3_8 + 1)), (2, .int q8.1), (0, .ref (za B p0)), (1, .ref (za B 16))] dX10_readFrom_42 rfl rfl (by decide) rfl (rfl : 42 + 3 = 45) ?_
            refine z_goto (pc' := 8) h dX10_readFrom_45 (by decide) ?_
            refine z_sub (L' := [(0, .ref (za B p0)), (1, .ref (za B 16)), (2, .int q8.1), (3, .int (x3_8 + 1))]) [2, 3, 1, 0] rfl ?_
            exact ih q8.1 (x3_8 + 1) q8.2 _ hf hP hE
          · have hf := zitt c10 hf
            refine z_iload_n h 3 dX10_readFrom_40 rfl (rfl : 40 + 1 = 41) ?_
            refine z_iret h hr dX10_readFrom_41 ?_
            exact ⟨congrArg Prod.fst (hP _ (zsome hf).symm), congrArg Prod.snd (hP _ (zsome hf).symm), rfl⟩
  refine z_sub (L' := [(0, .ref (za B p0)), (1, .ref (za B 16)), (2, .int 0), (3, .int 0)]) [2, 3, 1, 0] rfl ?_
  obtain ⟨q3, e4, hf⟩ := zbind hf
  refine loop_8_4 _ 0 0 q1 q3 e4 (fun a ha => ?_) (fun a11 ha  => ?_)
  · have hf := zell ha hf
    exact zsome hf
  have hf := zelr ha hf
  clear ha loop_8_4
  refine z_aload_n h 0 dX10_readFrom_48 rfl (rfl : 48 + 1 = 49) ?_
  refine z_iload_n h 2 dX10_readFrom_49 rfl (rfl : 49 + 1 = 50) ?_
  obtain ⟨q12, e13, hf⟩ := zbind hf
  refine z_goF (z_runU (C := RX6) (T := TX6) (N := 6) (ci := 6) h [.int a11.1] [] zyX6_isWhole (c_X6_isWhole B a11.2.2 J hJ p0 k0 a11.1 _ _ e13) gX10_readFrom_X6_isWhole_u28X6 (List.mem_of_getElem? (i := 24) rfl) ⟨rfl, by decide, by decide⟩ k0 rfl zrX10_readFrom_X6_isWhole rfl (Nat.le_of_ble_eq_true rfl) ⟨Nat.zero_le _, Nat.zero_le _⟩ rfl dX10_readFrom_50) rfl ?_
  refine z_if_eq (pc' := 56) h 61 dX10_readFrom_53 (by decide) rfl (fun c14 => ?_) (fun c14 => ?_)
  · have hf := zitt c14 hf
    refine z_aload_n h 1 dX10_readFrom_61 rfl (rfl : 61 + 1 = 62) ?_
    refine z_get (ci := 9) (C := RX9) (T := TX9) (N := 2) h 1 rfl rfl (fun _ hq => List.mem_cons_of_mem _ (List.mem_append_left _ (List.mem_append_left _ (List.mem_append_left _ (List.mem_append_right _ hq))))) (by decide) (List.mem_of_getElem? (i := 1) rfl) rfl dX10_readFrom_62 (rfl : 62 + 3 = 65) ?_
    refine z_iret h hr dX10_readFrom_65 ?_
    exact ⟨congrArg Prod.fst (zsome hf), congrArg Prod.snd (zsome hf), rfl⟩
  · have hf := zitf c14 hf
    refine z_bipush h (-9) dX10_readFrom_56 (by decide) (rfl : 56 + 2 = 58) ?_
    refine z_goto (pc' := 65) h dX10_readFrom_58 (by decide) ?_
    refine z_iret h hr dX10_readFrom_65 ?_
    exact ⟨congrArg Prod.fst (zsome hf), congrArg Prod.snd (zsome hf), rfl⟩
noncomputable def f_X10_readFrom_X8_8 (J : zJ) (r0 : Nat) : Nat → Int32 → Int32 → zM → Option ((Int32 × zM) ⊕ (Int32 × Int32 × zM))
  | 0, _, _, _ => none
  | n + 1, x2_8, x3_8, I8 => (if I8 16 1 ≤ x3_8 then some (.inr (x2_8, x3_8, I8)) else (if 24 ≤ x3_8 then some (.inr (x2_8, x3_8, I8)) else (if zin x3_8 24 = true then ((f_X8_accept J r0 x2_8 (I8 17 (Int32.toNatClampNeg x3_8)) I8).bind fun q6 => (if q6.1 = (-9) then some (.inl ((x3_8, q6.2))) else f_X10_readFrom_X8_8 J r0 n q6.1 (x3_8 + 1) q6.2)) else none)))
noncomputable def f_X10_readFrom_X8 (J : zJ) (p0 : Nat) (I : zM) : Option (Int32 × zM) := ((f_X8_clear J p0 I).bind fun q1 => ((f_X10_readFrom_X8_8 J p0 zF 0 0 q1).bind fun q => Sum.elim (fun a => some a) (fun a5 => ((f_X8_isWhole J p0 a5.1 a5.2.2).bind fun q6 => (if q6.1 = 0 then some ((q6.2 16 1, q6.2)) else some (((-9), q6.2))))) q))
theorem zrX10_readFrom_X8_accept : zRm rmX8_accept rmX10_readFrom 3 := ⟨rfl, rfl, by decide, by decide⟩
theorem zrX10_readFrom_X8_clear : zRm rmX8_clear rmX10_readFrom 2 := ⟨rfl, rfl, by decide, by decide⟩
theorem zrX10_readFrom_X8_isWhole : zRm rmX8_isWhole rmX10_readFrom 2 := ⟨rfl, rfl, by decide, by decide⟩
set_option maxHeartbeats 1000000 in
set_option maxRecDepth 100000 in
theorem c_X10_readFrom_X8 (B : zB) (I : zM) (J : zJ) (hJ : zJok J) (p0 : Nat) (k0 : zKW[p0]? = some (.inr 8)) (r : Int32) (I' : zM) (hf : f_X10_readFrom_X8 J p0 I = some (r, I')) : zCi B zKW I J yX10_readFrom wsX10_readFrom rmX10_readFrom [.ref (za B p0), .ref (za B 16)] (fun r2 I2 J2 => r2 = r ∧ I2 = I' ∧ J2 = J) := by
  refine z_start (own := RX10) (cc := cX10_readFrom) (nL := 4) (ret := (some .int)) rfl (by decide) rfl (Nat.le_of_ble_eq_true rfl) (L := [(0, .ref (za B p0)), (1, .ref (za B 16))]) rfl (fun G h hr => ?_)
  rw [f_X10_readFrom_X8] at hf
  refine z_aload_n h 0 dX10_readFrom_0 rfl (rfl : 0 + 1 = 1) ?_
  obtain ⟨q1, e2, hf⟩ := zbind hf
  refine z_goFv (z_runU (C := RX8) (T := TX8) (N := 3) (ci := 8) h [] [] zyX8_clear (c_X8_clear B I J hJ p0 k0 _ e2) gX10_readFrom_X8_clear_u9X8 (List.mem_of_getElem? (i := 22) rfl) ⟨rfl, by decide, by decide⟩ k0 rfl zrX10_readFrom_X8_clear rfl (Nat.le_of_ble_eq_true rfl) ⟨Nat.zero_le _, Nat.zero_le _⟩ rfl dX10_readFrom_1) rfl ?_
  refine z_iconst h 0 dX10_readFrom_4 (by decide) (rfl : 4 + 1 = 5) ?_
  refine z_istore_n h [(2, .int 0), (0, .ref (za B p0)), (1, .ref (za B 16))] dX10_readFrom_5 (by decide) rfl (rfl : 5 + 1 = 6) ?_
  refine z_iconst h 0 dX10_readFrom_6 (by decide) (rfl : 6 + 1 = 7) ?_
  refine z_istore_n h [(3, .int 0), (2, .int 0), (0, .ref (za B p0)), (1, .ref (za B 16))] dX10_readFrom_7 (by decide) rfl (rfl : 7 + 1 = 8) ?_
  have loop_8_4 : ∀ (n : Nat) (x2_8 : Int32) (x3_8 : Int32) (I8 : zM) (q : (Int32 × zM) ⊕ (Int32 × Int32 × zM)), f_X10_readFrom_X8_8 J p0 n x2_8 x3_8 I8 = some q → (∀ a, q = .inl a → a = (r, I')) → (∀ a : Int32 × Int32 × zM, q = .inr a → Z B G zKW (a.2.2) (J) (0, 0) 48 [(0, .ref (za B p0)), (1, .ref (za B 16)), (2, .int a.1), (3, .int a.2.1)] []) → Z B G zKW I8 J (0, 0) 8 [(0, .ref (za B p0)), (1, .ref (za B 16)), (2, .int x2_8), (3, .int x3_8)] [] := by
    intro n; induction n with
    | zero => intro x2_8 x3_8 I8 q hf; exact absurd hf (by rw [f_X10_readFrom_X8_8]; exact fun z => by cases z)
    | succ n ih =>
      intro x2_8 x3_8 I8 q hf hP hE; rw [f_X10_readFrom_X8_8] at hf
      refine z_iload_n h 3 dX10_readFrom_8 rfl (rfl : 8 + 1 = 9) ?_
      refine z_aload_n h 1 dX10_readFrom_9 rfl (rfl : 9 + 1 = 10) ?_
      refine z_get (ci := 9) (C := RX9) (T := TX9) (N := 2) h 1 rfl rfl (fun _ hq => List.mem_cons_of_mem _ (List.mem_append_left _ (List.mem_append_left _ (List.mem_append_left _ (List.mem_append_right _ hq))))) (by decide) (List.mem_of_getElem? (i := 1) rfl) rfl dX10_readFrom_10 (rfl : 10 + 3 = 13) ?_
      refine z_icmp_ge (pc' := 16) h 48 dX10_readFrom_13 (by decide) rfl (fun c5 => ?_) (fun c5 => ?_)
      · have hf := zitt c5 hf
        exact hE (x2_8, x3_8, I8) (zsome hf).symm
      · have hf := zitf c5 hf
        refine z_iload_n h 3 dX10_readFrom_16 rfl (rfl : 16 + 1 = 17) ?_
        refine z_bipush h 24 dX10_readFrom_17 (by decide) (rfl : 17 + 2 = 19) ?_
        refine z_icmp_ge (pc' := 22) h 48 dX10_readFrom_19 (by decide) rfl (fun c6 => ?_) (fun c6 => ?_)
        · have hf := zitt c6 hf
          exact hE (x2_8, x3_8, I8) (zsome hf).symm
        · have hf := zitf c6 hf
          refine z_aload_n h 0 dX10_readFrom_22 rfl (rfl : 22 + 1 = 23) ?_
          refine z_iload_n h 2 dX10_readFrom_23 rfl (rfl : 23 + 1 = 24) ?_
          refine z_aload_n h 1 dX10_readFrom_24 rfl (rfl : 24 + 1 = 25) ?_
          refine z_getr (ci := 9) (C := RX9) (T := TX9) (N := 2) h 0 17 ((hJ.1 16 0 (by decide)).trans rfl) rfl rfl (fun _ hq => List.mem_cons_of_mem _ (List.mem_append_left _ (List.mem_append_left _ (List.mem_append_left _ (List.mem_append_right _ hq))))) (by decide) (List.mem_of_getElem? (i := 2) rfl) rfl dX10_readFrom_25 (rfl : 25 + 3 = 28) ?_
          refine z_iload_n h 3 dX10_readFrom_28 rfl (rfl : 28 + 1 = 29) ?_
          obtain ⟨b7, hf⟩ := zchk hf
          refine z_cald h rfl b7 dX10_readFrom_29 (rfl : 29 + 1 = 30) ?_
          obtain ⟨q8, e9, hf⟩ := zbind hf
          refine z_goF (z_runU (C := RX8) (T := TX8) (N := 3) (ci := 8) h [.int x2_8, .int (I8 17 (Int32.toNatClampNeg x3_8))] [] zyX8_accept (c_X8_accept B I8 J hJ p0 k0 x2_8 (I8 17 (Int32.toNatClampNeg x3_8)) _ _ e9) gX10_readFrom_X8_accept_u24X8 (List.mem_of_getElem? (i := 23) rfl) ⟨rfl, by decide, by decide⟩ k0 rfl zrX10_readFrom_X8_accept rfl (Nat.le_of_ble_eq_true rfl) ⟨Nat.zero_le _, Nat.zero_le _⟩ rfl dX10_readFrom_30) rfl ?_
          refine z_istore_n h [(2, .int q8.1), (0, .ref (za B p0)), (1, .ref (za B 16)), (3, .int x3_8)] dX10_readFrom_33 (by decide) rfl (rfl : 33 + 1 = 34) ?_
          refine z_iload_n h 0 dX10_readFrom_34 rfl (rfl : 34 + 1 = 35) ?_
          refine z_bipush h (-9) dX10_readFrom_35 (by decide) (rfl : 35 + 2 = 37) ?_
          refine z_icmp_ne (pc' := 40) h 42 dX10_readFrom_37 (by decide) rfl (fun c10 => ?_) (fun c10 => ?_)
          · have hf := zitf c10 hf
            refine z_iinc h 3 (x3_8 + 1) [(3, .int (x3_8 + 1)), (2, .int q8.1), (0, .ref (za B p0)), (1, .ref (za B 16))] dX10_readFrom_42 rfl rfl (by decide) rfl (rfl : 42 + 3 = 45) ?_
            refine z_goto (pc' := 8) h dX10_readFrom_45 (by decide) ?_
            refine z_sub (L' := [(0, .ref (za B p0)), (1, .ref (za B 16)), (2, .int q8.1), (3, .int (x3_8 + 1))]) [2, 3, 1, 0] rfl ?_
            exact ih q8.1 (x3_8 + 1) q8.2 _ hf hP hE
          · have hf := zitt c10 hf
            refine z_iload_n h 3 dX10_readFrom_40 rfl (rfl : 40 + 1 = 41) ?_
            refine z_iret h hr dX10_readFrom_41 ?_
            exact ⟨congrArg Prod.fst (hP _ (zsome hf).symm), congrArg Prod.snd (hP _ (zsome hf).symm), rfl⟩
  refine z_sub (L' := [(0, .ref (za B p0)), (1, .ref (za B 16)), (2, .int 0), (3, .int 0)]) [2, 3, 1, 0] rfl ?_
  obtain ⟨q3, e4, hf⟩ := zbind hf
  refine loop_8_4 _ 0 0 q1 q3 e4 (fun a ha => ?_) (fun a11 ha  => ?_)
  · have hf := zell ha hf
    exact zsome hf
  have hf := zelr ha hf
  clear ha loop_8_4
  refine z_aload_n h 0 dX10_readFrom_48 rfl (rfl : 48 + 1 = 49) ?_
  refine z_iload_n h 2 dX10_readFrom_49 rfl (rfl : 49 + 1 = 50) ?_
  obtain ⟨q12, e13, hf⟩ := zbind hf
  refine z_goF (z_runU (C := RX8) (T := TX8) (N := 3) (ci := 8) h [.int a11.1] [] zyX8_isWhole (c_X8_isWhole B a11.2.2 J hJ p0 k0 a11.1 _ _ e13) gX10_readFrom_X8_isWhole_u28X8 (List.mem_of_getElem? (i := 24) rfl) ⟨rfl, by decide, by decide⟩ k0 rfl zrX10_readFrom_X8_isWhole rfl (Nat.le_of_ble_eq_true rfl) ⟨Nat.zero_le _, Nat.zero_le _⟩ rfl dX10_readFrom_50) rfl ?_
  refine z_if_eq (pc' := 56) h 61 dX10_readFrom_53 (by decide) rfl (fun c14 => ?_) (fun c14 => ?_)
  · have hf := zitt c14 hf
    refine z_aload_n h 1 dX10_readFrom_61 rfl (rfl : 61 + 1 = 62) ?_
    refine z_get (ci := 9) (C := RX9) (T := TX9) (N := 2) h 1 rfl rfl (fun _ hq => List.mem_cons_of_mem _ (List.mem_append_left _ (List.mem_append_left _ (List.mem_append_left _ (List.mem_append_right _ hq))))) (by decide) (List.mem_of_getElem? (i := 1) rfl) rfl dX10_readFrom_62 (rfl : 62 + 3 = 65) ?_
    refine z_iret h hr dX10_readFrom_65 ?_
    exact ⟨congrArg Prod.fst (zsome hf), congrArg Prod.snd (zsome hf), rfl⟩
  · have hf := zitf c14 hf
    refine z_bipush h (-9) dX10_readFrom_56 (by decide) (rfl : 56 + 2 = 58) ?_
    refine z_goto (pc' := 65) h dX10_readFrom_58 (by decide) ?_
    refine z_iret h hr dX10_readFrom_65 ?_
    exact ⟨congrArg Prod.fst (zsome hf), congrArg Prod.snd (zsome hf), rfl⟩
noncomputable def f_X11_fault (J : zJ) (v1 : Int32) (I : zM) : Option (Int32 × zM) := (if v1 = 0 then ((f_X7_spare J  I).bind fun q2 => ((f_X10_readFrom_X6 J q2.1 q2.2).bind fun q4 => some ((q4.1, q4.2)))) else (if v1 = 1 then ((f_X10_readFrom_X4 J 35 I).bind fun q7 => some ((q7.1, q7.2))) else (if v1 = 2 then ((f_X10_readFrom_X8 J 37 I).bind fun q10 => some ((q10.1, q10.2))) else some (((-1), I)))))
noncomputable abbrev rmX11_fault : Room := { frames := 10, cells := 0, slots := 0, locals := 226 }
theorem zyX11_fault : zY yX11_fault wsX11_fault cX11_fault 2 (some .int) 1 := ⟨⟨_, rfl⟩, by decide +kernel⟩
theorem zrX11_fault_X10_readFrom : zRm rmX10_readFrom rmX11_fault 4 := ⟨rfl, rfl, by decide, by decide⟩
theorem zrX11_fault_X7_spare : zRm rmX7_spare rmX11_fault 1 := ⟨rfl, rfl, by decide, by decide⟩
set_option maxHeartbeats 1000000 in
set_option maxRecDepth 100000 in
theorem c_X11_fault (B : zB) (I : zM) (J : zJ) (hJ : zJok J) (v1 : Int32) (r : Int32) (I' : zM) (hf : f_X11_fault J v1 I = some (r, I')) : zCi B zKW I J yX11_fault wsX11_fault rmX11_fault [.ref (za B 0), .int v1] (fun r2 I2 J2 => r2 = r ∧ I2 = I' ∧ J2 = J) := by
  refine z_start (own := RX11) (cc := cX11_fault) (nL := 2) (ret := (some .int)) rfl (by decide) rfl (Nat.le_of_ble_eq_true rfl) (L := [(0, .ref (za B 0)), (1, .int v1)]) rfl (fun G h hr => ?_)
  rw [f_X11_fault] at hf
  refine z_iload_n h 1 dX11_fault_0 rfl (rfl : 0 + 1 = 1) ?_
  by_cases c1 : v1 = 0
  · have hf := zitt c1 hf
    refine z_tabIn h 28 dX11_fault_1 (by rw [c1]; decide) (by rw [c1]; decide) (by rw [c1]; rfl) (by decide) ?_
    refine z_aload_n h 0 dX11_fault_28 rfl (rfl : 28 + 1 = 29) ?_
    refine z_getr (ci := 10) (C := RX11) (T := TX11) (N := 13) h 6 18 ((hJ.1 0 6 (by decide)).trans rfl) rfl rfl (fun _ hq => List.mem_cons_of_mem _ (List.mem_append_left _ (List.mem_append_left _ (List.mem_append_left _ (List.mem_append_left _ (List.mem_append_left _ (List.mem_append_right _ hq))))))) (by decide) (List.mem_of_getElem? (i := 1) rfl) rfl dX11_fault_29 (rfl : 29 + 3 = 32) ?_
    obtain ⟨q2, e3, hf⟩ := zbind hf
    refine z_goFr (z_runV (C := RX7) (T := TX7) (N := 2) (ci := 7) h [] [] zyX7_spare (c_X7_spare B I J hJ  _ _ e3) gX11_fault_X7_spare rfl rfl rfl zrX11_fault_X7_spare rfl (Nat.le_of_ble_eq_true rfl) ⟨Nat.zero_le _, Nat.zero_le _⟩ rfl dX11_fault_32) rfl ?_
    refine z_aload_n h 0 dX11_fault_35 rfl (rfl : 35 + 1 = 36) ?_
    refine z_getr (ci := 10) (C := RX11) (T := TX11) (N := 13) h 5 16 ((hJ.1 0 5 (by decide)).trans rfl) rfl rfl (fun _ hq => List.mem_cons_of_mem _ (List.mem_append_left _ (List.mem_append_left _ (List.mem_append_left _ (List.mem_append_left _ (List.mem_append_left _ (List.mem_append_right _ hq))))))) (by decide) (List.mem_of_getElem? (i := 2) rfl) rfl dX11_fault_36 (rfl : 36 + 3 = 39) ?_
    obtain ⟨q4, e5, hf⟩ := zbind hf
    refine z_goF (z_runU (C := RX6) (T := TX6) (N := 6) (ci := 6) h [.ref (za B 16)] [] zyX10_readFrom (c_X10_readFrom_X6 B q2.2 J hJ q2.1 (k_X7_spare hJ e3) _ _ e5) gX11_fault_X10_readFrom_u171X6 (List.mem_of_getElem? (i := 21) rfl) ⟨rfl, by decide, by decide⟩ (k_X7_spare hJ e3) rfl zrX11_fault_X10_readFrom rfl (Nat.le_of_ble_eq_true rfl) ⟨Nat.zero_le _, Nat.zero_le _⟩ rfl dX11_fault_39) rfl ?_
    refine z_iret h hr dX11_fault_42 ?_
    exact ⟨congrArg Prod.fst (zsome hf), congrArg Prod.snd (zsome hf), rfl⟩
  have hf := zitf c1 hf
  by_cases c6 : v1 = 1
  · have hf := zitt c6 hf
    refine z_tabIn h 43 dX11_fault_1 (by rw [c6]; decide) (by rw [c6]; decide) (by rw [c6]; rfl) (by decide) ?_
    refine z_aload_n h 0 dX11_fault_43 rfl (rfl : 43 + 1 = 44) ?_
    refine z_getr (ci := 10) (C := RX11) (T := TX11) (N := 13) h 10 35 ((hJ.1 0 10 (by decide)).trans rfl) rfl rfl (fun _ hq => List.mem_cons_of_mem _ (List.mem_append_left _ (List.mem_append_left _ (List.mem_append_left _ (List.mem_append_left _ (List.mem_append_left _ (List.mem_append_right _ hq))))))) (by decide) (List.mem_of_getElem? (i := 3) rfl) rfl dX11_fault_44 (rfl : 44 + 3 = 47) ?_
    refine z_aload_n h 0 dX11_fault_47 rfl (rfl : 47 + 1 = 48) ?_
    refine z_getr (ci := 10) (C := RX11) (T := TX11) (N := 13) h 5 16 ((hJ.1 0 5 (by decide)).trans rfl) rfl rfl (fun _ hq => List.mem_cons_of_mem _ (List.mem_append_left _ (List.mem_append_left _ (List.mem_append_left _ (List.mem_append_left _ (List.mem_append_left _ (List.mem_append_right _ hq))))))) (by decide) (List.mem_of_getElem? (i := 2) rfl) rfl dX11_fault_48 (rfl : 48 + 3 = 51) ?_
    obtain ⟨q7, e8, hf⟩ := zbind hf
    refine z_goF (z_runU (C := RX4) (T := TX4) (N := 2) (ci := 4) h [.ref (za B 16)] [] zyX10_readFrom (c_X10_readFrom_X4 B I J hJ 35 rfl _ _ e8) gX11_fault_X10_readFrom_u177X4 (List.mem_of_getElem? (i := 21) rfl) ⟨rfl, by decide, by decide⟩ rfl rfl zrX11_fault_X10_readFrom rfl (Nat.le_of_ble_eq_true rfl) ⟨Nat.zero_le _, Nat.zero_le _⟩ rfl dX11_fault_51) rfl ?_
    refine z_iret h hr dX11_fault_54 ?_
    exact ⟨congrArg Prod.fst (zsome hf), congrArg Prod.snd (zsome hf), rfl⟩
  have hf := zitf c6 hf
  by_cases c9 : v1 = 2
  · have hf := zitt c9 hf
    refine z_tabIn h 55 dX11_fault_1 (by rw [c9]; decide) (by rw [c9]; decide) (by rw [c9]; rfl) (by decide) ?_
    refine z_aload_n h 0 dX11_fault_55 rfl (rfl : 55 + 1 = 56) ?_
    refine z_getr (ci := 10) (C := RX11) (T := TX11) (N := 13) h 11 37 ((hJ.1 0 11 (by decide)).trans rfl) rfl rfl (fun _ hq => List.mem_cons_of_mem _ (List.mem_append_left _ (List.mem_append_left _ (List.mem_append_left _ (List.mem_append_left _ (List.mem_append_left _ (List.mem_append_right _ hq))))))) (by decide) (List.mem_of_getElem? (i := 4) rfl) rfl dX11_fault_56 (rfl : 56 + 3 = 59) ?_
    refine z_aload_n h 0 dX11_fault_59 rfl (rfl : 59 + 1 = 60) ?_
    refine z_getr (ci := 10) (C := RX11) (T := TX11) (N := 13) h 5 16 ((hJ.1 0 5 (by decide)).trans rfl) rfl rfl (fun _ hq => List.mem_cons_of_mem _ (List.mem_append_left _ (List.mem_append_left _ (List.mem_append_left _ (List.mem_append_left _ (List.mem_append_left _ (List.mem_append_right _ hq))))))) (by decide) (List.mem_of_getElem? (i := 2) rfl) rfl dX11_fault_60 (rfl : 60 + 3 = 63) ?_
    obtain ⟨q10, e11, hf⟩ := zbind hf
    refine z_goF (z_runU (C := RX8) (T := TX8) (N := 3) (ci := 8) h [.ref (za B 16)] [] zyX10_readFrom (c_X10_readFrom_X8 B I J hJ 37 rfl _ _ e11) gX11_fault_X10_readFrom_u178X8 (List.mem_of_getElem? (i := 21) rfl) ⟨rfl, by decide, by decide⟩ rfl rfl zrX11_fault_X10_readFrom rfl (Nat.le_of_ble_eq_true rfl) ⟨Nat.zero_le _, Nat.zero_le _⟩ rfl dX11_fault_63) rfl ?_
    refine z_iret h hr dX11_fault_66 ?_
    exact ⟨congrArg Prod.fst (zsome hf), congrArg Prod.snd (zsome hf), rfl⟩
  have hf := zitf c9 hf
  refine z_tabOut h 67 dX11_fault_1 (zt_3 c1 c6 c9) (by decide) ?_
  refine z_iconst h (-1) dX11_fault_67 (by decide) (rfl : 67 + 1 = 68) ?_
  refine z_iret h hr dX11_fault_68 ?_
  exact ⟨congrArg Prod.fst (zsome hf), congrArg Prod.snd (zsome hf), rfl⟩
noncomputable def f_X11_rule (J : zJ)  (I : zM) : Option (Int32 × zM) := ((f_X7_spare J  I).bind fun q1 => ((f_X10_readFrom_X6 J q1.1 q1.2).bind fun q3 => (if q3.1 = (-9) then (if q3.2 18 1 < 12 then some ((((zu q3.2 18 1 ((q3.2 18 1) + (1 : Int32))) 18 1) - (1 : Int32), zu q3.2 18 1 ((q3.2 18 1) + (1 : Int32)))) else some (((-4), q3.2))) else some (((-3), q3.2)))))
noncomputable abbrev rmX11_rule : Room := { frames := 10, cells := 0, slots := 0, locals := 226 }
theorem zyX11_rule : zY yX11_rule wsX11_rule cX11_rule 1 (some .int) 0 := ⟨⟨_, rfl⟩, by decide +kernel⟩
theorem zrX11_rule_X10_readFrom : zRm rmX10_readFrom rmX11_rule 4 := ⟨rfl, rfl, by decide, by decide⟩
theorem zrX11_rule_X7_spare : zRm rmX7_spare rmX11_rule 1 := ⟨rfl, rfl, by decide, by decide⟩
set_option maxHeartbeats 1000000 in
set_option maxRecDepth 100000 in
theorem c_X11_rule (B : zB) (I : zM) (J : zJ) (hJ : zJok J)  (r : Int32) (I' : zM) (hf : f_X11_rule J  I = some (r, I')) : zCi B zKW I J yX11_rule wsX11_rule rmX11_rule [.ref (za B 0)] (fun r2 I2 J2 => r2 = r ∧ I2 = I' ∧ J2 = J) := by
  refine z_start (own := RX11) (cc := cX11_rule) (nL := 1) (ret := (some .int)) rfl (by decide) rfl (Nat.le_of_ble_eq_true rfl) (L := [(0, .ref (za B 0))]) rfl (fun G h hr => ?_)
  rw [f_X11_rule] at hf
  refine z_aload_n h 0 dX11_rule_0 rfl (rfl : 0 + 1 = 1) ?_
  refine z_getr (ci := 10) (C := RX11) (T := TX11) (N := 13) h 6 18 ((hJ.1 0 6 (by decide)).trans rfl) rfl rfl (fun _ hq => List.mem_cons_of_mem _ (List.mem_append_left _ (List.mem_append_left _ (List.mem_append_left _ (List.mem_append_left _ (List.mem_append_left _ (List.mem_append_right _ hq))))))) (by decide) (List.mem_of_getElem? (i := 1) rfl) rfl dX11_rule_1 (rfl : 1 + 3 = 4) ?_
  obtain ⟨q1, e2, hf⟩ := zbind hf
  refine z_goFr (z_runV (C := RX7) (T := TX7) (N := 2) (ci := 7) h [] [] zyX7_spare (c_X7_spare B I J hJ  _ _ e2) gX11_rule_X7_spare rfl rfl rfl zrX11_rule_X7_spare rfl (Nat.le_of_ble_eq_true rfl) ⟨Nat.zero_le _, Nat.zero_le _⟩ rfl dX11_rule_4) rfl ?_
  refine z_aload_n h 0 dX11_rule_7 rfl (rfl : 7 + 1 = 8) ?_
  refine z_getr (ci := 10) (C := RX11) (T := TX11) (N := 13) h 5 16 ((hJ.1 0 5 (by decide)).trans rfl) rfl rfl (fun _ hq => List.mem_cons_of_mem _ (List.mem_append_left _ (List.mem_append_left _ (List.mem_append_left _ (List.mem_append_left _ (List.mem_append_left _ (List.mem_append_right _ hq))))))) (by decide) (List.mem_of_getElem? (i := 2) rfl) rfl dX11_rule_8 (rfl : 8 + 3 = 11) ?_
  obtain ⟨q3, e4, hf⟩ := zbind hf
  refine z_goF (z_runU (C := RX6) (T := TX6) (N := 6) (ci := 6) h [.ref (za B 16)] [] zyX10_readFrom (c_X10_readFrom_X6 B q1.2 J hJ q1.1 (k_X7_spare hJ e2) _ _ e4) gX11_rule_X10_readFrom_u171X6 (List.mem_of_getElem? (i := 21) rfl) ⟨rfl, by decide, by decide⟩ (k_X7_spare hJ e2) rfl zrX11_rule_X10_readFrom rfl (Nat.le_of_ble_eq_true rfl) ⟨Nat.zero_le _, Nat.zero_le _⟩ rfl dX11_rule_11) rfl ?_
  refine z_bipush h (-9) dX11_rule_14 (by decide) (rfl : 14 + 2 = 16) ?_
  refine z_icmp_eq (pc' := 19) h 22 dX11_rule_16 (by decide) rfl (fun c5 => ?_) (fun c5 => ?_)
  · have hf := zitt c5 hf
    refine z_aload_n h 0 dX11_rule_22 rfl (rfl : 22 + 1 = 23) ?_
    refine z_getr (ci := 10) (C := RX11) (T := TX11) (N := 13) h 6 18 ((hJ.1 0 6 (by decide)).trans rfl) rfl rfl (fun _ hq => List.mem_cons_of_mem _ (List.mem_append_left _ (List.mem_append_left _ (List.mem_append_left _ (List.mem_append_left _ (List.mem_append_left _ (List.mem_append_right _ hq))))))) (by decide) (List.mem_of_getElem? (i := 1) rfl) rfl dX11_rule_23 (rfl : 23 + 3 = 26) ?_
    refine z_get (ci := 7) (C := RX7) (T := TX7) (N := 2) h 1 rfl rfl (fun _ hq => List.mem_cons_of_mem _ (List.mem_append_left _ (List.mem_append_left _ (List.mem_append_left _ (List.mem_append_left _ (List.mem_append_right _ hq)))))) (by decide) (List.mem_of_getElem? (i := 3) rfl) rfl dX11_rule_26 (rfl : 26 + 3 = 29) ?_
    refine z_bipush h 12 dX11_rule_29 (by decide) (rfl : 29 + 2 = 31) ?_
    refine z_icmp_lt (pc' := 34) h 37 dX11_rule_31 (by decide) rfl (fun c6 => ?_) (fun c6 => ?_)
    · have hf := zitt c6 hf
      refine z_aload_n h 0 dX11_rule_37 rfl (rfl : 37 + 1 = 38) ?_
      refine z_getr (ci := 10) (C := RX11) (T := TX11) (N := 13) h 6 18 ((hJ.1 0 6 (by decide)).trans rfl) rfl rfl (fun _ hq => List.mem_cons_of_mem _ (List.mem_append_left _ (List.mem_append_left _ (List.mem_append_left _ (List.mem_append_left _ (List.mem_append_left _ (List.mem_append_right _ hq))))))) (by decide) (List.mem_of_getElem? (i := 1) rfl) rfl dX11_rule_38 (rfl : 38 + 3 = 41) ?_
      refine z_dup h rfl dX11_rule_41 (rfl : 41 + 1 = 42) ?_
      refine z_get (ci := 7) (C := RX7) (T := TX7) (N := 2) h 1 rfl rfl (fun _ hq => List.mem_cons_of_mem _ (List.mem_append_left _ (List.mem_append_left _ (List.mem_append_left _ (List.mem_append_left _ (List.mem_append_right _ hq)))))) (by decide) (List.mem_of_getElem? (i := 3) rfl) rfl dX11_rule_42 (rfl : 42 + 3 = 45) ?_
      refine z_iconst h 1 dX11_rule_45 (by decide) (rfl : 45 + 1 = 46) ?_
      refine z_iadd h dX11_rule_46 (rfl : 46 + 1 = 47) ?_
      refine z_put (ci := 7) (C := RX7) (T := TX7) (N := 2) h 1 tyX7 tyX7_ok nmX7 rfl rfl (fun _ hq => List.mem_cons_of_mem _ (List.mem_append_left _ (List.mem_append_left _ (List.mem_append_left _ (List.mem_append_left _ (List.mem_append_right _ hq)))))) (by decide) (List.mem_of_getElem? (i := 3) rfl) rfl rfl rfl dX11_rule_47 (rfl : 47 + 3 = 50) ?_
      refine z_aload_n h 0 dX11_rule_50 rfl (rfl : 50 + 1 = 51) ?_
      refine z_getr (ci := 10) (C := RX11) (T := TX11) (N := 13) h 6 18 ((hJ.1 0 6 (by decide)).trans rfl) rfl rfl (fun _ hq => List.mem_cons_of_mem _ (List.mem_append_left _ (List.mem_append_left _ (List.mem_append_left _ (List.mem_append_left _ (List.mem_append_left _ (List.mem_append_right _ hq))))))) (by decide) (List.mem_of_getElem? (i := 1) rfl) rfl dX11_rule_51 (rfl : 51 + 3 = 54) ?_
      refine z_get (ci := 7) (C := RX7) (T := TX7) (N := 2) h 1 rfl rfl (fun _ hq => List.mem_cons_of_mem _ (List.mem_append_left _ (List.mem_append_left _ (List.mem_append_left _ (List.mem_append_left _ (List.mem_append_right _ hq)))))) (by decide) (List.mem_of_getElem? (i := 3) rfl) rfl dX11_rule_54 (rfl : 54 + 3 = 57) ?_
      refine z_iconst h 1 dX11_rule_57 (by decide) (rfl : 57 + 1 = 58) ?_
      refine z_isub h dX11_rule_58 (rfl : 58 + 1 = 59) ?_
      refine z_iret h hr dX11_rule_59 ?_
      exact ⟨congrArg Prod.fst (zsome hf), congrArg Prod.snd (zsome hf), rfl⟩
    · have hf := zitf c6 hf
      refine z_bipush h (-4) dX11_rule_34 (by decide) (rfl : 34 + 2 = 36) ?_
      refine z_iret h hr dX11_rule_36 ?_
      exact ⟨congrArg Prod.fst (zsome hf), congrArg Prod.snd (zsome hf), rfl⟩
  · have hf := zitf c5 hf
    refine z_bipush h (-3) dX11_rule_19 (by decide) (rfl : 19 + 2 = 21) ?_
    refine z_iret h hr dX11_rule_21 ?_
    exact ⟨congrArg Prod.fst (zsome hf), congrArg Prod.snd (zsome hf), rfl⟩
noncomputable def f_X11_order (J : zJ) (v1 : Int32) (I : zM) : Option (Int32 × zM) := ((f_X11_isOrder J v1 I).bind fun q1 => (if q1.1 = 0 then some (((-1), q1.2)) else ((f_X10_readFrom_X4 J 35 q1.2).bind fun q4 => (if q4.1 = (-9) then (if zin v1 4 = true then ((f_X4_copy J (zR 33 (Int32.toNatClampNeg v1)) 35 q4.2).bind fun q8 => some ((q8 35 1, q8))) else none) else some (((-3), q4.2))))))
noncomputable abbrev rmX11_order : Room := { frames := 10, cells := 0, slots := 0, locals := 226 }
theorem zyX11_order : zY yX11_order wsX11_order cX11_order 2 (some .int) 1 := ⟨⟨_, rfl⟩, by decide +kernel⟩
theorem zrX11_order_X10_readFrom : zRm rmX10_readFrom rmX11_order 4 := ⟨rfl, rfl, by decide, by decide⟩
theorem zrX11_order_X11_isOrder : zRm rmX11_isOrder rmX11_order 1 := ⟨rfl, rfl, by decide, by decide⟩
theorem zrX11_order_X4_copy : zRm rmX4_copy rmX11_order 2 := ⟨rfl, rfl, by decide, by decide⟩
set_option maxHeartbeats 1000000 in
set_option maxRecDepth 100000 in
theorem c_X11_order (B : zB) (I : zM) (J : zJ) (hJ : zJok J) (v1 : Int32) (r : Int32) (I' : zM) (hf : f_X11_order J v1 I = some (r, I')) : zCi B zKW I J yX11_order wsX11_order rmX11_order [.ref (za B 0), .int v1] (fun r2 I2 J2 => r2 = r ∧ I2 = I' ∧ J2 = J) := by
  refine z_start (own := RX11) (cc := cX11_order) (nL := 2) (ret := (some .int)) rfl (by decide) rfl (Nat.le_of_ble_eq_true rfl) (L := [(0, .ref (za B 0)), (1, .int v1)]) rfl (fun G h hr => ?_)
  rw [f_X11_order] at hf
  refine z_iload_n h 1 dX11_order_0 rfl (rfl : 0 + 1 = 1) ?_
  obtain ⟨q1, e2, hf⟩ := zbind hf
  refine z_goF (z_runS h [.int v1] [] zyX11_isOrder (c_X11_isOrder B I J hJ v1 _ _ e2) gX11_order_X11_isOrder zrX11_order_X11_isOrder rfl (Nat.le_of_ble_eq_true rfl) ⟨Nat.zero_le _, Nat.zero_le _⟩ rfl dX11_order_1) rfl ?_
  refine z_if_ne (pc' := 7) h 9 dX11_order_4 (by decide) rfl (fun c3 => ?_) (fun c3 => ?_)
  · have hf := zitf c3 hf
    refine z_aload_n h 0 dX11_order_9 rfl (rfl : 9 + 1 = 10) ?_
    refine z_getr (ci := 10) (C := RX11) (T := TX11) (N := 13) h 10 35 ((hJ.1 0 10 (by decide)).trans rfl) rfl rfl (fun _ hq => List.mem_cons_of_mem _ (List.mem_append_left _ (List.mem_append_left _ (List.mem_append_left _ (List.mem_append_left _ (List.mem_append_right _ hq)))))) (by decide) (List.mem_of_getElem? (i := 1) rfl) rfl dX11_order_10 (rfl : 10 + 3 = 13) ?_
    refine z_aload_n h 0 dX11_order_13 rfl (rfl : 13 + 1 = 14) ?_
    refine z_getr (ci := 10) (C := RX11) (T := TX11) (N := 13) h 5 16 ((hJ.1 0 5 (by decide)).trans rfl) rfl rfl (fun _ hq => List.mem_cons_of_mem _ (List.mem_append_left _ (List.mem_append_left _ (List.mem_append_left _ (List.mem_append_left _ (List.mem_append_right _ hq)))))) (by decide) (List.mem_of_getElem? (i := 2) rfl) rfl dX11_order_14 (rfl : 14 + 3 = 17) ?_
    obtain ⟨q4, e5, hf⟩ := zbind hf
    refine z_goF (z_runU (C := RX4) (T := TX4) (N := 2) (ci := 4) h [.ref (za B 16)] [] zyX10_readFrom (c_X10_readFrom_X4 B q1.2 J hJ 35 rfl _ _ e5) gX11_order_X10_readFrom_u177X4 (List.mem_of_getElem? (i := 21) rfl) ⟨rfl, by decide, by decide⟩ rfl rfl zrX11_order_X10_readFrom rfl (Nat.le_of_ble_eq_true rfl) ⟨Nat.zero_le _, Nat.zero_le _⟩ rfl dX11_order_17) rfl ?_
    refine z_bipush h (-9) dX11_order_20 (by decide) (rfl : 20 + 2 = 22) ?_
    refine z_icmp_eq (pc' := 25) h 28 dX11_order_22 (by decide) rfl (fun c6 => ?_) (fun c6 => ?_)
    · have hf := zitt c6 hf
      refine z_aload_n h 0 dX11_order_28 rfl (rfl : 28 + 1 = 29) ?_
      refine z_getr (ci := 10) (C := RX11) (T := TX11) (N := 13) h 7 33 ((hJ.1 0 7 (by decide)).trans rfl) rfl rfl (fun _ hq => List.mem_cons_of_mem _ (List.mem_append_left _ (List.mem_append_left _ (List.mem_append_left _ (List.mem_append_left _ (List.mem_append_right _ hq)))))) (by decide) (List.mem_of_getElem? (i := 3) rfl) rfl dX11_order_29 (rfl : 29 + 3 = 32) ?_
      refine z_iload_n h 1 dX11_order_32 rfl (rfl : 32 + 1 = 33) ?_
      obtain ⟨b7, hf⟩ := zchk hf
      refine z_aldq h (zR 33 (Int32.toNatClampNeg v1)) (ze_6 hJ rfl (zin_lt b7)).1 rfl (by decide) rfl b7 dX11_order_33 (rfl : 33 + 1 = 34) ?_
      refine z_aload_n h 0 dX11_order_34 rfl (rfl : 34 + 1 = 35) ?_
      refine z_getr (ci := 10) (C := RX11) (T := TX11) (N := 13) h 10 35 ((hJ.1 0 10 (by decide)).trans rfl) rfl rfl (fun _ hq => List.mem_cons_of_mem _ (List.mem_append_left _ (List.mem_append_left _ (List.mem_append_left _ (List.mem_append_left _ (List.mem_append_right _ hq)))))) (by decide) (List.mem_of_getElem? (i := 1) rfl) rfl dX11_order_35 (rfl : 35 + 3 = 38) ?_
      obtain ⟨q8, e9, hf⟩ := zbind hf
      refine z_goFv (z_runV (C := RX4) (T := TX4) (N := 2) (ci := 4) h [.ref (za B 35)] [] zyX4_copy (c_X4_copy B q4.2 J hJ (zR 33 (Int32.toNatClampNeg v1)) ((ze_6 hJ rfl (zin_lt b7)).2) 35 rfl _ e9) gX11_order_X4_copy rfl (ze_6 hJ rfl (zin_lt b7)).2 rfl zrX11_order_X4_copy rfl (Nat.le_of_ble_eq_true rfl) ⟨Nat.zero_le _, Nat.zero_le _⟩ rfl dX11_order_38) rfl ?_
      refine z_aload_n h 0 dX11_order_41 rfl (rfl : 41 + 1 = 42) ?_
      refine z_getr (ci := 10) (C := RX11) (T := TX11) (N := 13) h 10 35 ((hJ.1 0 10 (by decide)).trans rfl) rfl rfl (fun _ hq => List.mem_cons_of_mem _ (List.mem_append_left _ (List.mem_append_left _ (List.mem_append_left _ (List.mem_append_left _ (List.mem_append_right _ hq)))))) (by decide) (List.mem_of_getElem? (i := 1) rfl) rfl dX11_order_42 (rfl : 42 + 3 = 45) ?_
      refine z_get (ci := 4) (C := RX4) (T := TX4) (N := 2) h 1 rfl rfl (fun _ hq => List.mem_cons_of_mem _ (List.mem_append_left _ (List.mem_append_left _ (List.mem_append_left _ (List.mem_append_right _ hq))))) (by decide) (List.mem_of_getElem? (i := 4) rfl) rfl dX11_order_45 (rfl : 45 + 3 = 48) ?_
      refine z_iret h hr dX11_order_48 ?_
      exact ⟨congrArg Prod.fst (zsome hf), congrArg Prod.snd (zsome hf), rfl⟩
    · have hf := zitf c6 hf
      refine z_bipush h (-3) dX11_order_25 (by decide) (rfl : 25 + 2 = 27) ?_
      refine z_iret h hr dX11_order_27 ?_
      exact ⟨congrArg Prod.fst (zsome hf), congrArg Prod.snd (zsome hf), rfl⟩
  · have hf := zitt c3 hf
    refine z_iconst h (-1) dX11_order_7 (by decide) (rfl : 7 + 1 = 8) ?_
    refine z_iret h hr dX11_order_8 ?_
    exact ⟨congrArg Prod.fst (zsome hf), congrArg Prod.snd (zsome hf), rfl⟩
noncomputable def f_X11_bargain (J : zJ) (v1 : Int32) (v2 : Int32) (v3 : Int32) (I : zM) : Option (Int32 × zM) := ((f_X11_isPerson J v1 I).bind fun q1 => (if q1.1 = 0 then some (((-1), q1.2)) else ((f_X11_isPerson J v2 q1.2).bind fun q4 => (if q4.1 = 0 then some (((-1), q4.2)) else ((f_X11_isTrade J v3 q4.2).bind fun q7 => (if q7.1 = 0 then some (((-1), q7.2)) else (if v1 = v2 then some (((-2), q7.2)) else ((f_X10_readFrom_X8 J 37 q7.2).bind fun q11 => (if q11.1 = (-9) then (if q11.2 0 9 < 8 then (if zin (q11.2 0 9) 8 = true then ((f_X0_strike J (zR 34 (Int32.toNatClampNeg (q11.2 0 9))) v1 v2 v3 37 q11.2).bind fun q16 => some ((((zu q16 0 9 ((q16 0 9) + (1 : Int32))) 0 9) - (1 : Int32), zu q16 0 9 ((q16 0 9) + (1 : Int32))))) else none) else some (((-4), q11.2))) else some (((-3), q11.2)))))))))))
noncomputable abbrev rmX11_bargain : Room := { frames := 10, cells := 0, slots := 0, locals := 226 }
theorem zyX11_bargain : zY yX11_bargain wsX11_bargain cX11_bargain 4 (some .int) 3 := ⟨⟨_, rfl⟩, by decide +kernel⟩
theorem zrX11_bargain_X0_strike : zRm rmX0_strike rmX11_bargain 5 := ⟨rfl, rfl, by decide, by decide⟩
theorem zrX11_bargain_X10_readFrom : zRm rmX10_readFrom rmX11_bargain 4 := ⟨rfl, rfl, by decide, by decide⟩
theorem zrX11_bargain_X11_isPerson : zRm rmX11_isPerson rmX11_bargain 1 := ⟨rfl, rfl, by decide, by decide⟩
theorem zrX11_bargain_X11_isTrade : zRm rmX11_isTrade rmX11_bargain 1 := ⟨rfl, rfl, by decide, by decide⟩
set_option maxHeartbeats 1000000 in
set_option maxRecDepth 100000 in
theorem c_X11_bargain (B : zB) (I : zM) (J : zJ) (hJ : zJok J) (v1 : Int32) (v2 : Int32) (v3 : Int32) (r : Int32) (I' : zM) (hf : f_X11_bargain J v1 v2 v3 I = some (r, I')) : zCi B zKW I J yX11_bargain wsX11_bargain rmX11_bargain [.ref (za B 0), .int v1, .int v2, .int v3] (fun r2 I2 J2 => r2 = r ∧ I2 = I' ∧ J2 = J) := by
  refine z_start (own := RX11) (cc := cX11_bargain) (nL := 4) (ret := (some .int)) rfl (by decide) rfl (Nat.le_of_ble_eq_true rfl) (L := [(0, .ref (za B 0)), (1, .int v1), (2, .int v2), (3, .int v3)]) rfl (fun G h hr => ?_)
  rw [f_X11_bargain] at hf
  refine z_iload_n h 1 dX11_bargain_0 rfl (rfl : 0 + 1 = 1) ?_
  obtain ⟨q1, e2, hf⟩ := zbind hf
  refine z_goF (z_runS h [.int v1] [] zyX11_isPerson (c_X11_isPerson B I J hJ v1 _ _ e2) gX11_bargain_X11_isPerson zrX11_bargain_X11_isPerson rfl (Nat.le_of_ble_eq_true rfl) ⟨Nat.zero_le _, Nat.zero_le _⟩ rfl dX11_bargain_1) rfl ?_
  refine z_if_eq (pc' := 7) h 21 dX11_bargain_4 (by decide) rfl (fun c3 => ?_) (fun c3 => ?_)
  · have hf := zitt c3 hf
    refine z_iconst h (-1) dX11_bargain_21 (by decide) (rfl : 21 + 1 = 22) ?_
    refine z_iret h hr dX11_bargain_22 ?_
    exact ⟨congrArg Prod.fst (zsome hf), congrArg Prod.snd (zsome hf), rfl⟩
  · have hf := zitf c3 hf
    refine z_iload_n h 2 dX11_bargain_7 rfl (rfl : 7 + 1 = 8) ?_
    obtain ⟨q4, e5, hf⟩ := zbind hf
    refine z_goF (z_runS h [.int v2] [] zyX11_isPerson (c_X11_isPerson B q1.2 J hJ v2 _ _ e5) gX11_bargain_X11_isPerson zrX11_bargain_X11_isPerson rfl (Nat.le_of_ble_eq_true rfl) ⟨Nat.zero_le _, Nat.zero_le _⟩ rfl dX11_bargain_8) rfl ?_
    refine z_if_eq (pc' := 14) h 21 dX11_bargain_11 (by decide) rfl (fun c6 => ?_) (fun c6 => ?_)
    · have hf := zitt c6 hf
      refine z_iconst h (-1) dX11_bargain_21 (by decide) (rfl : 21 + 1 = 22) ?_
      refine z_iret h hr dX11_bargain_22 ?_
      exact ⟨congrArg Prod.fst (zsome hf), congrArg Prod.snd (zsome hf), rfl⟩
    · have hf := zitf c6 hf
      refine z_iload_n h 3 dX11_bargain_14 rfl (rfl : 14 + 1 = 15) ?_
      obtain ⟨q7, e8, hf⟩ := zbind hf
      refine z_goF (z_runS h [.int v3] [] zyX11_isTrade (c_X11_isTrade B q4.2 J hJ v3 _ _ e8) gX11_bargain_X11_isTrade zrX11_bargain_X11_isTrade rfl (Nat.le_of_ble_eq_true rfl) ⟨Nat.zero_le _, Nat.zero_le _⟩ rfl dX11_bargain_15) rfl ?_
      refine z_if_ne (pc' := 21) h 23 dX11_bargain_18 (by decide) rfl (fun c9 => ?_) (fun c9 => ?_)
      · have hf := zitf c9 hf
        refine z_iload_n h 1 dX11_bargain_23 rfl (rfl : 23 + 1 = 24) ?_
        refine z_iload_n h 2 dX11_bargain_24 rfl (rfl : 24 + 1 = 25) ?_
        refine z_icmp_ne (pc' := 28) h 31 dX11_bargain_25 (by decide) rfl (fun c10 => ?_) (fun c10 => ?_)
        · have hf := zitf c10 hf
          refine z_aload_n h 0 dX11_bargain_31 rfl (rfl : 31 + 1 = 32) ?_
          refine z_getr (ci := 10) (C := RX11) (T := TX11) (N := 13) h 11 37 ((hJ.1 0 11 (by decide)).trans rfl) rfl rfl (fun _ hq => List.mem_cons_of_mem _ (List.mem_append_left _ (List.mem_append_left _ (List.mem_append_left _ (List.mem_append_left _ (List.mem_append_left _ (List.mem_append_right _ hq))))))) (by decide) (List.mem_of_getElem? (i := 1) rfl) rfl dX11_bargain_32 (rfl : 32 + 3 = 35) ?_
          refine z_aload_n h 0 dX11_bargain_35 rfl (rfl : 35 + 1 = 36) ?_
          refine z_getr (ci := 10) (C := RX11) (T := TX11) (N := 13) h 5 16 ((hJ.1 0 5 (by decide)).trans rfl) rfl rfl (fun _ hq => List.mem_cons_of_mem _ (List.mem_append_left _ (List.mem_append_left _ (List.mem_append_left _ (List.mem_append_left _ (List.mem_append_left _ (List.mem_append_right _ hq))))))) (by decide) (List.mem_of_getElem? (i := 2) rfl) rfl dX11_bargain_36 (rfl : 36 + 3 = 39) ?_
          obtain ⟨q11, e12, hf⟩ := zbind hf
          refine z_goF (z_runU (C := RX8) (T := TX8) (N := 3) (ci := 8) h [.ref (za B 16)] [] zyX10_readFrom (c_X10_readFrom_X8 B q7.2 J hJ 37 rfl _ _ e12) gX11_bargain_X10_readFrom_u178X8 (List.mem_of_getElem? (i := 21) rfl) ⟨rfl, by decide, by decide⟩ rfl rfl zrX11_bargain_X10_readFrom rfl (Nat.le_of_ble_eq_true rfl) ⟨Nat.zero_le _, Nat.zero_le _⟩ rfl dX11_bargain_39) rfl ?_
          refine z_bipush h (-9) dX11_bargain_42 (by decide) (rfl : 42 + 2 = 44) ?_
          refine z_icmp_eq (pc' := 47) h 50 dX11_bargain_44 (by decide) rfl (fun c13 => ?_) (fun c13 => ?_)
          · have hf := zitt c13 hf
            refine z_aload_n h 0 dX11_bargain_50 rfl (rfl : 50 + 1 = 51) ?_
            refine z_get (ci := 10) (C := RX11) (T := TX11) (N := 13) h 9 rfl rfl (fun _ hq => List.mem_cons_of_mem _ (List.mem_append_left _ (List.mem_append_left _ (List.mem_append_left _ (List.mem_append_left _ (List.mem_append_left _ (List.mem_append_right _ hq))))))) (by decide) (List.mem_of_getElem? (i := 3) rfl) rfl dX11_bargain_51 (rfl : 51 + 3 = 54) ?_
            refine z_bipush h 8 dX11_bargain_54 (by decide) (rfl : 54 + 2 = 56) ?_
            refine z_icmp_lt (pc' := 59) h 62 dX11_bargain_56 (by decide) rfl (fun c14 => ?_) (fun c14 => ?_)
            · have hf := zitt c14 hf
              refine z_aload_n h 0 dX11_bargain_62 rfl (rfl : 62 + 1 = 63) ?_
              refine z_getr (ci := 10) (C := RX11) (T := TX11) (N := 13) h 8 34 ((hJ.1 0 8 (by decide)).trans rfl) rfl rfl (fun _ hq => List.mem_cons_of_mem _ (List.mem_append_left _ (List.mem_append_left _ (List.mem_append_left _ (List.mem_append_left _ (List.mem_append_left _ (List.mem_append_right _ hq))))))) (by decide) (List.mem_of_getElem? (i := 4) rfl) rfl dX11_bargain_63 (rfl : 63 + 3 = 66) ?_
              refine z_aload_n h 0 dX11_bargain_66 rfl (rfl : 66 + 1 = 67) ?_
              refine z_get (ci := 10) (C := RX11) (T := TX11) (N := 13) h 9 rfl rfl (fun _ hq => List.mem_cons_of_mem _ (List.mem_append_left _ (List.mem_append_left _ (List.mem_append_left _ (List.mem_append_left _ (List.mem_append_left _ (List.mem_append_right _ hq))))))) (by decide) (List.mem_of_getElem? (i := 3) rfl) rfl dX11_bargain_67 (rfl : 67 + 3 = 70) ?_
              obtain ⟨b15, hf⟩ := zchk hf
              refine z_aldq h (zR 34 (Int32.toNatClampNeg (q11.2 0 9))) (ze_3 hJ rfl (zin_lt b15)).1 rfl (by decide) rfl b15 dX11_bargain_70 (rfl : 70 + 1 = 71) ?_
              refine z_iload_n h 1 dX11_bargain_71 rfl (rfl : 71 + 1 = 72) ?_
              refine z_iload_n h 2 dX11_bargain_72 rfl (rfl : 72 + 1 = 73) ?_
              refine z_iload_n h 3 dX11_bargain_73 rfl (rfl : 73 + 1 = 74) ?_
              refine z_aload_n h 0 dX11_bargain_74 rfl (rfl : 74 + 1 = 75) ?_
              refine z_getr (ci := 10) (C := RX11) (T := TX11) (N := 13) h 11 37 ((hJ.1 0 11 (by decide)).trans rfl) rfl rfl (fun _ hq => List.mem_cons_of_mem _ (List.mem_append_left _ (List.mem_append_left _ (List.mem_append_left _ (List.mem_append_left _ (List.mem_append_left _ (List.mem_append_right _ hq))))))) (by decide) (List.mem_of_getElem? (i := 1) rfl) rfl dX11_bargain_75 (rfl : 75 + 3 = 78) ?_
              obtain ⟨q16, e17, hf⟩ := zbind hf
              refine z_goFv (z_runV (C := RX0) (T := TX0) (N := 5) (ci := 0) h [.int v1, .int v2, .int v3, .ref (za B 37)] [] zyX0_strike (c_X0_strike B q11.2 J hJ (zR 34 (Int32.toNatClampNeg (q11.2 0 9))) ((ze_3 hJ rfl (zin_lt b15)).2) v1 v2 v3 37 rfl _ e17) gX11_bargain_X0_strike rfl (ze_3 hJ rfl (zin_lt b15)).2 rfl zrX11_bargain_X0_strike rfl (Nat.le_of_ble_eq_true rfl) ⟨Nat.zero_le _, Nat.zero_le _⟩ rfl dX11_bargain_78) rfl ?_
              refine z_aload_n h 0 dX11_bargain_81 rfl (rfl : 81 + 1 = 82) ?_
              refine z_dup h rfl dX11_bargain_82 (rfl : 82 + 1 = 83) ?_
              refine z_get (ci := 10) (C := RX11) (T := TX11) (N := 13) h 9 rfl rfl (fun _ hq => List.mem_cons_of_mem _ (List.mem_append_left _ (List.mem_append_left _ (List.mem_append_left _ (List.mem_append_left _ (List.mem_append_left _ (List.mem_append_right _ hq))))))) (by decide) (List.mem_of_getElem? (i := 3) rfl) rfl dX11_bargain_83 (rfl : 83 + 3 = 86) ?_
              refine z_iconst h 1 dX11_bargain_86 (by decide) (rfl : 86 + 1 = 87) ?_
              refine z_iadd h dX11_bargain_87 (rfl : 87 + 1 = 88) ?_
              refine z_put (ci := 10) (C := RX11) (T := TX11) (N := 13) h 9 tyX11 tyX11_ok nmX11 rfl rfl (fun _ hq => List.mem_cons_of_mem _ (List.mem_append_left _ (List.mem_append_left _ (List.mem_append_left _ (List.mem_append_left _ (List.mem_append_left _ (List.mem_append_right _ hq))))))) (by decide) (List.mem_of_getElem? (i := 3) rfl) rfl rfl rfl dX11_bargain_88 (rfl : 88 + 3 = 91) ?_
              refine z_aload_n h 0 dX11_bargain_91 rfl (rfl : 91 + 1 = 92) ?_
              refine z_get (ci := 10) (C := RX11) (T := TX11) (N := 13) h 9 rfl rfl (fun _ hq => List.mem_cons_of_mem _ (List.mem_append_left _ (List.mem_append_left _ (List.mem_append_left _ (List.mem_append_left _ (List.mem_append_left _ (List.mem_append_right _ hq))))))) (by decide) (List.mem_of_getElem? (i := 3) rfl) rfl dX11_bargain_92 (rfl : 92 + 3 = 95) ?_
              refine z_iconst h 1 dX11_bargain_95 (by decide) (rfl : 95 + 1 = 96) ?_
              refine z_isub h dX11_bargain_96 (rfl : 96 + 1 = 97) ?_
              refine z_iret h hr dX11_bargain_97 ?_
              exact ⟨congrArg Prod.fst (zsome hf), congrArg Prod.snd (zsome hf), rfl⟩
            · have hf := zitf c14 hf
              refine z_bipush h (-4) dX11_bargain_59 (by decide) (rfl : 59 + 2 = 61) ?_
              refine z_iret h hr dX11_bargain_61 ?_
              exact ⟨congrArg Prod.fst (zsome hf), congrArg Prod.snd (zsome hf), rfl⟩
          · have hf := zitf c13 hf
            refine z_bipush h (-3) dX11_bargain_47 (by decide) (rfl : 47 + 2 = 49) ?_
            refine z_iret h hr dX11_bargain_49 ?_
            exact ⟨congrArg Prod.fst (zsome hf), congrArg Prod.snd (zsome hf), rfl⟩
        · have hf := zitt c10 hf
          refine z_bipush h (-2) dX11_bargain_28 (by decide) (rfl : 28 + 2 = 30) ?_
          refine z_iret h hr dX11_bargain_30 ?_
          exact ⟨congrArg Prod.fst (zsome hf), congrArg Prod.snd (zsome hf), rfl⟩
      · have hf := zitt c9 hf
        refine z_iconst h (-1) dX11_bargain_21 (by decide) (rfl : 21 + 1 = 22) ?_
        refine z_iret h hr dX11_bargain_22 ?_
        exact ⟨congrArg Prod.fst (zsome hf), congrArg Prod.snd (zsome hf), rfl⟩
