noncomputable def f_X12_noSlot (J : zJ) (v0 : Int32) (I : zM) : Option (Int32 × zM) := ((f_X12_in J (Int32.toInt64 v0) 0 1 I).bind fun q1 => (if q1.1 = 0 then some ((1, q1.2)) else some ((0, q1.2))))
noncomputable abbrev rmX12_noSlot : Room := { frames := 1, cells := 0, slots := 0, locals := 25 }
theorem zyX12_noSlot : zY yX12_noSlot wsX12_noSlot cX12_noSlot 1 (some .boolean) 1 := ⟨⟨_, rfl⟩, by decide +kernel⟩
theorem zrX12_noSlot_X12_in : zRm rmX12_in rmX12_noSlot 6 := ⟨rfl, rfl, by decide, by decide⟩
set_option maxHeartbeats 1000000 in
set_option maxRecDepth 100000 in
theorem c_X12_noSlot (B : zB) (I : zM) (J : zJ) (hJ : zJok J) (v0 : Int32) (r : Int32) (I' : zM) (hf : f_X12_noSlot J v0 I = some (r, I')) : zCi B zKW I J yX12_noSlot wsX12_noSlot rmX12_noSlot [.int v0] (fun r2 I2 J2 => r2 = r ∧ I2 = I' ∧ J2 = J) := by
  refine z_start (own := RX12) (cc := cX12_noSlot) (nL := 1) (ret := (some .boolean)) rfl (by decide) rfl (Nat.le_of_ble_eq_true rfl) (L := [(0, .int v0)]) rfl (fun G h hr => ?_)
  rw [f_X12_noSlot] at hf
  refine z_iload_n h 0 dX12_noSlot_0 rfl (rfl : 0 + 1 = 1) ?_
  refine z_i2l h dX12_noSlot_1 (rfl : 1 + 1 = 2) ?_
  refine z_lconst h 0 dX12_noSlot_2 rfl (rfl : 2 + 1 = 3) ?_
  refine z_lconst h 1 dX12_noSlot_3 rfl (rfl : 3 + 1 = 4) ?_
  obtain ⟨q1, e2, hf⟩ := zbind hf
  refine z_goF (z_runS h [.long (Int32.toInt64 v0), .long 0, .long 1] [] zyX12_in (c_X12_in B I J hJ (Int32.toInt64 v0) 0 1 _ _ e2) gX12_noSlot_X12_in zrX12_noSlot_X12_in rfl (Nat.le_of_ble_eq_true rfl) ⟨Nat.zero_le _, Nat.zero_le _⟩ rfl dX12_noSlot_4) rfl ?_
  refine z_if_ne (pc' := 10) h 14 dX12_noSlot_7 (by decide) rfl (fun c3 => ?_) (fun c3 => ?_)
  · have hf := zitf c3 hf
    refine z_iconst h 0 dX12_noSlot_14 (by decide) (rfl : 14 + 1 = 15) ?_
    refine z_zret h hr dX12_noSlot_15 (Or.inl rfl) ?_
    exact ⟨congrArg Prod.fst (zsome hf), congrArg Prod.snd (zsome hf), rfl⟩
  · have hf := zitt c3 hf
    refine z_iconst h 1 dX12_noSlot_10 (by decide) (rfl : 10 + 1 = 11) ?_
    refine z_goto (pc' := 15) h dX12_noSlot_11 (by decide) ?_
    refine z_zret h hr dX12_noSlot_15 (Or.inr rfl) ?_
    exact ⟨congrArg Prod.fst (zsome hf), congrArg Prod.snd (zsome hf), rfl⟩
noncomputable def f_X12_keep (J : zJ) (v1 : Int32) (I : zM) : Option (Int32 × zM) := ((f_X12_noSlot J v1 (zu I 147 0 0)).bind fun q1 => (if q1.1 = 0 then ((f_X12_save J v1 q1.2).bind fun q4 => (if zin v1 3 = true then some (((zu q4 169 (Int32.toNatClampNeg v1) 1) 147 6, zu q4 169 (Int32.toNatClampNeg v1) 1)) else none)) else some (((-1), q1.2))))
noncomputable abbrev rmX12_keep : Room := { frames := 2, cells := 0, slots := 0, locals := 45 }
theorem zyX12_keep : zY yX12_keep wsX12_keep cX12_keep 2 (some .int) 1 := ⟨⟨_, rfl⟩, by decide +kernel⟩
theorem zrX12_keep_X12_noSlot : zRm rmX12_noSlot rmX12_keep 1 := ⟨rfl, rfl, by decide, by decide⟩
theorem zrX12_keep_X12_save : zRm rmX12_save rmX12_keep 3 := ⟨rfl, rfl, by decide, by decide⟩
set_option maxHeartbeats 1000000 in
set_option maxRecDepth 100000 in
theorem c_X12_keep (B : zB) (I : zM) (J : zJ) (hJ : zJok J) (v1 : Int32) (r : Int32) (I' : zM) (hf : f_X12_keep J v1 I = some (r, I')) : zCi B zKW I J yX12_keep wsX12_keep rmX12_keep [.ref (za B 147), .int v1] (fun r2 I2 J2 => r2 = r ∧ I2 = I' ∧ J2 = J) := by
  refine z_start (own := RX12) (cc := cX12_keep) (nL := 2) (ret := (some .int)) rfl (by decide) rfl (Nat.le_of_ble_eq_true rfl) (L := [(0, .ref (za B 147)), (1, .int v1)]) rfl (fun G h hr => ?_)
  rw [f_X12_keep] at hf
  refine z_aload_n h 0 dX12_keep_0 rfl (rfl : 0 + 1 = 1) ?_
  refine z_iconst h 0 dX12_keep_1 (by decide) (rfl : 1 + 1 = 2) ?_
  refine z_put (ci := 11) (C := RX12) (T := TX12) (N := 46) h 0 tyX12 tyX12_ok nmX12 rfl rfl (fun _ hq => List.mem_cons_of_mem _ (List.mem_append_right _ hq)) (by decide) (List.mem_of_getElem? (i := 1) rfl) rfl rfl rfl dX12_keep_2 (rfl : 2 + 3 = 5) ?_
  refine z_iload_n h 1 dX12_keep_5 rfl (rfl : 5 + 1 = 6) ?_
  obtain ⟨q1, e2, hf⟩ := zbind hf
  refine z_goF (z_runS h [.int v1] [] zyX12_noSlot (c_X12_noSlot B (zu I 147 0 0) J hJ v1 _ _ e2) gX12_keep_X12_noSlot zrX12_keep_X12_noSlot rfl (Nat.le_of_ble_eq_true rfl) ⟨Nat.zero_le _, Nat.zero_le _⟩ rfl dX12_keep_6) rfl ?_
  refine z_if_eq (pc' := 12) h 14 dX12_keep_9 (by decide) rfl (fun c3 => ?_) (fun c3 => ?_)
  · have hf := zitt c3 hf
    refine z_aload_n h 0 dX12_keep_14 rfl (rfl : 14 + 1 = 15) ?_
    refine z_iload_n h 1 dX12_keep_15 rfl (rfl : 15 + 1 = 16) ?_
    obtain ⟨q4, e5, hf⟩ := zbind hf
    refine z_goFv (z_runV (C := RX12) (T := TX12) (N := 46) (ci := 11) h [.int v1] [] zyX12_save (c_X12_save B q1.2 J hJ v1 _ e5) gX12_keep_X12_save rfl rfl rfl zrX12_keep_X12_save rfl (Nat.le_of_ble_eq_true rfl) ⟨Nat.zero_le _, Nat.zero_le _⟩ rfl dX12_keep_16) rfl ?_
    refine z_aload_n h 0 dX12_keep_19 rfl (rfl : 19 + 1 = 20) ?_
    refine z_getr (ci := 11) (C := RX12) (T := TX12) (N := 46) h 31 169 ((hJ.1 147 31 (by decide)).trans rfl) rfl rfl (fun _ hq => List.mem_cons_of_mem _ (List.mem_append_right _ hq)) (by decide) (List.mem_of_getElem? (i := 2) rfl) rfl dX12_keep_20 (rfl : 20 + 3 = 23) ?_
    refine z_iload_n h 1 dX12_keep_23 rfl (rfl : 23 + 1 = 24) ?_
    refine z_iconst h 1 dX12_keep_24 (by decide) (rfl : 24 + 1 = 25) ?_
    obtain ⟨b6, hf⟩ := zchk hf
    refine z_zast h b6 rfl rfl dX12_keep_25 (rfl : 25 + 1 = 26) ?_
    refine z_aload_n h 0 dX12_keep_26 rfl (rfl : 26 + 1 = 27) ?_
    refine z_get (ci := 11) (C := RX12) (T := TX12) (N := 46) h 6 rfl rfl (fun _ hq => List.mem_cons_of_mem _ (List.mem_append_right _ hq)) (by decide) (List.mem_of_getElem? (i := 3) rfl) rfl dX12_keep_27 (rfl : 27 + 3 = 30) ?_
    refine z_iret h hr dX12_keep_30 ?_
    exact ⟨congrArg Prod.fst (zsome hf), congrArg Prod.snd (zsome hf), rfl⟩
  · have hf := zitf c3 hf
    refine z_iconst h (-1) dX12_keep_12 (by decide) (rfl : 12 + 1 = 13) ?_
    refine z_iret h hr dX12_keep_13 ?_
    exact ⟨congrArg Prod.fst (zsome hf), congrArg Prod.snd (zsome hf), rfl⟩
noncomputable def f_X12_again (J : zJ) (v1 : Int32) (I : zM) : Option (Int32 × zM) := ((f_X12_noSlot J v1 (zu I 147 0 0)).bind fun q1 => (if q1.1 = 0 then (if zin v1 3 = true then (if q1.2 169 (Int32.toNatClampNeg v1) = 0 then some (((-3), q1.2)) else ((f_X12_load J v1 q1.2).bind fun q6 => some ((q6 147 6, q6)))) else none) else some (((-1), q1.2))))
noncomputable abbrev rmX12_again : Room := { frames := 2, cells := 0, slots := 0, locals := 45 }
theorem zyX12_again : zY yX12_again wsX12_again cX12_again 2 (some .int) 1 := ⟨⟨_, rfl⟩, by decide +kernel⟩
theorem zrX12_again_X12_load : zRm rmX12_load rmX12_again 3 := ⟨rfl, rfl, by decide, by decide⟩
theorem zrX12_again_X12_noSlot : zRm rmX12_noSlot rmX12_again 1 := ⟨rfl, rfl, by decide, by decide⟩
set_option maxHeartbeats 1000000 in
set_option maxRecDepth 100000 in
theorem c_X12_again (B : zB) (I : zM) (J : zJ) (hJ : zJok J) (v1 : Int32) (r : Int32) (I' : zM) (hf : f_X12_again J v1 I = some (r, I')) : zCi B zKW I J yX12_again wsX12_again rmX12_again [.ref (za B 147), .int v1] (fun r2 I2 J2 => r2 = r ∧ I2 = I' ∧ J2 = J) := by
  refine z_start (own := RX12) (cc := cX12_again) (nL := 2) (ret := (some .int)) rfl (by decide) rfl (Nat.le_of_ble_eq_true rfl) (L := [(0, .ref (za B 147)), (1, .int v1)]) rfl (fun G h hr => ?_)
  rw [f_X12_again] at hf
  refine z_aload_n h 0 dX12_again_0 rfl (rfl : 0 + 1 = 1) ?_
  refine z_iconst h 0 dX12_again_1 (by decide) (rfl : 1 + 1 = 2) ?_
  refine z_put (ci := 11) (C := RX12) (T := TX12) (N := 46) h 0 tyX12 tyX12_ok nmX12 rfl rfl (fun _ hq => List.mem_cons_of_mem _ (List.mem_append_right _ hq)) (by decide) (List.mem_of_getElem? (i := 1) rfl) rfl rfl rfl dX12_again_2 (rfl : 2 + 3 = 5) ?_
  refine z_iload_n h 1 dX12_again_5 rfl (rfl : 5 + 1 = 6) ?_
  obtain ⟨q1, e2, hf⟩ := zbind hf
  refine z_goF (z_runS h [.int v1] [] zyX12_noSlot (c_X12_noSlot B (zu I 147 0 0) J hJ v1 _ _ e2) gX12_again_X12_noSlot zrX12_again_X12_noSlot rfl (Nat.le_of_ble_eq_true rfl) ⟨Nat.zero_le _, Nat.zero_le _⟩ rfl dX12_again_6) rfl ?_
  refine z_if_eq (pc' := 12) h 14 dX12_again_9 (by decide) rfl (fun c3 => ?_) (fun c3 => ?_)
  · have hf := zitt c3 hf
    refine z_aload_n h 0 dX12_again_14 rfl (rfl : 14 + 1 = 15) ?_
    refine z_getr (ci := 11) (C := RX12) (T := TX12) (N := 46) h 31 169 ((hJ.1 147 31 (by decide)).trans rfl) rfl rfl (fun _ hq => List.mem_cons_of_mem _ (List.mem_append_right _ hq)) (by decide) (List.mem_of_getElem? (i := 2) rfl) rfl dX12_again_15 (rfl : 15 + 3 = 18) ?_
    refine z_iload_n h 1 dX12_again_18 rfl (rfl : 18 + 1 = 19) ?_
    obtain ⟨b4, hf⟩ := zchk hf
    refine z_zald h rfl b4 dX12_again_19 (rfl : 19 + 1 = 20) ?_
    refine z_if_ne (pc' := 23) h 26 dX12_again_20 (by decide) rfl (fun c5 => ?_) (fun c5 => ?_)
    · have hf := zitf c5 hf
      refine z_aload_n h 0 dX12_again_26 rfl (rfl : 26 + 1 = 27) ?_
      refine z_iload_n h 1 dX12_again_27 rfl (rfl : 27 + 1 = 28) ?_
      obtain ⟨q6, e7, hf⟩ := zbind hf
      refine z_goFv (z_runV (C := RX12) (T := TX12) (N := 46) (ci := 11) h [.int v1] [] zyX12_load (c_X12_load B q1.2 J hJ v1 _ e7) gX12_again_X12_load rfl rfl rfl zrX12_again_X12_load rfl (Nat.le_of_ble_eq_true rfl) ⟨Nat.zero_le _, Nat.zero_le _⟩ rfl dX12_again_28) rfl ?_
      refine z_aload_n h 0 dX12_again_31 rfl (rfl : 31 + 1 = 32) ?_
      refine z_get (ci := 11) (C := RX12) (T := TX12) (N := 46) h 6 rfl rfl (fun _ hq => List.mem_cons_of_mem _ (List.mem_append_right _ hq)) (by decide) (List.mem_of_getElem? (i := 3) rfl) rfl dX12_again_32 (rfl : 32 + 3 = 35) ?_
      refine z_iret h hr dX12_again_35 ?_
      exact ⟨congrArg Prod.fst (zsome hf), congrArg Prod.snd (zsome hf), rfl⟩
    · have hf := zitt c5 hf
      refine z_bipush h (-3) dX12_again_23 (by decide) (rfl : 23 + 2 = 25) ?_
      refine z_iret h hr dX12_again_25 ?_
      exact ⟨congrArg Prod.fst (zsome hf), congrArg Prod.snd (zsome hf), rfl⟩
  · have hf := zitf c3 hf
    refine z_iconst h (-1) dX12_again_12 (by decide) (rfl : 12 + 1 = 13) ?_
    refine z_iret h hr dX12_again_13 ?_
    exact ⟨congrArg Prod.fst (zsome hf), congrArg Prod.snd (zsome hf), rfl⟩
noncomputable def f_X12_since_43 (J : zJ) (u1 : Int32) (u2 : Int32) : Nat → Int32 → Int32 → zM → Option ((Int32 × zM) ⊕ (Int32 × Int32 × zM))
  | 0, _, _, _ => none
  | n + 1, x3_43, x4_43, I43 => (if I43 147 25 ≤ x4_43 then some (.inr (x3_43, x4_43, I43)) else ((f_X12_readIt J x4_43 u1 I43).bind fun q12 => ((f_X12_put J  q12).bind fun q14 => ((f_X12_load J u2 q14).bind fun q16 => ((f_X12_readIt J x4_43 u1 q16).bind fun q18 => ((f_X12_unlike J  q18).bind fun q20 => (if q20.1 = 0 then ((f_X12_load J 2 q20.2).bind fun q25 => f_X12_since_43 J u1 u2 n (x3_43 + (0 : Int32)) (x4_43 + 1) q25) else ((f_X12_load J 2 q20.2).bind fun q23 => f_X12_since_43 J u1 u2 n (x3_43 + (1 : Int32)) (x4_43 + 1) q23))))))))
noncomputable def f_X12_since (J : zJ) (v1 : Int32) (v2 : Int32) (I : zM) : Option (Int32 × zM) := ((f_X12_noOrder J v1 (zu I 147 0 0)).bind fun q1 => (if q1.1 = 0 then ((f_X12_noSlot J v2 q1.2).bind fun q4 => (if q4.1 = 0 then (if zin v2 3 = true then (if q4.2 169 (Int32.toNatClampNeg v2) = 0 then some (((-3), q4.2)) else ((f_X12_save J 2 q4.2).bind fun q9 => ((f_X12_since_43 J v1 v2 zF 0 0 q9).bind fun q => Sum.elim (fun a => some a) (fun a13 => some ((a13.1, a13.2.2))) q))) else none) else some (((-1), q4.2)))) else some (((-1), q1.2))))
noncomputable abbrev rmX12_since : Room := { frames := 7, cells := 0, slots := 0, locals := 174 }
theorem zyX12_since : zY yX12_since wsX12_since cX12_since 5 (some .int) 2 := ⟨⟨_, rfl⟩, by decide +kernel⟩
theorem zrX12_since_X12_load : zRm rmX12_load rmX12_since 3 := ⟨rfl, rfl, by decide, by decide⟩
theorem zrX12_since_X12_noOrder : zRm rmX12_noOrder rmX12_since 1 := ⟨rfl, rfl, by decide, by decide⟩
theorem zrX12_since_X12_noSlot : zRm rmX12_noSlot rmX12_since 1 := ⟨rfl, rfl, by decide, by decide⟩
theorem zrX12_since_X12_put : zRm rmX12_put rmX12_since 2 := ⟨rfl, rfl, by decide, by decide⟩
theorem zrX12_since_X12_readIt : zRm rmX12_readIt rmX12_since 7 := ⟨rfl, rfl, by decide, by decide⟩
theorem zrX12_since_X12_save : zRm rmX12_save rmX12_since 3 := ⟨rfl, rfl, by decide, by decide⟩
theorem zrX12_since_X12_unlike : zRm rmX12_unlike rmX12_since 3 := ⟨rfl, rfl, by decide, by decide⟩
set_option maxHeartbeats 1000000 in
set_option maxRecDepth 100000 in
theorem c_X12_since (B : zB) (I : zM) (J : zJ) (hJ : zJok J) (v1 : Int32) (v2 : Int32) (r : Int32) (I' : zM) (hf : f_X12_since J v1 v2 I = some (r, I')) : zCi B zKW I J yX12_since wsX12_since rmX12_since [.ref (za B 147), .int v1, .int v2] (fun r2 I2 J2 => r2 = r ∧ I2 = I' ∧ J2 = J) := by
  refine z_start (own := RX12) (cc := cX12_since) (nL := 5) (ret := (some .int)) rfl (by decide) rfl (Nat.le_of_ble_eq_true rfl) (L := [(0, .ref (za B 147)), (1, .int v1), (2, .int v2)]) rfl (fun G h hr => ?_)
  rw [f_X12_since] at hf
  refine z_aload_n h 0 dX12_since_0 rfl (rfl : 0 + 1 = 1) ?_
  refine z_iconst h 0 dX12_since_1 (by decide) (rfl : 1 + 1 = 2) ?_
  refine z_put (ci := 11) (C := RX12) (T := TX12) (N := 46) h 0 tyX12 tyX12_ok nmX12 rfl rfl (fun _ hq => List.mem_cons_of_mem _ (List.mem_append_right _ hq)) (by decide) (List.mem_of_getElem? (i := 1) rfl) rfl rfl rfl dX12_since_2 (rfl : 2 + 3 = 5) ?_
  refine z_iload_n h 1 dX12_since_5 rfl (rfl : 5 + 1 = 6) ?_
  obtain ⟨q1, e2, hf⟩ := zbind hf
  refine z_goF (z_runS h [.int v1] [] zyX12_noOrder (c_X12_noOrder B (zu I 147 0 0) J hJ v1 _ _ e2) gX12_since_X12_noOrder zrX12_since_X12_noOrder rfl (Nat.le_of_ble_eq_true rfl) ⟨Nat.zero_le _, Nat.zero_le _⟩ rfl dX12_since_6) rfl ?_
  refine z_if_ne (pc' := 12) h 19 dX12_since_9 (by decide) rfl (fun c3 => ?_) (fun c3 => ?_)
  · have hf := zitf c3 hf
    refine z_iconst h (-1) dX12_since_19 (by decide) (rfl : 19 + 1 = 20) ?_
    refine z_iret h hr dX12_since_20 ?_
    exact ⟨congrArg Prod.fst (zsome hf), congrArg Prod.snd (zsome hf), rfl⟩
  · have hf := zitt c3 hf
    refine z_iload_n h 2 dX12_since_12 rfl (rfl : 12 + 1 = 13) ?_
    obtain ⟨q4, e5, hf⟩ := zbind hf
    refine z_goF (z_runS h [.int v2] [] zyX12_noSlot (c_X12_noSlot B q1.2 J hJ v2 _ _ e5) gX12_since_X12_noSlot zrX12_since_X12_noSlot rfl (Nat.le_of_ble_eq_true rfl) ⟨Nat.zero_le _, Nat.zero_le _⟩ rfl dX12_since_13) rfl ?_
    refine z_if_eq (pc' := 19) h 21 dX12_since_16 (by decide) rfl (fun c6 => ?_) (fun c6 => ?_)
    · have hf := zitt c6 hf
      refine z_aload_n h 0 dX12_since_21 rfl (rfl : 21 + 1 = 22) ?_
      refine z_getr (ci := 11) (C := RX12) (T := TX12) (N := 46) h 31 169 ((hJ.1 147 31 (by decide)).trans rfl) rfl rfl (fun _ hq => List.mem_cons_of_mem _ (List.mem_append_right _ hq)) (by decide) (List.mem_of_getElem? (i := 2) rfl) rfl dX12_since_22 (rfl : 22 + 3 = 25) ?_
      refine z_iload_n h 2 dX12_since_25 rfl (rfl : 25 + 1 = 26) ?_
      obtain ⟨b7, hf⟩ := zchk hf
      refine z_zald h rfl b7 dX12_since_26 (rfl : 26 + 1 = 27) ?_
      refine z_if_ne (pc' := 30) h 33 dX12_since_27 (by decide) rfl (fun c8 => ?_) (fun c8 => ?_)
      · have hf := zitf c8 hf
        refine z_aload_n h 0 dX12_since_33 rfl (rfl : 33 + 1 = 34) ?_
        refine z_iconst h 2 dX12_since_34 (by decide) (rfl : 34 + 1 = 35) ?_
        obtain ⟨q9, e10, hf⟩ := zbind hf
        refine z_goFv (z_runV (C := RX12) (T := TX12) (N := 46) (ci := 11) h [.int 2] [] zyX12_save (c_X12_save B q4.2 J hJ 2 _ e10) gX12_since_X12_save rfl rfl rfl zrX12_since_X12_save rfl (Nat.le_of_ble_eq_true rfl) ⟨Nat.zero_le _, Nat.zero_le _⟩ rfl dX12_since_35) rfl ?_
        refine z_iconst h 0 dX12_since_38 (by decide) (rfl : 38 + 1 = 39) ?_
        refine z_istore_n h [(3, .int 0), (0, .ref (za B 147)), (1, .int v1), (2, .int v2)] dX12_since_39 (by decide) rfl (rfl : 39 + 1 = 40) ?_
        refine z_iconst h 0 dX12_since_40 (by decide) (rfl : 40 + 1 = 41) ?_
        refine z_istore h [(4, .int 0), (3, .int 0), (0, .ref (za B 147)), (1, .int v1), (2, .int v2)] dX12_since_41 (by decide) rfl (rfl : 41 + 2 = 43) ?_
        have loop_43_12 : ∀ (n : Nat) (x3_43 : Int32) (x4_43 : Int32) (I43 : zM) (q : (Int32 × zM) ⊕ (Int32 × Int32 × zM)), f_X12_since_43 J v1 v2 n x3_43 x4_43 I43 = some q → (∀ a, q = .inl a → a = (r, I')) → (∀ a : Int32 × Int32 × zM, q = .inr a → Z B G zKW (a.2.2) (J) (0, 0) 101 [(0, .ref (za B 147)), (1, .int v1), (2, .int v2), (3, .int a.1), (4, .int a.2.1)] []) → Z B G zKW I43 J (0, 0) 43 [(0, .ref (za B 147)), (1, .int v1), (2, .int v2), (3, .int x3_43), (4, .int x4_43)] [] := by
          intro n; induction n with
          | zero => intro x3_43 x4_43 I43 q hf; exact absurd hf (by rw [f_X12_since_43]; exact fun z => by cases z)
          | succ n ih =>
            intro x3_43 x4_43 I43 q hf hP hE; rw [f_X12_since_43] at hf
            refine z_iload h 4 dX12_since_43 rfl (rfl : 43 + 2 = 45) ?_
            refine z_aload_n h 0 dX12_since_45 rfl (rfl : 45 + 1 = 46) ?_
            refine z_get (ci := 11) (C := RX12) (T := TX12) (N := 46) h 25 rfl rfl (fun _ hq => List.mem_cons_of_mem _ (List.mem_append_right _ hq)) (by decide) (List.mem_of_getElem? (i := 3) rfl) rfl dX12_since_46 (rfl : 46 + 3 = 49) ?_
            refine z_icmp_ge (pc' := 52) h 101 dX12_since_49 (by decide) rfl (fun c13 => ?_) (fun c13 => ?_)
            · have hf := zitt c13 hf
              exact hE (x3_43, x4_43, I43) (zsome hf).symm
            · have hf := zitf c13 hf
              refine z_aload_n h 0 dX12_since_52 rfl (rfl : 52 + 1 = 53) ?_
              refine z_iload h 4 dX12_since_53 rfl (rfl : 53 + 2 = 55) ?_
              refine z_iload_n h 1 dX12_since_55 rfl (rfl : 55 + 1 = 56) ?_
              obtain ⟨q14, e15, hf⟩ := zbind hf
              refine z_goFv (z_runV (C := RX12) (T := TX12) (N := 46) (ci := 11) h [.int x4_43, .int v1] [] zyX12_readIt (c_X12_readIt B I43 J hJ x4_43 v1 _ e15) gX12_since_X12_readIt rfl rfl rfl zrX12_since_X12_readIt rfl (Nat.le_of_ble_eq_true rfl) ⟨Nat.zero_le _, Nat.zero_le _⟩ rfl dX12_since_56) rfl ?_
              refine z_aload_n h 0 dX12_since_59 rfl (rfl : 59 + 1 = 60) ?_
              obtain ⟨q16, e17, hf⟩ := zbind hf
              refine z_goFv (z_runV (C := RX12) (T := TX12) (N := 46) (ci := 11) h [] [] zyX12_put (c_X12_put B q14 J hJ  _ e17) gX12_since_X12_put rfl rfl rfl zrX12_since_X12_put rfl (Nat.le_of_ble_eq_true rfl) ⟨Nat.zero_le _, Nat.zero_le _⟩ rfl dX12_since_60) rfl ?_
              refine z_aload_n h 0 dX12_since_63 rfl (rfl : 63 + 1 = 64) ?_
              refine z_iload_n h 2 dX12_since_64 rfl (rfl : 64 + 1 = 65) ?_
              obtain ⟨q18, e19, hf⟩ := zbind hf
              refine z_goFv (z_runV (C := RX12) (T := TX12) (N := 46) (ci := 11) h [.int v2] [] zyX12_load (c_X12_load B q16 J hJ v2 _ e19) gX12_since_X12_load rfl rfl rfl zrX12_since_X12_load rfl (Nat.le_of_ble_eq_true rfl) ⟨Nat.zero_le _, Nat.zero_le _⟩ rfl dX12_since_65) rfl ?_
              refine z_aload_n h 0 dX12_since_68 rfl (rfl : 68 + 1 = 69) ?_
              refine z_iload h 4 dX12_since_69 rfl (rfl : 69 + 2 = 71) ?_
              refine z_iload_n h 1 dX12_since_71 rfl (rfl : 71 + 1 = 72) ?_
              obtain ⟨q20, e21, hf⟩ := zbind hf
              refine z_goFv (z_runV (C := RX12) (T := TX12) (N := 46) (ci := 11) h [.int x4_43, .int v1] [] zyX12_readIt (c_X12_readIt B q18 J hJ x4_43 v1 _ e21) gX12_since_X12_readIt rfl rfl rfl zrX12_since_X12_readIt rfl (Nat.le_of_ble_eq_true rfl) ⟨Nat.zero_le _, Nat.zero_le _⟩ rfl dX12_since_72) rfl ?_
              refine z_iload_n h 3 dX12_since_75 rfl (rfl : 75 + 1 = 76) ?_
              refine z_aload_n h 0 dX12_since_76 rfl (rfl : 76 + 1 = 77) ?_
              obtain ⟨q22, e23, hf⟩ := zbind hf
              refine z_goF (z_runV (C := RX12) (T := TX12) (N := 46) (ci := 11) h [] [.int x3_43] zyX12_unlike (c_X12_unlike B q20 J hJ  _ _ e23) gX12_since_X12_unlike rfl rfl rfl zrX12_since_X12_unlike rfl (Nat.le_of_ble_eq_true rfl) ⟨Nat.zero_le _, Nat.zero_le _⟩ rfl dX12_since_77) rfl ?_
              refine z_if_ne (pc' := 83) h 87 dX12_since_80 (by decide) rfl (fun c24 => ?_) (fun c24 => ?_)
              · have hf := zitf c24 hf
                refine z_iconst h 1 dX12_since_87 (by decide) (rfl : 87 + 1 = 88) ?_
                refine z_iadd h dX12_since_88 (rfl : 88 + 1 = 89) ?_
                refine z_istore_n h [(3, .int (x3_43 + (1 : Int32))), (0, .ref (za B 147)), (1, .int v1), (2, .int v2), (4, .int x4_43)] dX12_since_89 (by decide) rfl (rfl : 89 + 1 = 90) ?_
                refine z_aload_n h 1 dX12_since_90 rfl (rfl : 90 + 1 = 91) ?_
                refine z_iconst h 2 dX12_since_91 (by decide) (rfl : 91 + 1 = 92) ?_
                obtain ⟨q25, e26, hf⟩ := zbind hf
                refine z_goFv (z_runV (C := RX12) (T := TX12) (N := 46) (ci := 11) h [.int 2] [] zyX12_load (c_X12_load B q22.2 J hJ 2 _ e26) gX12_since_X12_load rfl rfl rfl zrX12_since_X12_load rfl (Nat.le_of_ble_eq_true rfl) ⟨Nat.zero_le _, Nat.zero_le _⟩ rfl dX12_since_92) rfl ?_
                refine z_iinc h 4 (x4_43 + 1) [(4, .int (x4_43 + 1)), (3, .int (x3_43 + (1 : Int32))), (0, .ref (za B 147)), (1, .int v1), (2, .int v2)] dX12_since_95 rfl rfl (by decide) rfl (rfl : 95 + 3 = 98) ?_
                refine z_goto (pc' := 43) h dX12_since_98 (by decide) ?_
                refine z_sub (L' := [(0, .ref (za B 147)), (1, .int v1), (2, .int v2), (3, .int (x3_43 + (1 : Int32))), (4, .int (x4_43 + 1))]) [2, 3, 4, 1, 0] rfl ?_
                exact ih (x3_43 + (1 : Int32)) (x4_43 + 1) q25 _ hf hP hE
              · have hf := zitt c24 hf
                refine z_iconst h 0 dX12_since_83 (by decide) (rfl : 83 + 1 = 84) ?_
                refine z_goto (pc' := 88) h dX12_since_84 (by decide) ?_
                refine z_iadd h dX12_since_88 (rfl : 88 + 1 = 89) ?_
                refine z_istore_n h [(3, .int (x3_43 + (0 : Int32))), (0, .ref (za B 147)), (1, .int v1), (2, .int v2), (4, .int x4_43)] dX12_since_89 (by decide) rfl (rfl : 89 + 1 = 90) ?_
                refine z_aload_n h 1 dX12_since_90 rfl (rfl : 90 + 1 = 91) ?_
                refine z_iconst h 2 dX12_since_91 (by decide) (rfl : 91 + 1 = 92) ?_
                obtain ⟨q27, e28, hf⟩ := zbind hf
                refine z_goFv (z_runV (C := RX12) (T := TX12) (N := 46) (ci := 11) h [.int 2] [] zyX12_load (c_X12_load B q22.2 J hJ 2 _ e28) gX12_since_X12_load rfl rfl rfl zrX12_since_X12_load rfl (Nat.le_of_ble_eq_true rfl) ⟨Nat.zero_le _, Nat.zero_le _⟩ rfl dX12_since_92) rfl ?_
                refine z_iinc h 4 (x4_43 + 1) [(4, .int (x4_43 + 1)), (3, .int (x3_43 + (0 : Int32))), (0, .ref (za B 147)), (1, .int v1), (2, .int v2)] dX12_since_95 rfl rfl (by decide) rfl (rfl : 95 + 3 = 98) ?_
                refine z_goto (pc' := 43) h dX12_since_98 (by decide) ?_
                refine z_sub (L' := [(0, .ref (za B 147)), (1, .int v1), (2, .int v2), (3, .int (x3_43 + (0 : Int32))), (4, .int (x4_43 + 1))]) [2, 3, 4, 1, 0] rfl ?_
                exact ih (x3_43 + (0 : Int32)) (x4_43 + 1) q27 _ hf hP hE
        refine z_sub (L' := [(0, .ref (za B 147)), (1, .int v1), (2, .int v2), (3, .int 0), (4, .int 0)]) [2, 3, 4, 1, 0] rfl ?_
        obtain ⟨q11, e12, hf⟩ := zbind hf
        refine loop_43_12 _ 0 0 q9 q11 e12 (fun a ha => ?_) (fun a29 ha  => ?_)
        · have hf := zell ha hf
          exact zsome hf
        have hf := zelr ha hf
        clear ha loop_43_12
        refine z_iload_n h 3 dX12_since_101 rfl (rfl : 101 + 1 = 102) ?_
        refine z_iret h hr dX12_since_102 ?_
        exact ⟨congrArg Prod.fst (zsome hf), congrArg Prod.snd (zsome hf), rfl⟩
      · have hf := zitt c8 hf
        refine z_bipush h (-3) dX12_since_30 (by decide) (rfl : 30 + 2 = 32) ?_
        refine z_iret h hr dX12_since_32 ?_
        exact ⟨congrArg Prod.fst (zsome hf), congrArg Prod.snd (zsome hf), rfl⟩
    · have hf := zitf c6 hf
      refine z_iconst h (-1) dX12_since_19 (by decide) (rfl : 19 + 1 = 20) ?_
      refine z_iret h hr dX12_since_20 ?_
      exact ⟨congrArg Prod.fst (zsome hf), congrArg Prod.snd (zsome hf), rfl⟩
noncomputable def f_X12_count_9 (J : zJ) (u1 : Int32) : Nat → Int32 → Int32 → zM → Option ((Int32 × zM) ⊕ (Int32 × Int32 × zM))
  | 0, _, _, _ => none
  | n + 1, x2_9, x3_9, I9 => (if 6 ≤ x3_9 then some (.inr (x2_9, x3_9, I9)) else (if zin x3_9 6 = true then (if I9 148 (Int32.toNatClampNeg x3_9) ≤ 0 then f_X12_count_9 J u1 n (x2_9 + (0 : Int32)) (x3_9 + 1) I9 else f_X12_count_9 J u1 n (x2_9 + (1 : Int32)) (x3_9 + 1) I9) else none))
noncomputable def f_X12_count (J : zJ) (v1 : Int32) (I : zM) : Option (Int32 × zM) := ((f_X12_count_9 J v1 zF 0 0 (zu I 147 0 0)).bind fun q => Sum.elim (fun a => some a) (fun a3 => (if v1 = 0 then some ((a3.1, a3.2.2)) else (if v1 = 1 then some ((a3.2.2 147 6, a3.2.2)) else (if v1 = 2 then some ((a3.2.2 147 12, a3.2.2)) else (if v1 = 3 then some ((a3.2.2 147 15, a3.2.2)) else (if v1 = 4 then some ((a3.2.2 147 25, a3.2.2)) else some (((-2), a3.2.2)))))))) q)
noncomputable abbrev rmX12_count : Room := { frames := 0, cells := 0, slots := 0, locals := 0 }
theorem zyX12_count : zY yX12_count wsX12_count cX12_count 4 (some .int) 1 := ⟨⟨_, rfl⟩, by decide +kernel⟩
set_option maxHeartbeats 1000000 in
set_option maxRecDepth 100000 in
theorem c_X12_count (B : zB) (I : zM) (J : zJ) (hJ : zJok J) (v1 : Int32) (r : Int32) (I' : zM) (hf : f_X12_count J v1 I = some (r, I')) : zCi B zKW I J yX12_count wsX12_count rmX12_count [.ref (za B 147), .int v1] (fun r2 I2 J2 => r2 = r ∧ I2 = I' ∧ J2 = J) := by
  refine z_start (own := RX12) (cc := cX12_count) (nL := 4) (ret := (some .int)) rfl (by decide) rfl (Nat.le_of_ble_eq_true rfl) (L := [(0, .ref (za B 147)), (1, .int v1)]) rfl (fun G h hr => ?_)
  rw [f_X12_count] at hf
  refine z_aload_n h 0 dX12_count_0 rfl (rfl : 0 + 1 = 1) ?_
  refine z_iconst h 0 dX12_count_1 (by decide) (rfl : 1 + 1 = 2) ?_
  refine z_put (ci := 11) (C := RX12) (T := TX12) (N := 46) h 0 tyX12 tyX12_ok nmX12 rfl rfl (fun _ hq => List.mem_cons_of_mem _ (List.mem_append_right _ hq)) (by decide) (List.mem_of_getElem? (i := 1) rfl) rfl rfl rfl dX12_count_2 (rfl : 2 + 3 = 5) ?_
  refine z_iconst h 0 dX12_count_5 (by decide) (rfl : 5 + 1 = 6) ?_
  refine z_istore_n h [(2, .int 0), (0, .ref (za B 147)), (1, .int v1)] dX12_count_6 (by decide) rfl (rfl : 6 + 1 = 7) ?_
  refine z_iconst h 0 dX12_count_7 (by decide) (rfl : 7 + 1 = 8) ?_
  refine z_istore_n h [(3, .int 0), (2, .int 0), (0, .ref (za B 147)), (1, .int v1)] dX12_count_8 (by decide) rfl (rfl : 8 + 1 = 9) ?_
  have loop_9_2 : ∀ (n : Nat) (x2_9 : Int32) (x3_9 : Int32) (I9 : zM) (q : (Int32 × zM) ⊕ (Int32 × Int32 × zM)), f_X12_count_9 J v1 n x2_9 x3_9 I9 = some q → (∀ a, q = .inl a → a = (r, I')) → (∀ a : Int32 × Int32 × zM, q = .inr a → Z B G zKW (a.2.2) (J) (0, 0) 38 [(0, .ref (za B 147)), (1, .int v1), (2, .int a.1), (3, .int a.2.1)] []) → Z B G zKW I9 J (0, 0) 9 [(0, .ref (za B 147)), (1, .int v1), (2, .int x2_9), (3, .int x3_9)] [] := by
    intro n; induction n with
    | zero => intro x2_9 x3_9 I9 q hf; exact absurd hf (by rw [f_X12_count_9]; exact fun z => by cases z)
    | succ n ih =>
      intro x2_9 x3_9 I9 q hf hP hE; rw [f_X12_count_9] at hf
      refine z_iload_n h 3 dX12_count_9 rfl (rfl : 9 + 1 = 10) ?_
      refine z_bipush h 6 dX12_count_10 (by decide) (rfl : 10 + 2 = 12) ?_
      refine z_icmp_ge (pc' := 15) h 38 dX12_count_12 (by decide) rfl (fun c3 => ?_) (fun c3 => ?_)
      · have hf := zitt c3 hf
        exact hE (x2_9, x3_9, I9) (zsome hf).symm
      · have hf := zitf c3 hf
        refine z_iload_n h 2 dX12_count_15 rfl (rfl : 15 + 1 = 16) ?_
        refine z_aload_n h 0 dX12_count_16 rfl (rfl : 16 + 1 = 17) ?_
        refine z_getr (ci := 11) (C := RX12) (T := TX12) (N := 46) h 1 148 ((hJ.1 147 1 (by decide)).trans rfl) rfl rfl (fun _ hq => List.mem_cons_of_mem _ (List.mem_append_right _ hq)) (by decide) (List.mem_of_getElem? (i := 2) rfl) rfl dX12_count_17 (rfl : 17 + 3 = 20) ?_
        refine z_iload_n h 3 dX12_count_20 rfl (rfl : 20 + 1 = 21) ?_
        obtain ⟨b4, hf⟩ := zchk hf
        refine z_iald h rfl b4 dX12_count_21 (rfl : 21 + 1 = 22) ?_
        refine z_if_le (pc' := 25) h 29 dX12_count_22 (by decide) rfl (fun c5 => ?_) (fun c5 => ?_)
        · have hf := zitt c5 hf
          refine z_iconst h 0 dX12_count_29 (by decide) (rfl : 29 + 1 = 30) ?_
          refine z_iadd h dX12_count_30 (rfl : 30 + 1 = 31) ?_
          refine z_istore_n h [(2, .int (x2_9 + (0 : Int32))), (0, .ref (za B 147)), (1, .int v1), (3, .int x3_9)] dX12_count_31 (by decide) rfl (rfl : 31 + 1 = 32) ?_
          refine z_iinc h 3 (x3_9 + 1) [(3, .int (x3_9 + 1)), (2, .int (x2_9 + (0 : Int32))), (0, .ref (za B 147)), (1, .int v1)] dX12_count_32 rfl rfl (by decide) rfl (rfl : 32 + 3 = 35) ?_
          refine z_goto (pc' := 9) h dX12_count_35 (by decide) ?_
          refine z_sub (L' := [(0, .ref (za B 147)), (1, .int v1), (2, .int (x2_9 + (0 : Int32))), (3, .int (x3_9 + 1))]) [2, 3, 1, 0] rfl ?_
          exact ih (x2_9 + (0 : Int32)) (x3_9 + 1) I9 _ hf hP hE
        · have hf := zitf c5 hf
          refine z_iconst h 1 dX12_count_25 (by decide) (rfl : 25 + 1 = 26) ?_
          refine z_goto (pc' := 30) h dX12_count_26 (by decide) ?_
          refine z_iadd h dX12_count_30 (rfl : 30 + 1 = 31) ?_
          refine z_istore_n h [(2, .int (x2_9 + (1 : Int32))), (0, .ref (za B 147)), (1, .int v1), (3, .int x3_9)] dX12_count_31 (by decide) rfl (rfl : 31 + 1 = 32) ?_
          refine z_iinc h 3 (x3_9 + 1) [(3, .int (x3_9 + 1)), (2, .int (x2_9 + (1 : Int32))), (0, .ref (za B 147)), (1, .int v1)] dX12_count_32 rfl rfl (by decide) rfl (rfl : 32 + 3 = 35) ?_
          refine z_goto (pc' := 9) h dX12_count_35 (by decide) ?_
          refine z_sub (L' := [(0, .ref (za B 147)), (1, .int v1), (2, .int (x2_9 + (1 : Int32))), (3, .int (x3_9 + 1))]) [2, 3, 1, 0] rfl ?_
          exact ih (x2_9 + (1 : Int32)) (x3_9 + 1) I9 _ hf hP hE
  refine z_sub (L' := [(0, .ref (za B 147)), (1, .int v1), (2, .int 0), (3, .int 0)]) [2, 3, 1, 0] rfl ?_
  obtain ⟨q1, e2, hf⟩ := zbind hf
  refine loop_9_2 _ 0 0 (zu I 147 0 0) q1 e2 (fun a ha => ?_) (fun a6 ha  => ?_)
  · have hf := zell ha hf
    exact zsome hf
  have hf := zelr ha hf
  clear ha loop_9_2
  refine z_iload_n h 1 dX12_count_38 rfl (rfl : 38 + 1 = 39) ?_
  by_cases c7 : v1 = 0
  · have hf := zitt c7 hf
    refine z_tabIn h 72 dX12_count_39 (by rw [c7]; decide) (by rw [c7]; decide) (by rw [c7]; rfl) (by decide) ?_
    refine z_iload_n h 2 dX12_count_72 rfl (rfl : 72 + 1 = 73) ?_
    refine z_iret h hr dX12_count_73 ?_
    exact ⟨congrArg Prod.fst (zsome hf), congrArg Prod.snd (zsome hf), rfl⟩
  have hf := zitf c7 hf
  by_cases c8 : v1 = 1
  · have hf := zitt c8 hf
    refine z_tabIn h 74 dX12_count_39 (by rw [c8]; decide) (by rw [c8]; decide) (by rw [c8]; rfl) (by decide) ?_
    refine z_aload_n h 0 dX12_count_74 rfl (rfl : 74 + 1 = 75) ?_
    refine z_get (ci := 11) (C := RX12) (T := TX12) (N := 46) h 6 rfl rfl (fun _ hq => List.mem_cons_of_mem _ (List.mem_append_right _ hq)) (by decide) (List.mem_of_getElem? (i := 3) rfl) rfl dX12_count_75 (rfl : 75 + 3 = 78) ?_
    refine z_iret h hr dX12_count_78 ?_
    exact ⟨congrArg Prod.fst (zsome hf), congrArg Prod.snd (zsome hf), rfl⟩
  have hf := zitf c8 hf
  by_cases c9 : v1 = 2
  · have hf := zitt c9 hf
    refine z_tabIn h 79 dX12_count_39 (by rw [c9]; decide) (by rw [c9]; decide) (by rw [c9]; rfl) (by decide) ?_
    refine z_aload_n h 0 dX12_count_79 rfl (rfl : 79 + 1 = 80) ?_
    refine z_get (ci := 11) (C := RX12) (T := TX12) (N := 46) h 12 rfl rfl (fun _ hq => List.mem_cons_of_mem _ (List.mem_append_right _ hq)) (by decide) (List.mem_of_getElem? (i := 4) rfl) rfl dX12_count_80 (rfl : 80 + 3 = 83) ?_
    refine z_iret h hr dX12_count_83 ?_
    exact ⟨congrArg Prod.fst (zsome hf), congrArg Prod.snd (zsome hf), rfl⟩
  have hf := zitf c9 hf
  by_cases c10 : v1 = 3
  · have hf := zitt c10 hf
    refine z_tabIn h 84 dX12_count_39 (by rw [c10]; decide) (by rw [c10]; decide) (by rw [c10]; rfl) (by decide) ?_
    refine z_aload_n h 0 dX12_count_84 rfl (rfl : 84 + 1 = 85) ?_
    refine z_get (ci := 11) (C := RX12) (T := TX12) (N := 46) h 15 rfl rfl (fun _ hq => List.mem_cons_of_mem _ (List.mem_append_right _ hq)) (by decide) (List.mem_of_getElem? (i := 5) rfl) rfl dX12_count_85 (rfl : 85 + 3 = 88) ?_
    refine z_iret h hr dX12_count_88 ?_
    exact ⟨congrArg Prod.fst (zsome hf), congrArg Prod.snd (zsome hf), rfl⟩
  have hf := zitf c10 hf
  by_cases c11 : v1 = 4
  · have hf := zitt c11 hf
    refine z_tabIn h 89 dX12_count_39 (by rw [c11]; decide) (by rw [c11]; decide) (by rw [c11]; rfl) (by decide) ?_
    refine z_aload_n h 0 dX12_count_89 rfl (rfl : 89 + 1 = 90) ?_
    refine z_get (ci := 11) (C := RX12) (T := TX12) (N := 46) h 25 rfl rfl (fun _ hq => List.mem_cons_of_mem _ (List.mem_append_right _ hq)) (by decide) (List.mem_of_getElem? (i := 6) rfl) rfl dX12_count_90 (rfl : 90 + 3 = 93) ?_
    refine z_iret h hr dX12_count_93 ?_
    exact ⟨congrArg Prod.fst (zsome hf), congrArg Prod.snd (zsome hf), rfl⟩
  have hf := zitf c11 hf
  refine z_tabOut h 94 dX12_count_39 (zt_5 c7 c8 c9 c10 c11) (by decide) ?_
  refine z_bipush h (-2) dX12_count_94 (by decide) (rfl : 94 + 2 = 96) ?_
  refine z_iret h hr dX12_count_96 ?_
  exact ⟨congrArg Prod.fst (zsome hf), congrArg Prod.snd (zsome hf), rfl⟩
