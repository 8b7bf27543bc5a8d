def zisr : FieldType → Bool
  | .object _ => true
  | .array _ => true
  | _ => false
def zokt : FieldType → Bool
  | .int => true
  | .object _ => true
  | .array _ => true
  | _ => false
theorem zdef_of {B : zB} {ci N : Nat} {ty : Nat → FieldType} (h : ∀ j, j < N → (zrs ci)[j]? = some (zisr (ty j)) ∧ zokt (ty j) = true) : zdef B ci N ty := by
  intro j hj
  obtain ⟨h1, h2⟩ := h j hj
  have hr : ∀ {rs : List Bool}, rs[j]? = some true → vp_V (zfs B (fun _ => 0) (fun _ => none) rs) j = .null := fun {rs} hh => by
    have : (zfs B (fun _ => 0) (fun _ => none) rs)[j]? = some .null := by simp [zfs, hh, va_rf]
    simp [vp_V, this]
  cases ht : ty j <;> rw [ht] at h1 h2 <;> first
    | (rw [hr h1]; rfl)
    | (simp [vp_V, zfs_int h1, defaultValue]; done)
    | (cases h2)
theorem zdefX0 {B : zB} : zdef B 0 5 tyX0 := zdef_of (by decide +kernel)
theorem zdefX1 {B : zB} : zdef B 1 9 tyX1 := zdef_of (by decide +kernel)
theorem zdefX2 {B : zB} : zdef B 2 5 tyX2 := zdef_of (by decide +kernel)
theorem zdefX3 {B : zB} : zdef B 3 4 tyX3 := zdef_of (by decide +kernel)
theorem zdefX4 {B : zB} : zdef B 4 2 tyX4 := zdef_of (by decide +kernel)
theorem zdefX5 {B : zB} : zdef B 5 17 tyX5 := zdef_of (by decide +kernel)
theorem zdefX6 {B : zB} : zdef B 6 6 tyX6 := zdef_of (by decide +kernel)
theorem zdefX7 {B : zB} : zdef B 7 2 tyX7 := zdef_of (by decide +kernel)
theorem zdefX8 {B : zB} : zdef B 8 3 tyX8 := zdef_of (by decide +kernel)
theorem zdefX9 {B : zB} : zdef B 9 2 tyX9 := zdef_of (by decide +kernel)
theorem zdefX11 {B : zB} : zdef B 10 13 tyX11 := zdef_of (by decide +kernel)
theorem zdefX12 {B : zB} : zdef B 11 46 tyX12 := zdef_of (by decide +kernel)
set_option maxRecDepth 100000 in
theorem c_coderY (B : zB) (n : Nat) (I : zM) (J : zJ) (a : Nat) : Met B.1 yJ0_coder_7d493 wsJ0_coder_7d493 rmJ0_coder_7d493 (zPcx B n I J [.ref a] [(0, a, true)]) (zQci B n I J 0) 0 0 (zA B) := by
  refine y_startx (own := RJ0) (cc := cJ0_coder_7d493) (nL := 1) (ret := some .byte) rfl (by decide) rfl (Nat.le_of_ble_eq_true rfl) (L := [(0, .ref a)]) rfl (fun G h hr hxs => ?_)
  have hs := (hxs _ List.mem_cons_self).1 rfl
  refine y_getsC h (List.mem_of_getElem? (i := 1) rfl) dJ0_coder_7d493_0 (rfl : 0 + 3 = 3) ?_
  refine y_if_eq (pc' := 6) h 13 dJ0_coder_7d493_3 (by decide) rfl (fun q => absurd q (by decide)) (fun _ => ?_)
  refine y_aload_n h 0 dJ0_coder_7d493_6 rfl (rfl : 6 + 1 = 7) ?_
  refine y_getSc h hs (List.mem_of_getElem? (i := 2) rfl) dJ0_coder_7d493_7 (rfl : 7 + 3 = 10) ?_
  refine y_goto (pc' := 14) h dJ0_coder_7d493_10 (by decide) ?_
  exact y_bret h hr dJ0_coder_7d493_14 rfl rfl
set_option maxRecDepth 100000 in
theorem c_len (B : zB) (n : Nat) (I : zM) (J : zJ) (a : Nat) : Met B.1 yJ0_length_8abf5 wsJ0_length_8abf5 rmJ0_length_8abf5 (zPcx B n I J [.ref a] [(0, a, true)]) (zQci B n I J 5) 0 0 (zA B) := by
  refine y_startx (own := RJ0) (cc := cJ0_length_8abf5) (nL := 1) (ret := some .int) rfl (by decide) rfl (Nat.le_of_ble_eq_true rfl) (L := [(0, .ref a)]) rfl (fun G h hr hxs => ?_)
  have hs := (hxs _ List.mem_cons_self).1 rfl
  refine y_aload_n h 0 dJ0_length_8abf5_0 rfl (rfl : 0 + 1 = 1) ?_
  refine y_getSv h hs (List.mem_of_getElem? (i := 1) rfl) dJ0_length_8abf5_1 (rfl : 1 + 3 = 4) (fun v hv => ?_)
  refine y_bylen h hv dJ0_length_8abf5_4 (rfl : 4 + 1 = 5) ?_
  refine y_aload_n h 0 dJ0_length_8abf5_5 rfl (rfl : 5 + 1 = 6) ?_
  refine y_runVx h [.int (nI (zlen.getD 0 0))] zyJ0_coder_7d493 (c_coderY B n I J a) hs gJ0_length_8abf5_J0_coder_7d493 rfl rfl zrJ0_length_8abf5_J0_coder_7d493 (Nat.le_of_ble_eq_true rfl) ⟨Nat.zero_le _, Nat.zero_le _⟩ rfl dJ0_length_8abf5_6 (rfl : 6 + 3 = 9) ?_
  refine y_ishr h dJ0_length_8abf5_9 (rfl : 9 + 1 = 10) ?_
  exact y_iret h hr dJ0_length_8abf5_10 (by decide +kernel)
theorem zyX3_init : zY yX3_init wsX3_init cX3_init 2 none 0 := ⟨⟨_, rfl⟩, by decide +kernel⟩
noncomputable abbrev rmX3_init_1 : Room := { frames := 1, cells := 3, slots := 18, locals := 24 }
def iIX3_init_1 (I : zM) : zM := zu (zu (zu (zu (zu (zu (zu I 1 1 0) 3 0 (-9)) 3 1 (-9)) 3 2 (-9)) 3 3 (-9)) 3 4 (-9)) 3 5 (-9)
def iJX3_init_1 (J : zJ) : zJ := zuJ (zuJ (zuJ J 1 0 (some 2)) 1 2 (some 3)) 1 3 (some 4)
theorem zZX3_init_1 {I : zM} {J : zJ} (hZ : zZ 2 I J) : zZ 5 (iIX3_init_1 I) (iJX3_init_1 J) := (zZ_zu (zZ_zu (zZ_zu (zZ_zu (zZ_zu (zZ_zu (zZ_zuJ (zZ_up (m := 5) (zZ_zuJ (zZ_up (m := 4) (zZ_zu (zZ_zuJ (zZ_up (m := 3) hZ (by decide)) (by decide)) (by decide)) (by decide)) (by decide)) (by decide)) (by decide)) (by decide)) (by decide)) (by decide)) (by decide)) (by decide)) (by decide))
set_option maxHeartbeats 2000000 in
set_option maxRecDepth 100000 in
theorem c_X3_init_1 (B : zB) (hBs : zBs B) (I : zM) (J : zJ) (hZ : zZ 2 I J) : zCc B 2 I J yX3_init wsX3_init rmX3_init_1 [.ref (za B 1)] 5 (iIX3_init_1 I) (iJX3_init_1 J) := by
  refine y_start (own := RX3) (cc := cX3_init) (nL := 2) rfl (by decide) rfl rfl (Nat.le_of_ble_eq_true rfl) (L := [(0, .ref (za B 1))]) rfl (fun G h hr => ?_)
  refine y_aload_n h 0 dX3_init_0 rfl (rfl : 0 + 1 = 1) ?_
  refine y_objInit h (List.mem_of_getElem? (i := 1) rfl) (List.mem_of_getElem? (i := 2) rfl) (List.mem_of_getElem? (i := 3) rfl) (by decide) dX3_init_1 (rfl : 1 + 3 = 4) ?_
  refine y_aload_n h 0 dX3_init_4 rfl (rfl : 4 + 1 = 5) ?_
  refine y_bipush h 6 dX3_init_5 (by decide) (rfl : 5 + 2 = 7) ?_
  refine y_newa (atype := .int) (t := 0) (m := 6) h hBs hZ (List.mem_of_getElem? (i := 4) rfl) (by decide) rfl rfl (by decide) (by decide) (by decide) rfl ⟨by decide, by decide⟩ dX3_init_7 (rfl : 7 + 2 = 9) ?_
  refine y_putR (ci := 3) (C := RX3) (T := TX3) (N := 4) h 0 tyX3 tyX3_ok nmX3 rfl rfl (fun _ hq => List.mem_cons_of_mem _ (List.mem_append_right _ hq)) (by decide) (List.mem_of_getElem? (i := 5) rfl) rfl rfl hr.2.2.2 rfl (Or.inr ⟨_, rfl⟩) dX3_init_9 (rfl : 9 + 3 = 12) ?_
  refine y_aload_n h 0 dX3_init_12 rfl (rfl : 12 + 1 = 13) ?_
  refine y_iconst h 0 dX3_init_13 (by decide) (rfl : 13 + 1 = 14) ?_
  refine y_putI (ci := 3) (C := RX3) (T := TX3) (N := 4) h 1 tyX3 tyX3_ok nmX3 rfl rfl (fun _ hq => List.mem_cons_of_mem _ (List.mem_append_right _ hq)) (by decide) (List.mem_of_getElem? (i := 6) rfl) rfl rfl rfl dX3_init_14 (rfl : 14 + 3 = 17) ?_
  refine y_aload_n h 0 dX3_init_17 rfl (rfl : 17 + 1 = 18) ?_
  refine y_bipush h 6 dX3_init_18 (by decide) (rfl : 18 + 2 = 20) ?_
  refine y_newa (atype := .int) (t := 0) (m := 6) h hBs (zZ_zu (zZ_zuJ (zZ_up (m := 3) hZ (by decide)) (by decide)) (by decide)) (List.mem_of_getElem? (i := 4) rfl) (by decide) rfl rfl (by decide) (by decide) (by decide) rfl ⟨by decide, by decide⟩ dX3_init_20 (rfl : 20 + 2 = 22) ?_
  refine y_putR (ci := 3) (C := RX3) (T := TX3) (N := 4) h 2 tyX3 tyX3_ok nmX3 rfl rfl (fun _ hq => List.mem_cons_of_mem _ (List.mem_append_right _ hq)) (by decide) (List.mem_of_getElem? (i := 7) rfl) rfl rfl hr.2.2.2 rfl (Or.inr ⟨_, rfl⟩) dX3_init_22 (rfl : 22 + 3 = 25) ?_
  refine y_aload_n h 0 dX3_init_25 rfl (rfl : 25 + 1 = 26) ?_
  refine y_bipush h 6 dX3_init_26 (by decide) (rfl : 26 + 2 = 28) ?_
  refine y_newa (atype := .int) (t := 0) (m := 6) h hBs (zZ_zuJ (zZ_up (m := 4) (zZ_zu (zZ_zuJ (zZ_up (m := 3) hZ (by decide)) (by decide)) (by decide)) (by decide)) (by decide)) (List.mem_of_getElem? (i := 4) rfl) (by decide) rfl rfl (by decide) (by decide) (by decide) rfl ⟨by decide, by decide⟩ dX3_init_28 (rfl : 28 + 2 = 30) ?_
  refine y_putR (ci := 3) (C := RX3) (T := TX3) (N := 4) h 3 tyX3 tyX3_ok nmX3 rfl rfl (fun _ hq => List.mem_cons_of_mem _ (List.mem_append_right _ hq)) (by decide) (List.mem_of_getElem? (i := 8) rfl) rfl rfl hr.2.2.2 rfl (Or.inr ⟨_, rfl⟩) dX3_init_30 (rfl : 30 + 3 = 33) ?_
  refine y_iconst h 0 dX3_init_33 (by decide) (rfl : 33 + 1 = 34) ?_
  refine y_istore_n h [(1, .int 0), (0, .ref (za B 1))] dX3_init_34 (by decide) rfl (rfl : 34 + 1 = 35) ?_
  refine y_iload_n h 0 dX3_init_35 rfl (rfl : 35 + 1 = 36) ?_
  refine y_bipush h 6 dX3_init_36 (by decide) (rfl : 36 + 2 = 38) ?_
  refine y_icmp_ge (pc' := 41) h 55 dX3_init_38 (by decide) rfl (fun q => absurd q (by decide)) (fun _ => ?_)
  refine y_aload_n h 1 dX3_init_41 rfl (rfl : 41 + 1 = 42) ?_
  refine y_get (ci := 3) (C := RX3) (T := TX3) (N := 4) h 2 (.ref (za B 3)) rfl rfl (fun _ hq => List.mem_cons_of_mem _ (List.mem_append_right _ hq)) (by decide) (List.mem_of_getElem? (i := 7) rfl) (zfs_ref rfl (by rfl)) dX3_init_42 (rfl : 42 + 3 = 45) ?_
  refine y_iload_n h 0 dX3_init_45 rfl (rfl : 45 + 1 = 46) ?_
  refine y_bipush h (-9) dX3_init_46 (by decide) (rfl : 46 + 2 = 48) ?_
  refine y_iast h (by decide) rfl dX3_init_48 (rfl : 48 + 1 = 49) ?_
  refine y_iinc h 0 1 [(1, .int 1), (0, .ref (za B 1))] dX3_init_49 rfl (by decide) (by decide) rfl (rfl : 49 + 3 = 52) ?_
  refine y_goto (pc' := 35) h dX3_init_52 (by decide) ?_
  refine y_iload_n h 0 dX3_init_35 rfl (rfl : 35 + 1 = 36) ?_
  refine y_bipush h 6 dX3_init_36 (by decide) (rfl : 36 + 2 = 38) ?_
  refine y_icmp_ge (pc' := 41) h 55 dX3_init_38 (by decide) rfl (fun q => absurd q (by decide)) (fun _ => ?_)
  refine y_aload_n h 1 dX3_init_41 rfl (rfl : 41 + 1 = 42) ?_
  refine y_get (ci := 3) (C := RX3) (T := TX3) (N := 4) h 2 (.ref (za B 3)) rfl rfl (fun _ hq => List.mem_cons_of_mem _ (List.mem_append_right _ hq)) (by decide) (List.mem_of_getElem? (i := 7) rfl) (zfs_ref rfl (by rfl)) dX3_init_42 (rfl : 42 + 3 = 45) ?_
  refine y_iload_n h 0 dX3_init_45 rfl (rfl : 45 + 1 = 46) ?_
  refine y_bipush h (-9) dX3_init_46 (by decide) (rfl : 46 + 2 = 48) ?_
  refine y_iast h (by decide) rfl dX3_init_48 (rfl : 48 + 1 = 49) ?_
  refine y_iinc h 0 2 [(1, .int 2), (0, .ref (za B 1))] dX3_init_49 rfl (by decide) (by decide) rfl (rfl : 49 + 3 = 52) ?_
  refine y_goto (pc' := 35) h dX3_init_52 (by decide) ?_
  refine y_iload_n h 0 dX3_init_35 rfl (rfl : 35 + 1 = 36) ?_
  refine y_bipush h 6 dX3_init_36 (by decide) (rfl : 36 + 2 = 38) ?_
  refine y_icmp_ge (pc' := 41) h 55 dX3_init_38 (by decide) rfl (fun q => absurd q (by decide)) (fun _ => ?_)
  refine y_aload_n h 1 dX3_init_41 rfl (rfl : 41 + 1 = 42) ?_
  refine y_get (ci := 3) (C := RX3) (T := TX3) (N := 4) h 2 (.ref (za B 3)) rfl rfl (fun _ hq => List.mem_cons_of_mem _ (List.mem_append_right _ hq)) (by decide) (List.mem_of_getElem? (i := 7) rfl) (zfs_ref rfl (by rfl)) dX3_init_42 (rfl : 42 + 3 = 45) ?_
  refine y_iload_n h 0 dX3_init_45 rfl (rfl : 45 + 1 = 46) ?_
  refine y_bipush h (-9) dX3_init_46 (by decide) (rfl : 46 + 2 = 48) ?_
  refine y_iast h (by decide) rfl dX3_init_48 (rfl : 48 + 1 = 49) ?_
  refine y_iinc h 0 3 [(1, .int 3), (0, .ref (za B 1))] dX3_init_49 rfl (by decide) (by decide) rfl (rfl : 49 + 3 = 52) ?_
  refine y_goto (pc' := 35) h dX3_init_52 (by decide) ?_
  refine y_iload_n h 0 dX3_init_35 rfl (rfl : 35 + 1 = 36) ?_
  refine y_bipush h 6 dX3_init_36 (by decide) (rfl : 36 + 2 = 38) ?_
  refine y_icmp_ge (pc' := 41) h 55 dX3_init_38 (by decide) rfl (fun q => absurd q (by decide)) (fun _ => ?_)
  refine y_aload_n h 1 dX3_init_41 rfl (rfl : 41 + 1 = 42) ?_
  refine y_get (ci := 3) (C := RX3) (T := TX3) (N := 4) h 2 (.ref (za B 3)) rfl rfl (fun _ hq => List.mem_cons_of_mem _ (List.mem_append_right _ hq)) (by decide) (List.mem_of_getElem? (i := 7) rfl) (zfs_ref rfl (by rfl)) dX3_init_42 (rfl : 42 + 3 = 45) ?_
  refine y_iload_n h 0 dX3_init_45 rfl (rfl : 45 + 1 = 46) ?_
  refine y_bipush h (-9) dX3_init_46 (by decide) (rfl : 46 + 2 = 48) ?_
  refine y_iast h (by decide) rfl dX3_init_48 (rfl : 48 + 1 = 49) ?_
  refine y_iinc h 0 4 [(1, .int 4), (0, .ref (za B 1))] dX3_init_49 rfl (by decide) (by decide) rfl (rfl : 49 + 3 = 52) ?_
  refine y_goto (pc' := 35) h dX3_init_52 (by decide) ?_
  refine y_iload_n h 0 dX3_init_35 rfl (rfl : 35 + 1 = 36) ?_
  refine y_bipush h 6 dX3_init_36 (by decide) (rfl : 36 + 2 = 38) ?_
  refine y_icmp_ge (pc' := 41) h 55 dX3_init_38 (by decide) rfl (fun q => absurd q (by decide)) (fun _ => ?_)
  refine y_aload_n h 1 dX3_init_41 rfl (rfl : 41 + 1 = 42) ?_
  refine y_get (ci := 3) (C := RX3) (T := TX3) (N := 4) h 2 (.ref (za B 3)) rfl rfl (fun _ hq => List.mem_cons_of_mem _ (List.mem_append_right _ hq)) (by decide) (List.mem_of_getElem? (i := 7) rfl) (zfs_ref rfl (by rfl)) dX3_init_42 (rfl : 42 + 3 = 45) ?_
  refine y_iload_n h 0 dX3_init_45 rfl (rfl : 45 + 1 = 46) ?_
  refine y_bipush h (-9) dX3_init_46 (by decide) (rfl : 46 + 2 = 48) ?_
  refine y_iast h (by decide) rfl dX3_init_48 (rfl : 48 + 1 = 49) ?_
  refine y_iinc h 0 5 [(1, .int 5), (0, .ref (za B 1))] dX3_init_49 rfl (by decide) (by decide) rfl (rfl : 49 + 3 = 52) ?_
  refine y_goto (pc' := 35) h dX3_init_52 (by decide) ?_
  refine y_iload_n h 0 dX3_init_35 rfl (rfl : 35 + 1 = 36) ?_
  refine y_bipush h 6 dX3_init_36 (by decide) (rfl : 36 + 2 = 38) ?_
  refine y_icmp_ge (pc' := 41) h 55 dX3_init_38 (by decide) rfl (fun q => absurd q (by decide)) (fun _ => ?_)
  refine y_aload_n h 1 dX3_init_41 rfl (rfl : 41 + 1 = 42) ?_
  refine y_get (ci := 3) (C := RX3) (T := TX3) (N := 4) h 2 (.ref (za B 3)) rfl rfl (fun _ hq => List.mem_cons_of_mem _ (List.mem_append_right _ hq)) (by decide) (List.mem_of_getElem? (i := 7) rfl) (zfs_ref rfl (by rfl)) dX3_init_42 (rfl : 42 + 3 = 45) ?_
  refine y_iload_n h 0 dX3_init_45 rfl (rfl : 45 + 1 = 46) ?_
  refine y_bipush h (-9) dX3_init_46 (by decide) (rfl : 46 + 2 = 48) ?_
  refine y_iast h (by decide) rfl dX3_init_48 (rfl : 48 + 1 = 49) ?_
  refine y_iinc h 0 6 [(1, .int 6), (0, .ref (za B 1))] dX3_init_49 rfl (by decide) (by decide) rfl (rfl : 49 + 3 = 52) ?_
  refine y_goto (pc' := 35) h dX3_init_52 (by decide) ?_
  refine y_iload_n h 0 dX3_init_35 rfl (rfl : 35 + 1 = 36) ?_
  refine y_bipush h 6 dX3_init_36 (by decide) (rfl : 36 + 2 = 38) ?_
  refine y_icmp_ge (pc' := 41) h 55 dX3_init_38 (by decide) rfl (fun _ => ?_) (fun q => absurd q (by decide))
  exact y_ret h hr rfl rfl rfl rfl dX3_init_55
theorem zyX1_init : zY yX1_init wsX1_init cX1_init 1 none 0 := ⟨⟨_, rfl⟩, by decide +kernel⟩
noncomputable abbrev rmX1_init_6 : Room := { frames := 1, cells := 7, slots := 150, locals := 24 }
def iIX1_init_6 (I : zM) : zM := zu (zu I 6 6 0) 6 7 0
def iJX1_init_6 (J : zJ) : zJ := zuJ (zuJ (zuJ (zuJ (zuJ (zuJ (zuJ J 6 0 (some 7)) 6 1 (some 8)) 6 2 (some 9)) 6 3 (some 10)) 6 4 (some 11)) 6 5 (some 12)) 6 8 (some 13)
theorem zZX1_init_6 {I : zM} {J : zJ} (hZ : zZ 7 I J) : zZ 14 (iIX1_init_6 I) (iJX1_init_6 J) := (zZ_zuJ (zZ_up (m := 14) (zZ_zu (zZ_zu (zZ_zuJ (zZ_up (m := 13) (zZ_zuJ (zZ_up (m := 12) (zZ_zuJ (zZ_up (m := 11) (zZ_zuJ (zZ_up (m := 10) (zZ_zuJ (zZ_up (m := 9) (zZ_zuJ (zZ_up (m := 8) hZ (by decide)) (by decide)) (by decide)) (by decide)) (by decide)) (by decide)) (by decide)) (by decide)) (by decide)) (by decide)) (by decide)) (by decide)) (by decide)) (by decide)) (by decide)) (by decide))
set_option maxHeartbeats 2000000 in
set_option maxRecDepth 100000 in
theorem c_X1_init_6 (B : zB) (hBs : zBs B) (I : zM) (J : zJ) (hZ : zZ 7 I J) : zCc B 7 I J yX1_init wsX1_init rmX1_init_6 [.ref (za B 6)] 14 (iIX1_init_6 I) (iJX1_init_6 J) := by
  refine y_start (own := RX1) (cc := cX1_init) (nL := 1) rfl (by decide) rfl rfl (Nat.le_of_ble_eq_true rfl) (L := [(0, .ref (za B 6))]) rfl (fun G h hr => ?_)
  refine y_aload_n h 0 dX1_init_0 rfl (rfl : 0 + 1 = 1) ?_
  refine y_objInit h (List.mem_of_getElem? (i := 1) rfl) (List.mem_of_getElem? (i := 2) rfl) (List.mem_of_getElem? (i := 3) rfl) (by decide) dX1_init_1 (rfl : 1 + 3 = 4) ?_
  refine y_aload_n h 0 dX1_init_4 rfl (rfl : 4 + 1 = 5) ?_
  refine y_bipush h 24 dX1_init_5 (by decide) (rfl : 5 + 2 = 7) ?_
  refine y_newa (atype := .int) (t := 0) (m := 24) h hBs hZ (List.mem_of_getElem? (i := 4) rfl) (by decide) rfl rfl (by decide) (by decide) (by decide) rfl ⟨by decide, by decide⟩ dX1_init_7 (rfl : 7 + 2 = 9) ?_
  refine y_putR (ci := 1) (C := RX1) (T := TX1) (N := 9) h 0 tyX1 tyX1_ok nmX1 rfl rfl (fun _ hq => List.mem_cons_of_mem _ (List.mem_append_right _ hq)) (by decide) (List.mem_of_getElem? (i := 5) rfl) rfl rfl hr.2.2.2 rfl (Or.inr ⟨_, rfl⟩) dX1_init_9 (rfl : 9 + 3 = 12) ?_
  refine y_aload_n h 0 dX1_init_12 rfl (rfl : 12 + 1 = 13) ?_
  refine y_bipush h 24 dX1_init_13 (by decide) (rfl : 13 + 2 = 15) ?_
  refine y_newa (atype := .int) (t := 0) (m := 24) h hBs (zZ_zuJ (zZ_up (m := 8) hZ (by decide)) (by decide)) (List.mem_of_getElem? (i := 4) rfl) (by decide) rfl rfl (by decide) (by decide) (by decide) rfl ⟨by decide, by decide⟩ dX1_init_15 (rfl : 15 + 2 = 17) ?_
  refine y_putR (ci := 1) (C := RX1) (T := TX1) (N := 9) h 1 tyX1 tyX1_ok nmX1 rfl rfl (fun _ hq => List.mem_cons_of_mem _ (List.mem_append_right _ hq)) (by decide) (List.mem_of_getElem? (i := 6) rfl) rfl rfl hr.2.2.2 rfl (Or.inr ⟨_, rfl⟩) dX1_init_17 (rfl : 17 + 3 = 20) ?_
  refine y_aload_n h 0 dX1_init_20 rfl (rfl : 20 + 1 = 21) ?_
  refine y_bipush h 24 dX1_init_21 (by decide) (rfl : 21 + 2 = 23) ?_
  refine y_newa (atype := .int) (t := 0) (m := 24) h hBs (zZ_zuJ (zZ_up (m := 9) (zZ_zuJ (zZ_up (m := 8) hZ (by decide)) (by decide)) (by decide)) (by decide)) (List.mem_of_getElem? (i := 4) rfl) (by decide) rfl rfl (by decide) (by decide) (by decide) rfl ⟨by decide, by decide⟩ dX1_init_23 (rfl : 23 + 2 = 25) ?_
  refine y_putR (ci := 1) (C := RX1) (T := TX1) (N := 9) h 2 tyX1 tyX1_ok nmX1 rfl rfl (fun _ hq => List.mem_cons_of_mem _ (List.mem_append_right _ hq)) (by decide) (List.mem_of_getElem? (i := 7) rfl) rfl rfl hr.2.2.2 rfl (Or.inr ⟨_, rfl⟩) dX1_init_25 (rfl : 25 + 3 = 28) ?_
  refine y_aload_n h 0 dX1_init_28 rfl (rfl : 28 + 1 = 29) ?_
  refine y_bipush h 24 dX1_init_29 (by decide) (rfl : 29 + 2 = 31) ?_
  refine y_newa (atype := .int) (t := 0) (m := 24) h hBs (zZ_zuJ (zZ_up (m := 10) (zZ_zuJ (zZ_up (m := 9) (zZ_zuJ (zZ_up (m := 8) hZ (by decide)) (by decide)) (by decide)) (by decide)) (by decide)) (by decide)) (List.mem_of_getElem? (i := 4) rfl) (by decide) rfl rfl (by decide) (by decide) (by decide) rfl ⟨by decide, by decide⟩ dX1_init_31 (rfl : 31 + 2 = 33) ?_
  refine y_putR (ci := 1) (C := RX1) (T := TX1) (N := 9) h 3 tyX1 tyX1_ok nmX1 rfl rfl (fun _ hq => List.mem_cons_of_mem _ (List.mem_append_right _ hq)) (by decide) (List.mem_of_getElem? (i := 8) rfl) rfl rfl hr.2.2.2 rfl (Or.inr ⟨_, rfl⟩) dX1_init_33 (rfl : 33 + 3 = 36) ?_
  refine y_aload_n h 0 dX1_init_36 rfl (rfl : 36 + 1 = 37) ?_
  refine y_bipush h 24 dX1_init_37 (by decide) (rfl : 37 + 2 = 39) ?_
  refine y_newa (atype := .int) (t := 0) (m := 24) h hBs (zZ_zuJ (zZ_up (m := 11) (zZ_zuJ (zZ_up (m := 10) (zZ_zuJ (zZ_up (m := 9) (zZ_zuJ (zZ_up (m := 8) hZ (by decide)) (by decide)) (by decide)) (by decide)) (by decide)) (by decide)) (by decide)) (by decide)) (List.mem_of_getElem? (i := 4) rfl) (by decide) rfl rfl (by decide) (by decide) (by decide) rfl ⟨by decide, by decide⟩ dX1_init_39 (rfl : 39 + 2 = 41) ?_
  refine y_putR (ci := 1) (C := RX1) (T := TX1) (N := 9) h 4 tyX1 tyX1_ok nmX1 rfl rfl (fun _ hq => List.mem_cons_of_mem _ (List.mem_append_right _ hq)) (by decide) (List.mem_of_getElem? (i := 9) rfl) rfl rfl hr.2.2.2 rfl (Or.inr ⟨_, rfl⟩) dX1_init_41 (rfl : 41 + 3 = 44) ?_
  refine y_aload_n h 0 dX1_init_44 rfl (rfl : 44 + 1 = 45) ?_
  refine y_bipush h 24 dX1_init_45 (by decide) (rfl : 45 + 2 = 47) ?_
  refine y_newa (atype := .boolean) (t := 1) (m := 24) h hBs (zZ_zuJ (zZ_up (m := 12) (zZ_zuJ (zZ_up (m := 11) (zZ_zuJ (zZ_up (m := 10) (zZ_zuJ (zZ_up (m := 9) (zZ_zuJ (zZ_up (m := 8) hZ (by decide)) (by decide)) (by decide)) (by decide)) (by decide)) (by decide)) (by decide)) (by decide)) (by decide)) (by decide)) (List.mem_of_getElem? (i := 10) rfl) (by decide) rfl rfl (by decide) (by decide) (by decide) rfl ⟨by decide, by decide⟩ dX1_init_47 (rfl : 47 + 2 = 49) ?_
  refine y_putR (ci := 1) (C := RX1) (T := TX1) (N := 9) h 5 tyX1 tyX1_ok nmX1 rfl rfl (fun _ hq => List.mem_cons_of_mem _ (List.mem_append_right _ hq)) (by decide) (List.mem_of_getElem? (i := 11) rfl) rfl rfl hr.2.2.2 rfl (Or.inr ⟨_, rfl⟩) dX1_init_49 (rfl : 49 + 3 = 52) ?_
  refine y_aload_n h 0 dX1_init_52 rfl (rfl : 52 + 1 = 53) ?_
  refine y_iconst h 0 dX1_init_53 (by decide) (rfl : 53 + 1 = 54) ?_
  refine y_putI (ci := 1) (C := RX1) (T := TX1) (N := 9) h 6 tyX1 tyX1_ok nmX1 rfl rfl (fun _ hq => List.mem_cons_of_mem _ (List.mem_append_right _ hq)) (by decide) (List.mem_of_getElem? (i := 12) rfl) rfl rfl rfl dX1_init_54 (rfl : 54 + 3 = 57) ?_
  refine y_aload_n h 0 dX1_init_57 rfl (rfl : 57 + 1 = 58) ?_
  refine y_iconst h 0 dX1_init_58 (by decide) (rfl : 58 + 1 = 59) ?_
  refine y_putI (ci := 1) (C := RX1) (T := TX1) (N := 9) h 7 tyX1 tyX1_ok nmX1 rfl rfl (fun _ hq => List.mem_cons_of_mem _ (List.mem_append_right _ hq)) (by decide) (List.mem_of_getElem? (i := 13) rfl) rfl rfl rfl dX1_init_59 (rfl : 59 + 3 = 62) ?_
  refine y_aload_n h 0 dX1_init_62 rfl (rfl : 62 + 1 = 63) ?_
  refine y_bipush h 6 dX1_init_63 (by decide) (rfl : 63 + 2 = 65) ?_
  refine y_newa (atype := .int) (t := 0) (m := 6) h hBs (zZ_zu (zZ_zu (zZ_zuJ (zZ_up (m := 13) (zZ_zuJ (zZ_up (m := 12) (zZ_zuJ (zZ_up (m := 11) (zZ_zuJ (zZ_up (m := 10) (zZ_zuJ (zZ_up (m := 9) (zZ_zuJ (zZ_up (m := 8) hZ (by decide)) (by decide)) (by decide)) (by decide)) (by decide)) (by decide)) (by decide)) (by decide)) (by decide)) (by decide)) (by decide)) (by decide)) (by decide)) (by decide)) (List.mem_of_getElem? (i := 4) rfl) (by decide) rfl rfl (by decide) (by decide) (by decide) rfl ⟨by decide, by decide⟩ dX1_init_65 (rfl : 65 + 2 = 67) ?_
  refine y_putR (ci := 1) (C := RX1) (T := TX1) (N := 9) h 8 tyX1 tyX1_ok nmX1 rfl rfl (fun _ hq => List.mem_cons_of_mem _ (List.mem_append_right _ hq)) (by decide) (List.mem_of_getElem? (i := 14) rfl) rfl rfl hr.2.2.2 rfl (Or.inr ⟨_, rfl⟩) dX1_init_67 (rfl : 67 + 3 = 70) ?_
  exact y_ret h hr rfl rfl rfl rfl dX1_init_70
theorem zyX9_init : zY yX9_init wsX9_init cX9_init 1 none 0 := ⟨⟨_, rfl⟩, by decide +kernel⟩
noncomputable abbrev rmX9_init_16 : Room := { frames := 1, cells := 1, slots := 24, locals := 24 }
def iIX9_init_16 (I : zM) : zM := zu I 16 1 0
def iJX9_init_16 (J : zJ) : zJ := zuJ J 16 0 (some 17)
theorem zZX9_init_16 {I : zM} {J : zJ} (hZ : zZ 17 I J) : zZ 18 (iIX9_init_16 I) (iJX9_init_16 J) := (zZ_zu (zZ_zuJ (zZ_up (m := 18) hZ (by decide)) (by decide)) (by decide))
set_option maxHeartbeats 2000000 in
set_option maxRecDepth 100000 in
theorem c_X9_init_16 (B : zB) (hBs : zBs B) (I : zM) (J : zJ) (hZ : zZ 17 I J) : zCc B 17 I J yX9_init wsX9_init rmX9_init_16 [.ref (za B 16)] 18 (iIX9_init_16 I) (iJX9_init_16 J) := by
  refine y_start (own := RX9) (cc := cX9_init) (nL := 1) rfl (by decide) rfl rfl (Nat.le_of_ble_eq_true rfl) (L := [(0, .ref (za B 16))]) rfl (fun G h hr => ?_)
  refine y_aload_n h 0 dX9_init_0 rfl (rfl : 0 + 1 = 1) ?_
  refine y_objInit h (List.mem_of_getElem? (i := 1) rfl) (List.mem_of_getElem? (i := 2) rfl) (List.mem_of_getElem? (i := 3) rfl) (by decide) dX9_init_1 (rfl : 1 + 3 = 4) ?_
  refine y_aload_n h 0 dX9_init_4 rfl (rfl : 4 + 1 = 5) ?_
  refine y_bipush h 24 dX9_init_5 (by decide) (rfl : 5 + 2 = 7) ?_
  refine y_newa (atype := .char) (t := 2) (m := 24) h hBs hZ (List.mem_of_getElem? (i := 4) rfl) (by decide) rfl rfl (by decide) (by decide) (by decide) rfl ⟨by decide, by decide⟩ dX9_init_7 (rfl : 7 + 2 = 9) ?_
  refine y_putR (ci := 9) (C := RX9) (T := TX9) (N := 2) h 0 tyX9 tyX9_ok nmX9 rfl rfl (fun _ hq => List.mem_cons_of_mem _ (List.mem_append_right _ hq)) (by decide) (List.mem_of_getElem? (i := 5) rfl) rfl rfl hr.2.2.2 rfl (Or.inr ⟨_, rfl⟩) dX9_init_9 (rfl : 9 + 3 = 12) ?_
  refine y_aload_n h 0 dX9_init_12 rfl (rfl : 12 + 1 = 13) ?_
  refine y_iconst h 0 dX9_init_13 (by decide) (rfl : 13 + 1 = 14) ?_
  refine y_putI (ci := 9) (C := RX9) (T := TX9) (N := 2) h 1 tyX9 tyX9_ok nmX9 rfl rfl (fun _ hq => List.mem_cons_of_mem _ (List.mem_append_right _ hq)) (by decide) (List.mem_of_getElem? (i := 6) rfl) rfl rfl rfl dX9_init_14 (rfl : 14 + 3 = 17) ?_
  exact y_ret h hr rfl rfl rfl rfl dX9_init_17
theorem zyX10_init : zY yX10_init wsX10_init cX10_init 1 none 0 := ⟨⟨_, rfl⟩, by decide +kernel⟩
noncomputable abbrev rmX10_init_20 : Room := { frames := 1, cells := 0, slots := 0, locals := 24 }
def iIX10_init_20 (I : zM) : zM := I
def iJX10_init_20 (J : zJ) : zJ := J
theorem zZX10_init_20 {I : zM} {J : zJ} (hZ : zZ 21 I J) : zZ 21 (iIX10_init_20 I) (iJX10_init_20 J) := hZ
set_option maxHeartbeats 2000000 in
set_option maxRecDepth 100000 in
theorem c_X10_init_20 (B : zB) (hBs : zBs B) (I : zM) (J : zJ) (hZ : zZ 21 I J) : zCc B 21 I J yX10_init wsX10_init rmX10_init_20 [.ref (za B 20)] 21 (iIX10_init_20 I) (iJX10_init_20 J) := by
  refine y_start (own := RX10) (cc := cX10_init) (nL := 1) rfl (by decide) rfl rfl (Nat.le_of_ble_eq_true rfl) (L := [(0, .ref (za B 20))]) rfl (fun G h hr => ?_)
  refine y_aload_n h 0 dX10_init_0 rfl (rfl : 0 + 1 = 1) ?_
  refine y_objInit h (List.mem_of_getElem? (i := 1) rfl) (List.mem_of_getElem? (i := 2) rfl) (List.mem_of_getElem? (i := 3) rfl) (by decide) dX10_init_1 (rfl : 1 + 3 = 4) ?_
  exact y_ret h hr rfl rfl rfl rfl dX10_init_4
theorem zyX6_init : zY yX6_init wsX6_init cX6_init 1 none 0 := ⟨⟨_, rfl⟩, by decide +kernel⟩
noncomputable abbrev rmX6_init_20 : Room := { frames := 2, cells := 0, slots := 0, locals := 44 }
def iIX6_init_20 (I : zM) : zM := zu (zu (zu (zu (zu (zu (iIX10_init_20 I) 20 0 0) 20 1 0) 20 2 0) 20 3 (-9)) 20 4 (-9)) 20 5 (-9)
def iJX6_init_20 (J : zJ) : zJ := iJX10_init_20 J
theorem zZX6_init_20 {I : zM} {J : zJ} (hZ : zZ 21 I J) : zZ 21 (iIX6_init_20 I) (iJX6_init_20 J) := (zZ_zu (zZ_zu (zZ_zu (zZ_zu (zZ_zu (zZ_zu (zZX10_init_20 hZ) (by decide)) (by decide)) (by decide)) (by decide)) (by decide)) (by decide))
set_option maxHeartbeats 2000000 in
set_option maxRecDepth 100000 in
theorem c_X6_init_20 (B : zB) (hBs : zBs B) (I : zM) (J : zJ) (hZ : zZ 21 I J) : zCc B 21 I J yX6_init wsX6_init rmX6_init_20 [.ref (za B 20)] 21 (iIX6_init_20 I) (iJX6_init_20 J) := by
  refine y_start (own := RX6) (cc := cX6_init) (nL := 1) rfl (by decide) rfl rfl (Nat.le_of_ble_eq_true rfl) (L := [(0, .ref (za B 20))]) rfl (fun G h hr => ?_)
  refine y_aload_n h 0 dX6_init_0 rfl (rfl : 0 + 1 = 1) ?_
  refine y_callIN (n' := 21) (I' := iIX10_init_20 I) (J' := iJX10_init_20 J) h [] [] zyX10_init (c_X10_init_20 B hBs I J hZ) gX6_init_X10_init_n3 (List.mem_of_getElem? (i := 8) rfl) (List.mem_of_getElem? (i := 3) rfl) (List.mem_of_getElem? (i := 7) rfl) rfl ⟨by decide, by decide⟩ rfl (Nat.le_of_ble_eq_true rfl) ⟨by decide, by decide⟩ rfl dX6_init_1 (rfl : 1 + 3 = 4) ?_
  refine y_aload_n h 0 dX6_init_4 rfl (rfl : 4 + 1 = 5) ?_
  refine y_iconst h 0 dX6_init_5 (by decide) (rfl : 5 + 1 = 6) ?_
  refine y_putI (ci := 6) (C := RX6) (T := TX6) (N := 6) h 0 tyX6 tyX6_ok nmX6 rfl rfl (fun _ hq => List.mem_cons_of_mem _ (List.mem_append_right _ hq)) (by decide) (List.mem_of_getElem? (i := 1) rfl) rfl rfl rfl dX6_init_6 (rfl : 6 + 3 = 9) ?_
  refine y_aload_n h 0 dX6_init_9 rfl (rfl : 9 + 1 = 10) ?_
  refine y_iconst h 0 dX6_init_10 (by decide) (rfl : 10 + 1 = 11) ?_
  refine y_putI (ci := 6) (C := RX6) (T := TX6) (N := 6) h 1 tyX6 tyX6_ok nmX6 rfl rfl (fun _ hq => List.mem_cons_of_mem _ (List.mem_append_right _ hq)) (by decide) (List.mem_of_getElem? (i := 2) rfl) rfl rfl rfl dX6_init_11 (rfl : 11 + 3 = 14) ?_
  refine y_aload_n h 0 dX6_init_14 rfl (rfl : 14 + 1 = 15) ?_
  refine y_iconst h 0 dX6_init_15 (by decide) (rfl : 15 + 1 = 16) ?_
  refine y_putI (ci := 6) (C := RX6) (T := TX6) (N := 6) h 2 tyX6 tyX6_ok nmX6 rfl rfl (fun _ hq => List.mem_cons_of_mem _ (List.mem_append_right _ hq)) (by decide) (List.mem_of_getElem? (i := 3) rfl) rfl rfl rfl dX6_init_16 (rfl : 16 + 3 = 19) ?_
  refine y_aload_n h 0 dX6_init_19 rfl (rfl : 19 + 1 = 20) ?_
  refine y_bipush h (-9) dX6_init_20 (by decide) (rfl : 20 + 2 = 22) ?_
  refine y_putI (ci := 6) (C := RX6) (T := TX6) (N := 6) h 3 tyX6 tyX6_ok nmX6 rfl rfl (fun _ hq => List.mem_cons_of_mem _ (List.mem_append_right _ hq)) (by decide) (List.mem_of_getElem? (i := 4) rfl) rfl rfl rfl dX6_init_22 (rfl : 22 + 3 = 25) ?_
  refine y_aload_n h 0 dX6_init_25 rfl (rfl : 25 + 1 = 26) ?_
  refine y_bipush h (-9) dX6_init_26 (by decide) (rfl : 26 + 2 = 28) ?_
  refine y_putI (ci := 6) (C := RX6) (T := TX6) (N := 6) h 4 tyX6 tyX6_ok nmX6 rfl rfl (fun _ hq => List.mem_cons_of_mem _ (List.mem_append_right _ hq)) (by decide) (List.mem_of_getElem? (i := 5) rfl) rfl rfl rfl dX6_init_28 (rfl : 28 + 3 = 31) ?_
  refine y_aload_n h 0 dX6_init_31 rfl (rfl : 31 + 1 = 32) ?_
  refine y_bipush h (-9) dX6_init_32 (by decide) (rfl : 32 + 2 = 34) ?_
  refine y_putI (ci := 6) (C := RX6) (T := TX6) (N := 6) h 5 tyX6 tyX6_ok nmX6 rfl rfl (fun _ hq => List.mem_cons_of_mem _ (List.mem_append_right _ hq)) (by decide) (List.mem_of_getElem? (i := 6) rfl) rfl rfl rfl dX6_init_34 (rfl : 34 + 3 = 37) ?_
  exact y_ret h hr rfl rfl rfl rfl dX6_init_37
noncomputable abbrev rmX10_init_21 : Room := { frames := 1, cells := 0, slots := 0, locals := 24 }
def iIX10_init_21 (I : zM) : zM := I
def iJX10_init_21 (J : zJ) : zJ := J
theorem zZX10_init_21 {I : zM} {J : zJ} (hZ : zZ 22 I J) : zZ 22 (iIX10_init_21 I) (iJX10_init_21 J) := hZ
set_option maxHeartbeats 2000000 in
set_option maxRecDepth 100000 in
theorem c_X10_init_21 (B : zB) (hBs : zBs B) (I : zM) (J : zJ) (hZ : zZ 22 I J) : zCc B 22 I J yX10_init wsX10_init rmX10_init_21 [.ref (za B 21)] 22 (iIX10_init_21 I) (iJX10_init_21 J) := by
  refine y_start (own := RX10) (cc := cX10_init) (nL := 1) rfl (by decide) rfl rfl (Nat.le_of_ble_eq_true rfl) (L := [(0, .ref (za B 21))]) rfl (fun G h hr => ?_)
  refine y_aload_n h 0 dX10_init_0 rfl (rfl : 0 + 1 = 1) ?_
  refine y_objInit h (List.mem_of_getElem? (i := 1) rfl) (List.mem_of_getElem? (i := 2) rfl) (List.mem_of_getElem? (i := 3) rfl) (by decide) dX10_init_1 (rfl : 1 + 3 = 4) ?_
  exact y_ret h hr rfl rfl rfl rfl dX10_init_4
noncomputable abbrev rmX6_init_21 : Room := { frames := 2, cells := 0, slots := 0, locals := 44 }
def iIX6_init_21 (I : zM) : zM := zu (zu (zu (zu (zu (zu (iIX10_init_21 I) 21 0 0) 21 1 0) 21 2 0) 21 3 (-9)) 21 4 (-9)) 21 5 (-9)
def iJX6_init_21 (J : zJ) : zJ := iJX10_init_21 J
theorem zZX6_init_21 {I : zM} {J : zJ} (hZ : zZ 22 I J) : zZ 22 (iIX6_init_21 I) (iJX6_init_21 J) := (zZ_zu (zZ_zu (zZ_zu (zZ_zu (zZ_zu (zZ_zu (zZX10_init_21 hZ) (by decide)) (by decide)) (by decide)) (by decide)) (by decide)) (by decide))
set_option maxHeartbeats 2000000 in
set_option maxRecDepth 100000 in
theorem c_X6_init_21 (B : zB) (hBs : zBs B) (I : zM) (J : zJ) (hZ : zZ 22 I J) : zCc B 22 I J yX6_init wsX6_init rmX6_init_21 [.ref (za B 21)] 22 (iIX6_init_21 I) (iJX6_init_21 J) := by
  refine y_start (own := RX6) (cc := cX6_init) (nL := 1) rfl (by decide) rfl rfl (Nat.le_of_ble_eq_true rfl) (L := [(0, .ref (za B 21))]) rfl (fun G h hr => ?_)
  refine y_aload_n h 0 dX6_init_0 rfl (rfl : 0 + 1 = 1) ?_
  refine y_callIN (n' := 22) (I' := iIX10_init_21 I) (J' := iJX10_init_21 J) h [] [] zyX10_init (c_X10_init_21 B hBs I J hZ) gX6_init_X10_init_n3 (List.mem_of_getElem? (i := 8) rfl) (List.mem_of_getElem? (i := 3) rfl) (List.mem_of_getElem? (i := 7) rfl) rfl ⟨by decide, by decide⟩ rfl (Nat.le_of_ble_eq_true rfl) ⟨by decide, by decide⟩ rfl dX6_init_1 (rfl : 1 + 3 = 4) ?_
  refine y_aload_n h 0 dX6_init_4 rfl (rfl : 4 + 1 = 5) ?_
  refine y_iconst h 0 dX6_init_5 (by decide) (rfl : 5 + 1 = 6) ?_
  refine y_putI (ci := 6) (C := RX6) (T := TX6) (N := 6) h 0 tyX6 tyX6_ok nmX6 rfl rfl (fun _ hq => List.mem_cons_of_mem _ (List.mem_append_right _ hq)) (by decide) (List.mem_of_getElem? (i := 1) rfl) rfl rfl rfl dX6_init_6 (rfl : 6 + 3 = 9) ?_
  refine y_aload_n h 0 dX6_init_9 rfl (rfl : 9 + 1 = 10) ?_
  refine y_iconst h 0 dX6_init_10 (by decide) (rfl : 10 + 1 = 11) ?_
  refine y_putI (ci := 6) (C := RX6) (T := TX6) (N := 6) h 1 tyX6 tyX6_ok nmX6 rfl rfl (fun _ hq => List.mem_cons_of_mem _ (List.mem_append_right _ hq)) (by decide) (List.mem_of_getElem? (i := 2) rfl) rfl rfl rfl dX6_init_11 (rfl : 11 + 3 = 14) ?_
  refine y_aload_n h 0 dX6_init_14 rfl (rfl : 14 + 1 = 15) ?_
  refine y_iconst h 0 dX6_init_15 (by decide) (rfl : 15 + 1 = 16) ?_
  refine y_putI (ci := 6) (C := RX6) (T := TX6) (N := 6) h 2 tyX6 tyX6_ok nmX6 rfl rfl (fun _ hq => List.mem_cons_of_mem _ (List.mem_append_right _ hq)) (by decide) (List.mem_of_getElem? (i := 3) rfl) rfl rfl rfl dX6_init_16 (rfl : 16 + 3 = 19) ?_
  refine y_aload_n h 0 dX6_init_19 rfl (rfl : 19 + 1 = 20) ?_
  refine y_bipush h (-9) dX6_init_20 (by decide) (rfl : 20 + 2 = 22) ?_
  refine y_putI (ci := 6) (C := RX6) (T := TX6) (N := 6) h 3 tyX6 tyX6_ok nmX6 rfl rfl (fun _ hq => List.mem_cons_of_mem _ (List.mem_append_right _ hq)) (by decide) (List.mem_of_getElem? (i := 4) rfl) rfl rfl rfl dX6_init_22 (rfl : 22 + 3 = 25) ?_
  refine y_aload_n h 0 dX6_init_25 rfl (rfl : 25 + 1 = 26) ?_
  refine y_bipush h (-9) dX6_init_26 (by decide) (rfl : 26 + 2 = 28) ?_
  refine y_putI (ci := 6) (C := RX6) (T := TX6) (N := 6) h 4 tyX6 tyX6_ok nmX6 rfl rfl (fun _ hq => List.mem_cons_of_mem _ (List.mem_append_right _ hq)) (by decide) (List.mem_of_getElem? (i := 5) rfl) rfl rfl rfl dX6_init_28 (rfl : 28 + 3 = 31) ?_
  refine y_aload_n h 0 dX6_init_31 rfl (rfl : 31 + 1 = 32) ?_
  refine y_bipush h (-9) dX6_init_32 (by decide) (rfl : 32 + 2 = 34) ?_
  refine y_putI (ci := 6) (C := RX6) (T := TX6) (N := 6) h 5 tyX6 tyX6_ok nmX6 rfl rfl (fun _ hq => List.mem_cons_of_mem _ (List.mem_append_right _ hq)) (by decide) (List.mem_of_getElem? (i := 6) rfl) rfl rfl rfl dX6_init_34 (rfl : 34 + 3 = 37) ?_
  exact y_ret h hr rfl rfl rfl rfl dX6_init_37
noncomputable abbrev rmX10_init_22 : Room := { frames := 1, cells := 0, slots := 0, locals := 24 }
def iIX10_init_22 (I : zM) : zM := I
def iJX10_init_22 (J : zJ) : zJ := J
theorem zZX10_init_22 {I : zM} {J : zJ} (hZ : zZ 23 I J) : zZ 23 (iIX10_init_22 I) (iJX10_init_22 J) := hZ
set_option maxHeartbeats 2000000 in
set_option maxRecDepth 100000 in
theorem c_X10_init_22 (B : zB) (hBs : zBs B) (I : zM) (J : zJ) (hZ : zZ 23 I J) : zCc B 23 I J yX10_init wsX10_init rmX10_init_22 [.ref (za B 22)] 23 (iIX10_init_22 I) (iJX10_init_22 J) := by
  refine y_start (own := RX10) (cc := cX10_init) (nL := 1) rfl (by decide) rfl rfl (Nat.le_of_ble_eq_true rfl) (L := [(0, .ref (za B 22))]) rfl (fun G h hr => ?_)
  refine y_aload_n h 0 dX10_init_0 rfl (rfl : 0 + 1 = 1) ?_
  refine y_objInit h (List.mem_of_getElem? (i := 1) rfl) (List.mem_of_getElem? (i := 2) rfl) (List.mem_of_getElem? (i := 3) rfl) (by decide) dX10_init_1 (rfl : 1 + 3 = 4) ?_
  exact y_ret h hr rfl rfl rfl rfl dX10_init_4
noncomputable abbrev rmX6_init_22 : Room := { frames := 2, cells := 0, slots := 0, locals := 44 }
def iIX6_init_22 (I : zM) : zM := zu (zu (zu (zu (zu (zu (iIX10_init_22 I) 22 0 0) 22 1 0) 22 2 0) 22 3 (-9)) 22 4 (-9)) 22 5 (-9)
def iJX6_init_22 (J : zJ) : zJ := iJX10_init_22 J
theorem zZX6_init_22 {I : zM} {J : zJ} (hZ : zZ 23 I J) : zZ 23 (iIX6_init_22 I) (iJX6_init_22 J) := (zZ_zu (zZ_zu (zZ_zu (zZ_zu (zZ_zu (zZ_zu (zZX10_init_22 hZ) (by decide)) (by decide)) (by decide)) (by decide)) (by decide)) (by decide))
set_option maxHeartbeats 2000000 in
set_option maxRecDepth 100000 in
theorem c_X6_init_22 (B : zB) (hBs : zBs B) (I : zM) (J : zJ) (hZ : zZ 23 I J) : zCc B 23 I J yX6_init wsX6_init rmX6_init_22 [.ref (za B 22)] 23 (iIX6_init_22 I) (iJX6_init_22 J) := by
  refine y_start (own := RX6) (cc := cX6_init) (nL := 1) rfl (by decide) rfl rfl (Nat.le_of_ble_eq_true rfl) (L := [(0, .ref (za B 22))]) rfl (fun G h hr => ?_)
  refine y_aload_n h 0 dX6_init_0 rfl (rfl : 0 + 1 = 1) ?_
  refine y_callIN (n' := 23) (I' := iIX10_init_22 I) (J' := iJX10_init_22 J) h [] [] zyX10_init (c_X10_init_22 B hBs I J hZ) gX6_init_X10_init_n3 (List.mem_of_getElem? (i := 8) rfl) (List.mem_of_getElem? (i := 3) rfl) (List.mem_of_getElem? (i := 7) rfl) rfl ⟨by decide, by decide⟩ rfl (Nat.le_of_ble_eq_true rfl) ⟨by decide, by decide⟩ rfl dX6_init_1 (rfl : 1 + 3 = 4) ?_
  refine y_aload_n h 0 dX6_init_4 rfl (rfl : 4 + 1 = 5) ?_
  refine y_iconst h 0 dX6_init_5 (by decide) (rfl : 5 + 1 = 6) ?_
  refine y_putI (ci := 6) (C := RX6) (T := TX6) (N := 6) h 0 tyX6 tyX6_ok nmX6 rfl rfl (fun _ hq => List.mem_cons_of_mem _ (List.mem_append_right _ hq)) (by decide) (List.mem_of_getElem? (i := 1) rfl) rfl rfl rfl dX6_init_6 (rfl : 6 + 3 = 9) ?_
  refine y_aload_n h 0 dX6_init_9 rfl (rfl : 9 + 1 = 10) ?_
  refine y_iconst h 0 dX6_init_10 (by decide) (rfl : 10 + 1 = 11) ?_
  refine y_putI (ci := 6) (C := RX6) (T := TX6) (N := 6) h 1 tyX6 tyX6_ok nmX6 rfl rfl (fun _ hq => List.mem_cons_of_mem _ (List.mem_append_right _ hq)) (by decide) (List.mem_of_getElem? (i := 2) rfl) rfl rfl rfl dX6_init_11 (rfl : 11 + 3 = 14) ?_
  refine y_aload_n h 0 dX6_init_14 rfl (rfl : 14 + 1 = 15) ?_
  refine y_iconst h 0 dX6_init_15 (by decide) (rfl : 15 + 1 = 16) ?_
  refine y_putI (ci := 6) (C := RX6) (T := TX6) (N := 6) h 2 tyX6 tyX6_ok nmX6 rfl rfl (fun _ hq => List.mem_cons_of_mem _ (List.mem_append_right _ hq)) (by decide) (List.mem_of_getElem? (i := 3) rfl) rfl rfl rfl dX6_init_16 (rfl : 16 + 3 = 19) ?_
  refine y_aload_n h 0 dX6_init_19 rfl (rfl : 19 + 1 = 20) ?_
  refine y_bipush h (-9) dX6_init_20 (by decide) (rfl : 20 + 2 = 22) ?_
  refine y_putI (ci := 6) (C := RX6) (T := TX6) (N := 6) h 3 tyX6 tyX6_ok nmX6 rfl rfl (fun _ hq => List.mem_cons_of_mem _ (List.mem_append_right _ hq)) (by decide) (List.mem_of_getElem? (i := 4) rfl) rfl rfl rfl dX6_init_22 (rfl : 22 + 3 = 25) ?_
  refine y_aload_n h 0 dX6_init_25 rfl (rfl : 25 + 1 = 26) ?_
  refine y_bipush h (-9) dX6_init_26 (by decide) (rfl : 26 + 2 = 28) ?_
  refine y_putI (ci := 6) (C := RX6) (T := TX6) (N := 6) h 4 tyX6 tyX6_ok nmX6 rfl rfl (fun _ hq => List.mem_cons_of_mem _ (List.mem_append_right _ hq)) (by decide) (List.mem_of_getElem? (i := 5) rfl) rfl rfl rfl dX6_init_28 (rfl : 28 + 3 = 31) ?_
  refine y_aload_n h 0 dX6_init_31 rfl (rfl : 31 + 1 = 32) ?_
  refine y_bipush h (-9) dX6_init_32 (by decide) (rfl : 32 + 2 = 34) ?_
  refine y_putI (ci := 6) (C := RX6) (T := TX6) (N := 6) h 5 tyX6 tyX6_ok nmX6 rfl rfl (fun _ hq => List.mem_cons_of_mem _ (List.mem_append_right _ hq)) (by decide) (List.mem_of_getElem? (i := 6) rfl) rfl rfl rfl dX6_init_34 (rfl : 34 + 3 = 37) ?_
  exact y_ret h hr rfl rfl rfl rfl dX6_init_37
noncomputable abbrev rmX10_init_23 : Room := { frames := 1, cells := 0, slots := 0, locals := 24 }
def iIX10_init_23 (I : zM) : zM := I
def iJX10_init_23 (J : zJ) : zJ := J
theorem zZX10_init_23 {I : zM} {J : zJ} (hZ : zZ 24 I J) : zZ 24 (iIX10_init_23 I) (iJX10_init_23 J) := hZ
set_option maxHeartbeats 2000000 in
set_option maxRecDepth 100000 in
theorem c_X10_init_23 (B : zB) (hBs : zBs B) (I : zM) (J : zJ) (hZ : zZ 24 I J) : zCc B 24 I J yX10_init wsX10_init rmX10_init_23 [.ref (za B 23)] 24 (iIX10_init_23 I) (iJX10_init_23 J) := by
  refine y_start (own := RX10) (cc := cX10_init) (nL := 1) rfl (by decide) rfl rfl (Nat.le_of_ble_eq_true rfl) (L := [(0, .ref (za B 23))]) rfl (fun G h hr => ?_)
  refine y_aload_n h 0 dX10_init_0 rfl (rfl : 0 + 1 = 1) ?_
  refine y_objInit h (List.mem_of_getElem? (i := 1) rfl) (List.mem_of_getElem? (i := 2) rfl) (List.mem_of_getElem? (i := 3) rfl) (by decide) dX10_init_1 (rfl : 1 + 3 = 4) ?_
  exact y_ret h hr rfl rfl rfl rfl dX10_init_4
noncomputable abbrev rmX6_init_23 : Room := { frames := 2, cells := 0, slots := 0, locals := 44 }
def iIX6_init_23 (I : zM) : zM := zu (zu (zu (zu (zu (zu (iIX10_init_23 I) 23 0 0) 23 1 0) 23 2 0) 23 3 (-9)) 23 4 (-9)) 23 5 (-9)
def iJX6_init_23 (J : zJ) : zJ := iJX10_init_23 J
theorem zZX6_init_23 {I : zM} {J : zJ} (hZ : zZ 24 I J) : zZ 24 (iIX6_init_23 I) (iJX6_init_23 J) := (zZ_zu (zZ_zu (zZ_zu (zZ_zu (zZ_zu (zZ_zu (zZX10_init_23 hZ) (by decide)) (by decide)) (by decide)) (by decide)) (by decide)) (by decide))
set_option maxHeartbeats 2000000 in
set_option maxRecDepth 100000 in
theorem c_X6_init_23 (B : zB) (hBs : zBs B) (I : zM) (J : zJ) (hZ : zZ 24 I J) : zCc B 24 I J yX6_init wsX6_init rmX6_init_23 [.ref (za B 23)] 24 (iIX6_init_23 I) (iJX6_init_23 J) := by
  refine y_start (own := RX6) (cc := cX6_init) (nL := 1) rfl (by decide) rfl rfl (Nat.le_of_ble_eq_true rfl) (L := [(0, .ref (za B 23))]) rfl (fun G h hr => ?_)
  refine y_aload_n h 0 dX6_init_0 rfl (rfl : 0 + 1 = 1) ?_
  refine y_callIN (n' := 24) (I' := iIX10_init_23 I) (J' := iJX10_init_23 J) h [] [] zyX10_init (c_X10_init_23 B hBs I J hZ) gX6_init_X10_init_n3 (List.mem_of_getElem? (i := 8) rfl) (List.mem_of_getElem? (i := 3) rfl) (List.mem_of_getElem? (i := 7) rfl) rfl ⟨by decide, by decide⟩ rfl (Nat.le_of_ble_eq_true rfl) ⟨by decide, by decide⟩ rfl dX6_init_1 (rfl : 1 + 3 = 4) ?_
  refine y_aload_n h 0 dX6_init_4 rfl (rfl : 4 + 1 = 5) ?_
  refine y_iconst h 0 dX6_init_5 (by decide) (rfl : 5 + 1 = 6) ?_
  refine y_putI (ci := 6) (C := RX6) (T := TX6) (N := 6) h 0 tyX6 tyX6_ok nmX6 rfl rfl (fun _ hq => List.mem_cons_of_mem _ (List.mem_append_right _ hq)) (by decide) (List.mem_of_getElem? (i := 1) rfl) rfl rfl rfl dX6_init_6 (rfl : 6 + 3 = 9) ?_
  refine y_aload_n h 0 dX6_init_9 rfl (rfl : 9 + 1 = 10) ?_
  refine y_iconst h 0 dX6_init_10 (by decide) (rfl : 10 + 1 = 11) ?_
  refine y_putI (ci := 6) (C := RX6) (T := TX6) (N := 6) h 1 tyX6 tyX6_ok nmX6 rfl rfl (fun _ hq => List.mem_cons_of_mem _ (List.mem_append_right _ hq)) (by decide) (List.mem_of_getElem? (i := 2) rfl) rfl rfl rfl dX6_init_11 (rfl : 11 + 3 = 14) ?_
  refine y_aload_n h 0 dX6_init_14 rfl (rfl : 14 + 1 = 15) ?_
  refine y_iconst h 0 dX6_init_15 (by decide) (rfl : 15 + 1 = 16) ?_
  refine y_putI (ci := 6) (C := RX6) (T := TX6) (N := 6) h 2 tyX6 tyX6_ok nmX6 rfl rfl (fun _ hq => List.mem_cons_of_mem _ (List.mem_append_right _ hq)) (by decide) (List.mem_of_getElem? (i := 3) rfl) rfl rfl rfl dX6_init_16 (rfl : 16 + 3 = 19) ?_
  refine y_aload_n h 0 dX6_init_19 rfl (rfl : 19 + 1 = 20) ?_
  refine y_bipush h (-9) dX6_init_20 (by decide) (rfl : 20 + 2 = 22) ?_
  refine y_putI (ci := 6) (C := RX6) (T := TX6) (N := 6) h 3 tyX6 tyX6_ok nmX6 rfl rfl (fun _ hq => List.mem_cons_of_mem _ (List.mem_append_right _ hq)) (by decide) (List.mem_of_getElem? (i := 4) rfl) rfl rfl rfl dX6_init_22 (rfl : 22 + 3 = 25) ?_
  refine y_aload_n h 0 dX6_init_25 rfl (rfl : 25 + 1 = 26) ?_
  refine y_bipush h (-9) dX6_init_26 (by decide) (rfl : 26 + 2 = 28) ?_
  refine y_putI (ci := 6) (C := RX6) (T := TX6) (N := 6) h 4 tyX6 tyX6_ok nmX6 rfl rfl (fun _ hq => List.mem_cons_of_mem _ (List.mem_append_right _ hq)) (by decide) (List.mem_of_getElem? (i := 5) rfl) rfl rfl rfl dX6_init_28 (rfl : 28 + 3 = 31) ?_
  refine y_aload_n h 0 dX6_init_31 rfl (rfl : 31 + 1 = 32) ?_
  refine y_bipush h (-9) dX6_init_32 (by decide) (rfl : 32 + 2 = 34) ?_
  refine y_putI (ci := 6) (C := RX6) (T := TX6) (N := 6) h 5 tyX6 tyX6_ok nmX6 rfl rfl (fun _ hq => List.mem_cons_of_mem _ (List.mem_append_right _ hq)) (by decide) (List.mem_of_getElem? (i := 6) rfl) rfl rfl rfl dX6_init_34 (rfl : 34 + 3 = 37) ?_
  exact y_ret h hr rfl rfl rfl rfl dX6_init_37
noncomputable abbrev rmX10_init_24 : Room := { frames := 1, cells := 0, slots := 0, locals := 24 }
def iIX10_init_24 (I : zM) : zM := I
def iJX10_init_24 (J : zJ) : zJ := J
theorem zZX10_init_24 {I : zM} {J : zJ} (hZ : zZ 25 I J) : zZ 25 (iIX10_init_24 I) (iJX10_init_24 J) := hZ
set_option maxHeartbeats 2000000 in
set_option maxRecDepth 100000 in
theorem c_X10_init_24 (B : zB) (hBs : zBs B) (I : zM) (J : zJ) (hZ : zZ 25 I J) : zCc B 25 I J yX10_init wsX10_init rmX10_init_24 [.ref (za B 24)] 25 (iIX10_init_24 I) (iJX10_init_24 J) := by
  refine y_start (own := RX10) (cc := cX10_init) (nL := 1) rfl (by decide) rfl rfl (Nat.le_of_ble_eq_true rfl) (L := [(0, .ref (za B 24))]) rfl (fun G h hr => ?_)
  refine y_aload_n h 0 dX10_init_0 rfl (rfl : 0 + 1 = 1) ?_
  refine y_objInit h (List.mem_of_getElem? (i := 1) rfl) (List.mem_of_getElem? (i := 2) rfl) (List.mem_of_getElem? (i := 3) rfl) (by decide) dX10_init_1 (rfl : 1 + 3 = 4) ?_
  exact y_ret h hr rfl rfl rfl rfl dX10_init_4
noncomputable abbrev rmX6_init_24 : Room := { frames := 2, cells := 0, slots := 0, locals := 44 }
def iIX6_init_24 (I : zM) : zM := zu (zu (zu (zu (zu (zu (iIX10_init_24 I) 24 0 0) 24 1 0) 24 2 0) 24 3 (-9)) 24 4 (-9)) 24 5 (-9)
def iJX6_init_24 (J : zJ) : zJ := iJX10_init_24 J
theorem zZX6_init_24 {I : zM} {J : zJ} (hZ : zZ 25 I J) : zZ 25 (iIX6_init_24 I) (iJX6_init_24 J) := (zZ_zu (zZ_zu (zZ_zu (zZ_zu (zZ_zu (zZ_zu (zZX10_init_24 hZ) (by decide)) (by decide)) (by decide)) (by decide)) (by decide)) (by decide))
set_option maxHeartbeats 2000000 in
set_option maxRecDepth 100000 in
theorem c_X6_init_24 (B : zB) (hBs : zBs B) (I : zM) (J : zJ) (hZ : zZ 25 I J) : zCc B 25 I J yX6_init wsX6_init rmX6_init_24 [.ref (za B 24)] 25 (iIX6_init_24 I) (iJX6_init_24 J) := by
  refine y_start (own := RX6) (cc := cX6_init) (nL := 1) rfl (by decide) rfl rfl (Nat.le_of_ble_eq_true rfl) (L := [(0, .ref (za B 24))]) rfl (fun G h hr => ?_)
  refine y_aload_n h 0 dX6_init_0 rfl (rfl : 0 + 1 = 1) ?_
  refine y_callIN (n' := 25) (I' := iIX10_init_24 I) (J' := iJX10_init_24 J) h [] [] zyX10_init (c_X10_init_24 B hBs I J hZ) gX6_init_X10_init_n3 (List.mem_of_getElem? (i := 8) rfl) (List.mem_of_getElem? (i := 3) rfl) (List.mem_of_getElem? (i := 7) rfl) rfl ⟨by decide, by decide⟩ rfl (Nat.le_of_ble_eq_true rfl) ⟨by decide, by decide⟩ rfl dX6_init_1 (rfl : 1 + 3 = 4) ?_
  refine y_aload_n h 0 dX6_init_4 rfl (rfl : 4 + 1 = 5) ?_
  refine y_iconst h 0 dX6_init_5 (by decide) (rfl : 5 + 1 = 6) ?_
  refine y_putI (ci := 6) (C := RX6) (T := TX6) (N := 6) h 0 tyX6 tyX6_ok nmX6 rfl rfl (fun _ hq => List.mem_cons_of_mem _ (List.mem_append_right _ hq)) (by decide) (List.mem_of_getElem? (i := 1) rfl) rfl rfl rfl dX6_init_6 (rfl : 6 + 3 = 9) ?_
  refine y_aload_n h 0 dX6_init_9 rfl (rfl : 9 + 1 = 10) ?_
  refine y_iconst h 0 dX6_init_10 (by decide) (rfl : 10 + 1 = 11) ?_
  refine y_putI (ci := 6) (C := RX6) (T := TX6) (N := 6) h 1 tyX6 tyX6_ok nmX6 rfl rfl (fun _ hq => List.mem_cons_of_mem _ (List.mem_append_right _ hq)) (by decide) (List.mem_of_getElem? (i := 2) rfl) rfl rfl rfl dX6_init_11 (rfl : 11 + 3 = 14) ?_
  refine y_aload_n h 0 dX6_init_14 rfl (rfl : 14 + 1 = 15) ?_
  refine y_iconst h 0 dX6_init_15 (by decide) (rfl : 15 + 1 = 16) ?_
  refine y_putI (ci := 6) (C := RX6) (T := TX6) (N := 6) h 2 tyX6 tyX6_ok nmX6 rfl rfl (fun _ hq => List.mem_cons_of_mem _ (List.mem_append_right _ hq)) (by decide) (List.mem_of_getElem? (i := 3) rfl) rfl rfl rfl dX6_init_16 (rfl : 16 + 3 = 19) ?_
  refine y_aload_n h 0 dX6_init_19 rfl (rfl : 19 + 1 = 20) ?_
  refine y_bipush h (-9) dX6_init_20 (by decide) (rfl : 20 + 2 = 22) ?_
  refine y_putI (ci := 6) (C := RX6) (T := TX6) (N := 6) h 3 tyX6 tyX6_ok nmX6 rfl rfl (fun _ hq => List.mem_cons_of_mem _ (List.mem_append_right _ hq)) (by decide) (List.mem_of_getElem? (i := 4) rfl) rfl rfl rfl dX6_init_22 (rfl : 22 + 3 = 25) ?_
  refine y_aload_n h 0 dX6_init_25 rfl (rfl : 25 + 1 = 26) ?_
  refine y_bipush h (-9) dX6_init_26 (by decide) (rfl : 26 + 2 = 28) ?_
  refine y_putI (ci := 6) (C := RX6) (T := TX6) (N := 6) h 4 tyX6 tyX6_ok nmX6 rfl rfl (fun _ hq => List.mem_cons_of_mem _ (List.mem_append_right _ hq)) (by decide) (List.mem_of_getElem? (i := 5) rfl) rfl rfl rfl dX6_init_28 (rfl : 28 + 3 = 31) ?_
  refine y_aload_n h 0 dX6_init_31 rfl (rfl : 31 + 1 = 32) ?_
  refine y_bipush h (-9) dX6_init_32 (by decide) (rfl : 32 + 2 = 34) ?_
  refine y_putI (ci := 6) (C := RX6) (T := TX6) (N := 6) h 5 tyX6 tyX6_ok nmX6 rfl rfl (fun _ hq => List.mem_cons_of_mem _ (List.mem_append_right _ hq)) (by decide) (List.mem_of_getElem? (i := 6) rfl) rfl rfl rfl dX6_init_34 (rfl : 34 + 3 = 37) ?_
  exact y_ret h hr rfl rfl rfl rfl dX6_init_37
noncomputable abbrev rmX10_init_25 : Room := { frames := 1, cells := 0, slots := 0, locals := 24 }
def iIX10_init_25 (I : zM) : zM := I
def iJX10_init_25 (J : zJ) : zJ := J
theorem zZX10_init_25 {I : zM} {J : zJ} (hZ : zZ 26 I J) : zZ 26 (iIX10_init_25 I) (iJX10_init_25 J) := hZ
set_option maxHeartbeats 2000000 in
set_option maxRecDepth 100000 in
theorem c_X10_init_25 (B : zB) (hBs : zBs B) (I : zM) (J : zJ) (hZ : zZ 26 I J) : zCc B 26 I J yX10_init wsX10_init rmX10_init_25 [.ref (za B 25)] 26 (iIX10_init_25 I) (iJX10_init_25 J) := by
  refine y_start (own := RX10) (cc := cX10_init) (nL := 1) rfl (by decide) rfl rfl (Nat.le_of_ble_eq_true rfl) (L := [(0, .ref (za B 25))]) rfl (fun G h hr => ?_)
  refine y_aload_n h 0 dX10_init_0 rfl (rfl : 0 + 1 = 1) ?_
  refine y_objInit h (List.mem_of_getElem? (i := 1) rfl) (List.mem_of_getElem? (i := 2) rfl) (List.mem_of_getElem? (i := 3) rfl) (by decide) dX10_init_1 (rfl : 1 + 3 = 4) ?_
  exact y_ret h hr rfl rfl rfl rfl dX10_init_4
noncomputable abbrev rmX6_init_25 : Room := { frames := 2, cells := 0, slots := 0, locals := 44 }
def iIX6_init_25 (I : zM) : zM := zu (zu (zu (zu (zu (zu (iIX10_init_25 I) 25 0 0) 25 1 0) 25 2 0) 25 3 (-9)) 25 4 (-9)) 25 5 (-9)
def iJX6_init_25 (J : zJ) : zJ := iJX10_init_25 J
theorem zZX6_init_25 {I : zM} {J : zJ} (hZ : zZ 26 I J) : zZ 26 (iIX6_init_25 I) (iJX6_init_25 J) := (zZ_zu (zZ_zu (zZ_zu (zZ_zu (zZ_zu (zZ_zu (zZX10_init_25 hZ) (by decide)) (by decide)) (by decide)) (by decide)) (by decide)) (by decide))
set_option maxHeartbeats 2000000 in
set_option maxRecDepth 100000 in
theorem c_X6_init_25 (B : zB) (hBs : zBs B) (I : zM) (J : zJ) (hZ : zZ 26 I J) : zCc B 26 I J yX6_init wsX6_init rmX6_init_25 [.ref (za B 25)] 26 (iIX6_init_25 I) (iJX6_init_25 J) := by
  refine y_start (own := RX6) (cc := cX6_init) (nL := 1) rfl (by decide) rfl rfl (Nat.le_of_ble_eq_true rfl) (L := [(0, .ref (za B 25))]) rfl (fun G h hr => ?_)
  refine y_aload_n h 0 dX6_init_0 rfl (rfl : 0 + 1 = 1) ?_
  refine y_callIN (n' := 26) (I' := iIX10_init_25 I) (J' := iJX10_init_25 J) h [] [] zyX10_init (c_X10_init_25 B hBs I J hZ) gX6_init_X10_init_n3 (List.mem_of_getElem? (i := 8) rfl) (List.mem_of_getElem? (i := 3) rfl) (List.mem_of_getElem? (i := 7) rfl) rfl ⟨by decide, by decide⟩ rfl (Nat.le_of_ble_eq_true rfl) ⟨by decide, by decide⟩ rfl dX6_init_1 (rfl : 1 + 3 = 4) ?_
  refine y_aload_n h 0 dX6_init_4 rfl (rfl : 4 + 1 = 5) ?_
  refine y_iconst h 0 dX6_init_5 (by decide) (rfl : 5 + 1 = 6) ?_
  refine y_putI (ci := 6) (C := RX6) (T := TX6) (N := 6) h 0 tyX6 tyX6_ok nmX6 rfl rfl (fun _ hq => List.mem_cons_of_mem _ (List.mem_append_right _ hq)) (by decide) (List.mem_of_getElem? (i := 1) rfl) rfl rfl rfl dX6_init_6 (rfl : 6 + 3 = 9) ?_
  refine y_aload_n h 0 dX6_init_9 rfl (rfl : 9 + 1 = 10) ?_
  refine y_iconst h 0 dX6_init_10 (by decide) (rfl : 10 + 1 = 11) ?_
  refine y_putI (ci := 6) (C := RX6) (T := TX6) (N := 6) h 1 tyX6 tyX6_ok nmX6 rfl rfl (fun _ hq => List.mem_cons_of_mem _ (List.mem_append_right _ hq)) (by decide) (List.mem_of_getElem? (i := 2) rfl) rfl rfl rfl dX6_init_11 (rfl : 11 + 3 = 14) ?_
  refine y_aload_n h 0 dX6_init_14 rfl (rfl : 14 + 1 = 15) ?_
  refine y_iconst h 0 dX6_init_15 (by decide) (rfl : 15 + 1 = 16) ?_
  refine y_putI (ci := 6) (C := RX6) (T := TX6) (N := 6) h 2 tyX6 tyX6_ok nmX6 rfl rfl (fun _ hq => List.mem_cons_of_mem _ (List.mem_append_right _ hq)) (by decide) (List.mem_of_getElem? (i := 3) rfl) rfl rfl rfl dX6_init_16 (rfl : 16 + 3 = 19) ?_
  refine y_aload_n h 0 dX6_init_19 rfl (rfl : 19 + 1 = 20) ?_
  refine y_bipush h (-9) dX6_init_20 (by decide) (rfl : 20 + 2 = 22) ?_
  refine y_putI (ci := 6) (C := RX6) (T := TX6) (N := 6) h 3 tyX6 tyX6_ok nmX6 rfl rfl (fun _ hq => List.mem_cons_of_mem _ (List.mem_append_right _ hq)) (by decide) (List.mem_of_getElem? (i := 4) rfl) rfl rfl rfl dX6_init_22 (rfl : 22 + 3 = 25) ?_
  refine y_aload_n h 0 dX6_init_25 rfl (rfl : 25 + 1 = 26) ?_
  refine y_bipush h (-9) dX6_init_26 (by decide) (rfl : 26 + 2 = 28) ?_
  refine y_putI (ci := 6) (C := RX6) (T := TX6) (N := 6) h 4 tyX6 tyX6_ok nmX6 rfl rfl (fun _ hq => List.mem_cons_of_mem _ (List.mem_append_right _ hq)) (by decide) (List.mem_of_getElem? (i := 5) rfl) rfl rfl rfl dX6_init_28 (rfl : 28 + 3 = 31) ?_
  refine y_aload_n h 0 dX6_init_31 rfl (rfl : 31 + 1 = 32) ?_
  refine y_bipush h (-9) dX6_init_32 (by decide) (rfl : 32 + 2 = 34) ?_
  refine y_putI (ci := 6) (C := RX6) (T := TX6) (N := 6) h 5 tyX6 tyX6_ok nmX6 rfl rfl (fun _ hq => List.mem_cons_of_mem _ (List.mem_append_right _ hq)) (by decide) (List.mem_of_getElem? (i := 6) rfl) rfl rfl rfl dX6_init_34 (rfl : 34 + 3 = 37) ?_
  exact y_ret h hr rfl rfl rfl rfl dX6_init_37
noncomputable abbrev rmX10_init_26 : Room := { frames := 1, cells := 0, slots := 0, locals := 24 }
def iIX10_init_26 (I : zM) : zM := I
def iJX10_init_26 (J : zJ) : zJ := J
theorem zZX10_init_26 {I : zM} {J : zJ} (hZ : zZ 27 I J) : zZ 27 (iIX10_init_26 I) (iJX10_init_26 J) := hZ
set_option maxHeartbeats 2000000 in
set_option maxRecDepth 100000 in
theorem c_X10_init_26 (B : zB) (hBs : zBs B) (I : zM) (J : zJ) (hZ : zZ 27 I J) : zCc B 27 I J yX10_init wsX10_init rmX10_init_26 [.ref (za B 26)] 27 (iIX10_init_26 I) (iJX10_init_26 J) := by
  refine y_start (own := RX10) (cc := cX10_init) (nL := 1) rfl (by decide) rfl rfl (Nat.le_of_ble_eq_true rfl) (L := [(0, .ref (za B 26))]) rfl (fun G h hr => ?_)
  refine y_aload_n h 0 dX10_init_0 rfl (rfl : 0 + 1 = 1) ?_
  refine y_objInit h (List.mem_of_getElem? (i := 1) rfl) (List.mem_of_getElem? (i := 2) rfl) (List.mem_of_getElem? (i := 3) rfl) (by decide) dX10_init_1 (rfl : 1 + 3 = 4) ?_
  exact y_ret h hr rfl rfl rfl rfl dX10_init_4
noncomputable abbrev rmX6_init_26 : Room := { frames := 2, cells := 0, slots := 0, locals := 44 }
def iIX6_init_26 (I : zM) : zM := zu (zu (zu (zu (zu (zu (iIX10_init_26 I) 26 0 0) 26 1 0) 26 2 0) 26 3 (-9)) 26 4 (-9)) 26 5 (-9)
def iJX6_init_26 (J : zJ) : zJ := iJX10_init_26 J
theorem zZX6_init_26 {I : zM} {J : zJ} (hZ : zZ 27 I J) : zZ 27 (iIX6_init_26 I) (iJX6_init_26 J) := (zZ_zu (zZ_zu (zZ_zu (zZ_zu (zZ_zu (zZ_zu (zZX10_init_26 hZ) (by decide)) (by decide)) (by decide)) (by decide)) (by decide)) (by decide))
set_option maxHeartbeats 2000000 in
set_option maxRecDepth 100000 in
theorem c_X6_init_26 (B : zB) (hBs : zBs B) (I : zM) (J : zJ) (hZ : zZ 27 I J) : zCc B 27 I J yX6_init wsX6_init rmX6_init_26 [.ref (za B 26)] 27 (iIX6_init_26 I) (iJX6_init_26 J) := by
  refine y_start (own := RX6) (cc := cX6_init) (nL := 1) rfl (by decide) rfl rfl (Nat.le_of_ble_eq_true rfl) (L := [(0, .ref (za B 26))]) rfl (fun G h hr => ?_)
  refine y_aload_n h 0 dX6_init_0 rfl (rfl : 0 + 1 = 1) ?_
  refine y_callIN (n' := 27) (I' := iIX10_init_26 I) (J' := iJX10_init_26 J) h [] [] zyX10_init (c_X10_init_26 B hBs I J hZ) gX6_init_X10_init_n3 (List.mem_of_getElem? (i := 8) rfl) (List.mem_of_getElem? (i := 3) rfl) (List.mem_of_getElem? (i := 7) rfl) rfl ⟨by decide, by decide⟩ rfl (Nat.le_of_ble_eq_true rfl) ⟨by decide, by decide⟩ rfl dX6_init_1 (rfl : 1 + 3 = 4) ?_
  refine y_aload_n h 0 dX6_init_4 rfl (rfl : 4 + 1 = 5) ?_
  refine y_iconst h 0 dX6_init_5 (by decide) (rfl : 5 + 1 = 6) ?_
  refine y_putI (ci := 6) (C := RX6) (T := TX6) (N := 6) h 0 tyX6 tyX6_ok nmX6 rfl rfl (fun _ hq => List.mem_cons_of_mem _ (List.mem_append_right _ hq)) (by decide) (List.mem_of_getElem? (i := 1) rfl) rfl rfl rfl dX6_init_6 (rfl : 6 + 3 = 9) ?_
  refine y_aload_n h 0 dX6_init_9 rfl (rfl : 9 + 1 = 10) ?_
  refine y_iconst h 0 dX6_init_10 (by decide) (rfl : 10 + 1 = 11) ?_
  refine y_putI (ci := 6) (C := RX6) (T := TX6) (N := 6) h 1 tyX6 tyX6_ok nmX6 rfl rfl (fun _ hq => List.mem_cons_of_mem _ (List.mem_append_right _ hq)) (by decide) (List.mem_of_getElem? (i := 2) rfl) rfl rfl rfl dX6_init_11 (rfl : 11 + 3 = 14) ?_
  refine y_aload_n h 0 dX6_init_14 rfl (rfl : 14 + 1 = 15) ?_
  refine y_iconst h 0 dX6_init_15 (by decide) (rfl : 15 + 1 = 16) ?_
  refine y_putI (ci := 6) (C := RX6) (T := TX6) (N := 6) h 2 tyX6 tyX6_ok nmX6 rfl rfl (fun _ hq => List.mem_cons_of_mem _ (List.mem_append_right _ hq)) (by decide) (List.mem_of_getElem? (i := 3) rfl) rfl rfl rfl dX6_init_16 (rfl : 16 + 3 = 19) ?_
  refine y_aload_n h 0 dX6_init_19 rfl (rfl : 19 + 1 = 20) ?_
  refine y_bipush h (-9) dX6_init_20 (by decide) (rfl : 20 + 2 = 22) ?_
  refine y_putI (ci := 6) (C := RX6) (T := TX6) (N := 6) h 3 tyX6 tyX6_ok nmX6 rfl rfl (fun _ hq => List.mem_cons_of_mem _ (List.mem_append_right _ hq)) (by decide) (List.mem_of_getElem? (i := 4) rfl) rfl rfl rfl dX6_init_22 (rfl : 22 + 3 = 25) ?_
  refine y_aload_n h 0 dX6_init_25 rfl (rfl : 25 + 1 = 26) ?_
  refine y_bipush h (-9) dX6_init_26 (by decide) (rfl : 26 + 2 = 28) ?_
  refine y_putI (ci := 6) (C := RX6) (T := TX6) (N := 6) h 4 tyX6 tyX6_ok nmX6 rfl rfl (fun _ hq => List.mem_cons_of_mem _ (List.mem_append_right _ hq)) (by decide) (List.mem_of_getElem? (i := 5) rfl) rfl rfl rfl dX6_init_28 (rfl : 28 + 3 = 31) ?_
  refine y_aload_n h 0 dX6_init_31 rfl (rfl : 31 + 1 = 32) ?_
  refine y_bipush h (-9) dX6_init_32 (by decide) (rfl : 32 + 2 = 34) ?_
  refine y_putI (ci := 6) (C := RX6) (T := TX6) (N := 6) h 5 tyX6 tyX6_ok nmX6 rfl rfl (fun _ hq => List.mem_cons_of_mem _ (List.mem_append_right _ hq)) (by decide) (List.mem_of_getElem? (i := 6) rfl) rfl rfl rfl dX6_init_34 (rfl : 34 + 3 = 37) ?_
  exact y_ret h hr rfl rfl rfl rfl dX6_init_37
noncomputable abbrev rmX10_init_27 : Room := { frames := 1, cells := 0, slots := 0, locals := 24 }
def iIX10_init_27 (I : zM) : zM := I
def iJX10_init_27 (J : zJ) : zJ := J
theorem zZX10_init_27 {I : zM} {J : zJ} (hZ : zZ 28 I J) : zZ 28 (iIX10_init_27 I) (iJX10_init_27 J) := hZ
set_option maxHeartbeats 2000000 in
set_option maxRecDepth 100000 in
theorem c_X10_init_27 (B : zB) (hBs : zBs B) (I : zM) (J : zJ) (hZ : zZ 28 I J) : zCc B 28 I J yX10_init wsX10_init rmX10_init_27 [.ref (za B 27)] 28 (iIX10_init_27 I) (iJX10_init_27 J) := by
  refine y_start (own := RX10) (cc := cX10_init) (nL := 1) rfl (by decide) rfl rfl (Nat.le_of_ble_eq_true rfl) (L := [(0, .ref (za B 27))]) rfl (fun G h hr => ?_)
  refine y_aload_n h 0 dX10_init_0 rfl (rfl : 0 + 1 = 1) ?_
  refine y_objInit h (List.mem_of_getElem? (i := 1) rfl) (List.mem_of_getElem? (i := 2) rfl) (List.mem_of_getElem? (i := 3) rfl) (by decide) dX10_init_1 (rfl : 1 + 3 = 4) ?_
  exact y_ret h hr rfl rfl rfl rfl dX10_init_4
noncomputable abbrev rmX6_init_27 : Room := { frames := 2, cells := 0, slots := 0, locals := 44 }
def iIX6_init_27 (I : zM) : zM := zu (zu (zu (zu (zu (zu (iIX10_init_27 I) 27 0 0) 27 1 0) 27 2 0) 27 3 (-9)) 27 4 (-9)) 27 5 (-9)
def iJX6_init_27 (J : zJ) : zJ := iJX10_init_27 J
theorem zZX6_init_27 {I : zM} {J : zJ} (hZ : zZ 28 I J) : zZ 28 (iIX6_init_27 I) (iJX6_init_27 J) := (zZ_zu (zZ_zu (zZ_zu (zZ_zu (zZ_zu (zZ_zu (zZX10_init_27 hZ) (by decide)) (by decide)) (by decide)) (by decide)) (by decide)) (by decide))
set_option maxHeartbeats 2000000 in
set_option maxRecDepth 100000 in
theorem c_X6_init_27 (B : zB) (hBs : zBs B) (I : zM) (J : zJ) (hZ : zZ 28 I J) : zCc B 28 I J yX6_init wsX6_init rmX6_init_27 [.ref (za B 27)] 28 (iIX6_init_27 I) (iJX6_init_27 J) := by
  refine y_start (own := RX6) (cc := cX6_init) (nL := 1) rfl (by decide) rfl rfl (Nat.le_of_ble_eq_true rfl) (L := [(0, .ref (za B 27))]) rfl (fun G h hr => ?_)
  refine y_aload_n h 0 dX6_init_0 rfl (rfl : 0 + 1 = 1) ?_
  refine y_callIN (n' := 28) (I' := iIX10_init_27 I) (J' := iJX10_init_27 J) h [] [] zyX10_init (c_X10_init_27 B hBs I J hZ) gX6_init_X10_init_n3 (List.mem_of_getElem? (i := 8) rfl) (List.mem_of_getElem? (i := 3) rfl) (List.mem_of_getElem? (i := 7) rfl) rfl ⟨by decide, by decide⟩ rfl (Nat.le_of_ble_eq_true rfl) ⟨by decide, by decide⟩ rfl dX6_init_1 (rfl : 1 + 3 = 4) ?_
  refine y_aload_n h 0 dX6_init_4 rfl (rfl : 4 + 1 = 5) ?_
  refine y_iconst h 0 dX6_init_5 (by decide) (rfl : 5 + 1 = 6) ?_
  refine y_putI (ci := 6) (C := RX6) (T := TX6) (N := 6) h 0 tyX6 tyX6_ok nmX6 rfl rfl (fun _ hq => List.mem_cons_of_mem _ (List.mem_append_right _ hq)) (by decide) (List.mem_of_getElem? (i := 1) rfl) rfl rfl rfl dX6_init_6 (rfl : 6 + 3 = 9) ?_
  refine y_aload_n h 0 dX6_init_9 rfl (rfl : 9 + 1 = 10) ?_
  refine y_iconst h 0 dX6_init_10 (by decide) (rfl : 10 + 1 = 11) ?_
  refine y_putI (ci := 6) (C := RX6) (T := TX6) (N := 6) h 1 tyX6 tyX6_ok nmX6 rfl rfl (fun _ hq => List.mem_cons_of_mem _ (List.mem_append_right _ hq)) (by decide) (List.mem_of_getElem? (i := 2) rfl) rfl rfl rfl dX6_init_11 (rfl : 11 + 3 = 14) ?_
  refine y_aload_n h 0 dX6_init_14 rfl (rfl : 14 + 1 = 15) ?_
  refine y_iconst h 0 dX6_init_15 (by decide) (rfl : 15 + 1 = 16) ?_
  refine y_putI (ci := 6) (C := RX6) (T := TX6) (N := 6) h 2 tyX6 tyX6_ok nmX6 rfl rfl (fun _ hq => List.mem_cons_of_mem _ (List.mem_append_right _ hq)) (by decide) (List.mem_of_getElem? (i := 3) rfl) rfl rfl rfl dX6_init_16 (rfl : 16 + 3 = 19) ?_
  refine y_aload_n h 0 dX6_init_19 rfl (rfl : 19 + 1 = 20) ?_
  refine y_bipush h (-9) dX6_init_20 (by decide) (rfl : 20 + 2 = 22) ?_
  refine y_putI (ci := 6) (C := RX6) (T := TX6) (N := 6) h 3 tyX6 tyX6_ok nmX6 rfl rfl (fun _ hq => List.mem_cons_of_mem _ (List.mem_append_right _ hq)) (by decide) (List.mem_of_getElem? (i := 4) rfl) rfl rfl rfl dX6_init_22 (rfl : 22 + 3 = 25) ?_
  refine y_aload_n h 0 dX6_init_25 rfl (rfl : 25 + 1 = 26) ?_
  refine y_bipush h (-9) dX6_init_26 (by decide) (rfl : 26 + 2 = 28) ?_
  refine y_putI (ci := 6) (C := RX6) (T := TX6) (N := 6) h 4 tyX6 tyX6_ok nmX6 rfl rfl (fun _ hq => List.mem_cons_of_mem _ (List.mem_append_right _ hq)) (by decide) (List.mem_of_getElem? (i := 5) rfl) rfl rfl rfl dX6_init_28 (rfl : 28 + 3 = 31) ?_
  refine y_aload_n h 0 dX6_init_31 rfl (rfl : 31 + 1 = 32) ?_
  refine y_bipush h (-9) dX6_init_32 (by decide) (rfl : 32 + 2 = 34) ?_
  refine y_putI (ci := 6) (C := RX6) (T := TX6) (N := 6) h 5 tyX6 tyX6_ok nmX6 rfl rfl (fun _ hq => List.mem_cons_of_mem _ (List.mem_append_right _ hq)) (by decide) (List.mem_of_getElem? (i := 6) rfl) rfl rfl rfl dX6_init_34 (rfl : 34 + 3 = 37) ?_
  exact y_ret h hr rfl rfl rfl rfl dX6_init_37
noncomputable abbrev rmX10_init_28 : Room := { frames := 1, cells := 0, slots := 0, locals := 24 }
def iIX10_init_28 (I : zM) : zM := I
def iJX10_init_28 (J : zJ) : zJ := J
theorem zZX10_init_28 {I : zM} {J : zJ} (hZ : zZ 29 I J) : zZ 29 (iIX10_init_28 I) (iJX10_init_28 J) := hZ
set_option maxHeartbeats 2000000 in
set_option maxRecDepth 100000 in
theorem c_X10_init_28 (B : zB) (hBs : zBs B) (I : zM) (J : zJ) (hZ : zZ 29 I J) : zCc B 29 I J yX10_init wsX10_init rmX10_init_28 [.ref (za B 28)] 29 (iIX10_init_28 I) (iJX10_init_28 J) := by
  refine y_start (own := RX10) (cc := cX10_init) (nL := 1) rfl (by decide) rfl rfl (Nat.le_of_ble_eq_true rfl) (L := [(0, .ref (za B 28))]) rfl (fun G h hr => ?_)
  refine y_aload_n h 0 dX10_init_0 rfl (rfl : 0 + 1 = 1) ?_
  refine y_objInit h (List.mem_of_getElem? (i := 1) rfl) (List.mem_of_getElem? (i := 2) rfl) (List.mem_of_getElem? (i := 3) rfl) (by decide) dX10_init_1 (rfl : 1 + 3 = 4) ?_
  exact y_ret h hr rfl rfl rfl rfl dX10_init_4
noncomputable abbrev rmX6_init_28 : Room := { frames := 2, cells := 0, slots := 0, locals := 44 }
def iIX6_init_28 (I : zM) : zM := zu (zu (zu (zu (zu (zu (iIX10_init_28 I) 28 0 0) 28 1 0) 28 2 0) 28 3 (-9)) 28 4 (-9)) 28 5 (-9)
def iJX6_init_28 (J : zJ) : zJ := iJX10_init_28 J
theorem zZX6_init_28 {I : zM} {J : zJ} (hZ : zZ 29 I J) : zZ 29 (iIX6_init_28 I) (iJX6_init_28 J) := (zZ_zu (zZ_zu (zZ_zu (zZ_zu (zZ_zu (zZ_zu (zZX10_init_28 hZ) (by decide)) (by decide)) (by decide)) (by decide)) (by decide)) (by decide))
set_option maxHeartbeats 2000000 in
set_option maxRecDepth 100000 in
theorem c_X6_init_28 (B : zB) (hBs : zBs B) (I : zM) (J : zJ) (hZ : zZ 29 I J) : zCc B 29 I J yX6_init wsX6_init rmX6_init_28 [.ref (za B 28)] 29 (iIX6_init_28 I) (iJX6_init_28 J) := by
  refine y_start (own := RX6) (cc := cX6_init) (nL := 1) rfl (by decide) rfl rfl (Nat.le_of_ble_eq_true rfl) (L := [(0, .ref (za B 28))]) rfl (fun G h hr => ?_)
  refine y_aload_n h 0 dX6_init_0 rfl (rfl : 0 + 1 = 1) ?_
  refine y_callIN (n' := 29) (I' := iIX10_init_28 I) (J' := iJX10_init_28 J) h [] [] zyX10_init (c_X10_init_28 B hBs I J hZ) gX6_init_X10_init_n3 (List.mem_of_getElem? (i := 8) rfl) (List.mem_of_getElem? (i := 3) rfl) (List.mem_of_getElem? (i := 7) rfl) rfl ⟨by decide, by decide⟩ rfl (Nat.le_of_ble_eq_true rfl) ⟨by decide, by decide⟩ rfl dX6_init_1 (rfl : 1 + 3 = 4) ?_
  refine y_aload_n h 0 dX6_init_4 rfl (rfl : 4 + 1 = 5) ?_
  refine y_iconst h 0 dX6_init_5 (by decide) (rfl : 5 + 1 = 6) ?_
  refine y_putI (ci := 6) (C := RX6) (T := TX6) (N := 6) h 0 tyX6 tyX6_ok nmX6 rfl rfl (fun _ hq => List.mem_cons_of_mem _ (List.mem_append_right _ hq)) (by decide) (List.mem_of_getElem? (i := 1) rfl) rfl rfl rfl dX6_init_6 (rfl : 6 + 3 = 9) ?_
  refine y_aload_n h 0 dX6_init_9 rfl (rfl : 9 + 1 = 10) ?_
  refine y_iconst h 0 dX6_init_10 (by decide) (rfl : 10 + 1 = 11) ?_
  refine y_putI (ci := 6) (C := RX6) (T := TX6) (N := 6) h 1 tyX6 tyX6_ok nmX6 rfl rfl (fun _ hq => List.mem_cons_of_mem _ (List.mem_append_right _ hq)) (by decide) (List.mem_of_getElem? (i := 2) rfl) rfl rfl rfl dX6_init_11 (rfl : 11 + 3 = 14) ?_
  refine y_aload_n h 0 dX6_init_14 rfl (rfl : 14 + 1 = 15) ?_
  refine y_iconst h 0 dX6_init_15 (by decide) (rfl : 15 + 1 = 16) ?_
  refine y_putI (ci := 6) (C := RX6) (T := TX6) (N := 6) h 2 tyX6 tyX6_ok nmX6 rfl rfl (fun _ hq => List.mem_cons_of_mem _ (List.mem_append_right _ hq)) (by decide) (List.mem_of_getElem? (i := 3) rfl) rfl rfl rfl dX6_init_16 (rfl : 16 + 3 = 19) ?_
  refine y_aload_n h 0 dX6_init_19 rfl (rfl : 19 + 1 = 20) ?_
  refine y_bipush h (-9) dX6_init_20 (by decide) (rfl : 20 + 2 = 22) ?_
  refine y_putI (ci := 6) (C := RX6) (T := TX6) (N := 6) h 3 tyX6 tyX6_ok nmX6 rfl rfl (fun _ hq => List.mem_cons_of_mem _ (List.mem_append_right _ hq)) (by decide) (List.mem_of_getElem? (i := 4) rfl) rfl rfl rfl dX6_init_22 (rfl : 22 + 3 = 25) ?_
  refine y_aload_n h 0 dX6_init_25 rfl (rfl : 25 + 1 = 26) ?_
  refine y_bipush h (-9) dX6_init_26 (by decide) (rfl : 26 + 2 = 28) ?_
  refine y_putI (ci := 6) (C := RX6) (T := TX6) (N := 6) h 4 tyX6 tyX6_ok nmX6 rfl rfl (fun _ hq => List.mem_cons_of_mem _ (List.mem_append_right _ hq)) (by decide) (List.mem_of_getElem? (i := 5) rfl) rfl rfl rfl dX6_init_28 (rfl : 28 + 3 = 31) ?_
  refine y_aload_n h 0 dX6_init_31 rfl (rfl : 31 + 1 = 32) ?_
  refine y_bipush h (-9) dX6_init_32 (by decide) (rfl : 32 + 2 = 34) ?_
  refine y_putI (ci := 6) (C := RX6) (T := TX6) (N := 6) h 5 tyX6 tyX6_ok nmX6 rfl rfl (fun _ hq => List.mem_cons_of_mem _ (List.mem_append_right _ hq)) (by decide) (List.mem_of_getElem? (i := 6) rfl) rfl rfl rfl dX6_init_34 (rfl : 34 + 3 = 37) ?_
  exact y_ret h hr rfl rfl rfl rfl dX6_init_37
noncomputable abbrev rmX10_init_29 : Room := { frames := 1, cells := 0, slots := 0, locals := 24 }
def iIX10_init_29 (I : zM) : zM := I
def iJX10_init_29 (J : zJ) : zJ := J
theorem zZX10_init_29 {I : zM} {J : zJ} (hZ : zZ 30 I J) : zZ 30 (iIX10_init_29 I) (iJX10_init_29 J) := hZ
set_option maxHeartbeats 2000000 in
set_option maxRecDepth 100000 in
theorem c_X10_init_29 (B : zB) (hBs : zBs B) (I : zM) (J : zJ) (hZ : zZ 30 I J) : zCc B 30 I J yX10_init wsX10_init rmX10_init_29 [.ref (za B 29)] 30 (iIX10_init_29 I) (iJX10_init_29 J) := by
  refine y_start (own := RX10) (cc := cX10_init) (nL := 1) rfl (by decide) rfl rfl (Nat.le_of_ble_eq_true rfl) (L := [(0, .ref (za B 29))]) rfl (fun G h hr => ?_)
  refine y_aload_n h 0 dX10_init_0 rfl (rfl : 0 + 1 = 1) ?_
  refine y_objInit h (List.mem_of_getElem? (i := 1) rfl) (List.mem_of_getElem? (i := 2) rfl) (List.mem_of_getElem? (i := 3) rfl) (by decide) dX10_init_1 (rfl : 1 + 3 = 4) ?_
  exact y_ret h hr rfl rfl rfl rfl dX10_init_4
noncomputable abbrev rmX6_init_29 : Room := { frames := 2, cells := 0, slots := 0, locals := 44 }
def iIX6_init_29 (I : zM) : zM := zu (zu (zu (zu (zu (zu (iIX10_init_29 I) 29 0 0) 29 1 0) 29 2 0) 29 3 (-9)) 29 4 (-9)) 29 5 (-9)
def iJX6_init_29 (J : zJ) : zJ := iJX10_init_29 J
theorem zZX6_init_29 {I : zM} {J : zJ} (hZ : zZ 30 I J) : zZ 30 (iIX6_init_29 I) (iJX6_init_29 J) := (zZ_zu (zZ_zu (zZ_zu (zZ_zu (zZ_zu (zZ_zu (zZX10_init_29 hZ) (by decide)) (by decide)) (by decide)) (by decide)) (by decide)) (by decide))
set_option maxHeartbeats 2000000 in
set_option maxRecDepth 100000 in
theorem c_X6_init_29 (B : zB) (hBs : zBs B) (I : zM) (J : zJ) (hZ : zZ 30 I J) : zCc B 30 I J yX6_init wsX6_init rmX6_init_29 [.ref (za B 29)] 30 (iIX6_init_29 I) (iJX6_init_29 J) := by
  refine y_start (own := RX6) (cc := cX6_init) (nL := 1) rfl (by decide) rfl rfl (Nat.le_of_ble_eq_true rfl) (L := [(0, .ref (za B 29))]) rfl (fun G h hr => ?_)
  refine y_aload_n h 0 dX6_init_0 rfl (rfl : 0 + 1 = 1) ?_
  refine y_callIN (n' := 30) (I' := iIX10_init_29 I) (J' := iJX10_init_29 J) h [] [] zyX10_init (c_X10_init_29 B hBs I J hZ) gX6_init_X10_init_n3 (List.mem_of_getElem? (i := 8) rfl) (List.mem_of_getElem? (i := 3) rfl) (List.mem_of_getElem? (i := 7) rfl) rfl ⟨by decide, by decide⟩ rfl (Nat.le_of_ble_eq_true rfl) ⟨by decide, by decide⟩ rfl dX6_init_1 (rfl : 1 + 3 = 4) ?_
  refine y_aload_n h 0 dX6_init_4 rfl (rfl : 4 + 1 = 5) ?_
  refine y_iconst h 0 dX6_init_5 (by decide) (rfl : 5 + 1 = 6) ?_
  refine y_putI (ci := 6) (C := RX6) (T := TX6) (N := 6) h 0 tyX6 tyX6_ok nmX6 rfl rfl (fun _ hq => List.mem_cons_of_mem _ (List.mem_append_right _ hq)) (by decide) (List.mem_of_getElem? (i := 1) rfl) rfl rfl rfl dX6_init_6 (rfl : 6 + 3 = 9) ?_
  refine y_aload_n h 0 dX6_init_9 rfl (rfl : 9 + 1 = 10) ?_
  refine y_iconst h 0 dX6_init_10 (by decide) (rfl : 10 + 1 = 11) ?_
  refine y_putI (ci := 6) (C := RX6) (T := TX6) (N := 6) h 1 tyX6 tyX6_ok nmX6 rfl rfl (fun _ hq => List.mem_cons_of_mem _ (List.mem_append_right _ hq)) (by decide) (List.mem_of_getElem? (i := 2) rfl) rfl rfl rfl dX6_init_11 (rfl : 11 + 3 = 14) ?_
  refine y_aload_n h 0 dX6_init_14 rfl (rfl : 14 + 1 = 15) ?_
  refine y_iconst h 0 dX6_init_15 (by decide) (rfl : 15 + 1 = 16) ?_
  refine y_putI (ci := 6) (C := RX6) (T := TX6) (N := 6) h 2 tyX6 tyX6_ok nmX6 rfl rfl (fun _ hq => List.mem_cons_of_mem _ (List.mem_append_right _ hq)) (by decide) (List.mem_of_getElem? (i := 3) rfl) rfl rfl rfl dX6_init_16 (rfl : 16 + 3 = 19) ?_
  refine y_aload_n h 0 dX6_init_19 rfl (rfl : 19 + 1 = 20) ?_
  refine y_bipush h (-9) dX6_init_20 (by decide) (rfl : 20 + 2 = 22) ?_
  refine y_putI (ci := 6) (C := RX6) (T := TX6) (N := 6) h 3 tyX6 tyX6_ok nmX6 rfl rfl (fun _ hq => List.mem_cons_of_mem _ (List.mem_append_right _ hq)) (by decide) (List.mem_of_getElem? (i := 4) rfl) rfl rfl rfl dX6_init_22 (rfl : 22 + 3 = 25) ?_
  refine y_aload_n h 0 dX6_init_25 rfl (rfl : 25 + 1 = 26) ?_
  refine y_bipush h (-9) dX6_init_26 (by decide) (rfl : 26 + 2 = 28) ?_
  refine y_putI (ci := 6) (C := RX6) (T := TX6) (N := 6) h 4 tyX6 tyX6_ok nmX6 rfl rfl (fun _ hq => List.mem_cons_of_mem _ (List.mem_append_right _ hq)) (by decide) (List.mem_of_getElem? (i := 5) rfl) rfl rfl rfl dX6_init_28 (rfl : 28 + 3 = 31) ?_
  refine y_aload_n h 0 dX6_init_31 rfl (rfl : 31 + 1 = 32) ?_
  refine y_bipush h (-9) dX6_init_32 (by decide) (rfl : 32 + 2 = 34) ?_
  refine y_putI (ci := 6) (C := RX6) (T := TX6) (N := 6) h 5 tyX6 tyX6_ok nmX6 rfl rfl (fun _ hq => List.mem_cons_of_mem _ (List.mem_append_right _ hq)) (by decide) (List.mem_of_getElem? (i := 6) rfl) rfl rfl rfl dX6_init_34 (rfl : 34 + 3 = 37) ?_
  exact y_ret h hr rfl rfl rfl rfl dX6_init_37
noncomputable abbrev rmX10_init_30 : Room := { frames := 1, cells := 0, slots := 0, locals := 24 }
def iIX10_init_30 (I : zM) : zM := I
def iJX10_init_30 (J : zJ) : zJ := J
theorem zZX10_init_30 {I : zM} {J : zJ} (hZ : zZ 31 I J) : zZ 31 (iIX10_init_30 I) (iJX10_init_30 J) := hZ
set_option maxHeartbeats 2000000 in
set_option maxRecDepth 100000 in
theorem c_X10_init_30 (B : zB) (hBs : zBs B) (I : zM) (J : zJ) (hZ : zZ 31 I J) : zCc B 31 I J yX10_init wsX10_init rmX10_init_30 [.ref (za B 30)] 31 (iIX10_init_30 I) (iJX10_init_30 J) := by
  refine y_start (own := RX10) (cc := cX10_init) (nL := 1) rfl (by decide) rfl rfl (Nat.le_of_ble_eq_true rfl) (L := [(0, .ref (za B 30))]) rfl (fun G h hr => ?_)
  refine y_aload_n h 0 dX10_init_0 rfl (rfl : 0 + 1 = 1) ?_
  refine y_objInit h (List.mem_of_getElem? (i := 1) rfl) (List.mem_of_getElem? (i := 2) rfl) (List.mem_of_getElem? (i := 3) rfl) (by decide) dX10_init_1 (rfl : 1 + 3 = 4) ?_
  exact y_ret h hr rfl rfl rfl rfl dX10_init_4
noncomputable abbrev rmX6_init_30 : Room := { frames := 2, cells := 0, slots := 0, locals := 44 }
def iIX6_init_30 (I : zM) : zM := zu (zu (zu (zu (zu (zu (iIX10_init_30 I) 30 0 0) 30 1 0) 30 2 0) 30 3 (-9)) 30 4 (-9)) 30 5 (-9)
def iJX6_init_30 (J : zJ) : zJ := iJX10_init_30 J
theorem zZX6_init_30 {I : zM} {J : zJ} (hZ : zZ 31 I J) : zZ 31 (iIX6_init_30 I) (iJX6_init_30 J) := (zZ_zu (zZ_zu (zZ_zu (zZ_zu (zZ_zu (zZ_zu (zZX10_init_30 hZ) (by decide)) (by decide)) (by decide)) (by decide)) (by decide)) (by decide))
set_option maxHeartbeats 2000000 in
set_option maxRecDepth 100000 in
theorem c_X6_init_30 (B : zB) (hBs : zBs B) (I : zM) (J : zJ) (hZ : zZ 31 I J) : zCc B 31 I J yX6_init wsX6_init rmX6_init_30 [.ref (za B 30)] 31 (iIX6_init_30 I) (iJX6_init_30 J) := by
  refine y_start (own := RX6) (cc := cX6_init) (nL := 1) rfl (by decide) rfl rfl (Nat.le_of_ble_eq_true rfl) (L := [(0, .ref (za B 30))]) rfl (fun G h hr => ?_)
  refine y_aload_n h 0 dX6_init_0 rfl (rfl : 0 + 1 = 1) ?_
  refine y_callIN (n' := 31) (I' := iIX10_init_30 I) (J' := iJX10_init_30 J) h [] [] zyX10_init (c_X10_init_30 B hBs I J hZ) gX6_init_X10_init_n3 (List.mem_of_getElem? (i := 8) rfl) (List.mem_of_getElem? (i := 3) rfl) (List.mem_of_getElem? (i := 7) rfl) rfl ⟨by decide, by decide⟩ rfl (Nat.le_of_ble_eq_true rfl) ⟨by decide, by decide⟩ rfl dX6_init_1 (rfl : 1 + 3 = 4) ?_
  refine y_aload_n h 0 dX6_init_4 rfl (rfl : 4 + 1 = 5) ?_
  refine y_iconst h 0 dX6_init_5 (by decide) (rfl : 5 + 1 = 6) ?_
  refine y_putI (ci := 6) (C := RX6) (T := TX6) (N := 6) h 0 tyX6 tyX6_ok nmX6 rfl rfl (fun _ hq => List.mem_cons_of_mem _ (List.mem_append_right _ hq)) (by decide) (List.mem_of_getElem? (i := 1) rfl) rfl rfl rfl dX6_init_6 (rfl : 6 + 3 = 9) ?_
  refine y_aload_n h 0 dX6_init_9 rfl (rfl : 9 + 1 = 10) ?_
  refine y_iconst h 0 dX6_init_10 (by decide) (rfl : 10 + 1 = 11) ?_
  refine y_putI (ci := 6) (C := RX6) (T := TX6) (N := 6) h 1 tyX6 tyX6_ok nmX6 rfl rfl (fun _ hq => List.mem_cons_of_mem _ (List.mem_append_right _ hq)) (by decide) (List.mem_of_getElem? (i := 2) rfl) rfl rfl rfl dX6_init_11 (rfl : 11 + 3 = 14) ?_
  refine y_aload_n h 0 dX6_init_14 rfl (rfl : 14 + 1 = 15) ?_
  refine y_iconst h 0 dX6_init_15 (by decide) (rfl : 15 + 1 = 16) ?_
  refine y_putI (ci := 6) (C := RX6) (T := TX6) (N := 6) h 2 tyX6 tyX6_ok nmX6 rfl rfl (fun _ hq => List.mem_cons_of_mem _ (List.mem_append_right _ hq)) (by decide) (List.mem_of_getElem? (i := 3) rfl) rfl rfl rfl dX6_init_16 (rfl : 16 + 3 = 19) ?_
  refine y_aload_n h 0 dX6_init_19 rfl (rfl : 19 + 1 = 20) ?_
  refine y_bipush h (-9) dX6_init_20 (by decide) (rfl : 20 + 2 = 22) ?_
  refine y_putI (ci := 6) (C := RX6) (T := TX6) (N := 6) h 3 tyX6 tyX6_ok nmX6 rfl rfl (fun _ hq => List.mem_cons_of_mem _ (List.mem_append_right _ hq)) (by decide) (List.mem_of_getElem? (i := 4) rfl) rfl rfl rfl dX6_init_22 (rfl : 22 + 3 = 25) ?_
  refine y_aload_n h 0 dX6_init_25 rfl (rfl : 25 + 1 = 26) ?_
  refine y_bipush h (-9) dX6_init_26 (by decide) (rfl : 26 + 2 = 28) ?_
  refine y_putI (ci := 6) (C := RX6) (T := TX6) (N := 6) h 4 tyX6 tyX6_ok nmX6 rfl rfl (fun _ hq => List.mem_cons_of_mem _ (List.mem_append_right _ hq)) (by decide) (List.mem_of_getElem? (i := 5) rfl) rfl rfl rfl dX6_init_28 (rfl : 28 + 3 = 31) ?_
  refine y_aload_n h 0 dX6_init_31 rfl (rfl : 31 + 1 = 32) ?_
  refine y_bipush h (-9) dX6_init_32 (by decide) (rfl : 32 + 2 = 34) ?_
  refine y_putI (ci := 6) (C := RX6) (T := TX6) (N := 6) h 5 tyX6 tyX6_ok nmX6 rfl rfl (fun _ hq => List.mem_cons_of_mem _ (List.mem_append_right _ hq)) (by decide) (List.mem_of_getElem? (i := 6) rfl) rfl rfl rfl dX6_init_34 (rfl : 34 + 3 = 37) ?_
  exact y_ret h hr rfl rfl rfl rfl dX6_init_37
noncomputable abbrev rmX10_init_31 : Room := { frames := 1, cells := 0, slots := 0, locals := 24 }
def iIX10_init_31 (I : zM) : zM := I
def iJX10_init_31 (J : zJ) : zJ := J
theorem zZX10_init_31 {I : zM} {J : zJ} (hZ : zZ 32 I J) : zZ 32 (iIX10_init_31 I) (iJX10_init_31 J) := hZ
set_option maxHeartbeats 2000000 in
set_option maxRecDepth 100000 in
theorem c_X10_init_31 (B : zB) (hBs : zBs B) (I : zM) (J : zJ) (hZ : zZ 32 I J) : zCc B 32 I J yX10_init wsX10_init rmX10_init_31 [.ref (za B 31)] 32 (iIX10_init_31 I) (iJX10_init_31 J) := by
  refine y_start (own := RX10) (cc := cX10_init) (nL := 1) rfl (by decide) rfl rfl (Nat.le_of_ble_eq_true rfl) (L := [(0, .ref (za B 31))]) rfl (fun G h hr => ?_)
  refine y_aload_n h 0 dX10_init_0 rfl (rfl : 0 + 1 = 1) ?_
  refine y_objInit h (List.mem_of_getElem? (i := 1) rfl) (List.mem_of_getElem? (i := 2) rfl) (List.mem_of_getElem? (i := 3) rfl) (by decide) dX10_init_1 (rfl : 1 + 3 = 4) ?_
  exact y_ret h hr rfl rfl rfl rfl dX10_init_4
noncomputable abbrev rmX6_init_31 : Room := { frames := 2, cells := 0, slots := 0, locals := 44 }
def iIX6_init_31 (I : zM) : zM := zu (zu (zu (zu (zu (zu (iIX10_init_31 I) 31 0 0) 31 1 0) 31 2 0) 31 3 (-9)) 31 4 (-9)) 31 5 (-9)
def iJX6_init_31 (J : zJ) : zJ := iJX10_init_31 J
theorem zZX6_init_31 {I : zM} {J : zJ} (hZ : zZ 32 I J) : zZ 32 (iIX6_init_31 I) (iJX6_init_31 J) := (zZ_zu (zZ_zu (zZ_zu (zZ_zu (zZ_zu (zZ_zu (zZX10_init_31 hZ) (by decide)) (by decide)) (by decide)) (by decide)) (by decide)) (by decide))
set_option maxHeartbeats 2000000 in
set_option maxRecDepth 100000 in
theorem c_X6_init_31 (B : zB) (hBs : zBs B) (I : zM) (J : zJ) (hZ : zZ 32 I J) : zCc B 32 I J yX6_init wsX6_init rmX6_init_31 [.ref (za B 31)] 32 (iIX6_init_31 I) (iJX6_init_31 J) := by
  refine y_start (own := RX6) (cc := cX6_init) (nL := 1) rfl (by decide) rfl rfl (Nat.le_of_ble_eq_true rfl) (L := [(0, .ref (za B 31))]) rfl (fun G h hr => ?_)
  refine y_aload_n h 0 dX6_init_0 rfl (rfl : 0 + 1 = 1) ?_
  refine y_callIN (n' := 32) (I' := iIX10_init_31 I) (J' := iJX10_init_31 J) h [] [] zyX10_init (c_X10_init_31 B hBs I J hZ) gX6_init_X10_init_n3 (List.mem_of_getElem? (i := 8) rfl) (List.mem_of_getElem? (i := 3) rfl) (List.mem_of_getElem? (i := 7) rfl) rfl ⟨by decide, by decide⟩ rfl (Nat.le_of_ble_eq_true rfl) ⟨by decide, by decide⟩ rfl dX6_init_1 (rfl : 1 + 3 = 4) ?_
  refine y_aload_n h 0 dX6_init_4 rfl (rfl : 4 + 1 = 5) ?_
  refine y_iconst h 0 dX6_init_5 (by decide) (rfl : 5 + 1 = 6) ?_
  refine y_putI (ci := 6) (C := RX6) (T := TX6) (N := 6) h 0 tyX6 tyX6_ok nmX6 rfl rfl (fun _ hq => List.mem_cons_of_mem _ (List.mem_append_right _ hq)) (by decide) (List.mem_of_getElem? (i := 1) rfl) rfl rfl rfl dX6_init_6 (rfl : 6 + 3 = 9) ?_
  refine y_aload_n h 0 dX6_init_9 rfl (rfl : 9 + 1 = 10) ?_
  refine y_iconst h 0 dX6_init_10 (by decide) (rfl : 10 + 1 = 11) ?_
  refine y_putI (ci := 6) (C := RX6) (T := TX6) (N := 6) h 1 tyX6 tyX6_ok nmX6 rfl rfl (fun _ hq => List.mem_cons_of_mem _ (List.mem_append_right _ hq)) (by decide) (List.mem_of_getElem? (i := 2) rfl) rfl rfl rfl dX6_init_11 (rfl : 11 + 3 = 14) ?_
  refine y_aload_n h 0 dX6_init_14 rfl (rfl : 14 + 1 = 15) ?_
  refine y_iconst h 0 dX6_init_15 (by decide) (rfl : 15 + 1 = 16) ?_
  refine y_putI (ci := 6) (C := RX6) (T := TX6) (N := 6) h 2 tyX6 tyX6_ok nmX6 rfl rfl (fun _ hq => List.mem_cons_of_mem _ (List.mem_append_right _ hq)) (by decide) (List.mem_of_getElem? (i := 3) rfl) rfl rfl rfl dX6_init_16 (rfl : 16 + 3 = 19) ?_
  refine y_aload_n h 0 dX6_init_19 rfl (rfl : 19 + 1 = 20) ?_
  refine y_bipush h (-9) dX6_init_20 (by decide) (rfl : 20 + 2 = 22) ?_
  refine y_putI (ci := 6) (C := RX6) (T := TX6) (N := 6) h 3 tyX6 tyX6_ok nmX6 rfl rfl (fun _ hq => List.mem_cons_of_mem _ (List.mem_append_right _ hq)) (by decide) (List.mem_of_getElem? (i := 4) rfl) rfl rfl rfl dX6_init_22 (rfl : 22 + 3 = 25) ?_
  refine y_aload_n h 0 dX6_init_25 rfl (rfl : 25 + 1 = 26) ?_
  refine y_bipush h (-9) dX6_init_26 (by decide) (rfl : 26 + 2 = 28) ?_
  refine y_putI (ci := 6) (C := RX6) (T := TX6) (N := 6) h 4 tyX6 tyX6_ok nmX6 rfl rfl (fun _ hq => List.mem_cons_of_mem _ (List.mem_append_right _ hq)) (by decide) (List.mem_of_getElem? (i := 5) rfl) rfl rfl rfl dX6_init_28 (rfl : 28 + 3 = 31) ?_
  refine y_aload_n h 0 dX6_init_31 rfl (rfl : 31 + 1 = 32) ?_
  refine y_bipush h (-9) dX6_init_32 (by decide) (rfl : 32 + 2 = 34) ?_
  refine y_putI (ci := 6) (C := RX6) (T := TX6) (N := 6) h 5 tyX6 tyX6_ok nmX6 rfl rfl (fun _ hq => List.mem_cons_of_mem _ (List.mem_append_right _ hq)) (by decide) (List.mem_of_getElem? (i := 6) rfl) rfl rfl rfl dX6_init_34 (rfl : 34 + 3 = 37) ?_
  exact y_ret h hr rfl rfl rfl rfl dX6_init_37
noncomputable abbrev rmX10_init_32 : Room := { frames := 1, cells := 0, slots := 0, locals := 24 }
def iIX10_init_32 (I : zM) : zM := I
def iJX10_init_32 (J : zJ) : zJ := J
theorem zZX10_init_32 {I : zM} {J : zJ} (hZ : zZ 33 I J) : zZ 33 (iIX10_init_32 I) (iJX10_init_32 J) := hZ
set_option maxHeartbeats 2000000 in
set_option maxRecDepth 100000 in
theorem c_X10_init_32 (B : zB) (hBs : zBs B) (I : zM) (J : zJ) (hZ : zZ 33 I J) : zCc B 33 I J yX10_init wsX10_init rmX10_init_32 [.ref (za B 32)] 33 (iIX10_init_32 I) (iJX10_init_32 J) := by
  refine y_start (own := RX10) (cc := cX10_init) (nL := 1) rfl (by decide) rfl rfl (Nat.le_of_ble_eq_true rfl) (L := [(0, .ref (za B 32))]) rfl (fun G h hr => ?_)
  refine y_aload_n h 0 dX10_init_0 rfl (rfl : 0 + 1 = 1) ?_
  refine y_objInit h (List.mem_of_getElem? (i := 1) rfl) (List.mem_of_getElem? (i := 2) rfl) (List.mem_of_getElem? (i := 3) rfl) (by decide) dX10_init_1 (rfl : 1 + 3 = 4) ?_
  exact y_ret h hr rfl rfl rfl rfl dX10_init_4
noncomputable abbrev rmX6_init_32 : Room := { frames := 2, cells := 0, slots := 0, locals := 44 }
def iIX6_init_32 (I : zM) : zM := zu (zu (zu (zu (zu (zu (iIX10_init_32 I) 32 0 0) 32 1 0) 32 2 0) 32 3 (-9)) 32 4 (-9)) 32 5 (-9)
def iJX6_init_32 (J : zJ) : zJ := iJX10_init_32 J
theorem zZX6_init_32 {I : zM} {J : zJ} (hZ : zZ 33 I J) : zZ 33 (iIX6_init_32 I) (iJX6_init_32 J) := (zZ_zu (zZ_zu (zZ_zu (zZ_zu (zZ_zu (zZ_zu (zZX10_init_32 hZ) (by decide)) (by decide)) (by decide)) (by decide)) (by decide)) (by decide))
set_option maxHeartbeats 2000000 in
set_option maxRecDepth 100000 in
theorem c_X6_init_32 (B : zB) (hBs : zBs B) (I : zM) (J : zJ) (hZ : zZ 33 I J) : zCc B 33 I J yX6_init wsX6_init rmX6_init_32 [.ref (za B 32)] 33 (iIX6_init_32 I) (iJX6_init_32 J) := by
  refine y_start (own := RX6) (cc := cX6_init) (nL := 1) rfl (by decide) rfl rfl (Nat.le_of_ble_eq_true rfl) (L := [(0, .ref (za B 32))]) rfl (fun G h hr => ?_)
  refine y_aload_n h 0 dX6_init_0 rfl (rfl : 0 + 1 = 1) ?_
  refine y_callIN (n' := 33) (I' := iIX10_init_32 I) (J' := iJX10_init_32 J) h [] [] zyX10_init (c_X10_init_32 B hBs I J hZ) gX6_init_X10_init_n3 (List.mem_of_getElem? (i := 8) rfl) (List.mem_of_getElem? (i := 3) rfl) (List.mem_of_getElem? (i := 7) rfl) rfl ⟨by decide, by decide⟩ rfl (Nat.le_of_ble_eq_true rfl) ⟨by decide, by decide⟩ rfl dX6_init_1 (rfl : 1 + 3 = 4) ?_
  refine y_aload_n h 0 dX6_init_4 rfl (rfl : 4 + 1 = 5) ?_
  refine y_iconst h 0 dX6_init_5 (by decide) (rfl : 5 + 1 = 6) ?_
  refine y_putI (ci := 6) (C := RX6) (T := TX6) (N := 6) h 0 tyX6 tyX6_ok nmX6 rfl rfl (fun _ hq => List.mem_cons_of_mem _ (List.mem_append_right _ hq)) (by decide) (List.mem_of_getElem? (i := 1) rfl) rfl rfl rfl dX6_init_6 (rfl : 6 + 3 = 9) ?_
  refine y_aload_n h 0 dX6_init_9 rfl (rfl : 9 + 1 = 10) ?_
  refine y_iconst h 0 dX6_init_10 (by decide) (rfl : 10 + 1 = 11) ?_
  refine y_putI (ci := 6) (C := RX6) (T := TX6) (N := 6) h 1 tyX6 tyX6_ok nmX6 rfl rfl (fun _ hq => List.mem_cons_of_mem _ (List.mem_append_right _ hq)) (by decide) (List.mem_of_getElem? (i := 2) rfl) rfl rfl rfl dX6_init_11 (rfl : 11 + 3 = 14) ?_
  refine y_aload_n h 0 dX6_init_14 rfl (rfl : 14 + 1 = 15) ?_
  refine y_iconst h 0 dX6_init_15 (by decide) (rfl : 15 + 1 = 16) ?_
  refine y_putI (ci := 6) (C := RX6) (T := TX6) (N := 6) h 2 tyX6 tyX6_ok nmX6 rfl rfl (fun _ hq => List.mem_cons_of_mem _ (List.mem_append_right _ hq)) (by decide) (List.mem_of_getElem? (i := 3) rfl) rfl rfl rfl dX6_init_16 (rfl : 16 + 3 = 19) ?_
  refine y_aload_n h 0 dX6_init_19 rfl (rfl : 19 + 1 = 20) ?_
  refine y_bipush h (-9) dX6_init_20 (by decide) (rfl : 20 + 2 = 22) ?_
  refine y_putI (ci := 6) (C := RX6) (T := TX6) (N := 6) h 3 tyX6 tyX6_ok nmX6 rfl rfl (fun _ hq => List.mem_cons_of_mem _ (List.mem_append_right _ hq)) (by decide) (List.mem_of_getElem? (i := 4) rfl) rfl rfl rfl dX6_init_22 (rfl : 22 + 3 = 25) ?_
  refine y_aload_n h 0 dX6_init_25 rfl (rfl : 25 + 1 = 26) ?_
  refine y_bipush h (-9) dX6_init_26 (by decide) (rfl : 26 + 2 = 28) ?_
  refine y_putI (ci := 6) (C := RX6) (T := TX6) (N := 6) h 4 tyX6 tyX6_ok nmX6 rfl rfl (fun _ hq => List.mem_cons_of_mem _ (List.mem_append_right _ hq)) (by decide) (List.mem_of_getElem? (i := 5) rfl) rfl rfl rfl dX6_init_28 (rfl : 28 + 3 = 31) ?_
  refine y_aload_n h 0 dX6_init_31 rfl (rfl : 31 + 1 = 32) ?_
  refine y_bipush h (-9) dX6_init_32 (by decide) (rfl : 32 + 2 = 34) ?_
  refine y_putI (ci := 6) (C := RX6) (T := TX6) (N := 6) h 5 tyX6 tyX6_ok nmX6 rfl rfl (fun _ hq => List.mem_cons_of_mem _ (List.mem_append_right _ hq)) (by decide) (List.mem_of_getElem? (i := 6) rfl) rfl rfl rfl dX6_init_34 (rfl : 34 + 3 = 37) ?_
  exact y_ret h hr rfl rfl rfl rfl dX6_init_37
theorem zyX7_init : zY yX7_init wsX7_init cX7_init 2 none 0 := ⟨⟨_, rfl⟩, by decide +kernel⟩
noncomputable abbrev rmX7_init_18 : Room := { frames := 3, cells := 14, slots := 91, locals := 64 }
def iIX7_init_18 (I : zM) : zM := iIX6_init_32 (iIX6_init_31 (iIX6_init_30 (iIX6_init_29 (iIX6_init_28 (iIX6_init_27 (iIX6_init_26 (iIX6_init_25 (iIX6_init_24 (iIX6_init_23 (iIX6_init_22 (iIX6_init_21 (iIX6_init_20 (zu I 18 1 0)))))))))))))
def iJX7_init_18 (J : zJ) : zJ := zuJ (iJX6_init_32 (zuJ (iJX6_init_31 (zuJ (iJX6_init_30 (zuJ (iJX6_init_29 (zuJ (iJX6_init_28 (zuJ (iJX6_init_27 (zuJ (iJX6_init_26 (zuJ (iJX6_init_25 (zuJ (iJX6_init_24 (zuJ (iJX6_init_23 (zuJ (iJX6_init_22 (zuJ (iJX6_init_21 (zuJ (iJX6_init_20 (zuJ J 18 0 (some 19))) 19 0 (some 20))) 19 1 (some 21))) 19 2 (some 22))) 19 3 (some 23))) 19 4 (some 24))) 19 5 (some 25))) 19 6 (some 26))) 19 7 (some 27))) 19 8 (some 28))) 19 9 (some 29))) 19 10 (some 30))) 19 11 (some 31))) 19 12 (some 32)
theorem zZX7_init_18 {I : zM} {J : zJ} (hZ : zZ 19 I J) : zZ 33 (iIX7_init_18 I) (iJX7_init_18 J) := (zZ_zuJ (zZX6_init_32 (zZ_up (m := 33) (zZ_zuJ (zZX6_init_31 (zZ_up (m := 32) (zZ_zuJ (zZX6_init_30 (zZ_up (m := 31) (zZ_zuJ (zZX6_init_29 (zZ_up (m := 30) (zZ_zuJ (zZX6_init_28 (zZ_up (m := 29) (zZ_zuJ (zZX6_init_27 (zZ_up (m := 28) (zZ_zuJ (zZX6_init_26 (zZ_up (m := 27) (zZ_zuJ (zZX6_init_25 (zZ_up (m := 26) (zZ_zuJ (zZX6_init_24 (zZ_up (m := 25) (zZ_zuJ (zZX6_init_23 (zZ_up (m := 24) (zZ_zuJ (zZX6_init_22 (zZ_up (m := 23) (zZ_zuJ (zZX6_init_21 (zZ_up (m := 22) (zZ_zuJ (zZX6_init_20 (zZ_up (m := 21) (zZ_zu (zZ_zuJ (zZ_up (m := 20) hZ (by decide)) (by decide)) (by decide)) (by decide))) (by decide)) (by decide))) (by decide)) (by decide))) (by decide)) (by decide))) (by decide)) (by decide))) (by decide)) (by decide))) (by decide)) (by decide))) (by decide)) (by decide))) (by decide)) (by decide))) (by decide)) (by decide))) (by decide)) (by decide))) (by decide)) (by decide))) (by decide)) (by decide))) (by decide))
set_option maxHeartbeats 2000000 in
set_option maxRecDepth 100000 in
theorem c_X7_init_18 (B : zB) (hBs : zBs B) (I : zM) (J : zJ) (hZ : zZ 19 I J) : zCc B 19 I J yX7_init wsX7_init rmX7_init_18 [.ref (za B 18)] 33 (iIX7_init_18 I) (iJX7_init_18 J) := by
  refine y_start (own := RX7) (cc := cX7_init) (nL := 2) rfl (by decide) rfl rfl (Nat.le_of_ble_eq_true rfl) (L := [(0, .ref (za B 18))]) rfl (fun G h hr => ?_)
  refine y_aload_n h 0 dX7_init_0 rfl (rfl : 0 + 1 = 1) ?_
  refine y_objInit h (List.mem_of_getElem? (i := 1) rfl) (List.mem_of_getElem? (i := 2) rfl) (List.mem_of_getElem? (i := 3) rfl) (by decide) dX7_init_1 (rfl : 1 + 3 = 4) ?_
  refine y_aload_n h 0 dX7_init_4 rfl (rfl : 4 + 1 = 5) ?_
  refine y_bipush h 13 dX7_init_5 (by decide) (rfl : 5 + 2 = 7) ?_
  refine y_anew (t := 7) (m := 13) (C := RX6) h hBs hZ (List.mem_of_getElem? (i := 4) rfl) (List.mem_of_getElem? (i := 27) rfl) (by decide) rfl (by decide) (by decide) (by decide) rfl ⟨by decide, by decide⟩ dX7_init_7 (rfl : 7 + 3 = 10) ?_
  refine y_putR (ci := 7) (C := RX7) (T := TX7) (N := 2) h 0 tyX7 tyX7_ok nmX7 rfl rfl (fun _ hq => List.mem_cons_of_mem _ (List.mem_append_left _ (List.mem_append_right _ hq))) (by decide) (List.mem_of_getElem? (i := 5) rfl) rfl rfl hr.2.2.2 rfl (Or.inr ⟨_, rfl⟩) dX7_init_10 (rfl : 10 + 3 = 13) ?_
  refine y_aload_n h 0 dX7_init_13 rfl (rfl : 13 + 1 = 14) ?_
  refine y_iconst h 0 dX7_init_14 (by decide) (rfl : 14 + 1 = 15) ?_
  refine y_putI (ci := 7) (C := RX7) (T := TX7) (N := 2) h 1 tyX7 tyX7_ok nmX7 rfl rfl (fun _ hq => List.mem_cons_of_mem _ (List.mem_append_left _ (List.mem_append_right _ hq))) (by decide) (List.mem_of_getElem? (i := 6) rfl) rfl rfl rfl dX7_init_15 (rfl : 15 + 3 = 18) ?_
  refine y_iconst h 0 dX7_init_18 (by decide) (rfl : 18 + 1 = 19) ?_
  refine y_istore_n h [(1, .int 0), (0, .ref (za B 18))] dX7_init_19 (by decide) rfl (rfl : 19 + 1 = 20) ?_
  refine y_iload_n h 0 dX7_init_20 rfl (rfl : 20 + 1 = 21) ?_
  refine y_bipush h 12 dX7_init_21 (by decide) (rfl : 21 + 2 = 23) ?_
  refine y_icmp_gt (pc' := 26) h 45 dX7_init_23 (by decide) rfl (fun q => absurd q (by decide)) (fun _ => ?_)
  refine y_aload_n h 1 dX7_init_26 rfl (rfl : 26 + 1 = 27) ?_
  refine y_get (ci := 7) (C := RX7) (T := TX7) (N := 2) h 0 (.ref (za B 19)) rfl rfl (fun _ hq => List.mem_cons_of_mem _ (List.mem_append_left _ (List.mem_append_right _ hq))) (by decide) (List.mem_of_getElem? (i := 5) rfl) (zfs_ref rfl (by rfl)) dX7_init_27 (rfl : 27 + 3 = 30) ?_
  refine y_iload_n h 0 dX7_init_30 rfl (rfl : 30 + 1 = 31) ?_
  refine y_new (ci := 6) (C := RX6) (T := TX6) (N := 6) h hBs (zZ_zu (zZ_zuJ (zZ_up (m := 20) hZ (by decide)) (by decide)) (by decide)) (fun _ hq => List.mem_cons_of_mem _ (List.mem_append_right _ hq)) tyX6 tyX6_ok zdefX6 (List.mem_of_getElem? (i := 4) rfl) (List.mem_of_getElem? (i := 7) rfl) (List.mem_of_getElem? (i := 8) rfl) rfl rfl ⟨by decide, by decide⟩ dX7_init_31 (rfl : 31 + 3 = 34) ?_
  refine y_dup h rfl dX7_init_34 (rfl : 34 + 1 = 35) ?_
  refine y_callIN (n' := 21) (I' := iIX6_init_20 (zu I 18 1 0)) (J' := iJX6_init_20 (zuJ J 18 0 (some 19))) h [] [.ref (za B 20), .int 0, .ref (za B 19)] zyX6_init (c_X6_init_20 B hBs (zu I 18 1 0) (zuJ J 18 0 (some 19)) (zZ_up (m := 21) (zZ_zu (zZ_zuJ (zZ_up (m := 20) hZ (by decide)) (by decide)) (by decide)) (by decide))) gX7_init_X6_init_n21 (List.mem_of_getElem? (i := 8) rfl) (List.mem_of_getElem? (i := 2) rfl) (List.mem_of_getElem? (i := 9) rfl) rfl ⟨by decide, by decide⟩ rfl (Nat.le_of_ble_eq_true rfl) ⟨by decide, by decide⟩ rfl dX7_init_35 (rfl : 35 + 3 = 38) ?_
  refine y_astq (ci := 6) h (by decide) rfl rfl (by decide) rfl rfl dX7_init_38 (rfl : 38 + 1 = 39) ?_
  refine y_iinc h 0 1 [(1, .int 1), (0, .ref (za B 18))] dX7_init_39 rfl (by decide) (by decide) rfl (rfl : 39 + 3 = 42) ?_
  refine y_goto (pc' := 20) h dX7_init_42 (by decide) ?_
  refine y_iload_n h 0 dX7_init_20 rfl (rfl : 20 + 1 = 21) ?_
  refine y_bipush h 12 dX7_init_21 (by decide) (rfl : 21 + 2 = 23) ?_
  refine y_icmp_gt (pc' := 26) h 45 dX7_init_23 (by decide) rfl (fun q => absurd q (by decide)) (fun _ => ?_)
  refine y_aload_n h 1 dX7_init_26 rfl (rfl : 26 + 1 = 27) ?_
  refine y_get (ci := 7) (C := RX7) (T := TX7) (N := 2) h 0 (.ref (za B 19)) rfl rfl (fun _ hq => List.mem_cons_of_mem _ (List.mem_append_left _ (List.mem_append_right _ hq))) (by decide) (List.mem_of_getElem? (i := 5) rfl) (zfs_ref rfl (by rfl)) dX7_init_27 (rfl : 27 + 3 = 30) ?_
  refine y_iload_n h 0 dX7_init_30 rfl (rfl : 30 + 1 = 31) ?_
  refine y_new (ci := 6) (C := RX6) (T := TX6) (N := 6) h hBs (zZ_zuJ (zZX6_init_20 (zZ_up (m := 21) (zZ_zu (zZ_zuJ (zZ_up (m := 20) hZ (by decide)) (by decide)) (by decide)) (by decide))) (by decide)) (fun _ hq => List.mem_cons_of_mem _ (List.mem_append_right _ hq)) tyX6 tyX6_ok zdefX6 (List.mem_of_getElem? (i := 4) rfl) (List.mem_of_getElem? (i := 7) rfl) (List.mem_of_getElem? (i := 8) rfl) rfl rfl ⟨by decide, by decide⟩ dX7_init_31 (rfl : 31 + 3 = 34) ?_
  refine y_dup h rfl dX7_init_34 (rfl : 34 + 1 = 35) ?_
  refine y_callIN (n' := 22) (I' := iIX6_init_21 (iIX6_init_20 (zu I 18 1 0))) (J' := iJX6_init_21 (zuJ (iJX6_init_20 (zuJ J 18 0 (some 19))) 19 0 (some 20))) h [] [.ref (za B 21), .int 1, .ref (za B 19)] zyX6_init (c_X6_init_21 B hBs (iIX6_init_20 (zu I 18 1 0)) (zuJ (iJX6_init_20 (zuJ J 18 0 (some 19))) 19 0 (some 20)) (zZ_up (m := 22) (zZ_zuJ (zZX6_init_20 (zZ_up (m := 21) (zZ_zu (zZ_zuJ (zZ_up (m := 20) hZ (by decide)) (by decide)) (by decide)) (by decide))) (by decide)) (by decide))) gX7_init_X6_init_n21 (List.mem_of_getElem? (i := 8) rfl) (List.mem_of_getElem? (i := 2) rfl) (List.mem_of_getElem? (i := 9) rfl) rfl ⟨by decide, by decide⟩ rfl (Nat.le_of_ble_eq_true rfl) ⟨by decide, by decide⟩ rfl dX7_init_35 (rfl : 35 + 3 = 38) ?_
  refine y_astq (ci := 6) h (by decide) rfl rfl (by decide) rfl rfl dX7_init_38 (rfl : 38 + 1 = 39) ?_
  refine y_iinc h 0 2 [(1, .int 2), (0, .ref (za B 18))] dX7_init_39 rfl (by decide) (by decide) rfl (rfl : 39 + 3 = 42) ?_
  refine y_goto (pc' := 20) h dX7_init_42 (by decide) ?_
  refine y_iload_n h 0 dX7_init_20 rfl (rfl : 20 + 1 = 21) ?_
  refine y_bipush h 12 dX7_init_21 (by decide) (rfl : 21 + 2 = 23) ?_
  refine y_icmp_gt (pc' := 26) h 45 dX7_init_23 (by decide) rfl (fun q => absurd q (by decide)) (fun _ => ?_)
  refine y_aload_n h 1 dX7_init_26 rfl (rfl : 26 + 1 = 27) ?_
  refine y_get (ci := 7) (C := RX7) (T := TX7) (N := 2) h 0 (.ref (za B 19)) rfl rfl (fun _ hq => List.mem_cons_of_mem _ (List.mem_append_left _ (List.mem_append_right _ hq))) (by decide) (List.mem_of_getElem? (i := 5) rfl) (zfs_ref rfl (by rfl)) dX7_init_27 (rfl : 27 + 3 = 30) ?_
  refine y_iload_n h 0 dX7_init_30 rfl (rfl : 30 + 1 = 31) ?_
  refine y_new (ci := 6) (C := RX6) (T := TX6) (N := 6) h hBs (zZ_zuJ (zZX6_init_21 (zZ_up (m := 22) (zZ_zuJ (zZX6_init_20 (zZ_up (m := 21) (zZ_zu (zZ_zuJ (zZ_up (m := 20) hZ (by decide)) (by decide)) (by decide)) (by decide))) (by decide)) (by decide))) (by decide)) (fun _ hq => List.mem_cons_of_mem _ (List.mem_append_right _ hq)) tyX6 tyX6_ok zdefX6 (List.mem_of_getElem? (i := 4) rfl) (List.mem_of_getElem? (i := 7) rfl) (List.mem_of_getElem? (i := 8) rfl) rfl rfl ⟨by decide, by decide⟩ dX7_init_31 (rfl : 31 + 3 = 34) ?_
  refine y_dup h rfl dX7_init_34 (rfl : 34 + 1 = 35) ?_
  refine y_callIN (n' := 23) (I' := iIX6_init_22 (iIX6_init_21 (iIX6_init_20 (zu I 18 1 0)))) (J' := iJX6_init_22 (zuJ (iJX6_init_21 (zuJ (iJX6_init_20 (zuJ J 18 0 (some 19))) 19 0 (some 20))) 19 1 (some 21))) h [] [.ref (za B 22), .int 2, .ref (za B 19)] zyX6_init (c_X6_init_22 B hBs (iIX6_init_21 (iIX6_init_20 (zu I 18 1 0))) (zuJ (iJX6_init_21 (zuJ (iJX6_init_20 (zuJ J 18 0 (some 19))) 19 0 (some 20))) 19 1 (some 21)) (zZ_up (m := 23) (zZ_zuJ (zZX6_init_21 (zZ_up (m := 22) (zZ_zuJ (zZX6_init_20 (zZ_up (m := 21) (zZ_zu (zZ_zuJ (zZ_up (m := 20) hZ (by decide)) (by decide)) (by decide)) (by decide))) (by decide)) (by decide))) (by decide)) (by decide))) gX7_init_X6_init_n21 (List.mem_of_getElem? (i := 8) rfl) (List.mem_of_getElem? (i := 2) rfl) (List.mem_of_getElem? (i := 9) rfl) rfl ⟨by decide, by decide⟩ rfl (Nat.le_of_ble_eq_true rfl) ⟨by decide, by decide⟩ rfl dX7_init_35 (rfl : 35 + 3 = 38) ?_
  refine y_astq (ci := 6) h (by decide) rfl rfl (by decide) rfl rfl dX7_init_38 (rfl : 38 + 1 = 39) ?_
  refine y_iinc h 0 3 [(1, .int 3), (0, .ref (za B 18))] dX7_init_39 rfl (by decide) (by decide) rfl (rfl : 39 + 3 = 42) ?_
  refine y_goto (pc' := 20) h dX7_init_42 (by decide) ?_
  refine y_iload_n h 0 dX7_init_20 rfl (rfl : 20 + 1 = 21) ?_
  refine y_bipush h 12 dX7_init_21 (by decide) (rfl : 21 + 2 = 23) ?_
  refine y_icmp_gt (pc' := 26) h 45 dX7_init_23 (by decide) rfl (fun q => absurd q (by decide)) (fun _ => ?_)
  refine y_aload_n h 1 dX7_init_26 rfl (rfl : 26 + 1 = 27) ?_
  refine y_get (ci := 7) (C := RX7) (T := TX7) (N := 2) h 0 (.ref (za B 19)) rfl rfl (fun _ hq => List.mem_cons_of_mem _ (List.mem_append_left _ (List.mem_append_right _ hq))) (by decide) (List.mem_of_getElem? (i := 5) rfl) (zfs_ref rfl (by rfl)) dX7_init_27 (rfl : 27 + 3 = 30) ?_
  refine y_iload_n h 0 dX7_init_30 rfl (rfl : 30 + 1 = 31) ?_
  refine y_new (ci := 6) (C := RX6) (T := TX6) (N := 6) h hBs (zZ_zuJ (zZX6_init_22 (zZ_up (m := 23) (zZ_zuJ (zZX6_init_21 (zZ_up (m := 22) (zZ_zuJ (zZX6_init_20 (zZ_up (m := 21) (zZ_zu (zZ_zuJ (zZ_up (m := 20) hZ (by decide)) (by decide)) (by decide)) (by decide))) (by decide)) (by decide))) (by decide)) (by decide))) (by decide)) (fun _ hq => List.mem_cons_of_mem _ (List.mem_append_right _ hq)) tyX6 tyX6_ok zdefX6 (List.mem_of_getElem? (i := 4) rfl) (List.mem_of_getElem? (i := 7) rfl) (List.mem_of_getElem? (i := 8) rfl) rfl rfl ⟨by decide, by decide⟩ dX7_init_31 (rfl : 31 + 3 = 34) ?_
  refine y_dup h rfl dX7_init_34 (rfl : 34 + 1 = 35) ?_
  refine y_callIN (n' := 24) (I' := iIX6_init_23 (iIX6_init_22 (iIX6_init_21 (iIX6_init_20 (zu I 18 1 0))))) (J' := iJX6_init_23 (zuJ (iJX6_init_22 (zuJ (iJX6_init_21 (zuJ (iJX6_init_20 (zuJ J 18 0 (some 19))) 19 0 (some 20))) 19 1 (some 21))) 19 2 (some 22))) h [] [.ref (za B 23), .int 3, .ref (za B 19)] zyX6_init (c_X6_init_23 B hBs (iIX6_init_22 (iIX6_init_21 (iIX6_init_20 (zu I 18 1 0)))) (zuJ (iJX6_init_22 (zuJ (iJX6_init_21 (zuJ (iJX6_init_20 (zuJ J 18 0 (some 19))) 19 0 (some 20))) 19 1 (some 21))) 19 2 (some 22)) (zZ_up (m := 24) (zZ_zuJ (zZX6_init_22 (zZ_up (m := 23) (zZ_zuJ (zZX6_init_21 (zZ_up (m := 22) (zZ_zuJ (zZX6_init_20 (zZ_up (m := 21) (zZ_zu (zZ_zuJ (zZ_up (m := 20) hZ (by decide)) (by decide)) (by decide)) (by decide))) (by decide)) (by decide))) (by decide)) (by decide))) (by decide)) (by decide))) gX7_init_X6_init_n21 (List.mem_of_getElem? (i := 8) rfl) (List.mem_of_getElem? (i := 2) rfl) (List.mem_of_getElem? (i := 9) rfl) rfl ⟨by decide, by decide⟩ rfl (Nat.le_of_ble_eq_true rfl) ⟨by decide, by decide⟩ rfl dX7_init_35 (rfl : 35 + 3 = 38) ?_
  refine y_astq (ci := 6) h (by decide) rfl rfl (by decide) rfl rfl dX7_init_38 (rfl : 38 + 1 = 39) ?_
  refine y_iinc h 0 4 [(1, .int 4), (0, .ref (za B 18))] dX7_init_39 rfl (by decide) (by decide) rfl (rfl : 39 + 3 = 42) ?_
  refine y_goto (pc' := 20) h dX7_init_42 (by decide) ?_
  refine y_iload_n h 0 dX7_init_20 rfl (rfl : 20 + 1 = 21) ?_
  refine y_bipush h 12 dX7_init_21 (by decide) (rfl : 21 + 2 = 23) ?_
  refine y_icmp_gt (pc' := 26) h 45 dX7_init_23 (by decide) rfl (fun q => absurd q (by decide)) (fun _ => ?_)
  refine y_aload_n h 1 dX7_init_26 rfl (rfl : 26 + 1 = 27) ?_
  refine y_get (ci := 7) (C := RX7) (T := TX7) (N := 2) h 0 (.ref (za B 19)) rfl rfl (fun _ hq => List.mem_cons_of_mem _ (List.mem_append_left _ (List.mem_append_right _ hq))) (by decide) (List.mem_of_getElem? (i := 5) rfl) (zfs_ref rfl (by rfl)) dX7_init_27 (rfl : 27 + 3 = 30) ?_
  refine y_iload_n h 0 dX7_init_30 rfl (rfl : 30 + 1 = 31) ?_
  refine y_new (ci := 6) (C := RX6) (T := TX6) (N := 6) h hBs (zZ_zuJ (zZX6_init_23 (zZ_up (m := 24) (zZ_zuJ (zZX6_init_22 (zZ_up (m := 23) (zZ_zuJ (zZX6_init_21 (zZ_up (m := 22) (zZ_zuJ (zZX6_init_20 (zZ_up (m := 21) (zZ_zu (zZ_zuJ (zZ_up (m := 20) hZ (by decide)) (by decide)) (by decide)) (by decide))) (by decide)) (by decide))) (by decide)) (by decide))) (by decide)) (by decide))) (by decide)) (fun _ hq => List.mem_cons_of_mem _ (List.mem_append_right _ hq)) tyX6 tyX6_ok zdefX6 (List.mem_of_getElem? (i := 4) rfl) (List.mem_of_getElem? (i := 7) rfl) (List.mem_of_getElem? (i := 8) rfl) rfl rfl ⟨by decide, by decide⟩ dX7_init_31 (rfl : 31 + 3 = 34) ?_
  refine y_dup h rfl dX7_init_34 (rfl : 34 + 1 = 35) ?_
  refine y_callIN (n' := 25) (I' := iIX6_init_24 (iIX6_init_23 (iIX6_init_22 (iIX6_init_21 (iIX6_init_20 (zu I 18 1 0)))))) (J' := iJX6_init_24 (zuJ (iJX6_init_23 (zuJ (iJX6_init_22 (zuJ (iJX6_init_21 (zuJ (iJX6_init_20 (zuJ J 18 0 (some 19))) 19 0 (some 20))) 19 1 (some 21))) 19 2 (some 22))) 19 3 (some 23))) h [] [.ref (za B 24), .int 4, .ref (za B 19)] zyX6_init (c_X6_init_24 B hBs (iIX6_init_23 (iIX6_init_22 (iIX6_init_21 (iIX6_init_20 (zu I 18 1 0))))) (zuJ (iJX6_init_23 (zuJ (iJX6_init_22 (zuJ (iJX6_init_21 (zuJ (iJX6_init_20 (zuJ J 18 0 (some 19))) 19 0 (some 20))) 19 1 (some 21))) 19 2 (some 22))) 19 3 (some 23)) (zZ_up (m := 25) (zZ_zuJ (zZX6_init_23 (zZ_up (m := 24) (zZ_zuJ (zZX6_init_22 (zZ_up (m := 23) (zZ_zuJ (zZX6_init_21 (zZ_up (m := 22) (zZ_zuJ (zZX6_init_20 (zZ_up (m := 21) (zZ_zu (zZ_zuJ (zZ_up (m := 20) hZ (by decide)) (by decide)) (by decide)) (by decide))) (by decide)) (by decide))) (by decide)) (by decide))) (by decide)) (by decide))) (by decide)) (by decide))) gX7_init_X6_init_n21 (List.mem_of_getElem? (i := 8) rfl) (List.mem_of_getElem? (i := 2) rfl) (List.mem_of_getElem? (i := 9) rfl) rfl ⟨by decide, by decide⟩ rfl (Nat.le_of_ble_eq_true rfl) ⟨by decide, by decide⟩ rfl dX7_init_35 (rfl : 35 + 3 = 38) ?_
  refine y_astq (ci := 6) h (by decide) rfl rfl (by decide) rfl rfl dX7_init_38 (rfl : 38 + 1 = 39) ?_
  refine y_iinc h 0 5 [(1, .int 5), (0, .ref (za B 18))] dX7_init_39 rfl (by decide) (by decide) rfl (rfl : 39 + 3 = 42) ?_
  refine y_goto (pc' := 20) h dX7_init_42 (by decide) ?_
  refine y_iload_n h 0 dX7_init_20 rfl (rfl : 20 + 1 = 21) ?_
  refine y_bipush h 12 dX7_init_21 (by decide) (rfl : 21 + 2 = 23) ?_
  refine y_icmp_gt (pc' := 26) h 45 dX7_init_23 (by decide) rfl (fun q => absurd q (by decide)) (fun _ => ?_)
  refine y_aload_n h 1 dX7_init_26 rfl (rfl : 26 + 1 = 27) ?_
  refine y_get (ci := 7) (C := RX7) (T := TX7) (N := 2) h 0 (.ref (za B 19)) rfl rfl (fun _ hq => List.mem_cons_of_mem _ (List.mem_append_left _ (List.mem_append_right _ hq))) (by decide) (List.mem_of_getElem? (i := 5) rfl) (zfs_ref rfl (by rfl)) dX7_init_27 (rfl : 27 + 3 = 30) ?_
  refine y_iload_n h 0 dX7_init_30 rfl (rfl : 30 + 1 = 31) ?_
  refine y_new (ci := 6) (C := RX6) (T := TX6) (N := 6) h hBs (zZ_zuJ (zZX6_init_24 (zZ_up (m := 25) (zZ_zuJ (zZX6_init_23 (zZ_up (m := 24) (zZ_zuJ (zZX6_init_22 (zZ_up (m := 23) (zZ_zuJ (zZX6_init_21 (zZ_up (m := 22) (zZ_zuJ (zZX6_init_20 (zZ_up (m := 21) (zZ_zu (zZ_zuJ (zZ_up (m := 20) hZ (by decide)) (by decide)) (by decide)) (by decide))) (by decide)) (by decide))) (by decide)) (by decide))) (by decide)) (by decide))) (by decide)) (by decide))) (by decide)) (fun _ hq => List.mem_cons_of_mem _ (List.mem_append_right _ hq)) tyX6 tyX6_ok zdefX6 (List.mem_of_getElem? (i := 4) rfl) (List.mem_of_getElem? (i := 7) rfl) (List.mem_of_getElem? (i := 8) rfl) rfl rfl ⟨by decide, by decide⟩ dX7_init_31 (rfl : 31 + 3 = 34) ?_
  refine y_dup h rfl dX7_init_34 (rfl : 34 + 1 = 35) ?_
  refine y_callIN (n' := 26) (I' := iIX6_init_25 (iIX6_init_24 (iIX6_init_23 (iIX6_init_22 (iIX6_init_21 (iIX6_init_20 (zu I 18 1 0))))))) (J' := iJX6_init_25 (zuJ (iJX6_init_24 (zuJ (iJX6_init_23 (zuJ (iJX6_init_22 (zuJ (iJX6_init_21 (zuJ (iJX6_init_20 (zuJ J 18 0 (some 19))) 19 0 (some 20))) 19 1 (some 21))) 19 2 (some 22))) 19 3 (some 23))) 19 4 (some 24))) h [] [.ref (za B 25), .int 5, .ref (za B 19)] zyX6_init (c_X6_init_25 B hBs (iIX6_init_24 (iIX6_init_23 (iIX6_init_22 (iIX6_init_21 (iIX6_init_20 (zu I 18 1 0)))))) (zuJ (iJX6_init_24 (zuJ (iJX6_init_23 (zuJ (iJX6_init_22 (zuJ (iJX6_init_21 (zuJ (iJX6_init_20 (zuJ J 18 0 (some 19))) 19 0 (some 20))) 19 1 (some 21))) 19 2 (some 22))) 19 3 (some 23))) 19 4 (some 24)) (zZ_up (m := 26) (zZ_zuJ (zZX6_init_24 (zZ_up (m := 25) (zZ_zuJ (zZX6_init_23 (zZ_up (m := 24) (zZ_zuJ (zZX6_init_22 (zZ_up (m := 23) (zZ_zuJ (zZX6_init_21 (zZ_up (m := 22) (zZ_zuJ (zZX6_init_20 (zZ_up (m := 21) (zZ_zu (zZ_zuJ (zZ_up (m := 20) hZ (by decide)) (by decide)) (by decide)) (by decide))) (by decide)) (by decide))) (by decide)) (by decide))) (by decide)) (by decide))) (by decide)) (by decide))) (by decide)) (by decide))) gX7_init_X6_init_n21 (List.mem_of_getElem? (i := 8) rfl) (List.mem_of_getElem? (i := 2) rfl) (List.mem_of_getElem? (i := 9) rfl) rfl ⟨by decide, by decide⟩ rfl (Nat.le_of_ble_eq_true rfl) ⟨by decide, by decide⟩ rfl dX7_init_35 (rfl : 35 + 3 = 38) ?_
  refine y_astq (ci := 6) h (by decide) rfl rfl (by decide) rfl rfl dX7_init_38 (rfl : 38 + 1 = 39) ?_
  refine y_iinc h 0 6 [(1, .int 6), (0, .ref (za B 18))] dX7_init_39 rfl (by decide) (by decide) rfl (rfl : 39 + 3 = 42) ?_
  refine y_goto (pc' := 20) h dX7_init_42 (by decide) ?_
  refine y_iload_n h 0 dX7_init_20 rfl (rfl : 20 + 1 = 21) ?_
  refine y_bipush h 12 dX7_init_21 (by decide) (rfl : 21 + 2 = 23) ?_
  refine y_icmp_gt (pc' := 26) h 45 dX7_init_23 (by decide) rfl (fun q => absurd q (by decide)) (fun _ => ?_)
  refine y_aload_n h 1 dX7_init_26 rfl (rfl : 26 + 1 = 27) ?_
  refine y_get (ci := 7) (C := RX7) (T := TX7) (N := 2) h 0 (.ref (za B 19)) rfl rfl (fun _ hq => List.mem_cons_of_mem _ (List.mem_append_left _ (List.mem_append_right _ hq))) (by decide) (List.mem_of_getElem? (i := 5) rfl) (zfs_ref rfl (by rfl)) dX7_init_27 (rfl : 27 + 3 = 30) ?_
  refine y_iload_n h 0 dX7_init_30 rfl (rfl : 30 + 1 = 31) ?_
  refine y_new (ci := 6) (C := RX6) (T := TX6) (N := 6) h hBs (zZ_zuJ (zZX6_init_25 (zZ_up (m := 26) (zZ_zuJ (zZX6_init_24 (zZ_up (m := 25) (zZ_zuJ (zZX6_init_23 (zZ_up (m := 24) (zZ_zuJ (zZX6_init_22 (zZ_up (m := 23) (zZ_zuJ (zZX6_init_21 (zZ_up (m := 22) (zZ_zuJ (zZX6_init_20 (zZ_up (m := 21) (zZ_zu (zZ_zuJ (zZ_up (m := 20) hZ (by decide)) (by decide)) (by decide)) (by decide))) (by decide)) (by decide))) (by decide)) (by decide))) (by decide)) (by decide))) (by decide)) (by decide))) (by decide)) (by decide))) (by decide)) (fun _ hq => List.mem_cons_of_mem _ (List.mem_append_right _ hq)) tyX6 tyX6_ok zdefX6 (List.mem_of_getElem? (i := 4) rfl) (List.mem_of_getElem? (i := 7) rfl) (List.mem_of_getElem? (i := 8) rfl) rfl rfl ⟨by decide, by decide⟩ dX7_init_31 (rfl : 31 + 3 = 34) ?_
  refine y_dup h rfl dX7_init_34 (rfl : 34 + 1 = 35) ?_
  refine y_callIN (n' := 27) (I' := iIX6_init_26 (iIX6_init_25 (iIX6_init_24 (iIX6_init_23 (iIX6_init_22 (iIX6_init_21 (iIX6_init_20 (zu I 18 1 0)))))))) (J' := iJX6_init_26 (zuJ (iJX6_init_25 (zuJ (iJX6_init_24 (zuJ (iJX6_init_23 (zuJ (iJX6_init_22 (zuJ (iJX6_init_21 (zuJ (iJX6_init_20 (zuJ J 18 0 (some 19))) 19 0 (some 20))) 19 1 (some 21))) 19 2 (some 22))) 19 3 (some 23))) 19 4 (some 24))) 19 5 (some 25))) h [] [.ref (za B 26), .int 6, .ref (za B 19)] zyX6_init (c_X6_init_26 B hBs (iIX6_init_25 (iIX6_init_24 (iIX6_init_23 (iIX6_init_22 (iIX6_init_21 (iIX6_init_20 (zu I 18 1 0))))))) (zuJ (iJX6_init_25 (zuJ (iJX6_init_24 (zuJ (iJX6_init_23 (zuJ (iJX6_init_22 (zuJ (iJX6_init_21 (zuJ (iJX6_init_20 (zuJ J 18 0 (some 19))) 19 0 (some 20))) 19 1 (some 21))) 19 2 (some 22))) 19 3 (some 23))) 19 4 (some 24))) 19 5 (some 25)) (zZ_up (m := 27) (zZ_zuJ (zZX6_init_25 (zZ_up (m := 26) (zZ_zuJ (zZX6_init_24 (zZ_up (m := 25) (zZ_zuJ (zZX6_init_23 (zZ_up (m := 24) (zZ_zuJ (zZX6_init_22 (zZ_up (m := 23) (zZ_zuJ (zZX6_init_21 (zZ_up (m := 22) (zZ_zuJ (zZX6_init_20 (zZ_up (m := 21) (zZ_zu (zZ_zuJ (zZ_up (m := 20) hZ (by decide)) (by decide)) (by decide)) (by decide))) (by decide)) (by decide))) (by decide)) (by decide))) (by decide)) (by decide))) (by decide)) (by decide))) (by decide)) (by decide))) (by decide)) (by decide))) gX7_init_X6_init_n21 (List.mem_of_getElem? (i := 8) rfl) (List.mem_of_getElem? (i := 2) rfl) (List.mem_of_getElem? (i := 9) rfl) rfl ⟨by decide, by decide⟩ rfl (Nat.le_of_ble_eq_true rfl) ⟨by decide, by decide⟩ rfl dX7_init_35 (rfl : 35 + 3 = 38) ?_
  refine y_astq (ci := 6) h (by decide) rfl rfl (by decide) rfl rfl dX7_init_38 (rfl : 38 + 1 = 39) ?_
  refine y_iinc h 0 7 [(1, .int 7), (0, .ref (za B 18))] dX7_init_39 rfl (by decide) (by decide) rfl (rfl : 39 + 3 = 42) ?_
  refine y_goto (pc' := 20) h dX7_init_42 (by decide) ?_
  refine y_iload_n h 0 dX7_init_20 rfl (rfl : 20 + 1 = 21) ?_
  refine y_bipush h 12 dX7_init_21 (by decide) (rfl : 21 + 2 = 23) ?_
  refine y_icmp_gt (pc' := 26) h 45 dX7_init_23 (by decide) rfl (fun q => absurd q (by decide)) (fun _ => ?_)
  refine y_aload_n h 1 dX7_init_26 rfl (rfl : 26 + 1 = 27) ?_
  refine y_get (ci := 7) (C := RX7) (T := TX7) (N := 2) h 0 (.ref (za B 19)) rfl rfl (fun _ hq => List.mem_cons_of_mem _ (List.mem_append_left _ (List.mem_append_right _ hq))) (by decide) (List.mem_of_getElem? (i := 5) rfl) (zfs_ref rfl (by rfl)) dX7_init_27 (rfl : 27 + 3 = 30) ?_
  refine y_iload_n h 0 dX7_init_30 rfl (rfl : 30 + 1 = 31) ?_
  refine y_new (ci := 6) (C := RX6) (T := TX6) (N := 6) h hBs (zZ_zuJ (zZX6_init_26 (zZ_up (m := 27) (zZ_zuJ (zZX6_init_25 (zZ_up (m := 26) (zZ_zuJ (zZX6_init_24 (zZ_up (m := 25) (zZ_zuJ (zZX6_init_23 (zZ_up (m := 24) (zZ_zuJ (zZX6_init_22 (zZ_up (m := 23) (zZ_zuJ (zZX6_init_21 (zZ_up (m := 22) (zZ_zuJ (zZX6_init_20 (zZ_up (m := 21) (zZ_zu (zZ_zuJ (zZ_up (m := 20) hZ (by decide)) (by decide)) (by decide)) (by decide))) (by decide)) (by decide))) (by decide)) (by decide))) (by decide)) (by decide))) (by decide)) (by decide))) (by decide)) (by decide))) (by decide)) (by decide))) (by decide)) (fun _ hq => List.mem_cons_of_mem _ (List.mem_append_right _ hq)) tyX6 tyX6_ok zdefX6 (List.mem_of_getElem? (i := 4) rfl) (List.mem_of_getElem? (i := 7) rfl) (List.mem_of_getElem? (i := 8) rfl) rfl rfl ⟨by decide, by decide⟩ dX7_init_31 (rfl : 31 + 3 = 34) ?_
  refine y_dup h rfl dX7_init_34 (rfl : 34 + 1 = 35) ?_
  refine y_callIN (n' := 28) (I' := iIX6_init_27 (iIX6_init_26 (iIX6_init_25 (iIX6_init_24 (iIX6_init_23 (iIX6_init_22 (iIX6_init_21 (iIX6_init_20 (zu I 18 1 0))))))))) (J' := iJX6_init_27 (zuJ (iJX6_init_26 (zuJ (iJX6_init_25 (zuJ (iJX6_init_24 (zuJ (iJX6_init_23 (zuJ (iJX6_init_22 (zuJ (iJX6_init_21 (zuJ (iJX6_init_20 (zuJ J 18 0 (some 19))) 19 0 (some 20))) 19 1 (some 21))) 19 2 (some 22))) 19 3 (some 23))) 19 4 (some 24))) 19 5 (some 25))) 19 6 (some 26))) h [] [.ref (za B 27), .int 7, .ref (za B 19)] zyX6_init (c_X6_init_27 B hBs (iIX6_init_26 (iIX6_init_25 (iIX6_init_24 (iIX6_init_23 (iIX6_init_22 (iIX6_init_21 (iIX6_init_20 (zu I 18 1 0)))))))) (zuJ (iJX6_init_26 (zuJ (iJX6_init_25 (zuJ (iJX6_init_24 (zuJ (iJX6_init_23 (zuJ (iJX6_init_22 (zuJ (iJX6_init_21 (zuJ (iJX6_init_20 (zuJ J 18 0 (some 19))) 19 0 (some 20))) 19 1 (some 21))) 19 2 (some 22))) 19 3 (some 23))) 19 4 (some 24))) 19 5 (some 25))) 19 6 (some 26)) (zZ_up (m := 28) (zZ_zuJ (zZX6_init_26 (zZ_up (m := 27) (zZ_zuJ (zZX6_init_25 (zZ_up (m := 26) (zZ_zuJ (zZX6_init_24 (zZ_up (m := 25) (zZ_zuJ (zZX6_init_23 (zZ_up (m := 24) (zZ_zuJ (zZX6_init_22 (zZ_up (m := 23) (zZ_zuJ (zZX6_init_21 (zZ_up (m := 22) (zZ_zuJ (zZX6_init_20 (zZ_up (m := 21) (zZ_zu (zZ_zuJ (zZ_up (m := 20) hZ (by decide)) (by decide)) (by decide)) (by decide))) (by decide)) (by decide))) (by decide)) (by decide))) (by decide)) (by decide))) (by decide)) (by decide))) (by decide)) (by decide))) (by decide)) (by decide))) (by decide)) (by decide))) gX7_init_X6_init_n21 (List.mem_of_getElem? (i := 8) rfl) (List.mem_of_getElem? (i := 2) rfl) (List.mem_of_getElem? (i := 9) rfl) rfl ⟨by decide, by decide⟩ rfl (Nat.le_of_ble_eq_true rfl) ⟨by decide, by decide⟩ rfl dX7_init_35 (rfl : 35 + 3 = 38) ?_
  refine y_astq (ci := 6) h (by decide) rfl rfl (by decide) rfl rfl dX7_init_38 (rfl : 38 + 1 = 39) ?_
  refine y_iinc h 0 8 [(1, .int 8), (0, .ref (za B 18))] dX7_init_39 rfl (by decide) (by decide) rfl (rfl : 39 + 3 = 42) ?_
  refine y_goto (pc' := 20) h dX7_init_42 (by decide) ?_
  refine y_iload_n h 0 dX7_init_20 rfl (rfl : 20 + 1 = 21) ?_
  refine y_bipush h 12 dX7_init_21 (by decide) (rfl : 21 + 2 = 23) ?_
  refine y_icmp_gt (pc' := 26) h 45 dX7_init_23 (by decide) rfl (fun q => absurd q (by decide)) (fun _ => ?_)
  refine y_aload_n h 1 dX7_init_26 rfl (rfl : 26 + 1 = 27) ?_
  refine y_get (ci := 7) (C := RX7) (T := TX7) (N := 2) h 0 (.ref (za B 19)) rfl rfl (fun _ hq => List.mem_cons_of_mem _ (List.mem_append_left _ (List.mem_append_right _ hq))) (by decide) (List.mem_of_getElem? (i := 5) rfl) (zfs_ref rfl (by rfl)) dX7_init_27 (rfl : 27 + 3 = 30) ?_
  refine y_iload_n h 0 dX7_init_30 rfl (rfl : 30 + 1 = 31) ?_
  refine y_new (ci := 6) (C := RX6) (T := TX6) (N := 6) h hBs (zZ_zuJ (zZX6_init_27 (zZ_up (m := 28) (zZ_zuJ (zZX6_init_26 (zZ_up (m := 27) (zZ_zuJ (zZX6_init_25 (zZ_up (m := 26) (zZ_zuJ (zZX6_init_24 (zZ_up (m := 25) (zZ_zuJ (zZX6_init_23 (zZ_up (m := 24) (zZ_zuJ (zZX6_init_22 (zZ_up (m := 23) (zZ_zuJ (zZX6_init_21 (zZ_up (m := 22) (zZ_zuJ (zZX6_init_20 (zZ_up (m := 21) (zZ_zu (zZ_zuJ (zZ_up (m := 20) hZ (by decide)) (by decide)) (by decide)) (by decide))) (by decide)) (by decide))) (by decide)) (by decide))) (by decide)) (by decide))) (by decide)) (by decide))) (by decide)) (by decide))) (by decide)) (by decide))) (by decide)) (by decide))) (by decide)) (fun _ hq => List.mem_cons_of_mem _ (List.mem_append_right _ hq)) tyX6 tyX6_ok zdefX6 (List.mem_of_getElem? (i := 4) rfl) (List.mem_of_getElem? (i := 7) rfl) (List.mem_of_getElem? (i := 8) rfl) rfl rfl ⟨by decide, by decide⟩ dX7_init_31 (rfl : 31 + 3 = 34) ?_
  refine y_dup h rfl dX7_init_34 (rfl : 34 + 1 = 35) ?_
  refine y_callIN (n' := 29) (I' := iIX6_init_28 (iIX6_init_27 (iIX6_init_26 (iIX6_init_25 (iIX6_init_24 (iIX6_init_23 (iIX6_init_22 (iIX6_init_21 (iIX6_init_20 (zu I 18 1 0)))))))))) (J' := iJX6_init_28 (zuJ (iJX6_init_27 (zuJ (iJX6_init_26 (zuJ (iJX6_init_25 (zuJ (iJX6_init_24 (zuJ (iJX6_init_23 (zuJ (iJX6_init_22 (zuJ (iJX6_init_21 (zuJ (iJX6_init_20 (zuJ J 18 0 (some 19))) 19 0 (some 20))) 19 1 (some 21))) 19 2 (some 22))) 19 3 (some 23))) 19 4 (some 24))) 19 5 (some 25))) 19 6 (some 26))) 19 7 (some 27))) h [] [.ref (za B 28), .int 8, .ref (za B 19)] zyX6_init (c_X6_init_28 B hBs (iIX6_init_27 (iIX6_init_26 (iIX6_init_25 (iIX6_init_24 (iIX6_init_23 (iIX6_init_22 (iIX6_init_21 (iIX6_init_20 (zu I 18 1 0))))))))) (zuJ (iJX6_init_27 (zuJ (iJX6_init_26 (zuJ (iJX6_init_25 (zuJ (iJX6_init_24 (zuJ (iJX6_init_23 (zuJ (iJX6_init_22 (zuJ (iJX6_init_21 (zuJ (iJX6_init_20 (zuJ J 18 0 (some 19))) 19 0 (some 20))) 19 1 (some 21))) 19 2 (some 22))) 19 3 (some 23))) 19 4 (some 24))) 19 5 (some 25))) 19 6 (some 26))) 19 7 (some 27)) (zZ_up (m := 29) (zZ_zuJ (zZX6_init_27 (zZ_up (m := 28) (zZ_zuJ (zZX6_init_26 (zZ_up (m := 27) (zZ_zuJ (zZX6_init_25 (zZ_up (m := 26) (zZ_zuJ (zZX6_init_24 (zZ_up (m := 25) (zZ_zuJ (zZX6_init_23 (zZ_up (m := 24) (zZ_zuJ (zZX6_init_22 (zZ_up (m := 23) (zZ_zuJ (zZX6_init_21 (zZ_up (m := 22) (zZ_zuJ (zZX6_init_20 (zZ_up (m := 21) (zZ_zu (zZ_zuJ (zZ_up (m := 20) hZ (by decide)) (by decide)) (by decide)) (by decide))) (by decide)) (by decide))) (by decide)) (by decide))) (by decide)) (by decide))) (by decide)) (by decide))) (by decide)) (by decide))) (by decide)) (by decide))) (by decide)) (by decide))) (by decide)) (by decide))) gX7_init_X6_init_n21 (List.mem_of_getElem? (i := 8) rfl) (List.mem_of_getElem? (i := 2) rfl) (List.mem_of_getElem? (i := 9) rfl) rfl ⟨by decide, by decide⟩ rfl (Nat.le_of_ble_eq_true rfl) ⟨by decide, by decide⟩ rfl dX7_init_35 (rfl : 35 + 3 = 38) ?_
  refine y_astq (ci := 6) h (by decide) rfl rfl (by decide) rfl rfl dX7_init_38 (rfl : 38 + 1 = 39) ?_
  refine y_iinc h 0 9 [(1, .int 9), (0, .ref (za B 18))] dX7_init_39 rfl (by decide) (by decide) rfl (rfl : 39 + 3 = 42) ?_
  refine y_goto (pc' := 20) h dX7_init_42 (by decide) ?_
  refine y_iload_n h 0 dX7_init_20 rfl (rfl : 20 + 1 = 21) ?_
  refine y_bipush h 12 dX7_init_21 (by decide) (rfl : 21 + 2 = 23) ?_
  refine y_icmp_gt (pc' := 26) h 45 dX7_init_23 (by decide) rfl (fun q => absurd q (by decide)) (fun _ => ?_)
  refine y_aload_n h 1 dX7_init_26 rfl (rfl : 26 + 1 = 27) ?_
  refine y_get (ci := 7) (C := RX7) (T := TX7) (N := 2) h 0 (.ref (za B 19)) rfl rfl (fun _ hq => List.mem_cons_of_mem _ (List.mem_append_left _ (List.mem_append_right _ hq))) (by decide) (List.mem_of_getElem? (i := 5) rfl) (zfs_ref rfl (by rfl)) dX7_init_27 (rfl : 27 + 3 = 30) ?_
  refine y_iload_n h 0 dX7_init_30 rfl (rfl : 30 + 1 = 31) ?_
  refine y_new (ci := 6) (C := RX6) (T := TX6) (N := 6) h hBs (zZ_zuJ (zZX6_init_28 (zZ_up (m := 29) (zZ_zuJ (zZX6_init_27 (zZ_up (m := 28) (zZ_zuJ (zZX6_init_26 (zZ_up (m := 27) (zZ_zuJ (zZX6_init_25 (zZ_up (m := 26) (zZ_zuJ (zZX6_init_24 (zZ_up (m := 25) (zZ_zuJ (zZX6_init_23 (zZ_up (m := 24) (zZ_zuJ (zZX6_init_22 (zZ_up (m := 23) (zZ_zuJ (zZX6_init_21 (zZ_up (m := 22) (zZ_zuJ (zZX6_init_20 (zZ_up (m := 21) (zZ_zu (zZ_zuJ (zZ_up (m := 20) hZ (by decide)) (by decide)) (by decide)) (by decide))) (by decide)) (by decide))) (by decide)) (by decide))) (by decide)) (by decide))) (by decide)) (by decide))) (by decide)) (by decide))) (by decide)) (by decide))) (by decide)) (by decide))) (by decide)) (by decide))) (by decide)) (fun _ hq => List.mem_cons_of_mem _ (List.mem_append_right _ hq)) tyX6 tyX6_ok zdefX6 (List.mem_of_getElem? (i := 4) rfl) (List.mem_of_getElem? (i := 7) rfl) (List.mem_of_getElem? (i := 8) rfl) rfl rfl ⟨by decide, by decide⟩ dX7_init_31 (rfl : 31 + 3 = 34) ?_
  refine y_dup h rfl dX7_init_34 (rfl : 34 + 1 = 35) ?_
  refine y_callIN (n' := 30) (I' := iIX6_init_29 (iIX6_init_28 (iIX6_init_27 (iIX6_init_26 (iIX6_init_25 (iIX6_init_24 (iIX6_init_23 (iIX6_init_22 (iIX6_init_21 (iIX6_init_20 (zu I 18 1 0))))))))))) (J' := iJX6_init_29 (zuJ (iJX6_init_28 (zuJ (iJX6_init_27 (zuJ (iJX6_init_26 (zuJ (iJX6_init_25 (zuJ (iJX6_init_24 (zuJ (iJX6_init_23 (zuJ (iJX6_init_22 (zuJ (iJX6_init_21 (zuJ (iJX6_init_20 (zuJ J 18 0 (some 19))) 19 0 (some 20))) 19 1 (some 21))) 19 2 (some 22))) 19 3 (some 23))) 19 4 (some 24))) 19 5 (some 25))) 19 6 (some 26))) 19 7 (some 27))) 19 8 (some 28))) h [] [.ref (za B 29), .int 9, .ref (za B 19)] zyX6_init (c_X6_init_29 B hBs (iIX6_init_28 (iIX6_init_27 (iIX6_init_26 (iIX6_init_25 (iIX6_init_24 (iIX6_init_23 (iIX6_init_22 (iIX6_init_21 (iIX6_init_20 (zu I 18 1 0)))))))))) (zuJ (iJX6_init_28 (zuJ (iJX6_init_27 (zuJ (iJX6_init_26 (zuJ (iJX6_init_25 (zuJ (iJX6_init_24 (zuJ (iJX6_init_23 (zuJ (iJX6_init_22 (zuJ (iJX6_init_21 (zuJ (iJX6_init_20 (zuJ J 18 0 (some 19))) 19 0 (some 20))) 19 1 (some 21))) 19 2 (some 22))) 19 3 (some 23))) 19 4 (some 24))) 19 5 (some 25))) 19 6 (some 26))) 19 7 (some 27))) 19 8 (some 28)) (zZ_up (m := 30) (zZ_zuJ (zZX6_init_28 (zZ_up (m := 29) (zZ_zuJ (zZX6_init_27 (zZ_up (m := 28) (zZ_zuJ (zZX6_init_26 (zZ_up (m := 27) (zZ_zuJ (zZX6_init_25 (zZ_up (m := 26) (zZ_zuJ (zZX6_init_24 (zZ_up (m := 25) (zZ_zuJ (zZX6_init_23 (zZ_up (m := 24) (zZ_zuJ (zZX6_init_22 (zZ_up (m := 23) (zZ_zuJ (zZX6_init_21 (zZ_up (m := 22) (zZ_zuJ (zZX6_init_20 (zZ_up (m := 21) (zZ_zu (zZ_zuJ (zZ_up (m := 20) hZ (by decide)) (by decide)) (by decide)) (by decide))) (by decide)) (by decide))) (by decide)) (by decide))) (by decide)) (by decide))) (by decide)) (by decide))) (by decide)) (by decide))) (by decide)) (by decide))) (by decide)) (by decide))) (by decide)) (by decide))) (by decide)) (by decide))) gX7_init_X6_init_n21 (List.mem_of_getElem? (i := 8) rfl) (List.mem_of_getElem? (i := 2) rfl) (List.mem_of_getElem? (i := 9) rfl) rfl ⟨by decide, by decide⟩ rfl (Nat.le_of_ble_eq_true rfl) ⟨by decide, by decide⟩ rfl dX7_init_35 (rfl : 35 + 3 = 38) ?_
  refine y_astq (ci := 6) h (by decide) rfl rfl (by decide) rfl rfl dX7_init_38 (rfl : 38 + 1 = 39) ?_
  refine y_iinc h 0 10 [(1, .int 10), (0, .ref (za B 18))] dX7_init_39 rfl (by decide) (by decide) rfl (rfl : 39 + 3 = 42) ?_
  refine y_goto (pc' := 20) h dX7_init_42 (by decide) ?_
  refine y_iload_n h 0 dX7_init_20 rfl (rfl : 20 + 1 = 21) ?_
  refine y_bipush h 12 dX7_init_21 (by decide) (rfl : 21 + 2 = 23) ?_
  refine y_icmp_gt (pc' := 26) h 45 dX7_init_23 (by decide) rfl (fun q => absurd q (by decide)) (fun _ => ?_)
  refine y_aload_n h 1 dX7_init_26 rfl (rfl : 26 + 1 = 27) ?_
  refine y_get (ci := 7) (C := RX7) (T := TX7) (N := 2) h 0 (.ref (za B 19)) rfl rfl (fun _ hq => List.mem_cons_of_mem _ (List.mem_append_left _ (List.mem_append_right _ hq))) (by decide) (List.mem_of_getElem? (i := 5) rfl) (zfs_ref rfl (by rfl)) dX7_init_27 (rfl : 27 + 3 = 30) ?_
  refine y_iload_n h 0 dX7_init_30 rfl (rfl : 30 + 1 = 31) ?_
  refine y_new (ci := 6) (C := RX6) (T := TX6) (N := 6) h hBs (zZ_zuJ (zZX6_init_29 (zZ_up (m := 30) (zZ_zuJ (zZX6_init_28 (zZ_up (m := 29) (zZ_zuJ (zZX6_init_27 (zZ_up (m := 28) (zZ_zuJ (zZX6_init_26 (zZ_up (m := 27) (zZ_zuJ (zZX6_init_25 (zZ_up (m := 26) (zZ_zuJ (zZX6_init_24 (zZ_up (m := 25) (zZ_zuJ (zZX6_init_23 (zZ_up (m := 24) (zZ_zuJ (zZX6_init_22 (zZ_up (m := 23) (zZ_zuJ (zZX6_init_21 (zZ_up (m := 22) (zZ_zuJ (zZX6_init_20 (zZ_up (m := 21) (zZ_zu (zZ_zuJ (zZ_up (m := 20) hZ (by decide)) (by decide)) (by decide)) (by decide))) (by decide)) (by decide))) (by decide)) (by decide))) (by decide)) (by decide))) (by decide)) (by decide))) (by decide)) (by decide))) (by decide)) (by decide))) (by decide)) (by decide))) (by decide)) (by decide))) (by decide)) (by decide))) (by decide)) (fun _ hq => List.mem_cons_of_mem _ (List.mem_append_right _ hq)) tyX6 tyX6_ok zdefX6 (List.mem_of_getElem? (i := 4) rfl) (List.mem_of_getElem? (i := 7) rfl) (List.mem_of_getElem? (i := 8) rfl) rfl rfl ⟨by decide, by decide⟩ dX7_init_31 (rfl : 31 + 3 = 34) ?_
  refine y_dup h rfl dX7_init_34 (rfl : 34 + 1 = 35) ?_
  refine y_callIN (n' := 31) (I' := iIX6_init_30 (iIX6_init_29 (iIX6_init_28 (iIX6_init_27 (iIX6_init_26 (iIX6_init_25 (iIX6_init_24 (iIX6_init_23 (iIX6_init_22 (iIX6_init_21 (iIX6_init_20 (zu I 18 1 0)))))))))))) (J' := iJX6_init_30 (zuJ (iJX6_init_29 (zuJ (iJX6_init_28 (zuJ (iJX6_init_27 (zuJ (iJX6_init_26 (zuJ (iJX6_init_25 (zuJ (iJX6_init_24 (zuJ (iJX6_init_23 (zuJ (iJX6_init_22 (zuJ (iJX6_init_21 (zuJ (iJX6_init_20 (zuJ J 18 0 (some 19))) 19 0 (some 20))) 19 1 (some 21))) 19 2 (some 22))) 19 3 (some 23))) 19 4 (some 24))) 19 5 (some 25))) 19 6 (some 26))) 19 7 (some 27))) 19 8 (some 28))) 19 9 (some 29))) h [] [.ref (za B 30), .int 10, .ref (za B 19)] zyX6_init (c_X6_init_30 B hBs (iIX6_init_29 (iIX6_init_28 (iIX6_init_27 (iIX6_init_26 (iIX6_init_25 (iIX6_init_24 (iIX6_init_23 (iIX6_init_22 (iIX6_init_21 (iIX6_init_20 (zu I 18 1 0))))))))))) (zuJ (iJX6_init_29 (zuJ (iJX6_init_28 (zuJ (iJX6_init_27 (zuJ (iJX6_init_26 (zuJ (iJX6_init_25 (zuJ (iJX6_init_24 (zuJ (iJX6_init_23 (zuJ (iJX6_init_22 (zuJ (iJX6_init_21 (zuJ (iJX6_init_20 (zuJ J 18 0 (some 19))) 19 0 (some 20))) 19 1 (some 21))) 19 2 (some 22))) 19 3 (some 23))) 19 4 (some 24))) 19 5 (some 25))) 19 6 (some 26))) 19 7 (some 27))) 19 8 (some 28))) 19 9 (some 29)) (zZ_up (m := 31) (zZ_zuJ (zZX6_init_29 (zZ_up (m := 30) (zZ_zuJ (zZX6_init_28 (zZ_up (m := 29) (zZ_zuJ (zZX6_init_27 (zZ_up (m := 28) (zZ_zuJ (zZX6_init_26 (zZ_up (m := 27) (zZ_zuJ (zZX6_init_25 (zZ_up (m := 26) (zZ_zuJ (zZX6_init_24 (zZ_up (m := 25) (zZ_zuJ (zZX6_init_23 (zZ_up (m := 24) (zZ_zuJ (zZX6_init_22 (zZ_up (m := 23) (zZ_zuJ (zZX6_init_21 (zZ_up (m := 22) (zZ_zuJ (zZX6_init_20 (zZ_up (m := 21) (zZ_zu (zZ_zuJ (zZ_up (m := 20) hZ (by decide)) (by decide)) (by decide)) (by decide))) (by decide)) (by decide))) (by decide)) (by decide))) (by decide)) (by decide))) (by decide)) (by decide))) (by decide)) (by decide))) (by decide)) (by decide))) (by decide)) (by decide))) (by decide)) (by decide))) (by decide)) (by decide))) (by decide)) (by decide))) gX7_init_X6_init_n21 (List.mem_of_getElem? (i := 8) rfl) (List.mem_of_getElem? (i := 2) rfl) (List.mem_of_getElem? (i := 9) rfl) rfl ⟨by decide, by decide⟩ rfl (Nat.le_of_ble_eq_true rfl) ⟨by decide, by decide⟩ rfl dX7_init_35 (rfl : 35 + 3 = 38) ?_
  refine y_astq (ci := 6) h (by decide) rfl rfl (by decide) rfl rfl dX7_init_38 (rfl : 38 + 1 = 39) ?_
  refine y_iinc h 0 11 [(1, .int 11), (0, .ref (za B 18))] dX7_init_39 rfl (by decide) (by decide) rfl (rfl : 39 + 3 = 42) ?_
  refine y_goto (pc' := 20) h dX7_init_42 (by decide) ?_
  refine y_iload_n h 0 dX7_init_20 rfl (rfl : 20 + 1 = 21) ?_
  refine y_bipush h 12 dX7_init_21 (by decide) (rfl : 21 + 2 = 23) ?_
  refine y_icmp_gt (pc' := 26) h 45 dX7_init_23 (by decide) rfl (fun q => absurd q (by decide)) (fun _ => ?_)
  refine y_aload_n h 1 dX7_init_26 rfl (rfl : 26 + 1 = 27) ?_
  refine y_get (ci := 7) (C := RX7) (T := TX7) (N := 2) h 0 (.ref (za B 19)) rfl rfl (fun _ hq => List.mem_cons_of_mem _ (List.mem_append_left _ (List.mem_append_right _ hq))) (by decide) (List.mem_of_getElem? (i := 5) rfl) (zfs_ref rfl (by rfl)) dX7_init_27 (rfl : 27 + 3 = 30) ?_
  refine y_iload_n h 0 dX7_init_30 rfl (rfl : 30 + 1 = 31) ?_
  refine y_new (ci := 6) (C := RX6) (T := TX6) (N := 6) h hBs (zZ_zuJ (zZX6_init_30 (zZ_up (m := 31) (zZ_zuJ (zZX6_init_29 (zZ_up (m := 30) (zZ_zuJ (zZX6_init_28 (zZ_up (m := 29) (zZ_zuJ (zZX6_init_27 (zZ_up (m := 28) (zZ_zuJ (zZX6_init_26 (zZ_up (m := 27) (zZ_zuJ (zZX6_init_25 (zZ_up (m := 26) (zZ_zuJ (zZX6_init_24 (zZ_up (m := 25) (zZ_zuJ (zZX6_init_23 (zZ_up (m := 24) (zZ_zuJ (zZX6_init_22 (zZ_up (m := 23) (zZ_zuJ (zZX6_init_21 (zZ_up (m := 22) (zZ_zuJ (zZX6_init_20 (zZ_up (m := 21) (zZ_zu (zZ_zuJ (zZ_up (m := 20) hZ (by decide)) (by decide)) (by decide)) (by decide))) (by decide)) (by decide))) (by decide)) (by decide))) (by decide)) (by decide))) (by decide)) (by decide))) (by decide)) (by decide))) (by decide)) (by decide))) (by decide)) (by decide))) (by decide)) (by decide))) (by decide)) (by decide))) (by decide)) (by decide))) (by decide)) (fun _ hq => List.mem_cons_of_mem _ (List.mem_append_right _ hq)) tyX6 tyX6_ok zdefX6 (List.mem_of_getElem? (i := 4) rfl) (List.mem_of_getElem? (i := 7) rfl) (List.mem_of_getElem? (i := 8) rfl) rfl rfl ⟨by decide, by decide⟩ dX7_init_31 (rfl : 31 + 3 = 34) ?_
  refine y_dup h rfl dX7_init_34 (rfl : 34 + 1 = 35) ?_
  refine y_callIN (n' := 32) (I' := iIX6_init_31 (iIX6_init_30 (iIX6_init_29 (iIX6_init_28 (iIX6_init_27 (iIX6_init_26 (iIX6_init_25 (iIX6_init_24 (iIX6_init_23 (iIX6_init_22 (iIX6_init_21 (iIX6_init_20 (zu I 18 1 0))))))))))))) (J' := iJX6_init_31 (zuJ (iJX6_init_30 (zuJ (iJX6_init_29 (zuJ (iJX6_init_28 (zuJ (iJX6_init_27 (zuJ (iJX6_init_26 (zuJ (iJX6_init_25 (zuJ (iJX6_init_24 (zuJ (iJX6_init_23 (zuJ (iJX6_init_22 (zuJ (iJX6_init_21 (zuJ (iJX6_init_20 (zuJ J 18 0 (some 19))) 19 0 (some 20))) 19 1 (some 21))) 19 2 (some 22))) 19 3 (some 23))) 19 4 (some 24))) 19 5 (some 25))) 19 6 (some 26))) 19 7 (some 27))) 19 8 (some 28))) 19 9 (some 29))) 19 10 (some 30))) h [] [.ref (za B 31), .int 11, .ref (za B 19)] zyX6_init (c_X6_init_31 B hBs (iIX6_init_30 (iIX6_init_29 (iIX6_init_28 (iIX6_init_27 (iIX6_init_26 (iIX6_init_25 (iIX6_init_24 (iIX6_init_23 (iIX6_init_22 (iIX6_init_21 (iIX6_init_20 (zu I 18 1 0)))))))))))) (zuJ (iJX6_init_30 (zuJ (iJX6_init_29 (zuJ (iJX6_init_28 (zuJ (iJX6_init_27 (zuJ (iJX6_init_26 (zuJ (iJX6_init_25 (zuJ (iJX6_init_24 (zuJ (iJX6_init_23 (zuJ (iJX6_init_22 (zuJ (iJX6_init_21 (zuJ (iJX6_init_20 (zuJ J 18 0 (some 19))) 19 0 (some 20))) 19 1 (some 21))) 19 2 (some 22))) 19 3 (some 23))) 19 4 (some 24))) 19 5 (some 25))) 19 6 (some 26))) 19 7 (some 27))) 19 8 (some 28))) 19 9 (some 29))) 19 10 (some 30)) (zZ_up (m := 32) (zZ_zuJ (zZX6_init_30 (zZ_up (m := 31) (zZ_zuJ (zZX6_init_29 (zZ_up (m := 30) (zZ_zuJ (zZX6_init_28 (zZ_up (m := 29) (zZ_zuJ (zZX6_init_27 (zZ_up (m := 28) (zZ_zuJ (zZX6_init_26 (zZ_up (m := 27) (zZ_zuJ (zZX6_init_25 (zZ_up (m := 26) (zZ_zuJ (zZX6_init_24 (zZ_up (m := 25) (zZ_zuJ (zZX6_init_23 (zZ_up (m := 24) (zZ_zuJ (zZX6_init_22 (zZ_up (m := 23) (zZ_zuJ (zZX6_init_21 (zZ_up (m := 22) (zZ_zuJ (zZX6_init_20 (zZ_up (m := 21) (zZ_zu (zZ_zuJ (zZ_up (m := 20) hZ (by decide)) (by decide)) (by decide)) (by decide))) (by decide)) (by decide))) (by decide)) (by decide))) (by decide)) (by decide))) (by decide)) (by decide))) (by decide)) (by decide))) (by decide)) (by decide))) (by decide)) (by decide))) (by decide)) (by decide))) (by decide)) (by decide))) (by decide)) (by decide))) (by decide)) (by decide))) gX7_init_X6_init_n21 (List.mem_of_getElem? (i := 8) rfl) (List.mem_of_getElem? (i := 2) rfl) (List.mem_of_getElem? (i := 9) rfl) rfl ⟨by decide, by decide⟩ rfl (Nat.le_of_ble_eq_true rfl) ⟨by decide, by decide⟩ rfl dX7_init_35 (rfl : 35 + 3 = 38) ?_
  refine y_astq (ci := 6) h (by decide) rfl rfl (by decide) rfl rfl dX7_init_38 (rfl : 38 + 1 = 39) ?_
  refine y_iinc h 0 12 [(1, .int 12), (0, .ref (za B 18))] dX7_init_39 rfl (by decide) (by decide) rfl (rfl : 39 + 3 = 42) ?_
  refine y_goto (pc' := 20) h dX7_init_42 (by decide) ?_
  refine y_iload_n h 0 dX7_init_20 rfl (rfl : 20 + 1 = 21) ?_
  refine y_bipush h 12 dX7_init_21 (by decide) (rfl : 21 + 2 = 23) ?_
  refine y_icmp_gt (pc' := 26) h 45 dX7_init_23 (by decide) rfl (fun q => absurd q (by decide)) (fun _ => ?_)
  refine y_aload_n h 1 dX7_init_26 rfl (rfl : 26 + 1 = 27) ?_
  refine y_get (ci := 7) (C := RX7) (T := TX7) (N := 2) h 0 (.ref (za B 19)) rfl rfl (fun _ hq => List.mem_cons_of_mem _ (List.mem_append_left _ (List.mem_append_right _ hq))) (by decide) (List.mem_of_getElem? (i := 5) rfl) (zfs_ref rfl (by rfl)) dX7_init_27 (rfl : 27 + 3 = 30) ?_
  refine y_iload_n h 0 dX7_init_30 rfl (rfl : 30 + 1 = 31) ?_
  refine y_new (ci := 6) (C := RX6) (T := TX6) (N := 6) h hBs (zZ_zuJ (zZX6_init_31 (zZ_up (m := 32) (zZ_zuJ (zZX6_init_30 (zZ_up (m := 31) (zZ_zuJ (zZX6_init_29 (zZ_up (m := 30) (zZ_zuJ (zZX6_init_28 (zZ_up (m := 29) (zZ_zuJ (zZX6_init_27 (zZ_up (m := 28) (zZ_zuJ (zZX6_init_26 (zZ_up (m := 27) (zZ_zuJ (zZX6_init_25 (zZ_up (m := 26) (zZ_zuJ (zZX6_init_24 (zZ_up (m := 25) (zZ_zuJ (zZX6_init_23 (zZ_up (m := 24) (zZ_zuJ (zZX6_init_22 (zZ_up (m := 23) (zZ_zuJ (zZX6_init_21 (zZ_up (m := 22) (zZ_zuJ (zZX6_init_20 (zZ_up (m := 21) (zZ_zu (zZ_zuJ (zZ_up (m := 20) hZ (by decide)) (by decide)) (by decide)) (by decide))) (by decide)) (by decide))) (by decide)) (by decide))) (by decide)) (by decide))) (by decide)) (by decide))) (by decide)) (by decide))) (by decide)) (by decide))) (by decide)) (by decide))) (by decide)) (by decide))) (by decide)) (by decide))) (by decide)) (by decide))) (by decide)) (by decide))) (by decide)) (fun _ hq => List.mem_cons_of_mem _ (List.mem_append_right _ hq)) tyX6 tyX6_ok zdefX6 (List.mem_of_getElem? (i := 4) rfl) (List.mem_of_getElem? (i := 7) rfl) (List.mem_of_getElem? (i := 8) rfl) rfl rfl ⟨by decide, by decide⟩ dX7_init_31 (rfl : 31 + 3 = 34) ?_
  refine y_dup h rfl dX7_init_34 (rfl : 34 + 1 = 35) ?_
  refine y_callIN (n' := 33) (I' := iIX6_init_32 (iIX6_init_31 (iIX6_init_30 (iIX6_init_29 (iIX6_init_28 (iIX6_init_27 (iIX6_init_26 (iIX6_init_25 (iIX6_init_24 (iIX6_init_23 (iIX6_init_22 (iIX6_init_21 (iIX6_init_20 (zu I 18 1 0)))))))))))))) (J' := iJX6_init_32 (zuJ (iJX6_init_31 (zuJ (iJX6_init_30 (zuJ (iJX6_init_29 (zuJ (iJX6_init_28 (zuJ (iJX6_init_27 (zuJ (iJX6_init_26 (zuJ (iJX6_init_25 (zuJ (iJX6_init_24 (zuJ (iJX6_init_23 (zuJ (iJX6_init_22 (zuJ (iJX6_init_21 (zuJ (iJX6_init_20 (zuJ J 18 0 (some 19))) 19 0 (some 20))) 19 1 (some 21))) 19 2 (some 22))) 19 3 (some 23))) 19 4 (some 24))) 19 5 (some 25))) 19 6 (some 26))) 19 7 (some 27))) 19 8 (some 28))) 19 9 (some 29))) 19 10 (some 30))) 19 11 (some 31))) h [] [.ref (za B 32), .int 12, .ref (za B 19)] zyX6_init (c_X6_init_32 B hBs (iIX6_init_31 (iIX6_init_30 (iIX6_init_29 (iIX6_init_28 (iIX6_init_27 (iIX6_init_26 (iIX6_init_25 (iIX6_init_24 (iIX6_init_23 (iIX6_init_22 (iIX6_init_21 (iIX6_init_20 (zu I 18 1 0))))))))))))) (zuJ (iJX6_init_31 (zuJ (iJX6_init_30 (zuJ (iJX6_init_29 (zuJ (iJX6_init_28 (zuJ (iJX6_init_27 (zuJ (iJX6_init_26 (zuJ (iJX6_init_25 (zuJ (iJX6_init_24 (zuJ (iJX6_init_23 (zuJ (iJX6_init_22 (zuJ (iJX6_init_21 (zuJ (iJX6_init_20 (zuJ J 18 0 (some 19))) 19 0 (some 20))) 19 1 (some 21))) 19 2 (some 22))) 19 3 (some 23))) 19 4 (some 24))) 19 5 (some 25))) 19 6 (some 26))) 19 7 (some 27))) 19 8 (some 28))) 19 9 (some 29))) 19 10 (some 30))) 19 11 (some 31)) (zZ_up (m := 33) (zZ_zuJ (zZX6_init_31 (zZ_up (m := 32) (zZ_zuJ (zZX6_init_30 (zZ_up (m := 31) (zZ_zuJ (zZX6_init_29 (zZ_up (m := 30) (zZ_zuJ (zZX6_init_28 (zZ_up (m := 29) (zZ_zuJ (zZX6_init_27 (zZ_up (m := 28) (zZ_zuJ (zZX6_init_26 (zZ_up (m := 27) (zZ_zuJ (zZX6_init_25 (zZ_up (m := 26) (zZ_zuJ (zZX6_init_24 (zZ_up (m := 25) (zZ_zuJ (zZX6_init_23 (zZ_up (m := 24) (zZ_zuJ (zZX6_init_22 (zZ_up (m := 23) (zZ_zuJ (zZX6_init_21 (zZ_up (m := 22) (zZ_zuJ (zZX6_init_20 (zZ_up (m := 21) (zZ_zu (zZ_zuJ (zZ_up (m := 20) hZ (by decide)) (by decide)) (by decide)) (by decide))) (by decide)) (by decide))) (by decide)) (by decide))) (by decide)) (by decide))) (by decide)) (by decide))) (by decide)) (by decide))) (by decide)) (by decide))) (by decide)) (by decide))) (by decide)) (by decide))) (by decide)) (by decide))) (by decide)) (by decide))) (by decide)) (by decide))) (by decide)) (by decide))) gX7_init_X6_init_n21 (List.mem_of_getElem? (i := 8) rfl) (List.mem_of_getElem? (i := 2) rfl) (List.mem_of_getElem? (i := 9) rfl) rfl ⟨by decide, by decide⟩ rfl (Nat.le_of_ble_eq_true rfl) ⟨by decide, by decide⟩ rfl dX7_init_35 (rfl : 35 + 3 = 38) ?_
  refine y_astq (ci := 6) h (by decide) rfl rfl (by decide) rfl rfl dX7_init_38 (rfl : 38 + 1 = 39) ?_
  refine y_iinc h 0 13 [(1, .int 13), (0, .ref (za B 18))] dX7_init_39 rfl (by decide) (by decide) rfl (rfl : 39 + 3 = 42) ?_
  refine y_goto (pc' := 20) h dX7_init_42 (by decide) ?_
  refine y_iload_n h 0 dX7_init_20 rfl (rfl : 20 + 1 = 21) ?_
  refine y_bipush h 12 dX7_init_21 (by decide) (rfl : 21 + 2 = 23) ?_
  refine y_icmp_gt (pc' := 26) h 45 dX7_init_23 (by decide) rfl (fun _ => ?_) (fun q => absurd q (by decide))
  exact y_ret h hr rfl rfl rfl rfl dX7_init_45
noncomputable abbrev rmX10_init_35 : Room := { frames := 1, cells := 0, slots := 0, locals := 24 }
def iIX10_init_35 (I : zM) : zM := I
def iJX10_init_35 (J : zJ) : zJ := J
theorem zZX10_init_35 {I : zM} {J : zJ} (hZ : zZ 36 I J) : zZ 36 (iIX10_init_35 I) (iJX10_init_35 J) := hZ
set_option maxHeartbeats 2000000 in
set_option maxRecDepth 100000 in
theorem c_X10_init_35 (B : zB) (hBs : zBs B) (I : zM) (J : zJ) (hZ : zZ 36 I J) : zCc B 36 I J yX10_init wsX10_init rmX10_init_35 [.ref (za B 35)] 36 (iIX10_init_35 I) (iJX10_init_35 J) := by
  refine y_start (own := RX10) (cc := cX10_init) (nL := 1) rfl (by decide) rfl rfl (Nat.le_of_ble_eq_true rfl) (L := [(0, .ref (za B 35))]) rfl (fun G h hr => ?_)
  refine y_aload_n h 0 dX10_init_0 rfl (rfl : 0 + 1 = 1) ?_
  refine y_objInit h (List.mem_of_getElem? (i := 1) rfl) (List.mem_of_getElem? (i := 2) rfl) (List.mem_of_getElem? (i := 3) rfl) (by decide) dX10_init_1 (rfl : 1 + 3 = 4) ?_
  exact y_ret h hr rfl rfl rfl rfl dX10_init_4
theorem zyX4_init : zY yX4_init wsX4_init cX4_init 2 none 0 := ⟨⟨_, rfl⟩, by decide +kernel⟩
noncomputable abbrev rmX4_init_35 : Room := { frames := 3, cells := 1, slots := 5, locals := 100 }
def iIX4_init_35 (I : zM) : zM := zu (zu (zu (zu (zu (zu (zu (iIX10_init_35 I) 35 1 0) 36 0 0) 36 1 1) 36 2 2) 36 3 3) 36 4 4) 35 1 5
def iJX4_init_35 (J : zJ) : zJ := zuJ (iJX10_init_35 J) 35 0 (some 36)
theorem zZX4_init_35 {I : zM} {J : zJ} (hZ : zZ 36 I J) : zZ 37 (iIX4_init_35 I) (iJX4_init_35 J) := (zZ_zu (zZ_zu (zZ_zu (zZ_zu (zZ_zu (zZ_zu (zZ_zu (zZ_zuJ (zZ_up (m := 37) (zZX10_init_35 hZ) (by decide)) (by decide)) (by decide)) (by decide)) (by decide)) (by decide)) (by decide)) (by decide)) (by decide))
set_option maxHeartbeats 2000000 in
set_option maxRecDepth 100000 in
theorem c_X4_init_35 (B : zB) (hBs : zBs B) (I : zM) (J : zJ) (hZ : zZ 36 I J) : zCc B 36 I J yX4_init wsX4_init rmX4_init_35 [.ref (za B 35)] 37 (iIX4_init_35 I) (iJX4_init_35 J) := by
  refine y_start (own := RX4) (cc := cX4_init) (nL := 2) rfl (by decide) rfl rfl (Nat.le_of_ble_eq_true rfl) (L := [(0, .ref (za B 35))]) rfl (fun G h hr => ?_)
  refine y_aload_n h 0 dX4_init_0 rfl (rfl : 0 + 1 = 1) ?_
  refine y_callIN (n' := 36) (I' := iIX10_init_35 I) (J' := iJX10_init_35 J) h [] [] zyX10_init (c_X10_init_35 B hBs I J hZ) gX4_init_X10_init_n3 (List.mem_of_getElem? (i := 5) rfl) (List.mem_of_getElem? (i := 4) rfl) (List.mem_of_getElem? (i := 4) rfl) rfl ⟨by decide, by decide⟩ rfl (Nat.le_of_ble_eq_true rfl) ⟨by decide, by decide⟩ rfl dX4_init_1 (rfl : 1 + 3 = 4) ?_
  refine y_aload_n h 0 dX4_init_4 rfl (rfl : 4 + 1 = 5) ?_
  refine y_ldcS h ⟨rfl, rfl⟩ dX4_init_5 (rfl : 5 + 2 = 7) (fun a0 ha0 => ?_)
  refine y_runVx h [.ref (za B 35)] zyJ0_length_8abf5 (c_len B 36 (iIX10_init_35 I) (iJX10_init_35 J) a0) ha0 gX4_init_J0_length_8abf5 rfl rfl ⟨rfl, rfl, by decide, by decide⟩ (Nat.le_of_ble_eq_true rfl) ⟨Nat.zero_le _, Nat.zero_le _⟩ rfl dX4_init_7 (rfl : 7 + 3 = 10) ?_
  refine y_newa (atype := .int) (t := 0) (m := 5) h hBs (zZX10_init_35 hZ) (List.mem_of_getElem? (i := 1) rfl) (by decide) rfl rfl (by decide) (by decide) (by decide) rfl ⟨by decide, by decide⟩ dX4_init_10 (rfl : 10 + 2 = 12) ?_
  refine y_putR (ci := 4) (C := RX4) (T := TX4) (N := 2) h 0 tyX4 tyX4_ok nmX4 rfl rfl (fun _ hq => List.mem_cons_of_mem _ (List.mem_append_right _ hq)) (by decide) (List.mem_of_getElem? (i := 2) rfl) rfl rfl hr.2.2.2 rfl (Or.inr ⟨_, rfl⟩) dX4_init_12 (rfl : 12 + 3 = 15) ?_
  refine y_aload_n h 0 dX4_init_15 rfl (rfl : 15 + 1 = 16) ?_
  refine y_iconst h 0 dX4_init_16 (by decide) (rfl : 16 + 1 = 17) ?_
  refine y_putI (ci := 4) (C := RX4) (T := TX4) (N := 2) h 1 tyX4 tyX4_ok nmX4 rfl rfl (fun _ hq => List.mem_cons_of_mem _ (List.mem_append_right _ hq)) (by decide) (List.mem_of_getElem? (i := 3) rfl) rfl rfl rfl dX4_init_17 (rfl : 17 + 3 = 20) ?_
  refine y_iconst h 0 dX4_init_20 (by decide) (rfl : 20 + 1 = 21) ?_
  refine y_istore_n h [(1, .int 0), (0, .ref (za B 35))] dX4_init_21 (by decide) rfl (rfl : 21 + 1 = 22) ?_
  refine y_iload_n h 0 dX4_init_22 rfl (rfl : 22 + 1 = 23) ?_
  refine y_aload_n h 1 dX4_init_23 rfl (rfl : 23 + 1 = 24) ?_
  refine y_get (ci := 4) (C := RX4) (T := TX4) (N := 2) h 0 (.ref (za B 36)) rfl rfl (fun _ hq => List.mem_cons_of_mem _ (List.mem_append_right _ hq)) (by decide) (List.mem_of_getElem? (i := 2) rfl) (zfs_ref rfl (by rfl)) dX4_init_24 (rfl : 24 + 3 = 27) ?_
  refine y_alen h 5 rfl (by decide) (by decide) dX4_init_27 (rfl : 27 + 1 = 28) ?_
  refine y_icmp_ge (pc' := 31) h 44 dX4_init_28 (by decide) rfl (fun q => absurd q (by decide)) (fun _ => ?_)
  refine y_aload_n h 1 dX4_init_31 rfl (rfl : 31 + 1 = 32) ?_
  refine y_get (ci := 4) (C := RX4) (T := TX4) (N := 2) h 0 (.ref (za B 36)) rfl rfl (fun _ hq => List.mem_cons_of_mem _ (List.mem_append_right _ hq)) (by decide) (List.mem_of_getElem? (i := 2) rfl) (zfs_ref rfl (by rfl)) dX4_init_32 (rfl : 32 + 3 = 35) ?_
  refine y_iload_n h 0 dX4_init_35 rfl (rfl : 35 + 1 = 36) ?_
  refine y_iload_n h 0 dX4_init_36 rfl (rfl : 36 + 1 = 37) ?_
  refine y_iast h (by decide) rfl dX4_init_37 (rfl : 37 + 1 = 38) ?_
  refine y_iinc h 0 1 [(1, .int 1), (0, .ref (za B 35))] dX4_init_38 rfl (by decide) (by decide) rfl (rfl : 38 + 3 = 41) ?_
  refine y_goto (pc' := 22) h dX4_init_41 (by decide) ?_
  refine y_iload_n h 0 dX4_init_22 rfl (rfl : 22 + 1 = 23) ?_
  refine y_aload_n h 1 dX4_init_23 rfl (rfl : 23 + 1 = 24) ?_
  refine y_get (ci := 4) (C := RX4) (T := TX4) (N := 2) h 0 (.ref (za B 36)) rfl rfl (fun _ hq => List.mem_cons_of_mem _ (List.mem_append_right _ hq)) (by decide) (List.mem_of_getElem? (i := 2) rfl) (zfs_ref rfl (by rfl)) dX4_init_24 (rfl : 24 + 3 = 27) ?_
  refine y_alen h 5 rfl (by decide) (by decide) dX4_init_27 (rfl : 27 + 1 = 28) ?_
  refine y_icmp_ge (pc' := 31) h 44 dX4_init_28 (by decide) rfl (fun q => absurd q (by decide)) (fun _ => ?_)
  refine y_aload_n h 1 dX4_init_31 rfl (rfl : 31 + 1 = 32) ?_
  refine y_get (ci := 4) (C := RX4) (T := TX4) (N := 2) h 0 (.ref (za B 36)) rfl rfl (fun _ hq => List.mem_cons_of_mem _ (List.mem_append_right _ hq)) (by decide) (List.mem_of_getElem? (i := 2) rfl) (zfs_ref rfl (by rfl)) dX4_init_32 (rfl : 32 + 3 = 35) ?_
  refine y_iload_n h 0 dX4_init_35 rfl (rfl : 35 + 1 = 36) ?_
  refine y_iload_n h 0 dX4_init_36 rfl (rfl : 36 + 1 = 37) ?_
  refine y_iast h (by decide) rfl dX4_init_37 (rfl : 37 + 1 = 38) ?_
  refine y_iinc h 0 2 [(1, .int 2), (0, .ref (za B 35))] dX4_init_38 rfl (by decide) (by decide) rfl (rfl : 38 + 3 = 41) ?_
  refine y_goto (pc' := 22) h dX4_init_41 (by decide) ?_
  refine y_iload_n h 0 dX4_init_22 rfl (rfl : 22 + 1 = 23) ?_
  refine y_aload_n h 1 dX4_init_23 rfl (rfl : 23 + 1 = 24) ?_
  refine y_get (ci := 4) (C := RX4) (T := TX4) (N := 2) h 0 (.ref (za B 36)) rfl rfl (fun _ hq => List.mem_cons_of_mem _ (List.mem_append_right _ hq)) (by decide) (List.mem_of_getElem? (i := 2) rfl) (zfs_ref rfl (by rfl)) dX4_init_24 (rfl : 24 + 3 = 27) ?_
  refine y_alen h 5 rfl (by decide) (by decide) dX4_init_27 (rfl : 27 + 1 = 28) ?_
  refine y_icmp_ge (pc' := 31) h 44 dX4_init_28 (by decide) rfl (fun q => absurd q (by decide)) (fun _ => ?_)
  refine y_aload_n h 1 dX4_init_31 rfl (rfl : 31 + 1 = 32) ?_
  refine y_get (ci := 4) (C := RX4) (T := TX4) (N := 2) h 0 (.ref (za B 36)) rfl rfl (fun _ hq => List.mem_cons_of_mem _ (List.mem_append_right _ hq)) (by decide) (List.mem_of_getElem? (i := 2) rfl) (zfs_ref rfl (by rfl)) dX4_init_32 (rfl : 32 + 3 = 35) ?_
  refine y_iload_n h 0 dX4_init_35 rfl (rfl : 35 + 1 = 36) ?_
  refine y_iload_n h 0 dX4_init_36 rfl (rfl : 36 + 1 = 37) ?_
  refine y_iast h (by decide) rfl dX4_init_37 (rfl : 37 + 1 = 38) ?_
  refine y_iinc h 0 3 [(1, .int 3), (0, .ref (za B 35))] dX4_init_38 rfl (by decide) (by decide) rfl (rfl : 38 + 3 = 41) ?_
  refine y_goto (pc' := 22) h dX4_init_41 (by decide) ?_
  refine y_iload_n h 0 dX4_init_22 rfl (rfl : 22 + 1 = 23) ?_
  refine y_aload_n h 1 dX4_init_23 rfl (rfl : 23 + 1 = 24) ?_
  refine y_get (ci := 4) (C := RX4) (T := TX4) (N := 2) h 0 (.ref (za B 36)) rfl rfl (fun _ hq => List.mem_cons_of_mem _ (List.mem_append_right _ hq)) (by decide) (List.mem_of_getElem? (i := 2) rfl) (zfs_ref rfl (by rfl)) dX4_init_24 (rfl : 24 + 3 = 27) ?_
  refine y_alen h 5 rfl (by decide) (by decide) dX4_init_27 (rfl : 27 + 1 = 28) ?_
  refine y_icmp_ge (pc' := 31) h 44 dX4_init_28 (by decide) rfl (fun q => absurd q (by decide)) (fun _ => ?_)
  refine y_aload_n h 1 dX4_init_31 rfl (rfl : 31 + 1 = 32) ?_
  refine y_get (ci := 4) (C := RX4) (T := TX4) (N := 2) h 0 (.ref (za B 36)) rfl rfl (fun _ hq => List.mem_cons_of_mem _ (List.mem_append_right _ hq)) (by decide) (List.mem_of_getElem? (i := 2) rfl) (zfs_ref rfl (by rfl)) dX4_init_32 (rfl : 32 + 3 = 35) ?_
  refine y_iload_n h 0 dX4_init_35 rfl (rfl : 35 + 1 = 36) ?_
  refine y_iload_n h 0 dX4_init_36 rfl (rfl : 36 + 1 = 37) ?_
  refine y_iast h (by decide) rfl dX4_init_37 (rfl : 37 + 1 = 38) ?_
  refine y_iinc h 0 4 [(1, .int 4), (0, .ref (za B 35))] dX4_init_38 rfl (by decide) (by decide) rfl (rfl : 38 + 3 = 41) ?_
  refine y_goto (pc' := 22) h dX4_init_41 (by decide) ?_
  refine y_iload_n h 0 dX4_init_22 rfl (rfl : 22 + 1 = 23) ?_
  refine y_aload_n h 1 dX4_init_23 rfl (rfl : 23 + 1 = 24) ?_
  refine y_get (ci := 4) (C := RX4) (T := TX4) (N := 2) h 0 (.ref (za B 36)) rfl rfl (fun _ hq => List.mem_cons_of_mem _ (List.mem_append_right _ hq)) (by decide) (List.mem_of_getElem? (i := 2) rfl) (zfs_ref rfl (by rfl)) dX4_init_24 (rfl : 24 + 3 = 27) ?_
  refine y_alen h 5 rfl (by decide) (by decide) dX4_init_27 (rfl : 27 + 1 = 28) ?_
  refine y_icmp_ge (pc' := 31) h 44 dX4_init_28 (by decide) rfl (fun q => absurd q (by decide)) (fun _ => ?_)
  refine y_aload_n h 1 dX4_init_31 rfl (rfl : 31 + 1 = 32) ?_
  refine y_get (ci := 4) (C := RX4) (T := TX4) (N := 2) h 0 (.ref (za B 36)) rfl rfl (fun _ hq => List.mem_cons_of_mem _ (List.mem_append_right _ hq)) (by decide) (List.mem_of_getElem? (i := 2) rfl) (zfs_ref rfl (by rfl)) dX4_init_32 (rfl : 32 + 3 = 35) ?_
  refine y_iload_n h 0 dX4_init_35 rfl (rfl : 35 + 1 = 36) ?_
  refine y_iload_n h 0 dX4_init_36 rfl (rfl : 36 + 1 = 37) ?_
  refine y_iast h (by decide) rfl dX4_init_37 (rfl : 37 + 1 = 38) ?_
  refine y_iinc h 0 5 [(1, .int 5), (0, .ref (za B 35))] dX4_init_38 rfl (by decide) (by decide) rfl (rfl : 38 + 3 = 41) ?_
  refine y_goto (pc' := 22) h dX4_init_41 (by decide) ?_
  refine y_iload_n h 0 dX4_init_22 rfl (rfl : 22 + 1 = 23) ?_
  refine y_aload_n h 1 dX4_init_23 rfl (rfl : 23 + 1 = 24) ?_
  refine y_get (ci := 4) (C := RX4) (T := TX4) (N := 2) h 0 (.ref (za B 36)) rfl rfl (fun _ hq => List.mem_cons_of_mem _ (List.mem_append_right _ hq)) (by decide) (List.mem_of_getElem? (i := 2) rfl) (zfs_ref rfl (by rfl)) dX4_init_24 (rfl : 24 + 3 = 27) ?_
  refine y_alen h 5 rfl (by decide) (by decide) dX4_init_27 (rfl : 27 + 1 = 28) ?_
  refine y_icmp_ge (pc' := 31) h 44 dX4_init_28 (by decide) rfl (fun _ => ?_) (fun q => absurd q (by decide))
  refine y_aload_n h 1 dX4_init_44 rfl (rfl : 44 + 1 = 45) ?_
  refine y_aload_n h 1 dX4_init_45 rfl (rfl : 45 + 1 = 46) ?_
  refine y_get (ci := 4) (C := RX4) (T := TX4) (N := 2) h 0 (.ref (za B 36)) rfl rfl (fun _ hq => List.mem_cons_of_mem _ (List.mem_append_right _ hq)) (by decide) (List.mem_of_getElem? (i := 2) rfl) (zfs_ref rfl (by rfl)) dX4_init_46 (rfl : 46 + 3 = 49) ?_
  refine y_alen h 5 rfl (by decide) (by decide) dX4_init_49 (rfl : 49 + 1 = 50) ?_
  refine y_putI (ci := 4) (C := RX4) (T := TX4) (N := 2) h 1 tyX4 tyX4_ok nmX4 rfl rfl (fun _ hq => List.mem_cons_of_mem _ (List.mem_append_right _ hq)) (by decide) (List.mem_of_getElem? (i := 3) rfl) rfl rfl rfl dX4_init_50 (rfl : 50 + 3 = 53) ?_
  exact y_ret h hr rfl rfl rfl rfl dX4_init_53
noncomputable abbrev rmX10_init_37 : Room := { frames := 1, cells := 0, slots := 0, locals := 24 }
def iIX10_init_37 (I : zM) : zM := I
def iJX10_init_37 (J : zJ) : zJ := J
theorem zZX10_init_37 {I : zM} {J : zJ} (hZ : zZ 38 I J) : zZ 38 (iIX10_init_37 I) (iJX10_init_37 J) := hZ
set_option maxHeartbeats 2000000 in
set_option maxRecDepth 100000 in
theorem c_X10_init_37 (B : zB) (hBs : zBs B) (I : zM) (J : zJ) (hZ : zZ 38 I J) : zCc B 38 I J yX10_init wsX10_init rmX10_init_37 [.ref (za B 37)] 38 (iIX10_init_37 I) (iJX10_init_37 J) := by
  refine y_start (own := RX10) (cc := cX10_init) (nL := 1) rfl (by decide) rfl rfl (Nat.le_of_ble_eq_true rfl) (L := [(0, .ref (za B 37))]) rfl (fun G h hr => ?_)
  refine y_aload_n h 0 dX10_init_0 rfl (rfl : 0 + 1 = 1) ?_
  refine y_objInit h (List.mem_of_getElem? (i := 1) rfl) (List.mem_of_getElem? (i := 2) rfl) (List.mem_of_getElem? (i := 3) rfl) (by decide) dX10_init_1 (rfl : 1 + 3 = 4) ?_
  exact y_ret h hr rfl rfl rfl rfl dX10_init_4
theorem zyX8_init : zY yX8_init wsX8_init cX8_init 1 none 0 := ⟨⟨_, rfl⟩, by decide +kernel⟩
noncomputable abbrev rmX8_init_37 : Room := { frames := 2, cells := 1, slots := 6, locals := 44 }
def iIX8_init_37 (I : zM) : zM := zu (zu (iIX10_init_37 I) 37 1 0) 37 2 0
def iJX8_init_37 (J : zJ) : zJ := zuJ (iJX10_init_37 J) 37 0 (some 38)
theorem zZX8_init_37 {I : zM} {J : zJ} (hZ : zZ 38 I J) : zZ 39 (iIX8_init_37 I) (iJX8_init_37 J) := (zZ_zu (zZ_zu (zZ_zuJ (zZ_up (m := 39) (zZX10_init_37 hZ) (by decide)) (by decide)) (by decide)) (by decide))
set_option maxHeartbeats 2000000 in
set_option maxRecDepth 100000 in
theorem c_X8_init_37 (B : zB) (hBs : zBs B) (I : zM) (J : zJ) (hZ : zZ 38 I J) : zCc B 38 I J yX8_init wsX8_init rmX8_init_37 [.ref (za B 37)] 39 (iIX8_init_37 I) (iJX8_init_37 J) := by
  refine y_start (own := RX8) (cc := cX8_init) (nL := 1) rfl (by decide) rfl rfl (Nat.le_of_ble_eq_true rfl) (L := [(0, .ref (za B 37))]) rfl (fun G h hr => ?_)
  refine y_aload_n h 0 dX8_init_0 rfl (rfl : 0 + 1 = 1) ?_
  refine y_callIN (n' := 38) (I' := iIX10_init_37 I) (J' := iJX10_init_37 J) h [] [] zyX10_init (c_X10_init_37 B hBs I J hZ) gX8_init_X10_init_n3 (List.mem_of_getElem? (i := 6) rfl) (List.mem_of_getElem? (i := 6) rfl) (List.mem_of_getElem? (i := 5) rfl) rfl ⟨by decide, by decide⟩ rfl (Nat.le_of_ble_eq_true rfl) ⟨by decide, by decide⟩ rfl dX8_init_1 (rfl : 1 + 3 = 4) ?_
  refine y_aload_n h 0 dX8_init_4 rfl (rfl : 4 + 1 = 5) ?_
  refine y_bipush h 6 dX8_init_5 (by decide) (rfl : 5 + 2 = 7) ?_
  refine y_newa (atype := .int) (t := 0) (m := 6) h hBs (zZX10_init_37 hZ) (List.mem_of_getElem? (i := 1) rfl) (by decide) rfl rfl (by decide) (by decide) (by decide) rfl ⟨by decide, by decide⟩ dX8_init_7 (rfl : 7 + 2 = 9) ?_
  refine y_putR (ci := 8) (C := RX8) (T := TX8) (N := 3) h 0 tyX8 tyX8_ok nmX8 rfl rfl (fun _ hq => List.mem_cons_of_mem _ (List.mem_append_right _ hq)) (by decide) (List.mem_of_getElem? (i := 2) rfl) rfl rfl hr.2.2.2 rfl (Or.inr ⟨_, rfl⟩) dX8_init_9 (rfl : 9 + 3 = 12) ?_
  refine y_aload_n h 0 dX8_init_12 rfl (rfl : 12 + 1 = 13) ?_
  refine y_iconst h 0 dX8_init_13 (by decide) (rfl : 13 + 1 = 14) ?_
  refine y_putI (ci := 8) (C := RX8) (T := TX8) (N := 3) h 1 tyX8 tyX8_ok nmX8 rfl rfl (fun _ hq => List.mem_cons_of_mem _ (List.mem_append_right _ hq)) (by decide) (List.mem_of_getElem? (i := 3) rfl) rfl rfl rfl dX8_init_14 (rfl : 14 + 3 = 17) ?_
  refine y_aload_n h 0 dX8_init_17 rfl (rfl : 17 + 1 = 18) ?_
  refine y_iconst h 0 dX8_init_18 (by decide) (rfl : 18 + 1 = 19) ?_
  refine y_putI (ci := 8) (C := RX8) (T := TX8) (N := 3) h 2 tyX8 tyX8_ok nmX8 rfl rfl (fun _ hq => List.mem_cons_of_mem _ (List.mem_append_right _ hq)) (by decide) (List.mem_of_getElem? (i := 4) rfl) rfl rfl rfl dX8_init_19 (rfl : 19 + 3 = 22) ?_
  exact y_ret h hr rfl rfl rfl rfl dX8_init_22
theorem zyX2_init : zY yX2_init wsX2_init cX2_init 1 none 0 := ⟨⟨_, rfl⟩, by decide +kernel⟩
noncomputable abbrev rmX2_init_45 : Room := { frames := 1, cells := 4, slots := 64, locals := 24 }
def iIX2_init_45 (I : zM) : zM := zu I 45 0 0
def iJX2_init_45 (J : zJ) : zJ := zuJ (zuJ (zuJ (zuJ J 45 1 (some 46)) 45 2 (some 47)) 45 3 (some 48)) 45 4 (some 49)
theorem zZX2_init_45 {I : zM} {J : zJ} (hZ : zZ 46 I J) : zZ 50 (iIX2_init_45 I) (iJX2_init_45 J) := (zZ_zuJ (zZ_up (m := 50) (zZ_zuJ (zZ_up (m := 49) (zZ_zuJ (zZ_up (m := 48) (zZ_zuJ (zZ_up (m := 47) (zZ_zu hZ (by decide)) (by decide)) (by decide)) (by decide)) (by decide)) (by decide)) (by decide)) (by decide)) (by decide))
set_option maxHeartbeats 2000000 in
set_option maxRecDepth 100000 in
theorem c_X2_init_45 (B : zB) (hBs : zBs B) (I : zM) (J : zJ) (hZ : zZ 46 I J) : zCc B 46 I J yX2_init wsX2_init rmX2_init_45 [.ref (za B 45)] 50 (iIX2_init_45 I) (iJX2_init_45 J) := by
  refine y_start (own := RX2) (cc := cX2_init) (nL := 1) rfl (by decide) rfl rfl (Nat.le_of_ble_eq_true rfl) (L := [(0, .ref (za B 45))]) rfl (fun G h hr => ?_)
  refine y_aload_n h 0 dX2_init_0 rfl (rfl : 0 + 1 = 1) ?_
  refine y_objInit h (List.mem_of_getElem? (i := 1) rfl) (List.mem_of_getElem? (i := 2) rfl) (List.mem_of_getElem? (i := 3) rfl) (by decide) dX2_init_1 (rfl : 1 + 3 = 4) ?_
  refine y_aload_n h 0 dX2_init_4 rfl (rfl : 4 + 1 = 5) ?_
  refine y_iconst h 0 dX2_init_5 (by decide) (rfl : 5 + 1 = 6) ?_
  refine y_putI (ci := 2) (C := RX2) (T := TX2) (N := 5) h 0 tyX2 tyX2_ok nmX2 rfl rfl (fun _ hq => List.mem_cons_of_mem _ (List.mem_append_right _ hq)) (by decide) (List.mem_of_getElem? (i := 4) rfl) rfl rfl rfl dX2_init_6 (rfl : 6 + 3 = 9) ?_
  refine y_aload_n h 0 dX2_init_9 rfl (rfl : 9 + 1 = 10) ?_
  refine y_bipush h 16 dX2_init_10 (by decide) (rfl : 10 + 2 = 12) ?_
  refine y_newa (atype := .int) (t := 0) (m := 16) h hBs (zZ_zu hZ (by decide)) (List.mem_of_getElem? (i := 5) rfl) (by decide) rfl rfl (by decide) (by decide) (by decide) rfl ⟨by decide, by decide⟩ dX2_init_12 (rfl : 12 + 2 = 14) ?_
  refine y_putR (ci := 2) (C := RX2) (T := TX2) (N := 5) h 1 tyX2 tyX2_ok nmX2 rfl rfl (fun _ hq => List.mem_cons_of_mem _ (List.mem_append_right _ hq)) (by decide) (List.mem_of_getElem? (i := 6) rfl) rfl rfl hr.2.2.2 rfl (Or.inr ⟨_, rfl⟩) dX2_init_14 (rfl : 14 + 3 = 17) ?_
  refine y_aload_n h 0 dX2_init_17 rfl (rfl : 17 + 1 = 18) ?_
  refine y_bipush h 16 dX2_init_18 (by decide) (rfl : 18 + 2 = 20) ?_
  refine y_newa (atype := .int) (t := 0) (m := 16) h hBs (zZ_zuJ (zZ_up (m := 47) (zZ_zu hZ (by decide)) (by decide)) (by decide)) (List.mem_of_getElem? (i := 5) rfl) (by decide) rfl rfl (by decide) (by decide) (by decide) rfl ⟨by decide, by decide⟩ dX2_init_20 (rfl : 20 + 2 = 22) ?_
  refine y_putR (ci := 2) (C := RX2) (T := TX2) (N := 5) h 2 tyX2 tyX2_ok nmX2 rfl rfl (fun _ hq => List.mem_cons_of_mem _ (List.mem_append_right _ hq)) (by decide) (List.mem_of_getElem? (i := 7) rfl) rfl rfl hr.2.2.2 rfl (Or.inr ⟨_, rfl⟩) dX2_init_22 (rfl : 22 + 3 = 25) ?_
  refine y_aload_n h 0 dX2_init_25 rfl (rfl : 25 + 1 = 26) ?_
  refine y_bipush h 16 dX2_init_26 (by decide) (rfl : 26 + 2 = 28) ?_
  refine y_newa (atype := .int) (t := 0) (m := 16) h hBs (zZ_zuJ (zZ_up (m := 48) (zZ_zuJ (zZ_up (m := 47) (zZ_zu hZ (by decide)) (by decide)) (by decide)) (by decide)) (by decide)) (List.mem_of_getElem? (i := 5) rfl) (by decide) rfl rfl (by decide) (by decide) (by decide) rfl ⟨by decide, by decide⟩ dX2_init_28 (rfl : 28 + 2 = 30) ?_
  refine y_putR (ci := 2) (C := RX2) (T := TX2) (N := 5) h 3 tyX2 tyX2_ok nmX2 rfl rfl (fun _ hq => List.mem_cons_of_mem _ (List.mem_append_right _ hq)) (by decide) (List.mem_of_getElem? (i := 8) rfl) rfl rfl hr.2.2.2 rfl (Or.inr ⟨_, rfl⟩) dX2_init_30 (rfl : 30 + 3 = 33) ?_
  refine y_aload_n h 0 dX2_init_33 rfl (rfl : 33 + 1 = 34) ?_
  refine y_bipush h 16 dX2_init_34 (by decide) (rfl : 34 + 2 = 36) ?_
  refine y_newa (atype := .int) (t := 0) (m := 16) h hBs (zZ_zuJ (zZ_up (m := 49) (zZ_zuJ (zZ_up (m := 48) (zZ_zuJ (zZ_up (m := 47) (zZ_zu hZ (by decide)) (by decide)) (by decide)) (by decide)) (by decide)) (by decide)) (by decide)) (List.mem_of_getElem? (i := 5) rfl) (by decide) rfl rfl (by decide) (by decide) (by decide) rfl ⟨by decide, by decide⟩ dX2_init_36 (rfl : 36 + 2 = 38) ?_
  refine y_putR (ci := 2) (C := RX2) (T := TX2) (N := 5) h 4 tyX2 tyX2_ok nmX2 rfl rfl (fun _ hq => List.mem_cons_of_mem _ (List.mem_append_right _ hq)) (by decide) (List.mem_of_getElem? (i := 9) rfl) rfl rfl hr.2.2.2 rfl (Or.inr ⟨_, rfl⟩) dX2_init_38 (rfl : 38 + 3 = 41) ?_
  exact y_ret h hr rfl rfl rfl rfl dX2_init_41
noncomputable abbrev rmX2_init_50 : Room := { frames := 1, cells := 4, slots := 64, locals := 24 }
def iIX2_init_50 (I : zM) : zM := zu I 50 0 0
def iJX2_init_50 (J : zJ) : zJ := zuJ (zuJ (zuJ (zuJ J 50 1 (some 51)) 50 2 (some 52)) 50 3 (some 53)) 50 4 (some 54)
theorem zZX2_init_50 {I : zM} {J : zJ} (hZ : zZ 51 I J) : zZ 55 (iIX2_init_50 I) (iJX2_init_50 J) := (zZ_zuJ (zZ_up (m := 55) (zZ_zuJ (zZ_up (m := 54) (zZ_zuJ (zZ_up (m := 53) (zZ_zuJ (zZ_up (m := 52) (zZ_zu hZ (by decide)) (by decide)) (by decide)) (by decide)) (by decide)) (by decide)) (by decide)) (by decide)) (by decide))
set_option maxHeartbeats 2000000 in
set_option maxRecDepth 100000 in
theorem c_X2_init_50 (B : zB) (hBs : zBs B) (I : zM) (J : zJ) (hZ : zZ 51 I J) : zCc B 51 I J yX2_init wsX2_init rmX2_init_50 [.ref (za B 50)] 55 (iIX2_init_50 I) (iJX2_init_50 J) := by
  refine y_start (own := RX2) (cc := cX2_init) (nL := 1) rfl (by decide) rfl rfl (Nat.le_of_ble_eq_true rfl) (L := [(0, .ref (za B 50))]) rfl (fun G h hr => ?_)
  refine y_aload_n h 0 dX2_init_0 rfl (rfl : 0 + 1 = 1) ?_
  refine y_objInit h (List.mem_of_getElem? (i := 1) rfl) (List.mem_of_getElem? (i := 2) rfl) (List.mem_of_getElem? (i := 3) rfl) (by decide) dX2_init_1 (rfl : 1 + 3 = 4) ?_
  refine y_aload_n h 0 dX2_init_4 rfl (rfl : 4 + 1 = 5) ?_
  refine y_iconst h 0 dX2_init_5 (by decide) (rfl : 5 + 1 = 6) ?_
  refine y_putI (ci := 2) (C := RX2) (T := TX2) (N := 5) h 0 tyX2 tyX2_ok nmX2 rfl rfl (fun _ hq => List.mem_cons_of_mem _ (List.mem_append_right _ hq)) (by decide) (List.mem_of_getElem? (i := 4) rfl) rfl rfl rfl dX2_init_6 (rfl : 6 + 3 = 9) ?_
  refine y_aload_n h 0 dX2_init_9 rfl (rfl : 9 + 1 = 10) ?_
  refine y_bipush h 16 dX2_init_10 (by decide) (rfl : 10 + 2 = 12) ?_
  refine y_newa (atype := .int) (t := 0) (m := 16) h hBs (zZ_zu hZ (by decide)) (List.mem_of_getElem? (i := 5) rfl) (by decide) rfl rfl (by decide) (by decide) (by decide) rfl ⟨by decide, by decide⟩ dX2_init_12 (rfl : 12 + 2 = 14) ?_
  refine y_putR (ci := 2) (C := RX2) (T := TX2) (N := 5) h 1 tyX2 tyX2_ok nmX2 rfl rfl (fun _ hq => List.mem_cons_of_mem _ (List.mem_append_right _ hq)) (by decide) (List.mem_of_getElem? (i := 6) rfl) rfl rfl hr.2.2.2 rfl (Or.inr ⟨_, rfl⟩) dX2_init_14 (rfl : 14 + 3 = 17) ?_
  refine y_aload_n h 0 dX2_init_17 rfl (rfl : 17 + 1 = 18) ?_
  refine y_bipush h 16 dX2_init_18 (by decide) (rfl : 18 + 2 = 20) ?_
  refine y_newa (atype := .int) (t := 0) (m := 16) h hBs (zZ_zuJ (zZ_up (m := 52) (zZ_zu hZ (by decide)) (by decide)) (by decide)) (List.mem_of_getElem? (i := 5) rfl) (by decide) rfl rfl (by decide) (by decide) (by decide) rfl ⟨by decide, by decide⟩ dX2_init_20 (rfl : 20 + 2 = 22) ?_
  refine y_putR (ci := 2) (C := RX2) (T := TX2) (N := 5) h 2 tyX2 tyX2_ok nmX2 rfl rfl (fun _ hq => List.mem_cons_of_mem _ (List.mem_append_right _ hq)) (by decide) (List.mem_of_getElem? (i := 7) rfl) rfl rfl hr.2.2.2 rfl (Or.inr ⟨_, rfl⟩) dX2_init_22 (rfl : 22 + 3 = 25) ?_
  refine y_aload_n h 0 dX2_init_25 rfl (rfl : 25 + 1 = 26) ?_
  refine y_bipush h 16 dX2_init_26 (by decide) (rfl : 26 + 2 = 28) ?_
  refine y_newa (atype := .int) (t := 0) (m := 16) h hBs (zZ_zuJ (zZ_up (m := 53) (zZ_zuJ (zZ_up (m := 52) (zZ_zu hZ (by decide)) (by decide)) (by decide)) (by decide)) (by decide)) (List.mem_of_getElem? (i := 5) rfl) (by decide) rfl rfl (by decide) (by decide) (by decide) rfl ⟨by decide, by decide⟩ dX2_init_28 (rfl : 28 + 2 = 30) ?_
  refine y_putR (ci := 2) (C := RX2) (T := TX2) (N := 5) h 3 tyX2 tyX2_ok nmX2 rfl rfl (fun _ hq => List.mem_cons_of_mem _ (List.mem_append_right _ hq)) (by decide) (List.mem_of_getElem? (i := 8) rfl) rfl rfl hr.2.2.2 rfl (Or.inr ⟨_, rfl⟩) dX2_init_30 (rfl : 30 + 3 = 33) ?_
  refine y_aload_n h 0 dX2_init_33 rfl (rfl : 33 + 1 = 34) ?_
  refine y_bipush h 16 dX2_init_34 (by decide) (rfl : 34 + 2 = 36) ?_
  refine y_newa (atype := .int) (t := 0) (m := 16) h hBs (zZ_zuJ (zZ_up (m := 54) (zZ_zuJ (zZ_up (m := 53) (zZ_zuJ (zZ_up (m := 52) (zZ_zu hZ (by decide)) (by decide)) (by decide)) (by decide)) (by decide)) (by decide)) (by decide)) (List.mem_of_getElem? (i := 5) rfl) (by decide) rfl rfl (by decide) (by decide) (by decide) rfl ⟨by decide, by decide⟩ dX2_init_36 (rfl : 36 + 2 = 38) ?_
  refine y_putR (ci := 2) (C := RX2) (T := TX2) (N := 5) h 4 tyX2 tyX2_ok nmX2 rfl rfl (fun _ hq => List.mem_cons_of_mem _ (List.mem_append_right _ hq)) (by decide) (List.mem_of_getElem? (i := 9) rfl) rfl rfl hr.2.2.2 rfl (Or.inr ⟨_, rfl⟩) dX2_init_38 (rfl : 38 + 3 = 41) ?_
  exact y_ret h hr rfl rfl rfl rfl dX2_init_41
noncomputable abbrev rmX2_init_55 : Room := { frames := 1, cells := 4, slots := 64, locals := 24 }
def iIX2_init_55 (I : zM) : zM := zu I 55 0 0
def iJX2_init_55 (J : zJ) : zJ := zuJ (zuJ (zuJ (zuJ J 55 1 (some 56)) 55 2 (some 57)) 55 3 (some 58)) 55 4 (some 59)
theorem zZX2_init_55 {I : zM} {J : zJ} (hZ : zZ 56 I J) : zZ 60 (iIX2_init_55 I) (iJX2_init_55 J) := (zZ_zuJ (zZ_up (m := 60) (zZ_zuJ (zZ_up (m := 59) (zZ_zuJ (zZ_up (m := 58) (zZ_zuJ (zZ_up (m := 57) (zZ_zu hZ (by decide)) (by decide)) (by decide)) (by decide)) (by decide)) (by decide)) (by decide)) (by decide)) (by decide))
set_option maxHeartbeats 2000000 in
set_option maxRecDepth 100000 in
theorem c_X2_init_55 (B : zB) (hBs : zBs B) (I : zM) (J : zJ) (hZ : zZ 56 I J) : zCc B 56 I J yX2_init wsX2_init rmX2_init_55 [.ref (za B 55)] 60 (iIX2_init_55 I) (iJX2_init_55 J) := by
  refine y_start (own := RX2) (cc := cX2_init) (nL := 1) rfl (by decide) rfl rfl (Nat.le_of_ble_eq_true rfl) (L := [(0, .ref (za B 55))]) rfl (fun G h hr => ?_)
  refine y_aload_n h 0 dX2_init_0 rfl (rfl : 0 + 1 = 1) ?_
  refine y_objInit h (List.mem_of_getElem? (i := 1) rfl) (List.mem_of_getElem? (i := 2) rfl) (List.mem_of_getElem? (i := 3) rfl) (by decide) dX2_init_1 (rfl : 1 + 3 = 4) ?_
  refine y_aload_n h 0 dX2_init_4 rfl (rfl : 4 + 1 = 5) ?_
  refine y_iconst h 0 dX2_init_5 (by decide) (rfl : 5 + 1 = 6) ?_
  refine y_putI (ci := 2) (C := RX2) (T := TX2) (N := 5) h 0 tyX2 tyX2_ok nmX2 rfl rfl (fun _ hq => List.mem_cons_of_mem _ (List.mem_append_right _ hq)) (by decide) (List.mem_of_getElem? (i := 4) rfl) rfl rfl rfl dX2_init_6 (rfl : 6 + 3 = 9) ?_
  refine y_aload_n h 0 dX2_init_9 rfl (rfl : 9 + 1 = 10) ?_
  refine y_bipush h 16 dX2_init_10 (by decide) (rfl : 10 + 2 = 12) ?_
  refine y_newa (atype := .int) (t := 0) (m := 16) h hBs (zZ_zu hZ (by decide)) (List.mem_of_getElem? (i := 5) rfl) (by decide) rfl rfl (by decide) (by decide) (by decide) rfl ⟨by decide, by decide⟩ dX2_init_12 (rfl : 12 + 2 = 14) ?_
  refine y_putR (ci := 2) (C := RX2) (T := TX2) (N := 5) h 1 tyX2 tyX2_ok nmX2 rfl rfl (fun _ hq => List.mem_cons_of_mem _ (List.mem_append_right _ hq)) (by decide) (List.mem_of_getElem? (i := 6) rfl) rfl rfl hr.2.2.2 rfl (Or.inr ⟨_, rfl⟩) dX2_init_14 (rfl : 14 + 3 = 17) ?_
  refine y_aload_n h 0 dX2_init_17 rfl (rfl : 17 + 1 = 18) ?_
  refine y_bipush h 16 dX2_init_18 (by decide) (rfl : 18 + 2 = 20) ?_
  refine y_newa (atype := .int) (t := 0) (m := 16) h hBs (zZ_zuJ (zZ_up (m := 57) (zZ_zu hZ (by decide)) (by decide)) (by decide)) (List.mem_of_getElem? (i := 5) rfl) (by decide) rfl rfl (by decide) (by decide) (by decide) rfl ⟨by decide, by decide⟩ dX2_init_20 (rfl : 20 + 2 = 22) ?_
  refine y_putR (ci := 2) (C := RX2) (T := TX2) (N := 5) h 2 tyX2 tyX2_ok nmX2 rfl rfl (fun _ hq => List.mem_cons_of_mem _ (List.mem_append_right _ hq)) (by decide) (List.mem_of_getElem? (i := 7) rfl) rfl rfl hr.2.2.2 rfl (Or.inr ⟨_, rfl⟩) dX2_init_22 (rfl : 22 + 3 = 25) ?_
  refine y_aload_n h 0 dX2_init_25 rfl (rfl : 25 + 1 = 26) ?_
  refine y_bipush h 16 dX2_init_26 (by decide) (rfl : 26 + 2 = 28) ?_
  refine y_newa (atype := .int) (t := 0) (m := 16) h hBs (zZ_zuJ (zZ_up (m := 58) (zZ_zuJ (zZ_up (m := 57) (zZ_zu hZ (by decide)) (by decide)) (by decide)) (by decide)) (by decide)) (List.mem_of_getElem? (i := 5) rfl) (by decide) rfl rfl (by decide) (by decide) (by decide) rfl ⟨by decide, by decide⟩ dX2_init_28 (rfl : 28 + 2 = 30) ?_
  refine y_putR (ci := 2) (C := RX2) (T := TX2) (N := 5) h 3 tyX2 tyX2_ok nmX2 rfl rfl (fun _ hq => List.mem_cons_of_mem _ (List.mem_append_right _ hq)) (by decide) (List.mem_of_getElem? (i := 8) rfl) rfl rfl hr.2.2.2 rfl (Or.inr ⟨_, rfl⟩) dX2_init_30 (rfl : 30 + 3 = 33) ?_
  refine y_aload_n h 0 dX2_init_33 rfl (rfl : 33 + 1 = 34) ?_
  refine y_bipush h 16 dX2_init_34 (by decide) (rfl : 34 + 2 = 36) ?_
  refine y_newa (atype := .int) (t := 0) (m := 16) h hBs (zZ_zuJ (zZ_up (m := 59) (zZ_zuJ (zZ_up (m := 58) (zZ_zuJ (zZ_up (m := 57) (zZ_zu hZ (by decide)) (by decide)) (by decide)) (by decide)) (by decide)) (by decide)) (by decide)) (List.mem_of_getElem? (i := 5) rfl) (by decide) rfl rfl (by decide) (by decide) (by decide) rfl ⟨by decide, by decide⟩ dX2_init_36 (rfl : 36 + 2 = 38) ?_
  refine y_putR (ci := 2) (C := RX2) (T := TX2) (N := 5) h 4 tyX2 tyX2_ok nmX2 rfl rfl (fun _ hq => List.mem_cons_of_mem _ (List.mem_append_right _ hq)) (by decide) (List.mem_of_getElem? (i := 9) rfl) rfl rfl hr.2.2.2 rfl (Or.inr ⟨_, rfl⟩) dX2_init_38 (rfl : 38 + 3 = 41) ?_
  exact y_ret h hr rfl rfl rfl rfl dX2_init_41
noncomputable abbrev rmX2_init_60 : Room := { frames := 1, cells := 4, slots := 64, locals := 24 }
def iIX2_init_60 (I : zM) : zM := zu I 60 0 0
def iJX2_init_60 (J : zJ) : zJ := zuJ (zuJ (zuJ (zuJ J 60 1 (some 61)) 60 2 (some 62)) 60 3 (some 63)) 60 4 (some 64)
theorem zZX2_init_60 {I : zM} {J : zJ} (hZ : zZ 61 I J) : zZ 65 (iIX2_init_60 I) (iJX2_init_60 J) := (zZ_zuJ (zZ_up (m := 65) (zZ_zuJ (zZ_up (m := 64) (zZ_zuJ (zZ_up (m := 63) (zZ_zuJ (zZ_up (m := 62) (zZ_zu hZ (by decide)) (by decide)) (by decide)) (by decide)) (by decide)) (by decide)) (by decide)) (by decide)) (by decide))
set_option maxHeartbeats 2000000 in
set_option maxRecDepth 100000 in
theorem c_X2_init_60 (B : zB) (hBs : zBs B) (I : zM) (J : zJ) (hZ : zZ 61 I J) : zCc B 61 I J yX2_init wsX2_init rmX2_init_60 [.ref (za B 60)] 65 (iIX2_init_60 I) (iJX2_init_60 J) := by
  refine y_start (own := RX2) (cc := cX2_init) (nL := 1) rfl (by decide) rfl rfl (Nat.le_of_ble_eq_true rfl) (L := [(0, .ref (za B 60))]) rfl (fun G h hr => ?_)
  refine y_aload_n h 0 dX2_init_0 rfl (rfl : 0 + 1 = 1) ?_
  refine y_objInit h (List.mem_of_getElem? (i := 1) rfl) (List.mem_of_getElem? (i := 2) rfl) (List.mem_of_getElem? (i := 3) rfl) (by decide) dX2_init_1 (rfl : 1 + 3 = 4) ?_
  refine y_aload_n h 0 dX2_init_4 rfl (rfl : 4 + 1 = 5) ?_
  refine y_iconst h 0 dX2_init_5 (by decide) (rfl : 5 + 1 = 6) ?_
  refine y_putI (ci := 2) (C := RX2) (T := TX2) (N := 5) h 0 tyX2 tyX2_ok nmX2 rfl rfl (fun _ hq => List.mem_cons_of_mem _ (List.mem_append_right _ hq)) (by decide) (List.mem_of_getElem? (i := 4) rfl) rfl rfl rfl dX2_init_6 (rfl : 6 + 3 = 9) ?_
  refine y_aload_n h 0 dX2_init_9 rfl (rfl : 9 + 1 = 10) ?_
  refine y_bipush h 16 dX2_init_10 (by decide) (rfl : 10 + 2 = 12) ?_
  refine y_newa (atype := .int) (t := 0) (m := 16) h hBs (zZ_zu hZ (by decide)) (List.mem_of_getElem? (i := 5) rfl) (by decide) rfl rfl (by decide) (by decide) (by decide) rfl ⟨by decide, by decide⟩ dX2_init_12 (rfl : 12 + 2 = 14) ?_
  refine y_putR (ci := 2) (C := RX2) (T := TX2) (N := 5) h 1 tyX2 tyX2_ok nmX2 rfl rfl (fun _ hq => List.mem_cons_of_mem _ (List.mem_append_right _ hq)) (by decide) (List.mem_of_getElem? (i := 6) rfl) rfl rfl hr.2.2.2 rfl (Or.inr ⟨_, rfl⟩) dX2_init_14 (rfl : 14 + 3 = 17) ?_
  refine y_aload_n h 0 dX2_init_17 rfl (rfl : 17 + 1 = 18) ?_
  refine y_bipush h 16 dX2_init_18 (by decide) (rfl : 18 + 2 = 20) ?_
  refine y_newa (atype := .int) (t := 0) (m := 16) h hBs (zZ_zuJ (zZ_up (m := 62) (zZ_zu hZ (by decide)) (by decide)) (by decide)) (List.mem_of_getElem? (i := 5) rfl) (by decide) rfl rfl (by decide) (by decide) (by decide) rfl ⟨by decide, by decide⟩ dX2_init_20 (rfl : 20 + 2 = 22) ?_
  refine y_putR (ci := 2) (C := RX2) (T := TX2) (N := 5) h 2 tyX2 tyX2_ok nmX2 rfl rfl (fun _ hq => List.mem_cons_of_mem _ (List.mem_append_right _ hq)) (by decide) (List.mem_of_getElem? (i := 7) rfl) rfl rfl hr.2.2.2 rfl (Or.inr ⟨_, rfl⟩) dX2_init_22 (rfl : 22 + 3 = 25) ?_
  refine y_aload_n h 0 dX2_init_25 rfl (rfl : 25 + 1 = 26) ?_
  refine y_bipush h 16 dX2_init_26 (by decide) (rfl : 26 + 2 = 28) ?_
  refine y_newa (atype := .int) (t := 0) (m := 16) h hBs (zZ_zuJ (zZ_up (m := 63) (zZ_zuJ (zZ_up (m := 62) (zZ_zu hZ (by decide)) (by decide)) (by decide)) (by decide)) (by decide)) (List.mem_of_getElem? (i := 5) rfl) (by decide) rfl rfl (by decide) (by decide) (by decide) rfl ⟨by decide, by decide⟩ dX2_init_28 (rfl : 28 + 2 = 30) ?_
  refine y_putR (ci := 2) (C := RX2) (T := TX2) (N := 5) h 3 tyX2 tyX2_ok nmX2 rfl rfl (fun _ hq => List.mem_cons_of_mem _ (List.mem_append_right _ hq)) (by decide) (List.mem_of_getElem? (i := 8) rfl) rfl rfl hr.2.2.2 rfl (Or.inr ⟨_, rfl⟩) dX2_init_30 (rfl : 30 + 3 = 33) ?_
  refine y_aload_n h 0 dX2_init_33 rfl (rfl : 33 + 1 = 34) ?_
  refine y_bipush h 16 dX2_init_34 (by decide) (rfl : 34 + 2 = 36) ?_
  refine y_newa (atype := .int) (t := 0) (m := 16) h hBs (zZ_zuJ (zZ_up (m := 64) (zZ_zuJ (zZ_up (m := 63) (zZ_zuJ (zZ_up (m := 62) (zZ_zu hZ (by decide)) (by decide)) (by decide)) (by decide)) (by decide)) (by decide)) (by decide)) (List.mem_of_getElem? (i := 5) rfl) (by decide) rfl rfl (by decide) (by decide) (by decide) rfl ⟨by decide, by decide⟩ dX2_init_36 (rfl : 36 + 2 = 38) ?_
  refine y_putR (ci := 2) (C := RX2) (T := TX2) (N := 5) h 4 tyX2 tyX2_ok nmX2 rfl rfl (fun _ hq => List.mem_cons_of_mem _ (List.mem_append_right _ hq)) (by decide) (List.mem_of_getElem? (i := 9) rfl) rfl rfl hr.2.2.2 rfl (Or.inr ⟨_, rfl⟩) dX2_init_38 (rfl : 38 + 3 = 41) ?_
  exact y_ret h hr rfl rfl rfl rfl dX2_init_41
noncomputable abbrev rmX2_init_65 : Room := { frames := 1, cells := 4, slots := 64, locals := 24 }
def iIX2_init_65 (I : zM) : zM := zu I 65 0 0
def iJX2_init_65 (J : zJ) : zJ := zuJ (zuJ (zuJ (zuJ J 65 1 (some 66)) 65 2 (some 67)) 65 3 (some 68)) 65 4 (some 69)
theorem zZX2_init_65 {I : zM} {J : zJ} (hZ : zZ 66 I J) : zZ 70 (iIX2_init_65 I) (iJX2_init_65 J) := (zZ_zuJ (zZ_up (m := 70) (zZ_zuJ (zZ_up (m := 69) (zZ_zuJ (zZ_up (m := 68) (zZ_zuJ (zZ_up (m := 67) (zZ_zu hZ (by decide)) (by decide)) (by decide)) (by decide)) (by decide)) (by decide)) (by decide)) (by decide)) (by decide))
set_option maxHeartbeats 2000000 in
set_option maxRecDepth 100000 in
theorem c_X2_init_65 (B : zB) (hBs : zBs B) (I : zM) (J : zJ) (hZ : zZ 66 I J) : zCc B 66 I J yX2_init wsX2_init rmX2_init_65 [.ref (za B 65)] 70 (iIX2_init_65 I) (iJX2_init_65 J) := by
  refine y_start (own := RX2) (cc := cX2_init) (nL := 1) rfl (by decide) rfl rfl (Nat.le_of_ble_eq_true rfl) (L := [(0, .ref (za B 65))]) rfl (fun G h hr => ?_)
  refine y_aload_n h 0 dX2_init_0 rfl (rfl : 0 + 1 = 1) ?_
  refine y_objInit h (List.mem_of_getElem? (i := 1) rfl) (List.mem_of_getElem? (i := 2) rfl) (List.mem_of_getElem? (i := 3) rfl) (by decide) dX2_init_1 (rfl : 1 + 3 = 4) ?_
  refine y_aload_n h 0 dX2_init_4 rfl (rfl : 4 + 1 = 5) ?_
  refine y_iconst h 0 dX2_init_5 (by decide) (rfl : 5 + 1 = 6) ?_
  refine y_putI (ci := 2) (C := RX2) (T := TX2) (N := 5) h 0 tyX2 tyX2_ok nmX2 rfl rfl (fun _ hq => List.mem_cons_of_mem _ (List.mem_append_right _ hq)) (by decide) (List.mem_of_getElem? (i := 4) rfl) rfl rfl rfl dX2_init_6 (rfl : 6 + 3 = 9) ?_
  refine y_aload_n h 0 dX2_init_9 rfl (rfl : 9 + 1 = 10) ?_
  refine y_bipush h 16 dX2_init_10 (by decide) (rfl : 10 + 2 = 12) ?_
  refine y_newa (atype := .int) (t := 0) (m := 16) h hBs (zZ_zu hZ (by decide)) (List.mem_of_getElem? (i := 5) rfl) (by decide) rfl rfl (by decide) (by decide) (by decide) rfl ⟨by decide, by decide⟩ dX2_init_12 (rfl : 12 + 2 = 14) ?_
  refine y_putR (ci := 2) (C := RX2) (T := TX2) (N := 5) h 1 tyX2 tyX2_ok nmX2 rfl rfl (fun _ hq => List.mem_cons_of_mem _ (List.mem_append_right _ hq)) (by decide) (List.mem_of_getElem? (i := 6) rfl) rfl rfl hr.2.2.2 rfl (Or.inr ⟨_, rfl⟩) dX2_init_14 (rfl : 14 + 3 = 17) ?_
  refine y_aload_n h 0 dX2_init_17 rfl (rfl : 17 + 1 = 18) ?_
  refine y_bipush h 16 dX2_init_18 (by decide) (rfl : 18 + 2 = 20) ?_
  refine y_newa (atype := .int) (t := 0) (m := 16) h hBs (zZ_zuJ (zZ_up (m := 67) (zZ_zu hZ (by decide)) (by decide)) (by decide)) (List.mem_of_getElem? (i := 5) rfl) (by decide) rfl rfl (by decide) (by decide) (by decide) rfl ⟨by decide, by decide⟩ dX2_init_20 (rfl : 20 + 2 = 22) ?_
  refine y_putR (ci := 2) (C := RX2) (T := TX2) (N := 5) h 2 tyX2 tyX2_ok nmX2 rfl rfl (fun _ hq => List.mem_cons_of_mem _ (List.mem_append_right _ hq)) (by decide) (List.mem_of_getElem? (i := 7) rfl) rfl rfl hr.2.2.2 rfl (Or.inr ⟨_, rfl⟩) dX2_init_22 (rfl : 22 + 3 = 25) ?_
  refine y_aload_n h 0 dX2_init_25 rfl (rfl : 25 + 1 = 26) ?_
  refine y_bipush h 16 dX2_init_26 (by decide) (rfl : 26 + 2 = 28) ?_
  refine y_newa (atype := .int) (t := 0) (m := 16) h hBs (zZ_zuJ (zZ_up (m := 68) (zZ_zuJ (zZ_up (m := 67) (zZ_zu hZ (by decide)) (by decide)) (by decide)) (by decide)) (by decide)) (List.mem_of_getElem? (i := 5) rfl) (by decide) rfl rfl (by decide) (by decide) (by decide) rfl ⟨by decide, by decide⟩ dX2_init_28 (rfl : 28 + 2 = 30) ?_
  refine y_putR (ci := 2) (C := RX2) (T := TX2) (N := 5) h 3 tyX2 tyX2_ok nmX2 rfl rfl (fun _ hq => List.mem_cons_of_mem _ (List.mem_append_right _ hq)) (by decide) (List.mem_of_getElem? (i := 8) rfl) rfl rfl hr.2.2.2 rfl (Or.inr ⟨_, rfl⟩) dX2_init_30 (rfl : 30 + 3 = 33) ?_
  refine y_aload_n h 0 dX2_init_33 rfl (rfl : 33 + 1 = 34) ?_
  refine y_bipush h 16 dX2_init_34 (by decide) (rfl : 34 + 2 = 36) ?_
  refine y_newa (atype := .int) (t := 0) (m := 16) h hBs (zZ_zuJ (zZ_up (m := 69) (zZ_zuJ (zZ_up (m := 68) (zZ_zuJ (zZ_up (m := 67) (zZ_zu hZ (by decide)) (by decide)) (by decide)) (by decide)) (by decide)) (by decide)) (by decide)) (List.mem_of_getElem? (i := 5) rfl) (by decide) rfl rfl (by decide) (by decide) (by decide) rfl ⟨by decide, by decide⟩ dX2_init_36 (rfl : 36 + 2 = 38) ?_
  refine y_putR (ci := 2) (C := RX2) (T := TX2) (N := 5) h 4 tyX2 tyX2_ok nmX2 rfl rfl (fun _ hq => List.mem_cons_of_mem _ (List.mem_append_right _ hq)) (by decide) (List.mem_of_getElem? (i := 9) rfl) rfl rfl hr.2.2.2 rfl (Or.inr ⟨_, rfl⟩) dX2_init_38 (rfl : 38 + 3 = 41) ?_
  exact y_ret h hr rfl rfl rfl rfl dX2_init_41
noncomputable abbrev rmX2_init_70 : Room := { frames := 1, cells := 4, slots := 64, locals := 24 }
def iIX2_init_70 (I : zM) : zM := zu I 70 0 0
def iJX2_init_70 (J : zJ) : zJ := zuJ (zuJ (zuJ (zuJ J 70 1 (some 71)) 70 2 (some 72)) 70 3 (some 73)) 70 4 (some 74)
theorem zZX2_init_70 {I : zM} {J : zJ} (hZ : zZ 71 I J) : zZ 75 (iIX2_init_70 I) (iJX2_init_70 J) := (zZ_zuJ (zZ_up (m := 75) (zZ_zuJ (zZ_up (m := 74) (zZ_zuJ (zZ_up (m := 73) (zZ_zuJ (zZ_up (m := 72) (zZ_zu hZ (by decide)) (by decide)) (by decide)) (by decide)) (by decide)) (by decide)) (by decide)) (by decide)) (by decide))
set_option maxHeartbeats 2000000 in
set_option maxRecDepth 100000 in
theorem c_X2_init_70 (B : zB) (hBs : zBs B) (I : zM) (J : zJ) (hZ : zZ 71 I J) : zCc B 71 I J yX2_init wsX2_init rmX2_init_70 [.ref (za B 70)] 75 (iIX2_init_70 I) (iJX2_init_70 J) := by
  refine y_start (own := RX2) (cc := cX2_init) (nL := 1) rfl (by decide) rfl rfl (Nat.le_of_ble_eq_true rfl) (L := [(0, .ref (za B 70))]) rfl (fun G h hr => ?_)
  refine y_aload_n h 0 dX2_init_0 rfl (rfl : 0 + 1 = 1) ?_
  refine y_objInit h (List.mem_of_getElem? (i := 1) rfl) (List.mem_of_getElem? (i := 2) rfl) (List.mem_of_getElem? (i := 3) rfl) (by decide) dX2_init_1 (rfl : 1 + 3 = 4) ?_
  refine y_aload_n h 0 dX2_init_4 rfl (rfl : 4 + 1 = 5) ?_
  refine y_iconst h 0 dX2_init_5 (by decide) (rfl : 5 + 1 = 6) ?_
  refine y_putI (ci := 2) (C := RX2) (T := TX2) (N := 5) h 0 tyX2 tyX2_ok nmX2 rfl rfl (fun _ hq => List.mem_cons_of_mem _ (List.mem_append_right _ hq)) (by decide) (List.mem_of_getElem? (i := 4) rfl) rfl rfl rfl dX2_init_6 (rfl : 6 + 3 = 9) ?_
  refine y_aload_n h 0 dX2_init_9 rfl (rfl : 9 + 1 = 10) ?_
  refine y_bipush h 16 dX2_init_10 (by decide) (rfl : 10 + 2 = 12) ?_
  refine y_newa (atype := .int) (t := 0) (m := 16) h hBs (zZ_zu hZ (by decide)) (List.mem_of_getElem? (i := 5) rfl) (by decide) rfl rfl (by decide) (by decide) (by decide) rfl ⟨by decide, by decide⟩ dX2_init_12 (rfl : 12 + 2 = 14) ?_
  refine y_putR (ci := 2) (C := RX2) (T := TX2) (N := 5) h 1 tyX2 tyX2_ok nmX2 rfl rfl (fun _ hq => List.mem_cons_of_mem _ (List.mem_append_right _ hq)) (by decide) (List.mem_of_getElem? (i := 6) rfl) rfl rfl hr.2.2.2 rfl (Or.inr ⟨_, rfl⟩) dX2_init_14 (rfl : 14 + 3 = 17) ?_
  refine y_aload_n h 0 dX2_init_17 rfl (rfl : 17 + 1 = 18) ?_
  refine y_bipush h 16 dX2_init_18 (by decide) (rfl : 18 + 2 = 20) ?_
  refine y_newa (atype := .int) (t := 0) (m := 16) h hBs (zZ_zuJ (zZ_up (m := 72) (zZ_zu hZ (by decide)) (by decide)) (by decide)) (List.mem_of_getElem? (i := 5) rfl) (by decide) rfl rfl (by decide) (by decide) (by decide) rfl ⟨by decide, by decide⟩ dX2_init_20 (rfl : 20 + 2 = 22) ?_
  refine y_putR (ci := 2) (C := RX2) (T := TX2) (N := 5) h 2 tyX2 tyX2_ok nmX2 rfl rfl (fun _ hq => List.mem_cons_of_mem _ (List.mem_append_right _ hq)) (by decide) (List.mem_of_getElem? (i := 7) rfl) rfl rfl hr.2.2.2 rfl (Or.inr ⟨_, rfl⟩) dX2_init_22 (rfl : 22 + 3 = 25) ?_
  refine y_aload_n h 0 dX2_init_25 rfl (rfl : 25 + 1 = 26) ?_
  refine y_bipush h 16 dX2_init_26 (by decide) (rfl : 26 + 2 = 28) ?_
  refine y_newa (atype := .int) (t := 0) (m := 16) h hBs (zZ_zuJ (zZ_up (m := 73) (zZ_zuJ (zZ_up (m := 72) (zZ_zu hZ (by decide)) (by decide)) (by decide)) (by decide)) (by decide)) (List.mem_of_getElem? (i := 5) rfl) (by decide) rfl rfl (by decide) (by decide) (by decide) rfl ⟨by decide, by decide⟩ dX2_init_28 (rfl : 28 + 2 = 30) ?_
  refine y_putR (ci := 2) (C := RX2) (T := TX2) (N := 5) h 3 tyX2 tyX2_ok nmX2 rfl rfl (fun _ hq => List.mem_cons_of_mem _ (List.mem_append_right _ hq)) (by decide) (List.mem_of_getElem? (i := 8) rfl) rfl rfl hr.2.2.2 rfl (Or.inr ⟨_, rfl⟩) dX2_init_30 (rfl : 30 + 3 = 33) ?_
  refine y_aload_n h 0 dX2_init_33 rfl (rfl : 33 + 1 = 34) ?_
  refine y_bipush h 16 dX2_init_34 (by decide) (rfl : 34 + 2 = 36) ?_
  refine y_newa (atype := .int) (t := 0) (m := 16) h hBs (zZ_zuJ (zZ_up (m := 74) (zZ_zuJ (zZ_up (m := 73) (zZ_zuJ (zZ_up (m := 72) (zZ_zu hZ (by decide)) (by decide)) (by decide)) (by decide)) (by decide)) (by decide)) (by decide)) (List.mem_of_getElem? (i := 5) rfl) (by decide) rfl rfl (by decide) (by decide) (by decide) rfl ⟨by decide, by decide⟩ dX2_init_36 (rfl : 36 + 2 = 38) ?_
  refine y_putR (ci := 2) (C := RX2) (T := TX2) (N := 5) h 4 tyX2 tyX2_ok nmX2 rfl rfl (fun _ hq => List.mem_cons_of_mem _ (List.mem_append_right _ hq)) (by decide) (List.mem_of_getElem? (i := 9) rfl) rfl rfl hr.2.2.2 rfl (Or.inr ⟨_, rfl⟩) dX2_init_38 (rfl : 38 + 3 = 41) ?_
  exact y_ret h hr rfl rfl rfl rfl dX2_init_41
theorem zyX5_init : zY yX5_init wsX5_init cX5_init 5 none 3 := ⟨⟨_, rfl⟩, by decide +kernel⟩
noncomputable abbrev rmX5_init_39 : Room := { frames := 2, cells := 35, slots := 444, locals := 44 }
def iIX5_init_39 (I : zM) : zM := iIX2_init_70 (iIX2_init_65 (iIX2_init_60 (iIX2_init_55 (iIX2_init_50 (iIX2_init_45 (zu (zu (zu (zu (zu (zu (zu (zu (zu I 39 3 (-9)) 39 4 0) 39 5 0) 39 6 0) 39 12 0) 39 13 0) 39 14 0) 39 15 0) 39 16 0))))))
def iJX5_init_39 (J : zJ) : zJ := zuJ (iJX2_init_70 (zuJ (iJX2_init_65 (zuJ (iJX2_init_60 (zuJ (iJX2_init_55 (zuJ (iJX2_init_50 (zuJ (iJX2_init_45 (zuJ (zuJ (zuJ (zuJ (zuJ (zuJ (zuJ (zuJ J 39 7 (some 40)) 39 8 (some 41)) 39 9 (some 42)) 39 10 (some 43)) 39 11 (some 44)) 39 0 (some 1)) 39 1 (some 5)) 39 2 (some 18))) 43 0 (some 45))) 43 1 (some 50))) 43 2 (some 55))) 43 3 (some 60))) 43 4 (some 65))) 43 5 (some 70)
theorem zZX5_init_39 {I : zM} {J : zJ} (hZ : zZ 40 I J) : zZ 75 (iIX5_init_39 I) (iJX5_init_39 J) := (zZ_zuJ (zZX2_init_70 (zZ_up (m := 71) (zZ_zuJ (zZX2_init_65 (zZ_up (m := 66) (zZ_zuJ (zZX2_init_60 (zZ_up (m := 61) (zZ_zuJ (zZX2_init_55 (zZ_up (m := 56) (zZ_zuJ (zZX2_init_50 (zZ_up (m := 51) (zZ_zuJ (zZX2_init_45 (zZ_up (m := 46) (zZ_zuJ (zZ_zuJ (zZ_zuJ (zZ_zu (zZ_zu (zZ_zu (zZ_zu (zZ_zu (zZ_zuJ (zZ_up (m := 45) (zZ_zuJ (zZ_up (m := 44) (zZ_zuJ (zZ_up (m := 43) (zZ_zuJ (zZ_up (m := 42) (zZ_zuJ (zZ_up (m := 41) (zZ_zu (zZ_zu (zZ_zu (zZ_zu hZ (by decide)) (by decide)) (by decide)) (by decide)) (by decide)) (by decide)) (by decide)) (by decide)) (by decide)) (by decide)) (by decide)) (by decide)) (by decide)) (by decide)) (by decide)) (by decide)) (by decide)) (by decide)) (by decide)) (by decide)) (by decide)) (by decide)) (by decide))) (by decide)) (by decide))) (by decide)) (by decide))) (by decide)) (by decide))) (by decide)) (by decide))) (by decide)) (by decide))) (by decide))
set_option maxHeartbeats 2000000 in
set_option maxRecDepth 100000 in
theorem c_X5_init_39 (B : zB) (hBs : zBs B) (I : zM) (J : zJ) (hZ : zZ 40 I J) : zCc B 40 I J yX5_init wsX5_init rmX5_init_39 [.ref (za B 39), .ref (za B 1), .ref (za B 5), .ref (za B 18)] 75 (iIX5_init_39 I) (iJX5_init_39 J) := by
  refine y_start (own := RX5) (cc := cX5_init) (nL := 5) rfl (by decide) rfl rfl (Nat.le_of_ble_eq_true rfl) (L := [(0, .ref (za B 39)), (1, .ref (za B 1)), (2, .ref (za B 5)), (3, .ref (za B 18))]) rfl (fun G h hr => ?_)
  refine y_aload_n h 0 dX5_init_0 rfl (rfl : 0 + 1 = 1) ?_
  refine y_objInit h (List.mem_of_getElem? (i := 1) rfl) (List.mem_of_getElem? (i := 2) rfl) (List.mem_of_getElem? (i := 3) rfl) (by decide) dX5_init_1 (rfl : 1 + 3 = 4) ?_
  refine y_aload_n h 0 dX5_init_4 rfl (rfl : 4 + 1 = 5) ?_
  refine y_bipush h (-9) dX5_init_5 (by decide) (rfl : 5 + 2 = 7) ?_
  refine y_putI (ci := 5) (C := RX5) (T := TX5) (N := 17) h 3 tyX5 tyX5_ok nmX5 rfl rfl (fun _ hq => List.mem_cons_of_mem _ (List.mem_append_left _ (List.mem_append_right _ hq))) (by decide) (List.mem_of_getElem? (i := 4) rfl) rfl rfl rfl dX5_init_7 (rfl : 7 + 3 = 10) ?_
  refine y_aload_n h 0 dX5_init_10 rfl (rfl : 10 + 1 = 11) ?_
  refine y_iconst h 0 dX5_init_11 (by decide) (rfl : 11 + 1 = 12) ?_
  refine y_putI (ci := 5) (C := RX5) (T := TX5) (N := 17) h 4 tyX5 tyX5_ok nmX5 rfl rfl (fun _ hq => List.mem_cons_of_mem _ (List.mem_append_left _ (List.mem_append_right _ hq))) (by decide) (List.mem_of_getElem? (i := 5) rfl) rfl rfl rfl dX5_init_12 (rfl : 12 + 3 = 15) ?_
  refine y_aload_n h 0 dX5_init_15 rfl (rfl : 15 + 1 = 16) ?_
  refine y_iconst h 0 dX5_init_16 (by decide) (rfl : 16 + 1 = 17) ?_
  refine y_putI (ci := 5) (C := RX5) (T := TX5) (N := 17) h 5 tyX5 tyX5_ok nmX5 rfl rfl (fun _ hq => List.mem_cons_of_mem _ (List.mem_append_left _ (List.mem_append_right _ hq))) (by decide) (List.mem_of_getElem? (i := 6) rfl) rfl rfl rfl dX5_init_17 (rfl : 17 + 3 = 20) ?_
  refine y_aload_n h 0 dX5_init_20 rfl (rfl : 20 + 1 = 21) ?_
  refine y_iconst h 0 dX5_init_21 (by decide) (rfl : 21 + 1 = 22) ?_
  refine y_putI (ci := 5) (C := RX5) (T := TX5) (N := 17) h 6 tyX5 tyX5_ok nmX5 rfl rfl (fun _ hq => List.mem_cons_of_mem _ (List.mem_append_left _ (List.mem_append_right _ hq))) (by decide) (List.mem_of_getElem? (i := 7) rfl) rfl rfl rfl dX5_init_22 (rfl : 22 + 3 = 25) ?_
  refine y_aload_n h 0 dX5_init_25 rfl (rfl : 25 + 1 = 26) ?_
  refine y_bipush h 6 dX5_init_26 (by decide) (rfl : 26 + 2 = 28) ?_
  refine y_newa (atype := .int) (t := 0) (m := 6) h hBs (zZ_zu (zZ_zu (zZ_zu (zZ_zu hZ (by decide)) (by decide)) (by decide)) (by decide)) (List.mem_of_getElem? (i := 8) rfl) (by decide) rfl rfl (by decide) (by decide) (by decide) rfl ⟨by decide, by decide⟩ dX5_init_28 (rfl : 28 + 2 = 30) ?_
  refine y_putR (ci := 5) (C := RX5) (T := TX5) (N := 17) h 7 tyX5 tyX5_ok nmX5 rfl rfl (fun _ hq => List.mem_cons_of_mem _ (List.mem_append_left _ (List.mem_append_right _ hq))) (by decide) (List.mem_of_getElem? (i := 9) rfl) rfl rfl hr.2.2.2 rfl (Or.inr ⟨_, rfl⟩) dX5_init_30 (rfl : 30 + 3 = 33) ?_
  refine y_aload_n h 0 dX5_init_33 rfl (rfl : 33 + 1 = 34) ?_
  refine y_bipush h 6 dX5_init_34 (by decide) (rfl : 34 + 2 = 36) ?_
  refine y_newa (atype := .int) (t := 0) (m := 6) h hBs (zZ_zuJ (zZ_up (m := 41) (zZ_zu (zZ_zu (zZ_zu (zZ_zu hZ (by decide)) (by decide)) (by decide)) (by decide)) (by decide)) (by decide)) (List.mem_of_getElem? (i := 8) rfl) (by decide) rfl rfl (by decide) (by decide) (by decide) rfl ⟨by decide, by decide⟩ dX5_init_36 (rfl : 36 + 2 = 38) ?_
  refine y_putR (ci := 5) (C := RX5) (T := TX5) (N := 17) h 8 tyX5 tyX5_ok nmX5 rfl rfl (fun _ hq => List.mem_cons_of_mem _ (List.mem_append_left _ (List.mem_append_right _ hq))) (by decide) (List.mem_of_getElem? (i := 10) rfl) rfl rfl hr.2.2.2 rfl (Or.inr ⟨_, rfl⟩) dX5_init_38 (rfl : 38 + 3 = 41) ?_
  refine y_aload_n h 0 dX5_init_41 rfl (rfl : 41 + 1 = 42) ?_
  refine y_bipush h 6 dX5_init_42 (by decide) (rfl : 42 + 2 = 44) ?_
  refine y_newa (atype := .int) (t := 0) (m := 6) h hBs (zZ_zuJ (zZ_up (m := 42) (zZ_zuJ (zZ_up (m := 41) (zZ_zu (zZ_zu (zZ_zu (zZ_zu hZ (by decide)) (by decide)) (by decide)) (by decide)) (by decide)) (by decide)) (by decide)) (by decide)) (List.mem_of_getElem? (i := 8) rfl) (by decide) rfl rfl (by decide) (by decide) (by decide) rfl ⟨by decide, by decide⟩ dX5_init_44 (rfl : 44 + 2 = 46) ?_
  refine y_putR (ci := 5) (C := RX5) (T := TX5) (N := 17) h 9 tyX5 tyX5_ok nmX5 rfl rfl (fun _ hq => List.mem_cons_of_mem _ (List.mem_append_left _ (List.mem_append_right _ hq))) (by decide) (List.mem_of_getElem? (i := 11) rfl) rfl rfl hr.2.2.2 rfl (Or.inr ⟨_, rfl⟩) dX5_init_46 (rfl : 46 + 3 = 49) ?_
  refine y_aload_n h 0 dX5_init_49 rfl (rfl : 49 + 1 = 50) ?_
  refine y_bipush h 6 dX5_init_50 (by decide) (rfl : 50 + 2 = 52) ?_
  refine y_anew (t := 5) (m := 6) (C := RX2) h hBs (zZ_zuJ (zZ_up (m := 43) (zZ_zuJ (zZ_up (m := 42) (zZ_zuJ (zZ_up (m := 41) (zZ_zu (zZ_zu (zZ_zu (zZ_zu hZ (by decide)) (by decide)) (by decide)) (by decide)) (by decide)) (by decide)) (by decide)) (by decide)) (by decide)) (by decide)) (List.mem_of_getElem? (i := 12) rfl) (List.mem_of_getElem? (i := 30) rfl) (by decide) rfl (by decide) (by decide) (by decide) rfl ⟨by decide, by decide⟩ dX5_init_52 (rfl : 52 + 3 = 55) ?_
  refine y_putR (ci := 5) (C := RX5) (T := TX5) (N := 17) h 10 tyX5 tyX5_ok nmX5 rfl rfl (fun _ hq => List.mem_cons_of_mem _ (List.mem_append_left _ (List.mem_append_right _ hq))) (by decide) (List.mem_of_getElem? (i := 13) rfl) rfl rfl hr.2.2.2 rfl (Or.inr ⟨_, rfl⟩) dX5_init_55 (rfl : 55 + 3 = 58) ?_
  refine y_aload_n h 0 dX5_init_58 rfl (rfl : 58 + 1 = 59) ?_
  refine y_bipush h 6 dX5_init_59 (by decide) (rfl : 59 + 2 = 61) ?_
  refine y_newa (atype := .int) (t := 0) (m := 6) h hBs (zZ_zuJ (zZ_up (m := 44) (zZ_zuJ (zZ_up (m := 43) (zZ_zuJ (zZ_up (m := 42) (zZ_zuJ (zZ_up (m := 41) (zZ_zu (zZ_zu (zZ_zu (zZ_zu hZ (by decide)) (by decide)) (by decide)) (by decide)) (by decide)) (by decide)) (by decide)) (by decide)) (by decide)) (by decide)) (by decide)) (by decide)) (List.mem_of_getElem? (i := 8) rfl) (by decide) rfl rfl (by decide) (by decide) (by decide) rfl ⟨by decide, by decide⟩ dX5_init_61 (rfl : 61 + 2 = 63) ?_
  refine y_putR (ci := 5) (C := RX5) (T := TX5) (N := 17) h 11 tyX5 tyX5_ok nmX5 rfl rfl (fun _ hq => List.mem_cons_of_mem _ (List.mem_append_left _ (List.mem_append_right _ hq))) (by decide) (List.mem_of_getElem? (i := 14) rfl) rfl rfl hr.2.2.2 rfl (Or.inr ⟨_, rfl⟩) dX5_init_63 (rfl : 63 + 3 = 66) ?_
  refine y_aload_n h 0 dX5_init_66 rfl (rfl : 66 + 1 = 67) ?_
  refine y_iconst h 0 dX5_init_67 (by decide) (rfl : 67 + 1 = 68) ?_
  refine y_putI (ci := 5) (C := RX5) (T := TX5) (N := 17) h 12 tyX5 tyX5_ok nmX5 rfl rfl (fun _ hq => List.mem_cons_of_mem _ (List.mem_append_left _ (List.mem_append_right _ hq))) (by decide) (List.mem_of_getElem? (i := 15) rfl) rfl rfl rfl dX5_init_68 (rfl : 68 + 3 = 71) ?_
  refine y_aload_n h 0 dX5_init_71 rfl (rfl : 71 + 1 = 72) ?_
  refine y_iconst h 0 dX5_init_72 (by decide) (rfl : 72 + 1 = 73) ?_
  refine y_putI (ci := 5) (C := RX5) (T := TX5) (N := 17) h 13 tyX5 tyX5_ok nmX5 rfl rfl (fun _ hq => List.mem_cons_of_mem _ (List.mem_append_left _ (List.mem_append_right _ hq))) (by decide) (List.mem_of_getElem? (i := 16) rfl) rfl rfl rfl dX5_init_73 (rfl : 73 + 3 = 76) ?_
  refine y_aload_n h 0 dX5_init_76 rfl (rfl : 76 + 1 = 77) ?_
  refine y_iconst h 0 dX5_init_77 (by decide) (rfl : 77 + 1 = 78) ?_
  refine y_putI (ci := 5) (C := RX5) (T := TX5) (N := 17) h 14 tyX5 tyX5_ok nmX5 rfl rfl (fun _ hq => List.mem_cons_of_mem _ (List.mem_append_left _ (List.mem_append_right _ hq))) (by decide) (List.mem_of_getElem? (i := 17) rfl) rfl rfl rfl dX5_init_78 (rfl : 78 + 3 = 81) ?_
  refine y_aload_n h 0 dX5_init_81 rfl (rfl : 81 + 1 = 82) ?_
  refine y_iconst h 0 dX5_init_82 (by decide) (rfl : 82 + 1 = 83) ?_
  refine y_putI (ci := 5) (C := RX5) (T := TX5) (N := 17) h 15 tyX5 tyX5_ok nmX5 rfl rfl (fun _ hq => List.mem_cons_of_mem _ (List.mem_append_left _ (List.mem_append_right _ hq))) (by decide) (List.mem_of_getElem? (i := 18) rfl) rfl rfl rfl dX5_init_83 (rfl : 83 + 3 = 86) ?_
  refine y_aload_n h 0 dX5_init_86 rfl (rfl : 86 + 1 = 87) ?_
  refine y_iconst h 0 dX5_init_87 (by decide) (rfl : 87 + 1 = 88) ?_
  refine y_putI (ci := 5) (C := RX5) (T := TX5) (N := 17) h 16 tyX5 tyX5_ok nmX5 rfl rfl (fun _ hq => List.mem_cons_of_mem _ (List.mem_append_left _ (List.mem_append_right _ hq))) (by decide) (List.mem_of_getElem? (i := 19) rfl) rfl rfl rfl dX5_init_88 (rfl : 88 + 3 = 91) ?_
  refine y_aload_n h 0 dX5_init_91 rfl (rfl : 91 + 1 = 92) ?_
  refine y_aload_n h 1 dX5_init_92 rfl (rfl : 92 + 1 = 93) ?_
  refine y_putR (ci := 5) (C := RX5) (T := TX5) (N := 17) h 0 tyX5 tyX5_ok nmX5 rfl rfl (fun _ hq => List.mem_cons_of_mem _ (List.mem_append_left _ (List.mem_append_right _ hq))) (by decide) (List.mem_of_getElem? (i := 20) rfl) rfl rfl hr.2.2.2 rfl (Or.inl ⟨_, rfl⟩) dX5_init_93 (rfl : 93 + 3 = 96) ?_
  refine y_aload_n h 0 dX5_init_96 rfl (rfl : 96 + 1 = 97) ?_
  refine y_aload_n h 2 dX5_init_97 rfl (rfl : 97 + 1 = 98) ?_
  refine y_putR (ci := 5) (C := RX5) (T := TX5) (N := 17) h 1 tyX5 tyX5_ok nmX5 rfl rfl (fun _ hq => List.mem_cons_of_mem _ (List.mem_append_left _ (List.mem_append_right _ hq))) (by decide) (List.mem_of_getElem? (i := 21) rfl) rfl rfl hr.2.2.2 rfl (Or.inr ⟨_, rfl⟩) dX5_init_98 (rfl : 98 + 3 = 101) ?_
  refine y_aload_n h 0 dX5_init_101 rfl (rfl : 101 + 1 = 102) ?_
  refine y_aload_n h 3 dX5_init_102 rfl (rfl : 102 + 1 = 103) ?_
  refine y_putR (ci := 5) (C := RX5) (T := TX5) (N := 17) h 2 tyX5 tyX5_ok nmX5 rfl rfl (fun _ hq => List.mem_cons_of_mem _ (List.mem_append_left _ (List.mem_append_right _ hq))) (by decide) (List.mem_of_getElem? (i := 22) rfl) rfl rfl hr.2.2.2 rfl (Or.inl ⟨_, rfl⟩) dX5_init_103 (rfl : 103 + 3 = 106) ?_
  refine y_iconst h 0 dX5_init_106 (by decide) (rfl : 106 + 1 = 107) ?_
  refine y_istore h [(4, .int 0), (0, .ref (za B 39)), (1, .ref (za B 1)), (2, .ref (za B 5)), (3, .ref (za B 18))] dX5_init_107 (by decide) rfl (rfl : 107 + 2 = 109) ?_
  refine y_iload h 0 dX5_init_109 rfl (rfl : 109 + 2 = 111) ?_
  refine y_bipush h 6 dX5_init_111 (by decide) (rfl : 111 + 2 = 113) ?_
  refine y_icmp_ge (pc' := 116) h 136 dX5_init_113 (by decide) rfl (fun q => absurd q (by decide)) (fun _ => ?_)
  refine y_aload_n h 1 dX5_init_116 rfl (rfl : 116 + 1 = 117) ?_
  refine y_get (ci := 5) (C := RX5) (T := TX5) (N := 17) h 10 (.ref (za B 43)) rfl rfl (fun _ hq => List.mem_cons_of_mem _ (List.mem_append_left _ (List.mem_append_right _ hq))) (by decide) (List.mem_of_getElem? (i := 13) rfl) (zfs_ref rfl (by rfl)) dX5_init_117 (rfl : 117 + 3 = 120) ?_
  refine y_iload h 0 dX5_init_120 rfl (rfl : 120 + 2 = 122) ?_
  refine y_new (ci := 2) (C := RX2) (T := TX2) (N := 5) h hBs (zZ_zuJ (zZ_zuJ (zZ_zuJ (zZ_zu (zZ_zu (zZ_zu (zZ_zu (zZ_zu (zZ_zuJ (zZ_up (m := 45) (zZ_zuJ (zZ_up (m := 44) (zZ_zuJ (zZ_up (m := 43) (zZ_zuJ (zZ_up (m := 42) (zZ_zuJ (zZ_up (m := 41) (zZ_zu (zZ_zu (zZ_zu (zZ_zu hZ (by decide)) (by decide)) (by decide)) (by decide)) (by decide)) (by decide)) (by decide)) (by decide)) (by decide)) (by decide)) (by decide)) (by decide)) (by decide)) (by decide)) (by decide)) (by decide)) (by decide)) (by decide)) (by decide)) (by decide)) (by decide)) (by decide)) (fun _ hq => List.mem_cons_of_mem _ (List.mem_append_right _ hq)) tyX2 tyX2_ok zdefX2 (List.mem_of_getElem? (i := 12) rfl) (List.mem_of_getElem? (i := 23) rfl) (List.mem_of_getElem? (i := 24) rfl) rfl rfl ⟨by decide, by decide⟩ dX5_init_122 (rfl : 122 + 3 = 125) ?_
  refine y_dup h rfl dX5_init_125 (rfl : 125 + 1 = 126) ?_
  refine y_callIN (n' := 50) (I' := iIX2_init_45 (zu (zu (zu (zu (zu (zu (zu (zu (zu I 39 3 (-9)) 39 4 0) 39 5 0) 39 6 0) 39 12 0) 39 13 0) 39 14 0) 39 15 0) 39 16 0)) (J' := iJX2_init_45 (zuJ (zuJ (zuJ (zuJ (zuJ (zuJ (zuJ (zuJ J 39 7 (some 40)) 39 8 (some 41)) 39 9 (some 42)) 39 10 (some 43)) 39 11 (some 44)) 39 0 (some 1)) 39 1 (some 5)) 39 2 (some 18))) h [] [.ref (za B 45), .int 0, .ref (za B 43)] zyX2_init (c_X2_init_45 B hBs (zu (zu (zu (zu (zu (zu (zu (zu (zu I 39 3 (-9)) 39 4 0) 39 5 0) 39 6 0) 39 12 0) 39 13 0) 39 14 0) 39 15 0) 39 16 0) (zuJ (zuJ (zuJ (zuJ (zuJ (zuJ (zuJ (zuJ J 39 7 (some 40)) 39 8 (some 41)) 39 9 (some 42)) 39 10 (some 43)) 39 11 (some 44)) 39 0 (some 1)) 39 1 (some 5)) 39 2 (some 18)) (zZ_up (m := 46) (zZ_zuJ (zZ_zuJ (zZ_zuJ (zZ_zu (zZ_zu (zZ_zu (zZ_zu (zZ_zu (zZ_zuJ (zZ_up (m := 45) (zZ_zuJ (zZ_up (m := 44) (zZ_zuJ (zZ_up (m := 43) (zZ_zuJ (zZ_up (m := 42) (zZ_zuJ (zZ_up (m := 41) (zZ_zu (zZ_zu (zZ_zu (zZ_zu hZ (by decide)) (by decide)) (by decide)) (by decide)) (by decide)) (by decide)) (by decide)) (by decide)) (by decide)) (by decide)) (by decide)) (by decide)) (by decide)) (by decide)) (by decide)) (by decide)) (by decide)) (by decide)) (by decide)) (by decide)) (by decide)) (by decide)) (by decide))) gX5_init_X2_init_n69 (List.mem_of_getElem? (i := 24) rfl) (List.mem_of_getElem? (i := 7) rfl) (List.mem_of_getElem? (i := 25) rfl) rfl ⟨by decide, by decide⟩ rfl (Nat.le_of_ble_eq_true rfl) ⟨by decide, by decide⟩ rfl dX5_init_126 (rfl : 126 + 3 = 129) ?_
  refine y_astq (ci := 2) h (by decide) rfl rfl (by decide) rfl rfl dX5_init_129 (rfl : 129 + 1 = 130) ?_
  refine y_iinc h 0 1 [(4, .int 1), (0, .ref (za B 39)), (1, .ref (za B 1)), (2, .ref (za B 5)), (3, .ref (za B 18))] dX5_init_130 rfl (by decide) (by decide) rfl (rfl : 130 + 3 = 133) ?_
  refine y_goto (pc' := 109) h dX5_init_133 (by decide) ?_
  refine y_iload h 0 dX5_init_109 rfl (rfl : 109 + 2 = 111) ?_
  refine y_bipush h 6 dX5_init_111 (by decide) (rfl : 111 + 2 = 113) ?_
  refine y_icmp_ge (pc' := 116) h 136 dX5_init_113 (by decide) rfl (fun q => absurd q (by decide)) (fun _ => ?_)
  refine y_aload_n h 1 dX5_init_116 rfl (rfl : 116 + 1 = 117) ?_
  refine y_get (ci := 5) (C := RX5) (T := TX5) (N := 17) h 10 (.ref (za B 43)) rfl rfl (fun _ hq => List.mem_cons_of_mem _ (List.mem_append_left _ (List.mem_append_right _ hq))) (by decide) (List.mem_of_getElem? (i := 13) rfl) (zfs_ref rfl (by rfl)) dX5_init_117 (rfl : 117 + 3 = 120) ?_
  refine y_iload h 0 dX5_init_120 rfl (rfl : 120 + 2 = 122) ?_
  refine y_new (ci := 2) (C := RX2) (T := TX2) (N := 5) h hBs (zZ_zuJ (zZX2_init_45 (zZ_up (m := 46) (zZ_zuJ (zZ_zuJ (zZ_zuJ (zZ_zu (zZ_zu (zZ_zu (zZ_zu (zZ_zu (zZ_zuJ (zZ_up (m := 45) (zZ_zuJ (zZ_up (m := 44) (zZ_zuJ (zZ_up (m := 43) (zZ_zuJ (zZ_up (m := 42) (zZ_zuJ (zZ_up (m := 41) (zZ_zu (zZ_zu (zZ_zu (zZ_zu hZ (by decide)) (by decide)) (by decide)) (by decide)) (by decide)) (by decide)) (by decide)) (by decide)) (by decide)) (by decide)) (by decide)) (by decide)) (by decide)) (by decide)) (by decide)) (by decide)) (by decide)) (by decide)) (by decide)) (by decide)) (by decide)) (by decide)) (by decide))) (by decide)) (fun _ hq => List.mem_cons_of_mem _ (List.mem_append_right _ hq)) tyX2 tyX2_ok zdefX2 (List.mem_of_getElem? (i := 12) rfl) (List.mem_of_getElem? (i := 23) rfl) (List.mem_of_getElem? (i := 24) rfl) rfl rfl ⟨by decide, by decide⟩ dX5_init_122 (rfl : 122 + 3 = 125) ?_
  refine y_dup h rfl dX5_init_125 (rfl : 125 + 1 = 126) ?_
  refine y_callIN (n' := 55) (I' := iIX2_init_50 (iIX2_init_45 (zu (zu (zu (zu (zu (zu (zu (zu (zu I 39 3 (-9)) 39 4 0) 39 5 0) 39 6 0) 39 12 0) 39 13 0) 39 14 0) 39 15 0) 39 16 0))) (J' := iJX2_init_50 (zuJ (iJX2_init_45 (zuJ (zuJ (zuJ (zuJ (zuJ (zuJ (zuJ (zuJ J 39 7 (some 40)) 39 8 (some 41)) 39 9 (some 42)) 39 10 (some 43)) 39 11 (some 44)) 39 0 (some 1)) 39 1 (some 5)) 39 2 (some 18))) 43 0 (some 45))) h [] [.ref (za B 50), .int 1, .ref (za B 43)] zyX2_init (c_X2_init_50 B hBs (iIX2_init_45 (zu (zu (zu (zu (zu (zu (zu (zu (zu I 39 3 (-9)) 39 4 0) 39 5 0) 39 6 0) 39 12 0) 39 13 0) 39 14 0) 39 15 0) 39 16 0)) (zuJ (iJX2_init_45 (zuJ (zuJ (zuJ (zuJ (zuJ (zuJ (zuJ (zuJ J 39 7 (some 40)) 39 8 (some 41)) 39 9 (some 42)) 39 10 (some 43)) 39 11 (some 44)) 39 0 (some 1)) 39 1 (some 5)) 39 2 (some 18))) 43 0 (some 45)) (zZ_up (m := 51) (zZ_zuJ (zZX2_init_45 (zZ_up (m := 46) (zZ_zuJ (zZ_zuJ (zZ_zuJ (zZ_zu (zZ_zu (zZ_zu (zZ_zu (zZ_zu (zZ_zuJ (zZ_up (m := 45) (zZ_zuJ (zZ_up (m := 44) (zZ_zuJ (zZ_up (m := 43) (zZ_zuJ (zZ_up (m := 42) (zZ_zuJ (zZ_up (m := 41) (zZ_zu (zZ_zu (zZ_zu (zZ_zu hZ (by decide)) (by decide)) (by decide)) (by decide)) (by decide)) (by decide)) (by decide)) (by decide)) (by decide)) (by decide)) (by decide)) (by decide)) (by decide)) (by decide)) (by decide)) (by decide)) (by decide)) (by decide)) (by decide)) (by decide)) (by decide)) (by decide)) (by decide))) (by decide)) (by decide))) gX5_init_X2_init_n69 (List.mem_of_getElem? (i := 24) rfl) (List.mem_of_getElem? (i := 7) rfl) (List.mem_of_getElem? (i := 25) rfl) rfl ⟨by decide, by decide⟩ rfl (Nat.le_of_ble_eq_true rfl) ⟨by decide, by decide⟩ rfl dX5_init_126 (rfl : 126 + 3 = 129) ?_
  refine y_astq (ci := 2) h (by decide) rfl rfl (by decide) rfl rfl dX5_init_129 (rfl : 129 + 1 = 130) ?_
  refine y_iinc h 0 2 [(4, .int 2), (0, .ref (za B 39)), (1, .ref (za B 1)), (2, .ref (za B 5)), (3, .ref (za B 18))] dX5_init_130 rfl (by decide) (by decide) rfl (rfl : 130 + 3 = 133) ?_
  refine y_goto (pc' := 109) h dX5_init_133 (by decide) ?_
  refine y_iload h 0 dX5_init_109 rfl (rfl : 109 + 2 = 111) ?_
  refine y_bipush h 6 dX5_init_111 (by decide) (rfl : 111 + 2 = 113) ?_
  refine y_icmp_ge (pc' := 116) h 136 dX5_init_113 (by decide) rfl (fun q => absurd q (by decide)) (fun _ => ?_)
  refine y_aload_n h 1 dX5_init_116 rfl (rfl : 116 + 1 = 117) ?_
  refine y_get (ci := 5) (C := RX5) (T := TX5) (N := 17) h 10 (.ref (za B 43)) rfl rfl (fun _ hq => List.mem_cons_of_mem _ (List.mem_append_left _ (List.mem_append_right _ hq))) (by decide) (List.mem_of_getElem? (i := 13) rfl) (zfs_ref rfl (by rfl)) dX5_init_117 (rfl : 117 + 3 = 120) ?_
  refine y_iload h 0 dX5_init_120 rfl (rfl : 120 + 2 = 122) ?_
  refine y_new (ci := 2) (C := RX2) (T := TX2) (N := 5) h hBs (zZ_zuJ (zZX2_init_50 (zZ_up (m := 51) (zZ_zuJ (zZX2_init_45 (zZ_up (m := 46) (zZ_zuJ (zZ_zuJ (zZ_zuJ (zZ_zu (zZ_zu (zZ_zu (zZ_zu (zZ_zu (zZ_zuJ (zZ_up (m := 45) (zZ_zuJ (zZ_up (m := 44) (zZ_zuJ (zZ_up (m := 43) (zZ_zuJ (zZ_up (m := 42) (zZ_zuJ (zZ_up (m := 41) (zZ_zu (zZ_zu (zZ_zu (zZ_zu hZ (by decide)) (by decide)) (by decide)) (by decide)) (by decide)) (by decide)) (by decide)) (by decide)) (by decide)) (by decide)) (by decide)) (by decide)) (by decide)) (by decide)) (by decide)) (by decide)) (by decide)) (by decide)) (by decide)) (by decide)) (by decide)) (by decide)) (by decide))) (by decide)) (by decide))) (by decide)) (fun _ hq => List.mem_cons_of_mem _ (List.mem_append_right _ hq)) tyX2 tyX2_ok zdefX2 (List.mem_of_getElem? (i := 12) rfl) (List.mem_of_getElem? (i := 23) rfl) (List.mem_of_getElem? (i := 24) rfl) rfl rfl ⟨by decide, by decide⟩ dX5_init_122 (rfl : 122 + 3 = 125) ?_
  refine y_dup h rfl dX5_init_125 (rfl : 125 + 1 = 126) ?_
  refine y_callIN (n' := 60) (I' := iIX2_init_55 (iIX2_init_50 (iIX2_init_45 (zu (zu (zu (zu (zu (zu (zu (zu (zu I 39 3 (-9)) 39 4 0) 39 5 0) 39 6 0) 39 12 0) 39 13 0) 39 14 0) 39 15 0) 39 16 0)))) (J' := iJX2_init_55 (zuJ (iJX2_init_50 (zuJ (iJX2_init_45 (zuJ (zuJ (zuJ (zuJ (zuJ (zuJ (zuJ (zuJ J 39 7 (some 40)) 39 8 (some 41)) 39 9 (some 42)) 39 10 (some 43)) 39 11 (some 44)) 39 0 (some 1)) 39 1 (some 5)) 39 2 (some 18))) 43 0 (some 45))) 43 1 (some 50))) h [] [.ref (za B 55), .int 2, .ref (za B 43)] zyX2_init (c_X2_init_55 B hBs (iIX2_init_50 (iIX2_init_45 (zu (zu (zu (zu (zu (zu (zu (zu (zu I 39 3 (-9)) 39 4 0) 39 5 0) 39 6 0) 39 12 0) 39 13 0) 39 14 0) 39 15 0) 39 16 0))) (zuJ (iJX2_init_50 (zuJ (iJX2_init_45 (zuJ (zuJ (zuJ (zuJ (zuJ (zuJ (zuJ (zuJ J 39 7 (some 40)) 39 8 (some 41)) 39 9 (some 42)) 39 10 (some 43)) 39 11 (some 44)) 39 0 (some 1)) 39 1 (some 5)) 39 2 (some 18))) 43 0 (some 45))) 43 1 (some 50)) (zZ_up (m := 56) (zZ_zuJ (zZX2_init_50 (zZ_up (m := 51) (zZ_zuJ (zZX2_init_45 (zZ_up (m := 46) (zZ_zuJ (zZ_zuJ (zZ_zuJ (zZ_zu (zZ_zu (zZ_zu (zZ_zu (zZ_zu (zZ_zuJ (zZ_up (m := 45) (zZ_zuJ (zZ_up (m := 44) (zZ_zuJ (zZ_up (m := 43) (zZ_zuJ (zZ_up (m := 42) (zZ_zuJ (zZ_up (m := 41) (zZ_zu (zZ_zu (zZ_zu (zZ_zu hZ (by decide)) (by decide)) (by decide)) (by decide)) (by decide)) (by decide)) (by decide)) (by decide)) (by decide)) (by decide)) (by decide)) (by decide)) (by decide)) (by decide)) (by decide)) (by decide)) (by decide)) (by decide)) (by decide)) (by decide)) (by decide)) (by decide)) (by decide))) (by decide)) (by decide))) (by decide)) (by decide))) gX5_init_X2_init_n69 (List.mem_of_getElem? (i := 24) rfl) (List.mem_of_getElem? (i := 7) rfl) (List.mem_of_getElem? (i := 25) rfl) rfl ⟨by decide, by decide⟩ rfl (Nat.le_of_ble_eq_true rfl) ⟨by decide, by decide⟩ rfl dX5_init_126 (rfl : 126 + 3 = 129) ?_
  refine y_astq (ci := 2) h (by decide) rfl rfl (by decide) rfl rfl dX5_init_129 (rfl : 129 + 1 = 130) ?_
  refine y_iinc h 0 3 [(4, .int 3), (0, .ref (za B 39)), (1, .ref (za B 1)), (2, .ref (za B 5)), (3, .ref (za B 18))] dX5_init_130 rfl (by decide) (by decide) rfl (rfl : 130 + 3 = 133) ?_
  refine y_goto (pc' := 109) h dX5_init_133 (by decide) ?_
  refine y_iload h 0 dX5_init_109 rfl (rfl : 109 + 2 = 111) ?_
  refine y_bipush h 6 dX5_init_111 (by decide) (rfl : 111 + 2 = 113) ?_
  refine y_icmp_ge (pc' := 116) h 136 dX5_init_113 (by decide) rfl (fun q => absurd q (by decide)) (fun _ => ?_)
  refine y_aload_n h 1 dX5_init_116 rfl (rfl : 116 + 1 = 117) ?_
  refine y_get (ci := 5) (C := RX5) (T := TX5) (N := 17) h 10 (.ref (za B 43)) rfl rfl (fun _ hq => List.mem_cons_of_mem _ (List.mem_append_left _ (List.mem_append_right _ hq))) (by decide) (List.mem_of_getElem? (i := 13) rfl) (zfs_ref rfl (by rfl)) dX5_init_117 (rfl : 117 + 3 = 120) ?_
  refine y_iload h 0 dX5_init_120 rfl (rfl : 120 + 2 = 122) ?_
  refine y_new (ci := 2) (C := RX2) (T := TX2) (N := 5) h hBs (zZ_zuJ (zZX2_init_55 (zZ_up (m := 56) (zZ_zuJ (zZX2_init_50 (zZ_up (m := 51) (zZ_zuJ (zZX2_init_45 (zZ_up (m := 46) (zZ_zuJ (zZ_zuJ (zZ_zuJ (zZ_zu (zZ_zu (zZ_zu (zZ_zu (zZ_zu (zZ_zuJ (zZ_up (m := 45) (zZ_zuJ (zZ_up (m := 44) (zZ_zuJ (zZ_up (m := 43) (zZ_zuJ (zZ_up (m := 42) (zZ_zuJ (zZ_up (m := 41) (zZ_zu (zZ_zu (zZ_zu (zZ_zu hZ (by decide)) (by decide)) (by decide)) (by decide)) (by decide)) (by decide)) (by decide)) (by decide)) (by decide)) (by decide)) (by decide)) (by decide)) (by decide)) (by decide)) (by decide)) (by decide)) (by decide)) (by decide)) (by decide)) (by decide)) (by decide)) (by decide)) (by decide))) (by decide)) (by decide))) (by decide)) (by decide))) (by decide)) (fun _ hq => List.mem_cons_of_mem _ (List.mem_append_right _ hq)) tyX2 tyX2_ok zdefX2 (List.mem_of_getElem? (i := 12) rfl) (List.mem_of_getElem? (i := 23) rfl) (List.mem_of_getElem? (i := 24) rfl) rfl rfl ⟨by decide, by decide⟩ dX5_init_122 (rfl : 122 + 3 = 125) ?_
  refine y_dup h rfl dX5_init_125 (rfl : 125 + 1 = 126) ?_
  refine y_callIN (n' := 65) (I' := iIX2_init_60 (iIX2_init_55 (iIX2_init_50 (iIX2_init_45 (zu (zu (zu (zu (zu (zu (zu (zu (zu I 39 3 (-9)) 39 4 0) 39 5 0) 39 6 0) 39 12 0) 39 13 0) 39 14 0) 39 15 0) 39 16 0))))) (J' := iJX2_init_60 (zuJ (iJX2_init_55 (zuJ (iJX2_init_50 (zuJ (iJX2_init_45 (zuJ (zuJ (zuJ (zuJ (zuJ (zuJ (zuJ (zuJ J 39 7 (some 40)) 39 8 (some 41)) 39 9 (some 42)) 39 10 (some 43)) 39 11 (some 44)) 39 0 (some 1)) 39 1 (some 5)) 39 2 (some 18))) 43 0 (some 45))) 43 1 (some 50))) 43 2 (some 55))) h [] [.ref (za B 60), .int 3, .ref (za B 43)] zyX2_init (c_X2_init_60 B hBs (iIX2_init_55 (iIX2_init_50 (iIX2_init_45 (zu (zu (zu (zu (zu (zu (zu (zu (zu I 39 3 (-9)) 39 4 0) 39 5 0) 39 6 0) 39 12 0) 39 13 0) 39 14 0) 39 15 0) 39 16 0)))) (zuJ (iJX2_init_55 (zuJ (iJX2_init_50 (zuJ (iJX2_init_45 (zuJ (zuJ (zuJ (zuJ (zuJ (zuJ (zuJ (zuJ J 39 7 (some 40)) 39 8 (some 41)) 39 9 (some 42)) 39 10 (some 43)) 39 11 (some 44)) 39 0 (some 1)) 39 1 (some 5)) 39 2 (some 18))) 43 0 (some 45))) 43 1 (some 50))) 43 2 (some 55)) (zZ_up (m := 61) (zZ_zuJ (zZX2_init_55 (zZ_up (m := 56) (zZ_zuJ (zZX2_init_50 (zZ_up (m := 51) (zZ_zuJ (zZX2_init_45 (zZ_up (m := 46) (zZ_zuJ (zZ_zuJ (zZ_zuJ (zZ_zu (zZ_zu (zZ_zu (zZ_zu (zZ_zu (zZ_zuJ (zZ_up (m := 45) (zZ_zuJ (zZ_up (m := 44) (zZ_zuJ (zZ_up (m := 43) (zZ_zuJ (zZ_up (m := 42) (zZ_zuJ (zZ_up (m := 41) (zZ_zu (zZ_zu (zZ_zu (zZ_zu hZ (by decide)) (by decide)) (by decide)) (by decide)) (by decide)) (by decide)) (by decide)) (by decide)) (by decide)) (by decide)) (by decide)) (by decide)) (by decide)) (by decide)) (by decide)) (by decide)) (by decide)) (by decide)) (by decide)) (by decide)) (by decide)) (by decide)) (by decide))) (by decide)) (by decide))) (by decide)) (by decide))) (by decide)) (by decide))) gX5_init_X2_init_n69 (List.mem_of_getElem? (i := 24) rfl) (List.mem_of_getElem? (i := 7) rfl) (List.mem_of_getElem? (i := 25) rfl) rfl ⟨by decide, by decide⟩ rfl (Nat.le_of_ble_eq_true rfl) ⟨by decide, by decide⟩ rfl dX5_init_126 (rfl : 126 + 3 = 129) ?_
  refine y_astq (ci := 2) h (by decide) rfl rfl (by decide) rfl rfl dX5_init_129 (rfl : 129 + 1 = 130) ?_
  refine y_iinc h 0 4 [(4, .int 4), (0, .ref (za B 39)), (1, .ref (za B 1)), (2, .ref (za B 5)), (3, .ref (za B 18))] dX5_init_130 rfl (by decide) (by decide) rfl (rfl : 130 + 3 = 133) ?_
  refine y_goto (pc' := 109) h dX5_init_133 (by decide) ?_
  refine y_iload h 0 dX5_init_109 rfl (rfl : 109 + 2 = 111) ?_
  refine y_bipush h 6 dX5_init_111 (by decide) (rfl : 111 + 2 = 113) ?_
  refine y_icmp_ge (pc' := 116) h 136 dX5_init_113 (by decide) rfl (fun q => absurd q (by decide)) (fun _ => ?_)
  refine y_aload_n h 1 dX5_init_116 rfl (rfl : 116 + 1 = 117) ?_
  refine y_get (ci := 5) (C := RX5) (T := TX5) (N := 17) h 10 (.ref (za B 43)) rfl rfl (fun _ hq => List.mem_cons_of_mem _ (List.mem_append_left _ (List.mem_append_right _ hq))) (by decide) (List.mem_of_getElem? (i := 13) rfl) (zfs_ref rfl (by rfl)) dX5_init_117 (rfl : 117 + 3 = 120) ?_
  refine y_iload h 0 dX5_init_120 rfl (rfl : 120 + 2 = 122) ?_
  refine y_new (ci := 2) (C := RX2) (T := TX2) (N := 5) h hBs (zZ_zuJ (zZX2_init_60 (zZ_up (m := 61) (zZ_zuJ (zZX2_init_55 (zZ_up (m := 56) (zZ_zuJ (zZX2_init_50 (zZ_up (m := 51) (zZ_zuJ (zZX2_init_45 (zZ_up (m := 46) (zZ_zuJ (zZ_zuJ (zZ_zuJ (zZ_zu (zZ_zu (zZ_zu (zZ_zu (zZ_zu (zZ_zuJ (zZ_up (m := 45) (zZ_zuJ (zZ_up (m := 44) (zZ_zuJ (zZ_up (m := 43) (zZ_zuJ (zZ_up (m := 42) (zZ_zuJ (zZ_up (m := 41) (zZ_zu (zZ_zu (zZ_zu (zZ_zu hZ (by decide)) (by decide)) (by decide)) (by decide)) (by decide)) (by decide)) (by decide)) (by decide)) (by decide)) (by decide)) (by decide)) (by decide)) (by decide)) (by decide)) (by decide)) (by decide)) (by decide)) (by decide)) (by decide)) (by decide)) (by decide)) (by decide)) (by decide))) (by decide)) (by decide))) (by decide)) (by decide))) (by decide)) (by decide))) (by decide)) (fun _ hq => List.mem_cons_of_mem _ (List.mem_append_right _ hq)) tyX2 tyX2_ok zdefX2 (List.mem_of_getElem? (i := 12) rfl) (List.mem_of_getElem? (i := 23) rfl) (List.mem_of_getElem? (i := 24) rfl) rfl rfl ⟨by decide, by decide⟩ dX5_init_122 (rfl : 122 + 3 = 125) ?_
  refine y_dup h rfl dX5_init_125 (rfl : 125 + 1 = 126) ?_
  refine y_callIN (n' := 70) (I' := iIX2_init_65 (iIX2_init_60 (iIX2_init_55 (iIX2_init_50 (iIX2_init_45 (zu (zu (zu (zu (zu (zu (zu (zu (zu I 39 3 (-9)) 39 4 0) 39 5 0) 39 6 0) 39 12 0) 39 13 0) 39 14 0) 39 15 0) 39 16 0)))))) (J' := iJX2_init_65 (zuJ (iJX2_init_60 (zuJ (iJX2_init_55 (zuJ (iJX2_init_50 (zuJ (iJX2_init_45 (zuJ (zuJ (zuJ (zuJ (zuJ (zuJ (zuJ (zuJ J 39 7 (some 40)) 39 8 (some 41)) 39 9 (some 42)) 39 10 (some 43)) 39 11 (some 44)) 39 0 (some 1)) 39 1 (some 5)) 39 2 (some 18))) 43 0 (some 45))) 43 1 (some 50))) 43 2 (some 55))) 43 3 (some 60))) h [] [.ref (za B 65), .int 4, .ref (za B 43)] zyX2_init (c_X2_init_65 B hBs (iIX2_init_60 (iIX2_init_55 (iIX2_init_50 (iIX2_init_45 (zu (zu (zu (zu (zu (zu (zu (zu (zu I 39 3 (-9)) 39 4 0) 39 5 0) 39 6 0) 39 12 0) 39 13 0) 39 14 0) 39 15 0) 39 16 0))))) (zuJ (iJX2_init_60 (zuJ (iJX2_init_55 (zuJ (iJX2_init_50 (zuJ (iJX2_init_45 (zuJ (zuJ (zuJ (zuJ (zuJ (zuJ (zuJ (zuJ J 39 7 (some 40)) 39 8 (some 41)) 39 9 (some 42)) 39 10 (some 43)) 39 11 (some 44)) 39 0 (some 1)) 39 1 (some 5)) 39 2 (some 18))) 43 0 (some 45))) 43 1 (some 50))) 43 2 (some 55))) 43 3 (some 60)) (zZ_up (m := 66) (zZ_zuJ (zZX2_init_60 (zZ_up (m := 61) (zZ_zuJ (zZX2_init_55 (zZ_up (m := 56) (zZ_zuJ (zZX2_init_50 (zZ_up (m := 51) (zZ_zuJ (zZX2_init_45 (zZ_up (m := 46) (zZ_zuJ (zZ_zuJ (zZ_zuJ (zZ_zu (zZ_zu (zZ_zu (zZ_zu (zZ_zu (zZ_zuJ (zZ_up (m := 45) (zZ_zuJ (zZ_up (m := 44) (zZ_zuJ (zZ_up (m := 43) (zZ_zuJ (zZ_up (m := 42) (zZ_zuJ (zZ_up (m := 41) (zZ_zu (zZ_zu (zZ_zu (zZ_zu hZ (by decide)) (by decide)) (by decide)) (by decide)) (by decide)) (by decide)) (by decide)) (by decide)) (by decide)) (by decide)) (by decide)) (by decide)) (by decide)) (by decide)) (by decide)) (by decide)) (by decide)) (by decide)) (by decide)) (by decide)) (by decide)) (by decide)) (by decide))) (by decide)) (by decide))) (by decide)) (by decide))) (by decide)) (by decide))) (by decide)) (by decide))) gX5_init_X2_init_n69 (List.mem_of_getElem? (i := 24) rfl) (List.mem_of_getElem? (i := 7) rfl) (List.mem_of_getElem? (i := 25) rfl) rfl ⟨by decide, by decide⟩ rfl (Nat.le_of_ble_eq_true rfl) ⟨by decide, by decide⟩ rfl dX5_init_126 (rfl : 126 + 3 = 129) ?_
  refine y_astq (ci := 2) h (by decide) rfl rfl (by decide) rfl rfl dX5_init_129 (rfl : 129 + 1 = 130) ?_
  refine y_iinc h 0 5 [(4, .int 5), (0, .ref (za B 39)), (1, .ref (za B 1)), (2, .ref (za B 5)), (3, .ref (za B 18))] dX5_init_130 rfl (by decide) (by decide) rfl (rfl : 130 + 3 = 133) ?_
  refine y_goto (pc' := 109) h dX5_init_133 (by decide) ?_
  refine y_iload h 0 dX5_init_109 rfl (rfl : 109 + 2 = 111) ?_
  refine y_bipush h 6 dX5_init_111 (by decide) (rfl : 111 + 2 = 113) ?_
  refine y_icmp_ge (pc' := 116) h 136 dX5_init_113 (by decide) rfl (fun q => absurd q (by decide)) (fun _ => ?_)
  refine y_aload_n h 1 dX5_init_116 rfl (rfl : 116 + 1 = 117) ?_
  refine y_get (ci := 5) (C := RX5) (T := TX5) (N := 17) h 10 (.ref (za B 43)) rfl rfl (fun _ hq => List.mem_cons_of_mem _ (List.mem_append_left _ (List.mem_append_right _ hq))) (by decide) (List.mem_of_getElem? (i := 13) rfl) (zfs_ref rfl (by rfl)) dX5_init_117 (rfl : 117 + 3 = 120) ?_
  refine y_iload h 0 dX5_init_120 rfl (rfl : 120 + 2 = 122) ?_
  refine y_new (ci := 2) (C := RX2) (T := TX2) (N := 5) h hBs (zZ_zuJ (zZX2_init_65 (zZ_up (m := 66) (zZ_zuJ (zZX2_init_60 (zZ_up (m := 61) (zZ_zuJ (zZX2_init_55 (zZ_up (m := 56) (zZ_zuJ (zZX2_init_50 (zZ_up (m := 51) (zZ_zuJ (zZX2_init_45 (zZ_up (m := 46) (zZ_zuJ (zZ_zuJ (zZ_zuJ (zZ_zu (zZ_zu (zZ_zu (zZ_zu (zZ_zu (zZ_zuJ (zZ_up (m := 45) (zZ_zuJ (zZ_up (m := 44) (zZ_zuJ (zZ_up (m := 43) (zZ_zuJ (zZ_up (m := 42) (zZ_zuJ (zZ_up (m := 41) (zZ_zu (zZ_zu (zZ_zu (zZ_zu hZ (by decide)) (by decide)) (by decide)) (by decide)) (by decide)) (by decide)) (by decide)) (by decide)) (by decide)) (by decide)) (by decide)) (by decide)) (by decide)) (by decide)) (by decide)) (by decide)) (by decide)) (by decide)) (by decide)) (by decide)) (by decide)) (by decide)) (by decide))) (by decide)) (by decide))) (by decide)) (by decide))) (by decide)) (by decide))) (by decide)) (by decide))) (by decide)) (fun _ hq => List.mem_cons_of_mem _ (List.mem_append_right _ hq)) tyX2 tyX2_ok zdefX2 (List.mem_of_getElem? (i := 12) rfl) (List.mem_of_getElem? (i := 23) rfl) (List.mem_of_getElem? (i := 24) rfl) rfl rfl ⟨by decide, by decide⟩ dX5_init_122 (rfl : 122 + 3 = 125) ?_
  refine y_dup h rfl dX5_init_125 (rfl : 125 + 1 = 126) ?_
  refine y_callIN (n' := 75) (I' := iIX2_init_70 (iIX2_init_65 (iIX2_init_60 (iIX2_init_55 (iIX2_init_50 (iIX2_init_45 (zu (zu (zu (zu (zu (zu (zu (zu (zu I 39 3 (-9)) 39 4 0) 39 5 0) 39 6 0) 39 12 0) 39 13 0) 39 14 0) 39 15 0) 39 16 0))))))) (J' := iJX2_init_70 (zuJ (iJX2_init_65 (zuJ (iJX2_init_60 (zuJ (iJX2_init_55 (zuJ (iJX2_init_50 (zuJ (iJX2_init_45 (zuJ (zuJ (zuJ (zuJ (zuJ (zuJ (zuJ (zuJ J 39 7 (some 40)) 39 8 (some 41)) 39 9 (some 42)) 39 10 (some 43)) 39 11 (some 44)) 39 0 (some 1)) 39 1 (some 5)) 39 2 (some 18))) 43 0 (some 45))) 43 1 (some 50))) 43 2 (some 55))) 43 3 (some 60))) 43 4 (some 65))) h [] [.ref (za B 70), .int 5, .ref (za B 43)] zyX2_init (c_X2_init_70 B hBs (iIX2_init_65 (iIX2_init_60 (iIX2_init_55 (iIX2_init_50 (iIX2_init_45 (zu (zu (zu (zu (zu (zu (zu (zu (zu I 39 3 (-9)) 39 4 0) 39 5 0) 39 6 0) 39 12 0) 39 13 0) 39 14 0) 39 15 0) 39 16 0)))))) (zuJ (iJX2_init_65 (zuJ (iJX2_init_60 (zuJ (iJX2_init_55 (zuJ (iJX2_init_50 (zuJ (iJX2_init_45 (zuJ (zuJ (zuJ (zuJ (zuJ (zuJ (zuJ (zuJ J 39 7 (some 40)) 39 8 (some 41)) 39 9 (some 42)) 39 10 (some 43)) 39 11 (some 44)) 39 0 (some 1)) 39 1 (some 5)) 39 2 (some 18))) 43 0 (some 45))) 43 1 (some 50))) 43 2 (some 55))) 43 3 (some 60))) 43 4 (some 65)) (zZ_up (m := 71) (zZ_zuJ (zZX2_init_65 (zZ_up (m := 66) (zZ_zuJ (zZX2_init_60 (zZ_up (m := 61) (zZ_zuJ (zZX2_init_55 (zZ_up (m := 56) (zZ_zuJ (zZX2_init_50 (zZ_up (m := 51) (zZ_zuJ (zZX2_init_45 (zZ_up (m := 46) (zZ_zuJ (zZ_zuJ (zZ_zuJ (zZ_zu (zZ_zu (zZ_zu (zZ_zu (zZ_zu (zZ_zuJ (zZ_up (m := 45) (zZ_zuJ (zZ_up (m := 44) (zZ_zuJ (zZ_up (m := 43) (zZ_zuJ (zZ_up (m := 42) (zZ_zuJ (zZ_up (m := 41) (zZ_zu (zZ_zu (zZ_zu (zZ_zu hZ (by decide)) (by decide)) (by decide)) (by decide)) (by decide)) (by decide)) (by decide)) (by decide)) (by decide)) (by decide)) (by decide)) (by decide)) (by decide)) (by decide)) (by decide)) (by decide)) (by decide)) (by decide)) (by decide)) (by decide)) (by decide)) (by decide)) (by decide))) (by decide)) (by decide))) (by decide)) (by decide))) (by decide)) (by decide))) (by decide)) (by decide))) (by decide)) (by decide))) gX5_init_X2_init_n69 (List.mem_of_getElem? (i := 24) rfl) (List.mem_of_getElem? (i := 7) rfl) (List.mem_of_getElem? (i := 25) rfl) rfl ⟨by decide, by decide⟩ rfl (Nat.le_of_ble_eq_true rfl) ⟨by decide, by decide⟩ rfl dX5_init_126 (rfl : 126 + 3 = 129) ?_
  refine y_astq (ci := 2) h (by decide) rfl rfl (by decide) rfl rfl dX5_init_129 (rfl : 129 + 1 = 130) ?_
  refine y_iinc h 0 6 [(4, .int 6), (0, .ref (za B 39)), (1, .ref (za B 1)), (2, .ref (za B 5)), (3, .ref (za B 18))] dX5_init_130 rfl (by decide) (by decide) rfl (rfl : 130 + 3 = 133) ?_
  refine y_goto (pc' := 109) h dX5_init_133 (by decide) ?_
  refine y_iload h 0 dX5_init_109 rfl (rfl : 109 + 2 = 111) ?_
  refine y_bipush h 6 dX5_init_111 (by decide) (rfl : 111 + 2 = 113) ?_
  refine y_icmp_ge (pc' := 116) h 136 dX5_init_113 (by decide) rfl (fun _ => ?_) (fun q => absurd q (by decide))
  exact y_ret h hr rfl rfl rfl rfl dX5_init_136
noncomputable abbrev rmX1_init_75 : Room := { frames := 1, cells := 7, slots := 150, locals := 24 }
def iIX1_init_75 (I : zM) : zM := zu (zu I 75 6 0) 75 7 0
def iJX1_init_75 (J : zJ) : zJ := zuJ (zuJ (zuJ (zuJ (zuJ (zuJ (zuJ J 75 0 (some 76)) 75 1 (some 77)) 75 2 (some 78)) 75 3 (some 79)) 75 4 (some 80)) 75 5 (some 81)) 75 8 (some 82)
theorem zZX1_init_75 {I : zM} {J : zJ} (hZ : zZ 76 I J) : zZ 83 (iIX1_init_75 I) (iJX1_init_75 J) := (zZ_zuJ (zZ_up (m := 83) (zZ_zu (zZ_zu (zZ_zuJ (zZ_up (m := 82) (zZ_zuJ (zZ_up (m := 81) (zZ_zuJ (zZ_up (m := 80) (zZ_zuJ (zZ_up (m := 79) (zZ_zuJ (zZ_up (m := 78) (zZ_zuJ (zZ_up (m := 77) hZ (by decide)) (by decide)) (by decide)) (by decide)) (by decide)) (by decide)) (by decide)) (by decide)) (by decide)) (by decide)) (by decide)) (by decide)) (by decide)) (by decide)) (by decide)) (by decide))
set_option maxHeartbeats 2000000 in
set_option maxRecDepth 100000 in
theorem c_X1_init_75 (B : zB) (hBs : zBs B) (I : zM) (J : zJ) (hZ : zZ 76 I J) : zCc B 76 I J yX1_init wsX1_init rmX1_init_75 [.ref (za B 75)] 83 (iIX1_init_75 I) (iJX1_init_75 J) := by
  refine y_start (own := RX1) (cc := cX1_init) (nL := 1) rfl (by decide) rfl rfl (Nat.le_of_ble_eq_true rfl) (L := [(0, .ref (za B 75))]) rfl (fun G h hr => ?_)
  refine y_aload_n h 0 dX1_init_0 rfl (rfl : 0 + 1 = 1) ?_
  refine y_objInit h (List.mem_of_getElem? (i := 1) rfl) (List.mem_of_getElem? (i := 2) rfl) (List.mem_of_getElem? (i := 3) rfl) (by decide) dX1_init_1 (rfl : 1 + 3 = 4) ?_
  refine y_aload_n h 0 dX1_init_4 rfl (rfl : 4 + 1 = 5) ?_
  refine y_bipush h 24 dX1_init_5 (by decide) (rfl : 5 + 2 = 7) ?_
  refine y_newa (atype := .int) (t := 0) (m := 24) h hBs hZ (List.mem_of_getElem? (i := 4) rfl) (by decide) rfl rfl (by decide) (by decide) (by decide) rfl ⟨by decide, by decide⟩ dX1_init_7 (rfl : 7 + 2 = 9) ?_
  refine y_putR (ci := 1) (C := RX1) (T := TX1) (N := 9) h 0 tyX1 tyX1_ok nmX1 rfl rfl (fun _ hq => List.mem_cons_of_mem _ (List.mem_append_right _ hq)) (by decide) (List.mem_of_getElem? (i := 5) rfl) rfl rfl hr.2.2.2 rfl (Or.inr ⟨_, rfl⟩) dX1_init_9 (rfl : 9 + 3 = 12) ?_
  refine y_aload_n h 0 dX1_init_12 rfl (rfl : 12 + 1 = 13) ?_
  refine y_bipush h 24 dX1_init_13 (by decide) (rfl : 13 + 2 = 15) ?_
  refine y_newa (atype := .int) (t := 0) (m := 24) h hBs (zZ_zuJ (zZ_up (m := 77) hZ (by decide)) (by decide)) (List.mem_of_getElem? (i := 4) rfl) (by decide) rfl rfl (by decide) (by decide) (by decide) rfl ⟨by decide, by decide⟩ dX1_init_15 (rfl : 15 + 2 = 17) ?_
  refine y_putR (ci := 1) (C := RX1) (T := TX1) (N := 9) h 1 tyX1 tyX1_ok nmX1 rfl rfl (fun _ hq => List.mem_cons_of_mem _ (List.mem_append_right _ hq)) (by decide) (List.mem_of_getElem? (i := 6) rfl) rfl rfl hr.2.2.2 rfl (Or.inr ⟨_, rfl⟩) dX1_init_17 (rfl : 17 + 3 = 20) ?_
  refine y_aload_n h 0 dX1_init_20 rfl (rfl : 20 + 1 = 21) ?_
  refine y_bipush h 24 dX1_init_21 (by decide) (rfl : 21 + 2 = 23) ?_
  refine y_newa (atype := .int) (t := 0) (m := 24) h hBs (zZ_zuJ (zZ_up (m := 78) (zZ_zuJ (zZ_up (m := 77) hZ (by decide)) (by decide)) (by decide)) (by decide)) (List.mem_of_getElem? (i := 4) rfl) (by decide) rfl rfl (by decide) (by decide) (by decide) rfl ⟨by decide, by decide⟩ dX1_init_23 (rfl : 23 + 2 = 25) ?_
  refine y_putR (ci := 1) (C := RX1) (T := TX1) (N := 9) h 2 tyX1 tyX1_ok nmX1 rfl rfl (fun _ hq => List.mem_cons_of_mem _ (List.mem_append_right _ hq)) (by decide) (List.mem_of_getElem? (i := 7) rfl) rfl rfl hr.2.2.2 rfl (Or.inr ⟨_, rfl⟩) dX1_init_25 (rfl : 25 + 3 = 28) ?_
  refine y_aload_n h 0 dX1_init_28 rfl (rfl : 28 + 1 = 29) ?_
  refine y_bipush h 24 dX1_init_29 (by decide) (rfl : 29 + 2 = 31) ?_
  refine y_newa (atype := .int) (t := 0) (m := 24) h hBs (zZ_zuJ (zZ_up (m := 79) (zZ_zuJ (zZ_up (m := 78) (zZ_zuJ (zZ_up (m := 77) hZ (by decide)) (by decide)) (by decide)) (by decide)) (by decide)) (by decide)) (List.mem_of_getElem? (i := 4) rfl) (by decide) rfl rfl (by decide) (by decide) (by decide) rfl ⟨by decide, by decide⟩ dX1_init_31 (rfl : 31 + 2 = 33) ?_
  refine y_putR (ci := 1) (C := RX1) (T := TX1) (N := 9) h 3 tyX1 tyX1_ok nmX1 rfl rfl (fun _ hq => List.mem_cons_of_mem _ (List.mem_append_right _ hq)) (by decide) (List.mem_of_getElem? (i := 8) rfl) rfl rfl hr.2.2.2 rfl (Or.inr ⟨_, rfl⟩) dX1_init_33 (rfl : 33 + 3 = 36) ?_
  refine y_aload_n h 0 dX1_init_36 rfl (rfl : 36 + 1 = 37) ?_
  refine y_bipush h 24 dX1_init_37 (by decide) (rfl : 37 + 2 = 39) ?_
  refine y_newa (atype := .int) (t := 0) (m := 24) h hBs (zZ_zuJ (zZ_up (m := 80) (zZ_zuJ (zZ_up (m := 79) (zZ_zuJ (zZ_up (m := 78) (zZ_zuJ (zZ_up (m := 77) hZ (by decide)) (by decide)) (by decide)) (by decide)) (by decide)) (by decide)) (by decide)) (by decide)) (List.mem_of_getElem? (i := 4) rfl) (by decide) rfl rfl (by decide) (by decide) (by decide) rfl ⟨by decide, by decide⟩ dX1_init_39 (rfl : 39 + 2 = 41) ?_
  refine y_putR (ci := 1) (C := RX1) (T := TX1) (N := 9) h 4 tyX1 tyX1_ok nmX1 rfl rfl (fun _ hq => List.mem_cons_of_mem _ (List.mem_append_right _ hq)) (by decide) (List.mem_of_getElem? (i := 9) rfl) rfl rfl hr.2.2.2 rfl (Or.inr ⟨_, rfl⟩) dX1_init_41 (rfl : 41 + 3 = 44) ?_
  refine y_aload_n h 0 dX1_init_44 rfl (rfl : 44 + 1 = 45) ?_
  refine y_bipush h 24 dX1_init_45 (by decide) (rfl : 45 + 2 = 47) ?_
  refine y_newa (atype := .boolean) (t := 1) (m := 24) h hBs (zZ_zuJ (zZ_up (m := 81) (zZ_zuJ (zZ_up (m := 80) (zZ_zuJ (zZ_up (m := 79) (zZ_zuJ (zZ_up (m := 78) (zZ_zuJ (zZ_up (m := 77) hZ (by decide)) (by decide)) (by decide)) (by decide)) (by decide)) (by decide)) (by decide)) (by decide)) (by decide)) (by decide)) (List.mem_of_getElem? (i := 10) rfl) (by decide) rfl rfl (by decide) (by decide) (by decide) rfl ⟨by decide, by decide⟩ dX1_init_47 (rfl : 47 + 2 = 49) ?_
  refine y_putR (ci := 1) (C := RX1) (T := TX1) (N := 9) h 5 tyX1 tyX1_ok nmX1 rfl rfl (fun _ hq => List.mem_cons_of_mem _ (List.mem_append_right _ hq)) (by decide) (List.mem_of_getElem? (i := 11) rfl) rfl rfl hr.2.2.2 rfl (Or.inr ⟨_, rfl⟩) dX1_init_49 (rfl : 49 + 3 = 52) ?_
  refine y_aload_n h 0 dX1_init_52 rfl (rfl : 52 + 1 = 53) ?_
  refine y_iconst h 0 dX1_init_53 (by decide) (rfl : 53 + 1 = 54) ?_
  refine y_putI (ci := 1) (C := RX1) (T := TX1) (N := 9) h 6 tyX1 tyX1_ok nmX1 rfl rfl (fun _ hq => List.mem_cons_of_mem _ (List.mem_append_right _ hq)) (by decide) (List.mem_of_getElem? (i := 12) rfl) rfl rfl rfl dX1_init_54 (rfl : 54 + 3 = 57) ?_
  refine y_aload_n h 0 dX1_init_57 rfl (rfl : 57 + 1 = 58) ?_
  refine y_iconst h 0 dX1_init_58 (by decide) (rfl : 58 + 1 = 59) ?_
  refine y_putI (ci := 1) (C := RX1) (T := TX1) (N := 9) h 7 tyX1 tyX1_ok nmX1 rfl rfl (fun _ hq => List.mem_cons_of_mem _ (List.mem_append_right _ hq)) (by decide) (List.mem_of_getElem? (i := 13) rfl) rfl rfl rfl dX1_init_59 (rfl : 59 + 3 = 62) ?_
  refine y_aload_n h 0 dX1_init_62 rfl (rfl : 62 + 1 = 63) ?_
  refine y_bipush h 6 dX1_init_63 (by decide) (rfl : 63 + 2 = 65) ?_
  refine y_newa (atype := .int) (t := 0) (m := 6) h hBs (zZ_zu (zZ_zu (zZ_zuJ (zZ_up (m := 82) (zZ_zuJ (zZ_up (m := 81) (zZ_zuJ (zZ_up (m := 80) (zZ_zuJ (zZ_up (m := 79) (zZ_zuJ (zZ_up (m := 78) (zZ_zuJ (zZ_up (m := 77) hZ (by decide)) (by decide)) (by decide)) (by decide)) (by decide)) (by decide)) (by decide)) (by decide)) (by decide)) (by decide)) (by decide)) (by decide)) (by decide)) (by decide)) (List.mem_of_getElem? (i := 4) rfl) (by decide) rfl rfl (by decide) (by decide) (by decide) rfl ⟨by decide, by decide⟩ dX1_init_65 (rfl : 65 + 2 = 67) ?_
  refine y_putR (ci := 1) (C := RX1) (T := TX1) (N := 9) h 8 tyX1 tyX1_ok nmX1 rfl rfl (fun _ hq => List.mem_cons_of_mem _ (List.mem_append_right _ hq)) (by decide) (List.mem_of_getElem? (i := 14) rfl) rfl rfl hr.2.2.2 rfl (Or.inr ⟨_, rfl⟩) dX1_init_67 (rfl : 67 + 3 = 70) ?_
  exact y_ret h hr rfl rfl rfl rfl dX1_init_70
noncomputable abbrev rmX1_init_83 : Room := { frames := 1, cells := 7, slots := 150, locals := 24 }
def iIX1_init_83 (I : zM) : zM := zu (zu I 83 6 0) 83 7 0
def iJX1_init_83 (J : zJ) : zJ := zuJ (zuJ (zuJ (zuJ (zuJ (zuJ (zuJ J 83 0 (some 84)) 83 1 (some 85)) 83 2 (some 86)) 83 3 (some 87)) 83 4 (some 88)) 83 5 (some 89)) 83 8 (some 90)
theorem zZX1_init_83 {I : zM} {J : zJ} (hZ : zZ 84 I J) : zZ 91 (iIX1_init_83 I) (iJX1_init_83 J) := (zZ_zuJ (zZ_up (m := 91) (zZ_zu (zZ_zu (zZ_zuJ (zZ_up (m := 90) (zZ_zuJ (zZ_up (m := 89) (zZ_zuJ (zZ_up (m := 88) (zZ_zuJ (zZ_up (m := 87) (zZ_zuJ (zZ_up (m := 86) (zZ_zuJ (zZ_up (m := 85) hZ (by decide)) (by decide)) (by decide)) (by decide)) (by decide)) (by decide)) (by decide)) (by decide)) (by decide)) (by decide)) (by decide)) (by decide)) (by decide)) (by decide)) (by decide)) (by decide))
set_option maxHeartbeats 2000000 in
set_option maxRecDepth 100000 in
theorem c_X1_init_83 (B : zB) (hBs : zBs B) (I : zM) (J : zJ) (hZ : zZ 84 I J) : zCc B 84 I J yX1_init wsX1_init rmX1_init_83 [.ref (za B 83)] 91 (iIX1_init_83 I) (iJX1_init_83 J) := by
  refine y_start (own := RX1) (cc := cX1_init) (nL := 1) rfl (by decide) rfl rfl (Nat.le_of_ble_eq_true rfl) (L := [(0, .ref (za B 83))]) rfl (fun G h hr => ?_)
  refine y_aload_n h 0 dX1_init_0 rfl (rfl : 0 + 1 = 1) ?_
  refine y_objInit h (List.mem_of_getElem? (i := 1) rfl) (List.mem_of_getElem? (i := 2) rfl) (List.mem_of_getElem? (i := 3) rfl) (by decide) dX1_init_1 (rfl : 1 + 3 = 4) ?_
  refine y_aload_n h 0 dX1_init_4 rfl (rfl : 4 + 1 = 5) ?_
  refine y_bipush h 24 dX1_init_5 (by decide) (rfl : 5 + 2 = 7) ?_
  refine y_newa (atype := .int) (t := 0) (m := 24) h hBs hZ (List.mem_of_getElem? (i := 4) rfl) (by decide) rfl rfl (by decide) (by decide) (by decide) rfl ⟨by decide, by decide⟩ dX1_init_7 (rfl : 7 + 2 = 9) ?_
  refine y_putR (ci := 1) (C := RX1) (T := TX1) (N := 9) h 0 tyX1 tyX1_ok nmX1 rfl rfl (fun _ hq => List.mem_cons_of_mem _ (List.mem_append_right _ hq)) (by decide) (List.mem_of_getElem? (i := 5) rfl) rfl rfl hr.2.2.2 rfl (Or.inr ⟨_, rfl⟩) dX1_init_9 (rfl : 9 + 3 = 12) ?_
  refine y_aload_n h 0 dX1_init_12 rfl (rfl : 12 + 1 = 13) ?_
  refine y_bipush h 24 dX1_init_13 (by decide) (rfl : 13 + 2 = 15) ?_
  refine y_newa (atype := .int) (t := 0) (m := 24) h hBs (zZ_zuJ (zZ_up (m := 85) hZ (by decide)) (by decide)) (List.mem_of_getElem? (i := 4) rfl) (by decide) rfl rfl (by decide) (by decide) (by decide) rfl ⟨by decide, by decide⟩ dX1_init_15 (rfl : 15 + 2 = 17) ?_
  refine y_putR (ci := 1) (C := RX1) (T := TX1) (N := 9) h 1 tyX1 tyX1_ok nmX1 rfl rfl (fun _ hq => List.mem_cons_of_mem _ (List.mem_append_right _ hq)) (by decide) (List.mem_of_getElem? (i := 6) rfl) rfl rfl hr.2.2.2 rfl (Or.inr ⟨_, rfl⟩) dX1_init_17 (rfl : 17 + 3 = 20) ?_
  refine y_aload_n h 0 dX1_init_20 rfl (rfl : 20 + 1 = 21) ?_
  refine y_bipush h 24 dX1_init_21 (by decide) (rfl : 21 + 2 = 23) ?_
  refine y_newa (atype := .int) (t := 0) (m := 24) h hBs (zZ_zuJ (zZ_up (m := 86) (zZ_zuJ (zZ_up (m := 85) hZ (by decide)) (by decide)) (by decide)) (by decide)) (List.mem_of_getElem? (i := 4) rfl) (by decide) rfl rfl (by decide) (by decide) (by decide) rfl ⟨by decide, by decide⟩ dX1_init_23 (rfl : 23 + 2 = 25) ?_
  refine y_putR (ci := 1) (C := RX1) (T := TX1) (N := 9) h 2 tyX1 tyX1_ok nmX1 rfl rfl (fun _ hq => List.mem_cons_of_mem _ (List.mem_append_right _ hq)) (by decide) (List.mem_of_getElem? (i := 7) rfl) rfl rfl hr.2.2.2 rfl (Or.inr ⟨_, rfl⟩) dX1_init_25 (rfl : 25 + 3 = 28) ?_
  refine y_aload_n h 0 dX1_init_28 rfl (rfl : 28 + 1 = 29) ?_
  refine y_bipush h 24 dX1_init_29 (by decide) (rfl : 29 + 2 = 31) ?_
  refine y_newa (atype := .int) (t := 0) (m := 24) h hBs (zZ_zuJ (zZ_up (m := 87) (zZ_zuJ (zZ_up (m := 86) (zZ_zuJ (zZ_up (m := 85) hZ (by decide)) (by decide)) (by decide)) (by decide)) (by decide)) (by decide)) (List.mem_of_getElem? (i := 4) rfl) (by decide) rfl rfl (by decide) (by decide) (by decide) rfl ⟨by decide, by decide⟩ dX1_init_31 (rfl : 31 + 2 = 33) ?_
  refine y_putR (ci := 1) (C := RX1) (T := TX1) (N := 9) h 3 tyX1 tyX1_ok nmX1 rfl rfl (fun _ hq => List.mem_cons_of_mem _ (List.mem_append_right _ hq)) (by decide) (List.mem_of_getElem? (i := 8) rfl) rfl rfl hr.2.2.2 rfl (Or.inr ⟨_, rfl⟩) dX1_init_33 (rfl : 33 + 3 = 36) ?_
  refine y_aload_n h 0 dX1_init_36 rfl (rfl : 36 + 1 = 37) ?_
  refine y_bipush h 24 dX1_init_37 (by decide) (rfl : 37 + 2 = 39) ?_
  refine y_newa (atype := .int) (t := 0) (m := 24) h hBs (zZ_zuJ (zZ_up (m := 88) (zZ_zuJ (zZ_up (m := 87) (zZ_zuJ (zZ_up (m := 86) (zZ_zuJ (zZ_up (m := 85) hZ (by decide)) (by decide)) (by decide)) (by decide)) (by decide)) (by decide)) (by decide)) (by decide)) (List.mem_of_getElem? (i := 4) rfl) (by decide) rfl rfl (by decide) (by decide) (by decide) rfl ⟨by decide, by decide⟩ dX1_init_39 (rfl : 39 + 2 = 41) ?_
  refine y_putR (ci := 1) (C := RX1) (T := TX1) (N := 9) h 4 tyX1 tyX1_ok nmX1 rfl rfl (fun _ hq => List.mem_cons_of_mem _ (List.mem_append_right _ hq)) (by decide) (List.mem_of_getElem? (i := 9) rfl) rfl rfl hr.2.2.2 rfl (Or.inr ⟨_, rfl⟩) dX1_init_41 (rfl : 41 + 3 = 44) ?_
  refine y_aload_n h 0 dX1_init_44 rfl (rfl : 44 + 1 = 45) ?_
  refine y_bipush h 24 dX1_init_45 (by decide) (rfl : 45 + 2 = 47) ?_
  refine y_newa (atype := .boolean) (t := 1) (m := 24) h hBs (zZ_zuJ (zZ_up (m := 89) (zZ_zuJ (zZ_up (m := 88) (zZ_zuJ (zZ_up (m := 87) (zZ_zuJ (zZ_up (m := 86) (zZ_zuJ (zZ_up (m := 85) hZ (by decide)) (by decide)) (by decide)) (by decide)) (by decide)) (by decide)) (by decide)) (by decide)) (by decide)) (by decide)) (List.mem_of_getElem? (i := 10) rfl) (by decide) rfl rfl (by decide) (by decide) (by decide) rfl ⟨by decide, by decide⟩ dX1_init_47 (rfl : 47 + 2 = 49) ?_
  refine y_putR (ci := 1) (C := RX1) (T := TX1) (N := 9) h 5 tyX1 tyX1_ok nmX1 rfl rfl (fun _ hq => List.mem_cons_of_mem _ (List.mem_append_right _ hq)) (by decide) (List.mem_of_getElem? (i := 11) rfl) rfl rfl hr.2.2.2 rfl (Or.inr ⟨_, rfl⟩) dX1_init_49 (rfl : 49 + 3 = 52) ?_
  refine y_aload_n h 0 dX1_init_52 rfl (rfl : 52 + 1 = 53) ?_
  refine y_iconst h 0 dX1_init_53 (by decide) (rfl : 53 + 1 = 54) ?_
  refine y_putI (ci := 1) (C := RX1) (T := TX1) (N := 9) h 6 tyX1 tyX1_ok nmX1 rfl rfl (fun _ hq => List.mem_cons_of_mem _ (List.mem_append_right _ hq)) (by decide) (List.mem_of_getElem? (i := 12) rfl) rfl rfl rfl dX1_init_54 (rfl : 54 + 3 = 57) ?_
  refine y_aload_n h 0 dX1_init_57 rfl (rfl : 57 + 1 = 58) ?_
  refine y_iconst h 0 dX1_init_58 (by decide) (rfl : 58 + 1 = 59) ?_
  refine y_putI (ci := 1) (C := RX1) (T := TX1) (N := 9) h 7 tyX1 tyX1_ok nmX1 rfl rfl (fun _ hq => List.mem_cons_of_mem _ (List.mem_append_right _ hq)) (by decide) (List.mem_of_getElem? (i := 13) rfl) rfl rfl rfl dX1_init_59 (rfl : 59 + 3 = 62) ?_
  refine y_aload_n h 0 dX1_init_62 rfl (rfl : 62 + 1 = 63) ?_
  refine y_bipush h 6 dX1_init_63 (by decide) (rfl : 63 + 2 = 65) ?_
  refine y_newa (atype := .int) (t := 0) (m := 6) h hBs (zZ_zu (zZ_zu (zZ_zuJ (zZ_up (m := 90) (zZ_zuJ (zZ_up (m := 89) (zZ_zuJ (zZ_up (m := 88) (zZ_zuJ (zZ_up (m := 87) (zZ_zuJ (zZ_up (m := 86) (zZ_zuJ (zZ_up (m := 85) hZ (by decide)) (by decide)) (by decide)) (by decide)) (by decide)) (by decide)) (by decide)) (by decide)) (by decide)) (by decide)) (by decide)) (by decide)) (by decide)) (by decide)) (List.mem_of_getElem? (i := 4) rfl) (by decide) rfl rfl (by decide) (by decide) (by decide) rfl ⟨by decide, by decide⟩ dX1_init_65 (rfl : 65 + 2 = 67) ?_
  refine y_putR (ci := 1) (C := RX1) (T := TX1) (N := 9) h 8 tyX1 tyX1_ok nmX1 rfl rfl (fun _ hq => List.mem_cons_of_mem _ (List.mem_append_right _ hq)) (by decide) (List.mem_of_getElem? (i := 14) rfl) rfl rfl hr.2.2.2 rfl (Or.inr ⟨_, rfl⟩) dX1_init_67 (rfl : 67 + 3 = 70) ?_
  exact y_ret h hr rfl rfl rfl rfl dX1_init_70
noncomputable abbrev rmX10_init_91 : Room := { frames := 1, cells := 0, slots := 0, locals := 24 }
def iIX10_init_91 (I : zM) : zM := I
def iJX10_init_91 (J : zJ) : zJ := J
theorem zZX10_init_91 {I : zM} {J : zJ} (hZ : zZ 92 I J) : zZ 92 (iIX10_init_91 I) (iJX10_init_91 J) := hZ
set_option maxHeartbeats 2000000 in
set_option maxRecDepth 100000 in
theorem c_X10_init_91 (B : zB) (hBs : zBs B) (I : zM) (J : zJ) (hZ : zZ 92 I J) : zCc B 92 I J yX10_init wsX10_init rmX10_init_91 [.ref (za B 91)] 92 (iIX10_init_91 I) (iJX10_init_91 J) := by
  refine y_start (own := RX10) (cc := cX10_init) (nL := 1) rfl (by decide) rfl rfl (Nat.le_of_ble_eq_true rfl) (L := [(0, .ref (za B 91))]) rfl (fun G h hr => ?_)
  refine y_aload_n h 0 dX10_init_0 rfl (rfl : 0 + 1 = 1) ?_
  refine y_objInit h (List.mem_of_getElem? (i := 1) rfl) (List.mem_of_getElem? (i := 2) rfl) (List.mem_of_getElem? (i := 3) rfl) (by decide) dX10_init_1 (rfl : 1 + 3 = 4) ?_
  exact y_ret h hr rfl rfl rfl rfl dX10_init_4
noncomputable abbrev rmX4_init_91 : Room := { frames := 3, cells := 1, slots := 5, locals := 100 }
def iIX4_init_91 (I : zM) : zM := zu (zu (zu (zu (zu (zu (zu (iIX10_init_91 I) 91 1 0) 92 0 0) 92 1 1) 92 2 2) 92 3 3) 92 4 4) 91 1 5
def iJX4_init_91 (J : zJ) : zJ := zuJ (iJX10_init_91 J) 91 0 (some 92)
theorem zZX4_init_91 {I : zM} {J : zJ} (hZ : zZ 92 I J) : zZ 93 (iIX4_init_91 I) (iJX4_init_91 J) := (zZ_zu (zZ_zu (zZ_zu (zZ_zu (zZ_zu (zZ_zu (zZ_zu (zZ_zuJ (zZ_up (m := 93) (zZX10_init_91 hZ) (by decide)) (by decide)) (by decide)) (by decide)) (by decide)) (by decide)) (by decide)) (by decide)) (by decide))
set_option maxHeartbeats 2000000 in
set_option maxRecDepth 100000 in
theorem c_X4_init_91 (B : zB) (hBs : zBs B) (I : zM) (J : zJ) (hZ : zZ 92 I J) : zCc B 92 I J yX4_init wsX4_init rmX4_init_91 [.ref (za B 91)] 93 (iIX4_init_91 I) (iJX4_init_91 J) := by
  refine y_start (own := RX4) (cc := cX4_init) (nL := 2) rfl (by decide) rfl rfl (Nat.le_of_ble_eq_true rfl) (L := [(0, .ref (za B 91))]) rfl (fun G h hr => ?_)
  refine y_aload_n h 0 dX4_init_0 rfl (rfl : 0 + 1 = 1) ?_
  refine y_callIN (n' := 92) (I' := iIX10_init_91 I) (J' := iJX10_init_91 J) h [] [] zyX10_init (c_X10_init_91 B hBs I J hZ) gX4_init_X10_init_n3 (List.mem_of_getElem? (i := 5) rfl) (List.mem_of_getElem? (i := 4) rfl) (List.mem_of_getElem? (i := 4) rfl) rfl ⟨by decide, by decide⟩ rfl (Nat.le_of_ble_eq_true rfl) ⟨by decide, by decide⟩ rfl dX4_init_1 (rfl : 1 + 3 = 4) ?_
  refine y_aload_n h 0 dX4_init_4 rfl (rfl : 4 + 1 = 5) ?_
  refine y_ldcS h ⟨rfl, rfl⟩ dX4_init_5 (rfl : 5 + 2 = 7) (fun a0 ha0 => ?_)
  refine y_runVx h [.ref (za B 91)] zyJ0_length_8abf5 (c_len B 92 (iIX10_init_91 I) (iJX10_init_91 J) a0) ha0 gX4_init_J0_length_8abf5 rfl rfl ⟨rfl, rfl, by decide, by decide⟩ (Nat.le_of_ble_eq_true rfl) ⟨Nat.zero_le _, Nat.zero_le _⟩ rfl dX4_init_7 (rfl : 7 + 3 = 10) ?_
  refine y_newa (atype := .int) (t := 0) (m := 5) h hBs (zZX10_init_91 hZ) (List.mem_of_getElem? (i := 1) rfl) (by decide) rfl rfl (by decide) (by decide) (by decide) rfl ⟨by decide, by decide⟩ dX4_init_10 (rfl : 10 + 2 = 12) ?_
  refine y_putR (ci := 4) (C := RX4) (T := TX4) (N := 2) h 0 tyX4 tyX4_ok nmX4 rfl rfl (fun _ hq => List.mem_cons_of_mem _ (List.mem_append_right _ hq)) (by decide) (List.mem_of_getElem? (i := 2) rfl) rfl rfl hr.2.2.2 rfl (Or.inr ⟨_, rfl⟩) dX4_init_12 (rfl : 12 + 3 = 15) ?_
  refine y_aload_n h 0 dX4_init_15 rfl (rfl : 15 + 1 = 16) ?_
  refine y_iconst h 0 dX4_init_16 (by decide) (rfl : 16 + 1 = 17) ?_
  refine y_putI (ci := 4) (C := RX4) (T := TX4) (N := 2) h 1 tyX4 tyX4_ok nmX4 rfl rfl (fun _ hq => List.mem_cons_of_mem _ (List.mem_append_right _ hq)) (by decide) (List.mem_of_getElem? (i := 3) rfl) rfl rfl rfl dX4_init_17 (rfl : 17 + 3 = 20) ?_
  refine y_iconst h 0 dX4_init_20 (by decide) (rfl : 20 + 1 = 21) ?_
  refine y_istore_n h [(1, .int 0), (0, .ref (za B 91))] dX4_init_21 (by decide) rfl (rfl : 21 + 1 = 22) ?_
  refine y_iload_n h 0 dX4_init_22 rfl (rfl : 22 + 1 = 23) ?_
  refine y_aload_n h 1 dX4_init_23 rfl (rfl : 23 + 1 = 24) ?_
  refine y_get (ci := 4) (C := RX4) (T := TX4) (N := 2) h 0 (.ref (za B 92)) rfl rfl (fun _ hq => List.mem_cons_of_mem _ (List.mem_append_right _ hq)) (by decide) (List.mem_of_getElem? (i := 2) rfl) (zfs_ref rfl (by rfl)) dX4_init_24 (rfl : 24 + 3 = 27) ?_
  refine y_alen h 5 rfl (by decide) (by decide) dX4_init_27 (rfl : 27 + 1 = 28) ?_
  refine y_icmp_ge (pc' := 31) h 44 dX4_init_28 (by decide) rfl (fun q => absurd q (by decide)) (fun _ => ?_)
  refine y_aload_n h 1 dX4_init_31 rfl (rfl : 31 + 1 = 32) ?_
  refine y_get (ci := 4) (C := RX4) (T := TX4) (N := 2) h 0 (.ref (za B 92)) rfl rfl (fun _ hq => List.mem_cons_of_mem _ (List.mem_append_right _ hq)) (by decide) (List.mem_of_getElem? (i := 2) rfl) (zfs_ref rfl (by rfl)) dX4_init_32 (rfl : 32 + 3 = 35) ?_
  refine y_iload_n h 0 dX4_init_35 rfl (rfl : 35 + 1 = 36) ?_
  refine y_iload_n h 0 dX4_init_36 rfl (rfl : 36 + 1 = 37) ?_
  refine y_iast h (by decide) rfl dX4_init_37 (rfl : 37 + 1 = 38) ?_
  refine y_iinc h 0 1 [(1, .int 1), (0, .ref (za B 91))] dX4_init_38 rfl (by decide) (by decide) rfl (rfl : 38 + 3 = 41) ?_
  refine y_goto (pc' := 22) h dX4_init_41 (by decide) ?_
  refine y_iload_n h 0 dX4_init_22 rfl (rfl : 22 + 1 = 23) ?_
  refine y_aload_n h 1 dX4_init_23 rfl (rfl : 23 + 1 = 24) ?_
  refine y_get (ci := 4) (C := RX4) (T := TX4) (N := 2) h 0 (.ref (za B 92)) rfl rfl (fun _ hq => List.mem_cons_of_mem _ (List.mem_append_right _ hq)) (by decide) (List.mem_of_getElem? (i := 2) rfl) (zfs_ref rfl (by rfl)) dX4_init_24 (rfl : 24 + 3 = 27) ?_
  refine y_alen h 5 rfl (by decide) (by decide) dX4_init_27 (rfl : 27 + 1 = 28) ?_
  refine y_icmp_ge (pc' := 31) h 44 dX4_init_28 (by decide) rfl (fun q => absurd q (by decide)) (fun _ => ?_)
  refine y_aload_n h 1 dX4_init_31 rfl (rfl : 31 + 1 = 32) ?_
  refine y_get (ci := 4) (C := RX4) (T := TX4) (N := 2) h 0 (.ref (za B 92)) rfl rfl (fun _ hq => List.mem_cons_of_mem _ (List.mem_append_right _ hq)) (by decide) (List.mem_of_getElem? (i := 2) rfl) (zfs_ref rfl (by rfl)) dX4_init_32 (rfl : 32 + 3 = 35) ?_
  refine y_iload_n h 0 dX4_init_35 rfl (rfl : 35 + 1 = 36) ?_
  refine y_iload_n h 0 dX4_init_36 rfl (rfl : 36 + 1 = 37) ?_
  refine y_iast h (by decide) rfl dX4_init_37 (rfl : 37 + 1 = 38) ?_
  refine y_iinc h 0 2 [(1, .int 2), (0, .ref (za B 91))] dX4_init_38 rfl (by decide) (by decide) rfl (rfl : 38 + 3 = 41) ?_
  refine y_goto (pc' := 22) h dX4_init_41 (by decide) ?_
  refine y_iload_n h 0 dX4_init_22 rfl (rfl : 22 + 1 = 23) ?_
  refine y_aload_n h 1 dX4_init_23 rfl (rfl : 23 + 1 = 24) ?_
  refine y_get (ci := 4) (C := RX4) (T := TX4) (N := 2) h 0 (.ref (za B 92)) rfl rfl (fun _ hq => List.mem_cons_of_mem _ (List.mem_append_right _ hq)) (by decide) (List.mem_of_getElem? (i := 2) rfl) (zfs_ref rfl (by rfl)) dX4_init_24 (rfl : 24 + 3 = 27) ?_
  refine y_alen h 5 rfl (by decide) (by decide) dX4_init_27 (rfl : 27 + 1 = 28) ?_
  refine y_icmp_ge (pc' := 31) h 44 dX4_init_28 (by decide) rfl (fun q => absurd q (by decide)) (fun _ => ?_)
  refine y_aload_n h 1 dX4_init_31 rfl (rfl : 31 + 1 = 32) ?_
  refine y_get (ci := 4) (C := RX4) (T := TX4) (N := 2) h 0 (.ref (za B 92)) rfl rfl (fun _ hq => List.mem_cons_of_mem _ (List.mem_append_right _ hq)) (by decide) (List.mem_of_getElem? (i := 2) rfl) (zfs_ref rfl (by rfl)) dX4_init_32 (rfl : 32 + 3 = 35) ?_
  refine y_iload_n h 0 dX4_init_35 rfl (rfl : 35 + 1 = 36) ?_
  refine y_iload_n h 0 dX4_init_36 rfl (rfl : 36 + 1 = 37) ?_
  refine y_iast h (by decide) rfl dX4_init_37 (rfl : 37 + 1 = 38) ?_
  refine y_iinc h 0 3 [(1, .int 3), (0, .ref (za B 91))] dX4_init_38 rfl (by decide) (by decide) rfl (rfl : 38 + 3 = 41) ?_
  refine y_goto (pc' := 22) h dX4_init_41 (by decide) ?_
  refine y_iload_n h 0 dX4_init_22 rfl (rfl : 22 + 1 = 23) ?_
  refine y_aload_n h 1 dX4_init_23 rfl (rfl : 23 + 1 = 24) ?_
  refine y_get (ci := 4) (C := RX4) (T := TX4) (N := 2) h 0 (.ref (za B 92)) rfl rfl (fun _ hq => List.mem_cons_of_mem _ (List.mem_append_right _ hq)) (by decide) (List.mem_of_getElem? (i := 2) rfl) (zfs_ref rfl (by rfl)) dX4_init_24 (rfl : 24 + 3 = 27) ?_
  refine y_alen h 5 rfl (by decide) (by decide) dX4_init_27 (rfl : 27 + 1 = 28) ?_
  refine y_icmp_ge (pc' := 31) h 44 dX4_init_28 (by decide) rfl (fun q => absurd q (by decide)) (fun _ => ?_)
  refine y_aload_n h 1 dX4_init_31 rfl (rfl : 31 + 1 = 32) ?_
  refine y_get (ci := 4) (C := RX4) (T := TX4) (N := 2) h 0 (.ref (za B 92)) rfl rfl (fun _ hq => List.mem_cons_of_mem _ (List.mem_append_right _ hq)) (by decide) (List.mem_of_getElem? (i := 2) rfl) (zfs_ref rfl (by rfl)) dX4_init_32 (rfl : 32 + 3 = 35) ?_
  refine y_iload_n h 0 dX4_init_35 rfl (rfl : 35 + 1 = 36) ?_
  refine y_iload_n h 0 dX4_init_36 rfl (rfl : 36 + 1 = 37) ?_
  refine y_iast h (by decide) rfl dX4_init_37 (rfl : 37 + 1 = 38) ?_
  refine y_iinc h 0 4 [(1, .int 4), (0, .ref (za B 91))] dX4_init_38 rfl (by decide) (by decide) rfl (rfl : 38 + 3 = 41) ?_
  refine y_goto (pc' := 22) h dX4_init_41 (by decide) ?_
  refine y_iload_n h 0 dX4_init_22 rfl (rfl : 22 + 1 = 23) ?_
  refine y_aload_n h 1 dX4_init_23 rfl (rfl : 23 + 1 = 24) ?_
  refine y_get (ci := 4) (C := RX4) (T := TX4) (N := 2) h 0 (.ref (za B 92)) rfl rfl (fun _ hq => List.mem_cons_of_mem _ (List.mem_append_right _ hq)) (by decide) (List.mem_of_getElem? (i := 2) rfl) (zfs_ref rfl (by rfl)) dX4_init_24 (rfl : 24 + 3 = 27) ?_
  refine y_alen h 5 rfl (by decide) (by decide) dX4_init_27 (rfl : 27 + 1 = 28) ?_
  refine y_icmp_ge (pc' := 31) h 44 dX4_init_28 (by decide) rfl (fun q => absurd q (by decide)) (fun _ => ?_)
  refine y_aload_n h 1 dX4_init_31 rfl (rfl : 31 + 1 = 32) ?_
  refine y_get (ci := 4) (C := RX4) (T := TX4) (N := 2) h 0 (.ref (za B 92)) rfl rfl (fun _ hq => List.mem_cons_of_mem _ (List.mem_append_right _ hq)) (by decide) (List.mem_of_getElem? (i := 2) rfl) (zfs_ref rfl (by rfl)) dX4_init_32 (rfl : 32 + 3 = 35) ?_
  refine y_iload_n h 0 dX4_init_35 rfl (rfl : 35 + 1 = 36) ?_
  refine y_iload_n h 0 dX4_init_36 rfl (rfl : 36 + 1 = 37) ?_
  refine y_iast h (by decide) rfl dX4_init_37 (rfl : 37 + 1 = 38) ?_
  refine y_iinc h 0 5 [(1, .int 5), (0, .ref (za B 91))] dX4_init_38 rfl (by decide) (by decide) rfl (rfl : 38 + 3 = 41) ?_
  refine y_goto (pc' := 22) h dX4_init_41 (by decide) ?_
  refine y_iload_n h 0 dX4_init_22 rfl (rfl : 22 + 1 = 23) ?_
  refine y_aload_n h 1 dX4_init_23 rfl (rfl : 23 + 1 = 24) ?_
  refine y_get (ci := 4) (C := RX4) (T := TX4) (N := 2) h 0 (.ref (za B 92)) rfl rfl (fun _ hq => List.mem_cons_of_mem _ (List.mem_append_right _ hq)) (by decide) (List.mem_of_getElem? (i := 2) rfl) (zfs_ref rfl (by rfl)) dX4_init_24 (rfl : 24 + 3 = 27) ?_
  refine y_alen h 5 rfl (by decide) (by decide) dX4_init_27 (rfl : 27 + 1 = 28) ?_
  refine y_icmp_ge (pc' := 31) h 44 dX4_init_28 (by decide) rfl (fun _ => ?_) (fun q => absurd q (by decide))
  refine y_aload_n h 1 dX4_init_44 rfl (rfl : 44 + 1 = 45) ?_
  refine y_aload_n h 1 dX4_init_45 rfl (rfl : 45 + 1 = 46) ?_
  refine y_get (ci := 4) (C := RX4) (T := TX4) (N := 2) h 0 (.ref (za B 92)) rfl rfl (fun _ hq => List.mem_cons_of_mem _ (List.mem_append_right _ hq)) (by decide) (List.mem_of_getElem? (i := 2) rfl) (zfs_ref rfl (by rfl)) dX4_init_46 (rfl : 46 + 3 = 49) ?_
  refine y_alen h 5 rfl (by decide) (by decide) dX4_init_49 (rfl : 49 + 1 = 50) ?_
  refine y_putI (ci := 4) (C := RX4) (T := TX4) (N := 2) h 1 tyX4 tyX4_ok nmX4 rfl rfl (fun _ hq => List.mem_cons_of_mem _ (List.mem_append_right _ hq)) (by decide) (List.mem_of_getElem? (i := 3) rfl) rfl rfl rfl dX4_init_50 (rfl : 50 + 3 = 53) ?_
  exact y_ret h hr rfl rfl rfl rfl dX4_init_53
noncomputable abbrev rmX10_init_93 : Room := { frames := 1, cells := 0, slots := 0, locals := 24 }
def iIX10_init_93 (I : zM) : zM := I
def iJX10_init_93 (J : zJ) : zJ := J
theorem zZX10_init_93 {I : zM} {J : zJ} (hZ : zZ 94 I J) : zZ 94 (iIX10_init_93 I) (iJX10_init_93 J) := hZ
set_option maxHeartbeats 2000000 in
set_option maxRecDepth 100000 in
theorem c_X10_init_93 (B : zB) (hBs : zBs B) (I : zM) (J : zJ) (hZ : zZ 94 I J) : zCc B 94 I J yX10_init wsX10_init rmX10_init_93 [.ref (za B 93)] 94 (iIX10_init_93 I) (iJX10_init_93 J) := by
  refine y_start (own := RX10) (cc := cX10_init) (nL := 1) rfl (by decide) rfl rfl (Nat.le_of_ble_eq_true rfl) (L := [(0, .ref (za B 93))]) rfl (fun G h hr => ?_)
  refine y_aload_n h 0 dX10_init_0 rfl (rfl : 0 + 1 = 1) ?_
  refine y_objInit h (List.mem_of_getElem? (i := 1) rfl) (List.mem_of_getElem? (i := 2) rfl) (List.mem_of_getElem? (i := 3) rfl) (by decide) dX10_init_1 (rfl : 1 + 3 = 4) ?_
  exact y_ret h hr rfl rfl rfl rfl dX10_init_4
noncomputable abbrev rmX4_init_93 : Room := { frames := 3, cells := 1, slots := 5, locals := 100 }
def iIX4_init_93 (I : zM) : zM := zu (zu (zu (zu (zu (zu (zu (iIX10_init_93 I) 93 1 0) 94 0 0) 94 1 1) 94 2 2) 94 3 3) 94 4 4) 93 1 5
def iJX4_init_93 (J : zJ) : zJ := zuJ (iJX10_init_93 J) 93 0 (some 94)
theorem zZX4_init_93 {I : zM} {J : zJ} (hZ : zZ 94 I J) : zZ 95 (iIX4_init_93 I) (iJX4_init_93 J) := (zZ_zu (zZ_zu (zZ_zu (zZ_zu (zZ_zu (zZ_zu (zZ_zu (zZ_zuJ (zZ_up (m := 95) (zZX10_init_93 hZ) (by decide)) (by decide)) (by decide)) (by decide)) (by decide)) (by decide)) (by decide)) (by decide)) (by decide))
set_option maxHeartbeats 2000000 in
set_option maxRecDepth 100000 in
theorem c_X4_init_93 (B : zB) (hBs : zBs B) (I : zM) (J : zJ) (hZ : zZ 94 I J) : zCc B 94 I J yX4_init wsX4_init rmX4_init_93 [.ref (za B 93)] 95 (iIX4_init_93 I) (iJX4_init_93 J) := by
  refine y_start (own := RX4) (cc := cX4_init) (nL := 2) rfl (by decide) rfl rfl (Nat.le_of_ble_eq_true rfl) (L := [(0, .ref (za B 93))]) rfl (fun G h hr => ?_)
  refine y_aload_n h 0 dX4_init_0 rfl (rfl : 0 + 1 = 1) ?_
  refine y_callIN (n' := 94) (I' := iIX10_init_93 I) (J' := iJX10_init_93 J) h [] [] zyX10_init (c_X10_init_93 B hBs I J hZ) gX4_init_X10_init_n3 (List.mem_of_getElem? (i := 5) rfl) (List.mem_of_getElem? (i := 4) rfl) (List.mem_of_getElem? (i := 4) rfl) rfl ⟨by decide, by decide⟩ rfl (Nat.le_of_ble_eq_true rfl) ⟨by decide, by decide⟩ rfl dX4_init_1 (rfl : 1 + 3 = 4) ?_
  refine y_aload_n h 0 dX4_init_4 rfl (rfl : 4 + 1 = 5) ?_
  refine y_ldcS h ⟨rfl, rfl⟩ dX4_init_5 (rfl : 5 + 2 = 7) (fun a0 ha0 => ?_)
  refine y_runVx h [.ref (za B 93)] zyJ0_length_8abf5 (c_len B 94 (iIX10_init_93 I) (iJX10_init_93 J) a0) ha0 gX4_init_J0_length_8abf5 rfl rfl ⟨rfl, rfl, by decide, by decide⟩ (Nat.le_of_ble_eq_true rfl) ⟨Nat.zero_le _, Nat.zero_le _⟩ rfl dX4_init_7 (rfl : 7 + 3 = 10) ?_
  refine y_newa (atype := .int) (t := 0) (m := 5) h hBs (zZX10_init_93 hZ) (List.mem_of_getElem? (i := 1) rfl) (by decide) rfl rfl (by decide) (by decide) (by decide) rfl ⟨by decide, by decide⟩ dX4_init_10 (rfl : 10 + 2 = 12) ?_
  refine y_putR (ci := 4) (C := RX4) (T := TX4) (N := 2) h 0 tyX4 tyX4_ok nmX4 rfl rfl (fun _ hq => List.mem_cons_of_mem _ (List.mem_append_right _ hq)) (by decide) (List.mem_of_getElem? (i := 2) rfl) rfl rfl hr.2.2.2 rfl (Or.inr ⟨_, rfl⟩) dX4_init_12 (rfl : 12 + 3 = 15) ?_
  refine y_aload_n h 0 dX4_init_15 rfl (rfl : 15 + 1 = 16) ?_
  refine y_iconst h 0 dX4_init_16 (by decide) (rfl : 16 + 1 = 17) ?_
  refine y_putI (ci := 4) (C := RX4) (T := TX4) (N := 2) h 1 tyX4 tyX4_ok nmX4 rfl rfl (fun _ hq => List.mem_cons_of_mem _ (List.mem_append_right _ hq)) (by decide) (List.mem_of_getElem? (i := 3) rfl) rfl rfl rfl dX4_init_17 (rfl : 17 + 3 = 20) ?_
  refine y_iconst h 0 dX4_init_20 (by decide) (rfl : 20 + 1 = 21) ?_
  refine y_istore_n h [(1, .int 0), (0, .ref (za B 93))] dX4_init_21 (by decide) rfl (rfl : 21 + 1 = 22) ?_
  refine y_iload_n h 0 dX4_init_22 rfl (rfl : 22 + 1 = 23) ?_
  refine y_aload_n h 1 dX4_init_23 rfl (rfl : 23 + 1 = 24) ?_
  refine y_get (ci := 4) (C := RX4) (T := TX4) (N := 2) h 0 (.ref (za B 94)) rfl rfl (fun _ hq => List.mem_cons_of_mem _ (List.mem_append_right _ hq)) (by decide) (List.mem_of_getElem? (i := 2) rfl) (zfs_ref rfl (by rfl)) dX4_init_24 (rfl : 24 + 3 = 27) ?_
  refine y_alen h 5 rfl (by decide) (by decide) dX4_init_27 (rfl : 27 + 1 = 28) ?_
  refine y_icmp_ge (pc' := 31) h 44 dX4_init_28 (by decide) rfl (fun q => absurd q (by decide)) (fun _ => ?_)
  refine y_aload_n h 1 dX4_init_31 rfl (rfl : 31 + 1 = 32) ?_
  refine y_get (ci := 4) (C := RX4) (T := TX4) (N := 2) h 0 (.ref (za B 94)) rfl rfl (fun _ hq => List.mem_cons_of_mem _ (List.mem_append_right _ hq)) (by decide) (List.mem_of_getElem? (i := 2) rfl) (zfs_ref rfl (by rfl)) dX4_init_32 (rfl : 32 + 3 = 35) ?_
  refine y_iload_n h 0 dX4_init_35 rfl (rfl : 35 + 1 = 36) ?_
  refine y_iload_n h 0 dX4_init_36 rfl (rfl : 36 + 1 = 37) ?_
  refine y_iast h (by decide) rfl dX4_init_37 (rfl : 37 + 1 = 38) ?_
  refine y_iinc h 0 1 [(1, .int 1), (0, .ref (za B 93))] dX4_init_38 rfl (by decide) (by decide) rfl (rfl : 38 + 3 = 41) ?_
  refine y_goto (pc' := 22) h dX4_init_41 (by decide) ?_
  refine y_iload_n h 0 dX4_init_22 rfl (rfl : 22 + 1 = 23) ?_
  refine y_aload_n h 1 dX4_init_23 rfl (rfl : 23 + 1 = 24) ?_
  refine y_get (ci := 4) (C := RX4) (T := TX4) (N := 2) h 0 (.ref (za B 94)) rfl rfl (fun _ hq => List.mem_cons_of_mem _ (List.mem_append_right _ hq)) (by decide) (List.mem_of_getElem? (i := 2) rfl) (zfs_ref rfl (by rfl)) dX4_init_24 (rfl : 24 + 3 = 27) ?_
  refine y_alen h 5 rfl (by decide) (by decide) dX4_init_27 (rfl : 27 + 1 = 28) ?_
  refine y_icmp_ge (pc' := 31) h 44 dX4_init_28 (by decide) rfl (fun q => absurd q (by decide)) (fun _ => ?_)
  refine y_aload_n h 1 dX4_init_31 rfl (rfl : 31 + 1 = 32) ?_
  refine y_get (ci := 4) (C := RX4) (T := TX4) (N := 2) h 0 (.ref (za B 94)) rfl rfl (fun _ hq => List.mem_cons_of_mem _ (List.mem_append_right _ hq)) (by decide) (List.mem_of_getElem? (i := 2) rfl) (zfs_ref rfl (by rfl)) dX4_init_32 (rfl : 32 + 3 = 35) ?_
  refine y_iload_n h 0 dX4_init_35 rfl (rfl : 35 + 1 = 36) ?_
  refine y_iload_n h 0 dX4_init_36 rfl (rfl : 36 + 1 = 37) ?_
  refine y_iast h (by decide) rfl dX4_init_37 (rfl : 37 + 1 = 38) ?_
  refine y_iinc h 0 2 [(1, .int 2), (0, .ref (za B 93))] dX4_init_38 rfl (by decide) (by decide) rfl (rfl : 38 + 3 = 41) ?_
  refine y_goto (pc' := 22) h dX4_init_41 (by decide) ?_
  refine y_iload_n h 0 dX4_init_22 rfl (rfl : 22 + 1 = 23) ?_
  refine y_aload_n h 1 dX4_init_23 rfl (rfl : 23 + 1 = 24) ?_
  refine y_get (ci := 4) (C := RX4) (T := TX4) (N := 2) h 0 (.ref (za B 94)) rfl rfl (fun _ hq => List.mem_cons_of_mem _ (List.mem_append_right _ hq)) (by decide) (List.mem_of_getElem? (i := 2) rfl) (zfs_ref rfl (by rfl)) dX4_init_24 (rfl : 24 + 3 = 27) ?_
  refine y_alen h 5 rfl (by decide) (by decide) dX4_init_27 (rfl : 27 + 1 = 28) ?_
  refine y_icmp_ge (pc' := 31) h 44 dX4_init_28 (by decide) rfl (fun q => absurd q (by decide)) (fun _ => ?_)
  refine y_aload_n h 1 dX4_init_31 rfl (rfl : 31 + 1 = 32) ?_
  refine y_get (ci := 4) (C := RX4) (T := TX4) (N := 2) h 0 (.ref (za B 94)) rfl rfl (fun _ hq => List.mem_cons_of_mem _ (List.mem_append_right _ hq)) (by decide) (List.mem_of_getElem? (i := 2) rfl) (zfs_ref rfl (by rfl)) dX4_init_32 (rfl : 32 + 3 = 35) ?_
  refine y_iload_n h 0 dX4_init_35 rfl (rfl : 35 + 1 = 36) ?_
  refine y_iload_n h 0 dX4_init_36 rfl (rfl : 36 + 1 = 37) ?_
  refine y_iast h (by decide) rfl dX4_init_37 (rfl : 37 + 1 = 38) ?_
  refine y_iinc h 0 3 [(1, .int 3), (0, .ref (za B 93))] dX4_init_38 rfl (by decide) (by decide) rfl (rfl : 38 + 3 = 41) ?_
  refine y_goto (pc' := 22) h dX4_init_41 (by decide) ?_
  refine y_iload_n h 0 dX4_init_22 rfl (rfl : 22 + 1 = 23) ?_
  refine y_aload_n h 1 dX4_init_23 rfl (rfl : 23 + 1 = 24) ?_
  refine y_get (ci := 4) (C := RX4) (T := TX4) (N := 2) h 0 (.ref (za B 94)) rfl rfl (fun _ hq => List.mem_cons_of_mem _ (List.mem_append_right _ hq)) (by decide) (List.mem_of_getElem? (i := 2) rfl) (zfs_ref rfl (by rfl)) dX4_init_24 (rfl : 24 + 3 = 27) ?_
  refine y_alen h 5 rfl (by decide) (by decide) dX4_init_27 (rfl : 27 + 1 = 28) ?_
  refine y_icmp_ge (pc' := 31) h 44 dX4_init_28 (by decide) rfl (fun q => absurd q (by decide)) (fun _ => ?_)
  refine y_aload_n h 1 dX4_init_31 rfl (rfl : 31 + 1 = 32) ?_
  refine y_get (ci := 4) (C := RX4) (T := TX4) (N := 2) h 0 (.ref (za B 94)) rfl rfl (fun _ hq => List.mem_cons_of_mem _ (List.mem_append_right _ hq)) (by decide) (List.mem_of_getElem? (i := 2) rfl) (zfs_ref rfl (by rfl)) dX4_init_32 (rfl : 32 + 3 = 35) ?_
  refine y_iload_n h 0 dX4_init_35 rfl (rfl : 35 + 1 = 36) ?_
  refine y_iload_n h 0 dX4_init_36 rfl (rfl : 36 + 1 = 37) ?_
  refine y_iast h (by decide) rfl dX4_init_37 (rfl : 37 + 1 = 38) ?_
  refine y_iinc h 0 4 [(1, .int 4), (0, .ref (za B 93))] dX4_init_38 rfl (by decide) (by decide) rfl (rfl : 38 + 3 = 41) ?_
  refine y_goto (pc' := 22) h dX4_init_41 (by decide) ?_
  refine y_iload_n h 0 dX4_init_22 rfl (rfl : 22 + 1 = 23) ?_
  refine y_aload_n h 1 dX4_init_23 rfl (rfl : 23 + 1 = 24) ?_
  refine y_get (ci := 4) (C := RX4) (T := TX4) (N := 2) h 0 (.ref (za B 94)) rfl rfl (fun _ hq => List.mem_cons_of_mem _ (List.mem_append_right _ hq)) (by decide) (List.mem_of_getElem? (i := 2) rfl) (zfs_ref rfl (by rfl)) dX4_init_24 (rfl : 24 + 3 = 27) ?_
  refine y_alen h 5 rfl (by decide) (by decide) dX4_init_27 (rfl : 27 + 1 = 28) ?_
  refine y_icmp_ge (pc' := 31) h 44 dX4_init_28 (by decide) rfl (fun q => absurd q (by decide)) (fun _ => ?_)
  refine y_aload_n h 1 dX4_init_31 rfl (rfl : 31 + 1 = 32) ?_
  refine y_get (ci := 4) (C := RX4) (T := TX4) (N := 2) h 0 (.ref (za B 94)) rfl rfl (fun _ hq => List.mem_cons_of_mem _ (List.mem_append_right _ hq)) (by decide) (List.mem_of_getElem? (i := 2) rfl) (zfs_ref rfl (by rfl)) dX4_init_32 (rfl : 32 + 3 = 35) ?_
  refine y_iload_n h 0 dX4_init_35 rfl (rfl : 35 + 1 = 36) ?_
  refine y_iload_n h 0 dX4_init_36 rfl (rfl : 36 + 1 = 37) ?_
  refine y_iast h (by decide) rfl dX4_init_37 (rfl : 37 + 1 = 38) ?_
  refine y_iinc h 0 5 [(1, .int 5), (0, .ref (za B 93))] dX4_init_38 rfl (by decide) (by decide) rfl (rfl : 38 + 3 = 41) ?_
  refine y_goto (pc' := 22) h dX4_init_41 (by decide) ?_
  refine y_iload_n h 0 dX4_init_22 rfl (rfl : 22 + 1 = 23) ?_
  refine y_aload_n h 1 dX4_init_23 rfl (rfl : 23 + 1 = 24) ?_
  refine y_get (ci := 4) (C := RX4) (T := TX4) (N := 2) h 0 (.ref (za B 94)) rfl rfl (fun _ hq => List.mem_cons_of_mem _ (List.mem_append_right _ hq)) (by decide) (List.mem_of_getElem? (i := 2) rfl) (zfs_ref rfl (by rfl)) dX4_init_24 (rfl : 24 + 3 = 27) ?_
  refine y_alen h 5 rfl (by decide) (by decide) dX4_init_27 (rfl : 27 + 1 = 28) ?_
  refine y_icmp_ge (pc' := 31) h 44 dX4_init_28 (by decide) rfl (fun _ => ?_) (fun q => absurd q (by decide))
  refine y_aload_n h 1 dX4_init_44 rfl (rfl : 44 + 1 = 45) ?_
  refine y_aload_n h 1 dX4_init_45 rfl (rfl : 45 + 1 = 46) ?_
  refine y_get (ci := 4) (C := RX4) (T := TX4) (N := 2) h 0 (.ref (za B 94)) rfl rfl (fun _ hq => List.mem_cons_of_mem _ (List.mem_append_right _ hq)) (by decide) (List.mem_of_getElem? (i := 2) rfl) (zfs_ref rfl (by rfl)) dX4_init_46 (rfl : 46 + 3 = 49) ?_
  refine y_alen h 5 rfl (by decide) (by decide) dX4_init_49 (rfl : 49 + 1 = 50) ?_
  refine y_putI (ci := 4) (C := RX4) (T := TX4) (N := 2) h 1 tyX4 tyX4_ok nmX4 rfl rfl (fun _ hq => List.mem_cons_of_mem _ (List.mem_append_right _ hq)) (by decide) (List.mem_of_getElem? (i := 3) rfl) rfl rfl rfl dX4_init_50 (rfl : 50 + 3 = 53) ?_
  exact y_ret h hr rfl rfl rfl rfl dX4_init_53
noncomputable abbrev rmX10_init_95 : Room := { frames := 1, cells := 0, slots := 0, locals := 24 }
def iIX10_init_95 (I : zM) : zM := I
def iJX10_init_95 (J : zJ) : zJ := J
theorem zZX10_init_95 {I : zM} {J : zJ} (hZ : zZ 96 I J) : zZ 96 (iIX10_init_95 I) (iJX10_init_95 J) := hZ
set_option maxHeartbeats 2000000 in
set_option maxRecDepth 100000 in
theorem c_X10_init_95 (B : zB) (hBs : zBs B) (I : zM) (J : zJ) (hZ : zZ 96 I J) : zCc B 96 I J yX10_init wsX10_init rmX10_init_95 [.ref (za B 95)] 96 (iIX10_init_95 I) (iJX10_init_95 J) := by
  refine y_start (own := RX10) (cc := cX10_init) (nL := 1) rfl (by decide) rfl rfl (Nat.le_of_ble_eq_true rfl) (L := [(0, .ref (za B 95))]) rfl (fun G h hr => ?_)
  refine y_aload_n h 0 dX10_init_0 rfl (rfl : 0 + 1 = 1) ?_
  refine y_objInit h (List.mem_of_getElem? (i := 1) rfl) (List.mem_of_getElem? (i := 2) rfl) (List.mem_of_getElem? (i := 3) rfl) (by decide) dX10_init_1 (rfl : 1 + 3 = 4) ?_
  exact y_ret h hr rfl rfl rfl rfl dX10_init_4
noncomputable abbrev rmX4_init_95 : Room := { frames := 3, cells := 1, slots := 5, locals := 100 }
def iIX4_init_95 (I : zM) : zM := zu (zu (zu (zu (zu (zu (zu (iIX10_init_95 I) 95 1 0) 96 0 0) 96 1 1) 96 2 2) 96 3 3) 96 4 4) 95 1 5
def iJX4_init_95 (J : zJ) : zJ := zuJ (iJX10_init_95 J) 95 0 (some 96)
theorem zZX4_init_95 {I : zM} {J : zJ} (hZ : zZ 96 I J) : zZ 97 (iIX4_init_95 I) (iJX4_init_95 J) := (zZ_zu (zZ_zu (zZ_zu (zZ_zu (zZ_zu (zZ_zu (zZ_zu (zZ_zuJ (zZ_up (m := 97) (zZX10_init_95 hZ) (by decide)) (by decide)) (by decide)) (by decide)) (by decide)) (by decide)) (by decide)) (by decide)) (by decide))
set_option maxHeartbeats 2000000 in
set_option maxRecDepth 100000 in
theorem c_X4_init_95 (B : zB) (hBs : zBs B) (I : zM) (J : zJ) (hZ : zZ 96 I J) : zCc B 96 I J yX4_init wsX4_init rmX4_init_95 [.ref (za B 95)] 97 (iIX4_init_95 I) (iJX4_init_95 J) := by
  refine y_start (own := RX4) (cc := cX4_init) (nL := 2) rfl (by decide) rfl rfl (Nat.le_of_ble_eq_true rfl) (L := [(0, .ref (za B 95))]) rfl (fun G h hr => ?_)
  refine y_aload_n h 0 dX4_init_0 rfl (rfl : 0 + 1 = 1) ?_
  refine y_callIN (n' := 96) (I' := iIX10_init_95 I) (J' := iJX10_init_95 J) h [] [] zyX10_init (c_X10_init_95 B hBs I J hZ) gX4_init_X10_init_n3 (List.mem_of_getElem? (i := 5) rfl) (List.mem_of_getElem? (i := 4) rfl) (List.mem_of_getElem? (i := 4) rfl) rfl ⟨by decide, by decide⟩ rfl (Nat.le_of_ble_eq_true rfl) ⟨by decide, by decide⟩ rfl dX4_init_1 (rfl : 1 + 3 = 4) ?_
  refine y_aload_n h 0 dX4_init_4 rfl (rfl : 4 + 1 = 5) ?_
  refine y_ldcS h ⟨rfl, rfl⟩ dX4_init_5 (rfl : 5 + 2 = 7) (fun a0 ha0 => ?_)
  refine y_runVx h [.ref (za B 95)] zyJ0_length_8abf5 (c_len B 96 (iIX10_init_95 I) (iJX10_init_95 J) a0) ha0 gX4_init_J0_length_8abf5 rfl rfl ⟨rfl, rfl, by decide, by decide⟩ (Nat.le_of_ble_eq_true rfl) ⟨Nat.zero_le _, Nat.zero_le _⟩ rfl dX4_init_7 (rfl : 7 + 3 = 10) ?_
  refine y_newa (atype := .int) (t := 0) (m := 5) h hBs (zZX10_init_95 hZ) (List.mem_of_getElem? (i := 1) rfl) (by decide) rfl rfl (by decide) (by decide) (by decide) rfl ⟨by decide, by decide⟩ dX4_init_10 (rfl : 10 + 2 = 12) ?_
  refine y_putR (ci := 4) (C := RX4) (T := TX4) (N := 2) h 0 tyX4 tyX4_ok nmX4 rfl rfl (fun _ hq => List.mem_cons_of_mem _ (List.mem_append_right _ hq)) (by decide) (List.mem_of_getElem? (i := 2) rfl) rfl rfl hr.2.2.2 rfl (Or.inr ⟨_, rfl⟩) dX4_init_12 (rfl : 12 + 3 = 15) ?_
  refine y_aload_n h 0 dX4_init_15 rfl (rfl : 15 + 1 = 16) ?_
  refine y_iconst h 0 dX4_init_16 (by decide) (rfl : 16 + 1 = 17) ?_
  refine y_putI (ci := 4) (C := RX4) (T := TX4) (N := 2) h 1 tyX4 tyX4_ok nmX4 rfl rfl (fun _ hq => List.mem_cons_of_mem _ (List.mem_append_right _ hq)) (by decide) (List.mem_of_getElem? (i := 3) rfl) rfl rfl rfl dX4_init_17 (rfl : 17 + 3 = 20) ?_
  refine y_iconst h 0 dX4_init_20 (by decide) (rfl : 20 + 1 = 21) ?_
  refine y_istore_n h [(1, .int 0), (0, .ref (za B 95))] dX4_init_21 (by decide) rfl (rfl : 21 + 1 = 22) ?_
  refine y_iload_n h 0 dX4_init_22 rfl (rfl : 22 + 1 = 23) ?_
  refine y_aload_n h 1 dX4_init_23 rfl (rfl : 23 + 1 = 24) ?_
  refine y_get (ci := 4) (C := RX4) (T := TX4) (N := 2) h 0 (.ref (za B 96)) rfl rfl (fun _ hq => List.mem_cons_of_mem _ (List.mem_append_right _ hq)) (by decide) (List.mem_of_getElem? (i := 2) rfl) (zfs_ref rfl (by rfl)) dX4_init_24 (rfl : 24 + 3 = 27) ?_
  refine y_alen h 5 rfl (by decide) (by decide) dX4_init_27 (rfl : 27 + 1 = 28) ?_
  refine y_icmp_ge (pc' := 31) h 44 dX4_init_28 (by decide) rfl (fun q => absurd q (by decide)) (fun _ => ?_)
  refine y_aload_n h 1 dX4_init_31 rfl (rfl : 31 + 1 = 32) ?_
  refine y_get (ci := 4) (C := RX4) (T := TX4) (N := 2) h 0 (.ref (za B 96)) rfl rfl (fun _ hq => List.mem_cons_of_mem _ (List.mem_append_right _ hq)) (by decide) (List.mem_of_getElem? (i := 2) rfl) (zfs_ref rfl (by rfl)) dX4_init_32 (rfl : 32 + 3 = 35) ?_
  refine y_iload_n h 0 dX4_init_35 rfl (rfl : 35 + 1 = 36) ?_
  refine y_iload_n h 0 dX4_init_36 rfl (rfl : 36 + 1 = 37) ?_
  refine y_iast h (by decide) rfl dX4_init_37 (rfl : 37 + 1 = 38) ?_
  refine y_iinc h 0 1 [(1, .int 1), (0, .ref (za B 95))] dX4_init_38 rfl (by decide) (by decide) rfl (rfl : 38 + 3 = 41) ?_
  refine y_goto (pc' := 22) h dX4_init_41 (by decide) ?_
  refine y_iload_n h 0 dX4_init_22 rfl (rfl : 22 + 1 = 23) ?_
  refine y_aload_n h 1 dX4_init_23 rfl (rfl : 23 + 1 = 24) ?_
  refine y_get (ci := 4) (C := RX4) (T := TX4) (N := 2) h 0 (.ref (za B 96)) rfl rfl (fun _ hq => List.mem_cons_of_mem _ (List.mem_append_right _ hq)) (by decide) (List.mem_of_getElem? (i := 2) rfl) (zfs_ref rfl (by rfl)) dX4_init_24 (rfl : 24 + 3 = 27) ?_
  refine y_alen h 5 rfl (by decide) (by decide) dX4_init_27 (rfl : 27 + 1 = 28) ?_
  refine y_icmp_ge (pc' := 31) h 44 dX4_init_28 (by decide) rfl (fun q => absurd q (by decide)) (fun _ => ?_)
  refine y_aload_n h 1 dX4_init_31 rfl (rfl : 31 + 1 = 32) ?_
  refine y_get (ci := 4) (C := RX4) (T := TX4) (N := 2) h 0 (.ref (za B 96)) rfl rfl (fun _ hq => List.mem_cons_of_mem _ (List.mem_append_right _ hq)) (by decide) (List.mem_of_getElem? (i := 2) rfl) (zfs_ref rfl (by rfl)) dX4_init_32 (rfl : 32 + 3 = 35) ?_
  refine y_iload_n h 0 dX4_init_35 rfl (rfl : 35 + 1 = 36) ?_
  refine y_iload_n h 0 dX4_init_36 rfl (rfl : 36 + 1 = 37) ?_
  refine y_iast h (by decide) rfl dX4_init_37 (rfl : 37 + 1 = 38) ?_
  refine y_iinc h 0 2 [(1, .int 2), (0, .ref (za B 95))] dX4_init_38 rfl (by decide) (by decide) rfl (rfl : 38 + 3 = 41) ?_
  refine y_goto (pc' := 22) h dX4_init_41 (by decide) ?_
  refine y_iload_n h 0 dX4_init_22 rfl (rfl : 22 + 1 = 23) ?_
  refine y_aload_n h 1 dX4_init_23 rfl (rfl : 23 + 1 = 24) ?_
  refine y_get (ci := 4) (C := RX4) (T := TX4) (N := 2) h 0 (.ref (za B 96)) rfl rfl (fun _ hq => List.mem_cons_of_mem _ (List.mem_append_right _ hq)) (by decide) (List.mem_of_getElem? (i := 2) rfl) (zfs_ref rfl (by rfl)) dX4_init_24 (rfl : 24 + 3 = 27) ?_
  refine y_alen h 5 rfl (by decide) (by decide) dX4_init_27 (rfl : 27 + 1 = 28) ?_
  refine y_icmp_ge (pc' := 31) h 44 dX4_init_28 (by decide) rfl (fun q => absurd q (by decide)) (fun _ => ?_)
  refine y_aload_n h 1 dX4_init_31 rfl (rfl : 31 + 1 = 32) ?_
  refine y_get (ci := 4) (C := RX4) (T := TX4) (N := 2) h 0 (.ref (za B 96)) rfl rfl (fun _ hq => List.mem_cons_of_mem _ (List.mem_append_right _ hq)) (by decide) (List.mem_of_getElem? (i := 2) rfl) (zfs_ref rfl (by rfl)) dX4_init_32 (rfl : 32 + 3 = 35) ?_
  refine y_iload_n h 0 dX4_init_35 rfl (rfl : 35 + 1 = 36) ?_
  refine y_iload_n h 0 dX4_init_36 rfl (rfl : 36 + 1 = 37) ?_
  refine y_iast h (by decide) rfl dX4_init_37 (rfl : 37 + 1 = 38) ?_
  refine y_iinc h 0 3 [(1, .int 3), (0, .ref (za B 95))] dX4_init_38 rfl (by decide) (by decide) rfl (rfl : 38 + 3 = 41) ?_
  refine y_goto (pc' := 22) h dX4_init_41 (by decide) ?_
  refine y_iload_n h 0 dX4_init_22 rfl (rfl : 22 + 1 = 23) ?_
  refine y_aload_n h 1 dX4_init_23 rfl (rfl : 23 + 1 = 24) ?_
  refine y_get (ci := 4) (C := RX4) (T := TX4) (N := 2) h 0 (.ref (za B 96)) rfl rfl (fun _ hq => List.mem_cons_of_mem _ (List.mem_append_right _ hq)) (by decide) (List.mem_of_getElem? (i := 2) rfl) (zfs_ref rfl (by rfl)) dX4_init_24 (rfl : 24 + 3 = 27) ?_
  refine y_alen h 5 rfl (by decide) (by decide) dX4_init_27 (rfl : 27 + 1 = 28) ?_
  refine y_icmp_ge (pc' := 31) h 44 dX4_init_28 (by decide) rfl (fun q => absurd q (by decide)) (fun _ => ?_)
  refine y_aload_n h 1 dX4_init_31 rfl (rfl : 31 + 1 = 32) ?_
  refine y_get (ci := 4) (C := RX4) (T := TX4) (N := 2) h 0 (.ref (za B 96)) rfl rfl (fun _ hq => List.mem_cons_of_mem _ (List.mem_append_right _ hq)) (by decide) (List.mem_of_getElem? (i := 2) rfl) (zfs_ref rfl (by rfl)) dX4_init_32 (rfl : 32 + 3 = 35) ?_
  refine y_iload_n h 0 dX4_init_35 rfl (rfl : 35 + 1 = 36) ?_
  refine y_iload_n h 0 dX4_init_36 rfl (rfl : 36 + 1 = 37) ?_
  refine y_iast h (by decide) rfl dX4_init_37 (rfl : 37 + 1 = 38) ?_
  refine y_iinc h 0 4 [(1, .int 4), (0, .ref (za B 95))] dX4_init_38 rfl (by decide) (by decide) rfl (rfl : 38 + 3 = 41) ?_
  refine y_goto (pc' := 22) h dX4_init_41 (by decide) ?_
  refine y_iload_n h 0 dX4_init_22 rfl (rfl : 22 + 1 = 23) ?_
  refine y_aload_n h 1 dX4_init_23 rfl (rfl : 23 + 1 = 24) ?_
  refine y_get (ci := 4) (C := RX4) (T := TX4) (N := 2) h 0 (.ref (za B 96)) rfl rfl (fun _ hq => List.mem_cons_of_mem _ (List.mem_append_right _ hq)) (by decide) (List.mem_of_getElem? (i := 2) rfl) (zfs_ref rfl (by rfl)) dX4_init_24 (rfl : 24 + 3 = 27) ?_
  refine y_alen h 5 rfl (by decide) (by decide) dX4_init_27 (rfl : 27 + 1 = 28) ?_
  refine y_icmp_ge (pc' := 31) h 44 dX4_init_28 (by decide) rfl (fun q => absurd q (by decide)) (fun _ => ?_)
  refine y_aload_n h 1 dX4_init_31 rfl (rfl : 31 + 1 = 32) ?_
  refine y_get (ci := 4) (C := RX4) (T := TX4) (N := 2) h 0 (.ref (za B 96)) rfl rfl (fun _ hq => List.mem_cons_of_mem _ (List.mem_append_right _ hq)) (by decide) (List.mem_of_getElem? (i := 2) rfl) (zfs_ref rfl (by rfl)) dX4_init_32 (rfl : 32 + 3 = 35) ?_
  refine y_iload_n h 0 dX4_init_35 rfl (rfl : 35 + 1 = 36) ?_
  refine y_iload_n h 0 dX4_init_36 rfl (rfl : 36 + 1 = 37) ?_
  refine y_iast h (by decide) rfl dX4_init_37 (rfl : 37 + 1 = 38) ?_
  refine y_iinc h 0 5 [(1, .int 5), (0, .ref (za B 95))] dX4_init_38 rfl (by decide) (by decide) rfl (rfl : 38 + 3 = 41) ?_
  refine y_goto (pc' := 22) h dX4_init_41 (by decide) ?_
  refine y_iload_n h 0 dX4_init_22 rfl (rfl : 22 + 1 = 23) ?_
  refine y_aload_n h 1 dX4_init_23 rfl (rfl : 23 + 1 = 24) ?_
  refine y_get (ci := 4) (C := RX4) (T := TX4) (N := 2) h 0 (.ref (za B 96)) rfl rfl (fun _ hq => List.mem_cons_of_mem _ (List.mem_append_right _ hq)) (by decide) (List.mem_of_getElem? (i := 2) rfl) (zfs_ref rfl (by rfl)) dX4_init_24 (rfl : 24 + 3 = 27) ?_
  refine y_alen h 5 rfl (by decide) (by decide) dX4_init_27 (rfl : 27 + 1 = 28) ?_
  refine y_icmp_ge (pc' := 31) h 44 dX4_init_28 (by decide) rfl (fun _ => ?_) (fun q => absurd q (by decide))
  refine y_aload_n h 1 dX4_init_44 rfl (rfl : 44 + 1 = 45) ?_
  refine y_aload_n h 1 dX4_init_45 rfl (rfl : 45 + 1 = 46) ?_
  refine y_get (ci := 4) (C := RX4) (T := TX4) (N := 2) h 0 (.ref (za B 96)) rfl rfl (fun _ hq => List.mem_cons_of_mem _ (List.mem_append_right _ hq)) (by decide) (List.mem_of_getElem? (i := 2) rfl) (zfs_ref rfl (by rfl)) dX4_init_46 (rfl : 46 + 3 = 49) ?_
  refine y_alen h 5 rfl (by decide) (by decide) dX4_init_49 (rfl : 49 + 1 = 50) ?_
  refine y_putI (ci := 4) (C := RX4) (T := TX4) (N := 2) h 1 tyX4 tyX4_ok nmX4 rfl rfl (fun _ hq => List.mem_cons_of_mem _ (List.mem_append_right _ hq)) (by decide) (List.mem_of_getElem? (i := 3) rfl) rfl rfl rfl dX4_init_50 (rfl : 50 + 3 = 53) ?_
  exact y_ret h hr rfl rfl rfl rfl dX4_init_53
noncomputable abbrev rmX10_init_97 : Room := { frames := 1, cells := 0, slots := 0, locals := 24 }
def iIX10_init_97 (I : zM) : zM := I
def iJX10_init_97 (J : zJ) : zJ := J
theorem zZX10_init_97 {I : zM} {J : zJ} (hZ : zZ 98 I J) : zZ 98 (iIX10_init_97 I) (iJX10_init_97 J) := hZ
set_option maxHeartbeats 2000000 in
set_option maxRecDepth 100000 in
theorem c_X10_init_97 (B : zB) (hBs : zBs B) (I : zM) (J : zJ) (hZ : zZ 98 I J) : zCc B 98 I J yX10_init wsX10_init rmX10_init_97 [.ref (za B 97)] 98 (iIX10_init_97 I) (iJX10_init_97 J) := by
  refine y_start (own := RX10) (cc := cX10_init) (nL := 1) rfl (by decide) rfl rfl (Nat.le_of_ble_eq_true rfl) (L := [(0, .ref (za B 97))]) rfl (fun G h hr => ?_)
  refine y_aload_n h 0 dX10_init_0 rfl (rfl : 0 + 1 = 1) ?_
  refine y_objInit h (List.mem_of_getElem? (i := 1) rfl) (List.mem_of_getElem? (i := 2) rfl) (List.mem_of_getElem? (i := 3) rfl) (by decide) dX10_init_1 (rfl : 1 + 3 = 4) ?_
  exact y_ret h hr rfl rfl rfl rfl dX10_init_4
noncomputable abbrev rmX4_init_97 : Room := { frames := 3, cells := 1, slots := 5, locals := 100 }
def iIX4_init_97 (I : zM) : zM := zu (zu (zu (zu (zu (zu (zu (iIX10_init_97 I) 97 1 0) 98 0 0) 98 1 1) 98 2 2) 98 3 3) 98 4 4) 97 1 5
def iJX4_init_97 (J : zJ) : zJ := zuJ (iJX10_init_97 J) 97 0 (some 98)
theorem zZX4_init_97 {I : zM} {J : zJ} (hZ : zZ 98 I J) : zZ 99 (iIX4_init_97 I) (iJX4_init_97 J) := (zZ_zu (zZ_zu (zZ_zu (zZ_zu (zZ_zu (zZ_zu (zZ_zu (zZ_zuJ (zZ_up (m := 99) (zZX10_init_97 hZ) (by decide)) (by decide)) (by decide)) (by decide)) (by decide)) (by decide)) (by decide)) (by decide)) (by decide))
set_option maxHeartbeats 2000000 in
set_option maxRecDepth 100000 in
theorem c_X4_init_97 (B : zB) (hBs : zBs B) (I : zM) (J : zJ) (hZ : zZ 98 I J) : zCc B 98 I J yX4_init wsX4_init rmX4_init_97 [.ref (za B 97)] 99 (iIX4_init_97 I) (iJX4_init_97 J) := by
  refine y_start (own := RX4) (cc := cX4_init) (nL := 2) rfl (by decide) rfl rfl (Nat.le_of_ble_eq_true rfl) (L := [(0, .ref (za B 97))]) rfl (fun G h hr => ?_)
  refine y_aload_n h 0 dX4_init_0 rfl (rfl : 0 + 1 = 1) ?_
  refine y_callIN (n' := 98) (I' := iIX10_init_97 I) (J' := iJX10_init_97 J) h [] [] zyX10_init (c_X10_init_97 B hBs I J hZ) gX4_init_X10_init_n3 (List.mem_of_getElem? (i := 5) rfl) (List.mem_of_getElem? (i := 4) rfl) (List.mem_of_getElem? (i := 4) rfl) rfl ⟨by decide, by decide⟩ rfl (Nat.le_of_ble_eq_true rfl) ⟨by decide, by decide⟩ rfl dX4_init_1 (rfl : 1 + 3 = 4) ?_
  refine y_aload_n h 0 dX4_init_4 rfl (rfl : 4 + 1 = 5) ?_
  refine y_ldcS h ⟨rfl, rfl⟩ dX4_init_5 (rfl : 5 + 2 = 7) (fun a0 ha0 => ?_)
  refine y_runVx h [.ref (za B 97)] zyJ0_length_8abf5 (c_len B 98 (iIX10_init_97 I) (iJX10_init_97 J) a0) ha0 gX4_init_J0_length_8abf5 rfl rfl ⟨rfl, rfl, by decide, by decide⟩ (Nat.le_of_ble_eq_true rfl) ⟨Nat.zero_le _, Nat.zero_le _⟩ rfl dX4_init_7 (rfl : 7 + 3 = 10) ?_
  refine y_newa (atype := .int) (t := 0) (m := 5) h hBs (zZX10_init_97 hZ) (List.mem_of_getElem? (i := 1) rfl) (by decide) rfl rfl (by decide) (by decide) (by decide) rfl ⟨by decide, by decide⟩ dX4_init_10 (rfl : 10 + 2 = 12) ?_
  refine y_putR (ci := 4) (C := RX4) (T := TX4) (N := 2) h 0 tyX4 tyX4_ok nmX4 rfl rfl (fun _ hq => List.mem_cons_of_mem _ (List.mem_append_right _ hq)) (by decide) (List.mem_of_getElem? (i := 2) rfl) rfl rfl hr.2.2.2 rfl (Or.inr ⟨_, rfl⟩) dX4_init_12 (rfl : 12 + 3 = 15) ?_
  refine y_aload_n h 0 dX4_init_15 rfl (rfl : 15 + 1 = 16) ?_
  refine y_iconst h 0 dX4_init_16 (by decide) (rfl : 16 + 1 = 17) ?_
  refine y_putI (ci := 4) (C := RX4) (T := TX4) (N := 2) h 1 tyX4 tyX4_ok nmX4 rfl rfl (fun _ hq => List.mem_cons_of_mem _ (List.mem_append_right _ hq)) (by decide) (List.mem_of_getElem? (i := 3) rfl) rfl rfl rfl dX4_init_17 (rfl : 17 + 3 = 20) ?_
  refine y_iconst h 0 dX4_init_20 (by decide) (rfl : 20 + 1 = 21) ?_
  refine y_istore_n h [(1, .int 0), (0, .ref (za B 97))] dX4_init_21 (by decide) rfl (rfl : 21 + 1 = 22) ?_
  refine y_iload_n h 0 dX4_init_22 rfl (rfl : 22 + 1 = 23) ?_
  refine y_aload_n h 1 dX4_init_23 rfl (rfl : 23 + 1 = 24) ?_
  refine y_get (ci := 4) (C := RX4) (T := TX4) (N := 2) h 0 (.ref (za B 98)) rfl rfl (fun _ hq => List.mem_cons_of_mem _ (List.mem_append_right _ hq)) (by decide) (List.mem_of_getElem? (i := 2) rfl) (zfs_ref rfl (by rfl)) dX4_init_24 (rfl : 24 + 3 = 27) ?_
  refine y_alen h 5 rfl (by decide) (by decide) dX4_init_27 (rfl : 27 + 1 = 28) ?_
  refine y_icmp_ge (pc' := 31) h 44 dX4_init_28 (by decide) rfl (fun q => absurd q (by decide)) (fun _ => ?_)
  refine y_aload_n h 1 dX4_init_31 rfl (rfl : 31 + 1 = 32) ?_
  refine y_get (ci := 4) (C := RX4) (T := TX4) (N := 2) h 0 (.ref (za B 98)) rfl rfl (fun _ hq => List.mem_cons_of_mem _ (List.mem_append_right _ hq)) (by decide) (List.mem_of_getElem? (i := 2) rfl) (zfs_ref rfl (by rfl)) dX4_init_32 (rfl : 32 + 3 = 35) ?_
  refine y_iload_n h 0 dX4_init_35 rfl (rfl : 35 + 1 = 36) ?_
  refine y_iload_n h 0 dX4_init_36 rfl (rfl : 36 + 1 = 37) ?_
  refine y_iast h (by decide) rfl dX4_init_37 (rfl : 37 + 1 = 38) ?_
  refine y_iinc h 0 1 [(1, .int 1), (0, .ref (za B 97))] dX4_init_38 rfl (by decide) (by decide) rfl (rfl : 38 + 3 = 41) ?_
  refine y_goto (pc' := 22) h dX4_init_41 (by decide) ?_
  refine y_iload_n h 0 dX4_init_22 rfl (rfl : 22 + 1 = 23) ?_
  refine y_aload_n h 1 dX4_init_23 rfl (rfl : 23 + 1 = 24) ?_
  refine y_get (ci := 4) (C := RX4) (T := TX4) (N := 2) h 0 (.ref (za B 98)) rfl rfl (fun _ hq => List.mem_cons_of_mem _ (List.mem_append_right _ hq)) (by decide) (List.mem_of_getElem? (i := 2) rfl) (zfs_ref rfl (by rfl)) dX4_init_24 (rfl : 24 + 3 = 27) ?_
  refine y_alen h 5 rfl (by decide) (by decide) dX4_init_27 (rfl : 27 + 1 = 28) ?_
  refine y_icmp_ge (pc' := 31) h 44 dX4_init_28 (by decide) rfl (fun q => absurd q (by decide)) (fun _ => ?_)
  refine y_aload_n h 1 dX4_init_31 rfl (rfl : 31 + 1 = 32) ?_
  refine y_get (ci := 4) (C := RX4) (T := TX4) (N := 2) h 0 (.ref (za B 98)) rfl rfl (fun _ hq => List.mem_cons_of_mem _ (List.mem_append_right _ hq)) (by decide) (List.mem_of_getElem? (i := 2) rfl) (zfs_ref rfl (by rfl)) dX4_init_32 (rfl : 32 + 3 = 35) ?_
  refine y_iload_n h 0 dX4_init_35 rfl (rfl : 35 + 1 = 36) ?_
  refine y_iload_n h 0 dX4_init_36 rfl (rfl : 36 + 1 = 37) ?_
  refine y_iast h (by decide) rfl dX4_init_37 (rfl : 37 + 1 = 38) ?_
  refine y_iinc h 0 2 [(1, .int 2), (0, .ref (za B 97))] dX4_init_38 rfl (by decide) (by decide) rfl (rfl : 38 + 3 = 41) ?_
  refine y_goto (pc' := 22) h dX4_init_41 (by decide) ?_
  refine y_iload_n h 0 dX4_init_22 rfl (rfl : 22 + 1 = 23) ?_
  refine y_aload_n h 1 dX4_init_23 rfl (rfl : 23 + 1 = 24) ?_
  refine y_get (ci := 4) (C := RX4) (T := TX4) (N := 2) h 0 (.ref (za B 98)) rfl rfl (fun _ hq => List.mem_cons_of_mem _ (List.mem_append_right _ hq)) (by decide) (List.mem_of_getElem? (i := 2) rfl) (zfs_ref rfl (by rfl)) dX4_init_24 (rfl : 24 + 3 = 27) ?_
  refine y_alen h 5 rfl (by decide) (by decide) dX4_init_27 (rfl : 27 + 1 = 28) ?_
  refine y_icmp_ge (pc' := 31) h 44 dX4_init_28 (by decide) rfl (fun q => absurd q (by decide)) (fun _ => ?_)
  refine y_aload_n h 1 dX4_init_31 rfl (rfl : 31 + 1 = 32) ?_
  refine y_get (ci := 4) (C := RX4) (T := TX4) (N := 2) h 0 (.ref (za B 98)) rfl rfl (fun _ hq => List.mem_cons_of_mem _ (List.mem_append_right _ hq)) (by decide) (List.mem_of_getElem? (i := 2) rfl) (zfs_ref rfl (by rfl)) dX4_init_32 (rfl : 32 + 3 = 35) ?_
  refine y_iload_n h 0 dX4_init_35 rfl (rfl : 35 + 1 = 36) ?_
  refine y_iload_n h 0 dX4_init_36 rfl (rfl : 36 + 1 = 37) ?_
  refine y_iast h (by decide) rfl dX4_init_37 (rfl : 37 + 1 = 38) ?_
  refine y_iinc h 0 3 [(1, .int 3), (0, .ref (za B 97))] dX4_init_38 rfl (by decide) (by decide) rfl (rfl : 38 + 3 = 41) ?_
  refine y_goto (pc' := 22) h dX4_init_41 (by decide) ?_
  refine y_iload_n h 0 dX4_init_22 rfl (rfl : 22 + 1 = 23) ?_
  refine y_aload_n h 1 dX4_init_23 rfl (rfl : 23 + 1 = 24) ?_
  refine y_get (ci := 4) (C := RX4) (T := TX4) (N := 2) h 0 (.ref (za B 98)) rfl rfl (fun _ hq => List.mem_cons_of_mem _ (List.mem_append_right _ hq)) (by decide) (List.mem_of_getElem? (i := 2) rfl) (zfs_ref rfl (by rfl)) dX4_init_24 (rfl : 24 + 3 = 27) ?_
  refine y_alen h 5 rfl (by decide) (by decide) dX4_init_27 (rfl : 27 + 1 = 28) ?_
  refine y_icmp_ge (pc' := 31) h 44 dX4_init_28 (by decide) rfl (fun q => absurd q (by decide)) (fun _ => ?_)
  refine y_aload_n h 1 dX4_init_31 rfl (rfl : 31 + 1 = 32) ?_
  refine y_get (ci := 4) (C := RX4) (T := TX4) (N := 2) h 0 (.ref (za B 98)) rfl rfl (fun _ hq => List.mem_cons_of_mem _ (List.mem_append_right _ hq)) (by decide) (List.mem_of_getElem? (i := 2) rfl) (zfs_ref rfl (by rfl)) dX4_init_32 (rfl : 32 + 3 = 35) ?_
  refine y_iload_n h 0 dX4_init_35 rfl (rfl : 35 + 1 = 36) ?_
  refine y_iload_n h 0 dX4_init_36 rfl (rfl : 36 + 1 = 37) ?_
  refine y_iast h (by decide) rfl dX4_init_37 (rfl : 37 + 1 = 38) ?_
  refine y_iinc h 0 4 [(1, .int 4), (0, .ref (za B 97))] dX4_init_38 rfl (by decide) (by decide) rfl (rfl : 38 + 3 = 41) ?_
  refine y_goto (pc' := 22) h dX4_init_41 (by decide) ?_
  refine y_iload_n h 0 dX4_init_22 rfl (rfl : 22 + 1 = 23) ?_
  refine y_aload_n h 1 dX4_init_23 rfl (rfl : 23 + 1 = 24) ?_
  refine y_get (ci := 4) (C := RX4) (T := TX4) (N := 2) h 0 (.ref (za B 98)) rfl rfl (fun _ hq => List.mem_cons_of_mem _ (List.mem_append_right _ hq)) (by decide) (List.mem_of_getElem? (i := 2) rfl) (zfs_ref rfl (by rfl)) dX4_init_24 (rfl : 24 + 3 = 27) ?_
  refine y_alen h 5 rfl (by decide) (by decide) dX4_init_27 (rfl : 27 + 1 = 28) ?_
  refine y_icmp_ge (pc' := 31) h 44 dX4_init_28 (by decide) rfl (fun q => absurd q (by decide)) (fun _ => ?_)
  refine y_aload_n h 1 dX4_init_31 rfl (rfl : 31 + 1 = 32) ?_
  refine y_get (ci := 4) (C := RX4) (T := TX4) (N := 2) h 0 (.ref (za B 98)) rfl rfl (fun _ hq => List.mem_cons_of_mem _ (List.mem_append_right _ hq)) (by decide) (List.mem_of_getElem? (i := 2) rfl) (zfs_ref rfl (by rfl)) dX4_init_32 (rfl : 32 + 3 = 35) ?_
  refine y_iload_n h 0 dX4_init_35 rfl (rfl : 35 + 1 = 36) ?_
  refine y_iload_n h 0 dX4_init_36 rfl (rfl : 36 + 1 = 37) ?_
  refine y_iast h (by decide) rfl dX4_init_37 (rfl : 37 + 1 = 38) ?_
  refine y_iinc h 0 5 [(1, .int 5), (0, .ref (za B 97))] dX4_init_38 rfl (by decide) (by decide) rfl (rfl : 38 + 3 = 41) ?_
  refine y_goto (pc' := 22) h dX4_init_41 (by decide) ?_
  refine y_iload_n h 0 dX4_init_22 rfl (rfl : 22 + 1 = 23) ?_
  refine y_aload_n h 1 dX4_init_23 rfl (rfl : 23 + 1 = 24) ?_
  refine y_get (ci := 4) (C := RX4) (T := TX4) (N := 2) h 0 (.ref (za B 98)) rfl rfl (fun _ hq => List.mem_cons_of_mem _ (List.mem_append_right _ hq)) (by decide) (List.mem_of_getElem? (i := 2) rfl) (zfs_ref rfl (by rfl)) dX4_init_24 (rfl : 24 + 3 = 27) ?_
  refine y_alen h 5 rfl (by decide) (by decide) dX4_init_27 (rfl : 27 + 1 = 28) ?_
  refine y_icmp_ge (pc' := 31) h 44 dX4_init_28 (by decide) rfl (fun _ => ?_) (fun q => absurd q (by decide))
  refine y_aload_n h 1 dX4_init_44 rfl (rfl : 44 + 1 = 45) ?_
  refine y_aload_n h 1 dX4_init_45 rfl (rfl : 45 + 1 = 46) ?_
  refine y_get (ci := 4) (C := RX4) (T := TX4) (N := 2) h 0 (.ref (za B 98)) rfl rfl (fun _ hq => List.mem_cons_of_mem _ (List.mem_append_right _ hq)) (by decide) (List.mem_of_getElem? (i := 2) rfl) (zfs_ref rfl (by rfl)) dX4_init_46 (rfl : 46 + 3 = 49) ?_
  refine y_alen h 5 rfl (by decide) (by decide) dX4_init_49 (rfl : 49 + 1 = 50) ?_
  refine y_putI (ci := 4) (C := RX4) (T := TX4) (N := 2) h 1 tyX4 tyX4_ok nmX4 rfl rfl (fun _ hq => List.mem_cons_of_mem _ (List.mem_append_right _ hq)) (by decide) (List.mem_of_getElem? (i := 3) rfl) rfl rfl rfl dX4_init_50 (rfl : 50 + 3 = 53) ?_
  exact y_ret h hr rfl rfl rfl rfl dX4_init_53
noncomputable abbrev rmX10_init_100 : Room := { frames := 1, cells := 0, slots := 0, locals := 24 }
def iIX10_init_100 (I : zM) : zM := I
def iJX10_init_100 (J : zJ) : zJ := J
theorem zZX10_init_100 {I : zM} {J : zJ} (hZ : zZ 101 I J) : zZ 101 (iIX10_init_100 I) (iJX10_init_100 J) := hZ
set_option maxHeartbeats 2000000 in
set_option maxRecDepth 100000 in
theorem c_X10_init_100 (B : zB) (hBs : zBs B) (I : zM) (J : zJ) (hZ : zZ 101 I J) : zCc B 101 I J yX10_init wsX10_init rmX10_init_100 [.ref (za B 100)] 101 (iIX10_init_100 I) (iJX10_init_100 J) := by
  refine y_start (own := RX10) (cc := cX10_init) (nL := 1) rfl (by decide) rfl rfl (Nat.le_of_ble_eq_true rfl) (L := [(0, .ref (za B 100))]) rfl (fun G h hr => ?_)
  refine y_aload_n h 0 dX10_init_0 rfl (rfl : 0 + 1 = 1) ?_
  refine y_objInit h (List.mem_of_getElem? (i := 1) rfl) (List.mem_of_getElem? (i := 2) rfl) (List.mem_of_getElem? (i := 3) rfl) (by decide) dX10_init_1 (rfl : 1 + 3 = 4) ?_
  exact y_ret h hr rfl rfl rfl rfl dX10_init_4
noncomputable abbrev rmX8_init_100 : Room := { frames := 2, cells := 1, slots := 6, locals := 44 }
def iIX8_init_100 (I : zM) : zM := zu (zu (iIX10_init_100 I) 100 1 0) 100 2 0
def iJX8_init_100 (J : zJ) : zJ := zuJ (iJX10_init_100 J) 100 0 (some 101)
theorem zZX8_init_100 {I : zM} {J : zJ} (hZ : zZ 101 I J) : zZ 102 (iIX8_init_100 I) (iJX8_init_100 J) := (zZ_zu (zZ_zu (zZ_zuJ (zZ_up (m := 102) (zZX10_init_100 hZ) (by decide)) (by decide)) (by decide)) (by decide))
set_option maxHeartbeats 2000000 in
set_option maxRecDepth 100000 in
theorem c_X8_init_100 (B : zB) (hBs : zBs B) (I : zM) (J : zJ) (hZ : zZ 101 I J) : zCc B 101 I J yX8_init wsX8_init rmX8_init_100 [.ref (za B 100)] 102 (iIX8_init_100 I) (iJX8_init_100 J) := by
  refine y_start (own := RX8) (cc := cX8_init) (nL := 1) rfl (by decide) rfl rfl (Nat.le_of_ble_eq_true rfl) (L := [(0, .ref (za B 100))]) rfl (fun G h hr => ?_)
  refine y_aload_n h 0 dX8_init_0 rfl (rfl : 0 + 1 = 1) ?_
  refine y_callIN (n' := 101) (I' := iIX10_init_100 I) (J' := iJX10_init_100 J) h [] [] zyX10_init (c_X10_init_100 B hBs I J hZ) gX8_init_X10_init_n3 (List.mem_of_getElem? (i := 6) rfl) (List.mem_of_getElem? (i := 6) rfl) (List.mem_of_getElem? (i := 5) rfl) rfl ⟨by decide, by decide⟩ rfl (Nat.le_of_ble_eq_true rfl) ⟨by decide, by decide⟩ rfl dX8_init_1 (rfl : 1 + 3 = 4) ?_
  refine y_aload_n h 0 dX8_init_4 rfl (rfl : 4 + 1 = 5) ?_
  refine y_bipush h 6 dX8_init_5 (by decide) (rfl : 5 + 2 = 7) ?_
  refine y_newa (atype := .int) (t := 0) (m := 6) h hBs (zZX10_init_100 hZ) (List.mem_of_getElem? (i := 1) rfl) (by decide) rfl rfl (by decide) (by decide) (by decide) rfl ⟨by decide, by decide⟩ dX8_init_7 (rfl : 7 + 2 = 9) ?_
  refine y_putR (ci := 8) (C := RX8) (T := TX8) (N := 3) h 0 tyX8 tyX8_ok nmX8 rfl rfl (fun _ hq => List.mem_cons_of_mem _ (List.mem_append_right _ hq)) (by decide) (List.mem_of_getElem? (i := 2) rfl) rfl rfl hr.2.2.2 rfl (Or.inr ⟨_, rfl⟩) dX8_init_9 (rfl : 9 + 3 = 12) ?_
  refine y_aload_n h 0 dX8_init_12 rfl (rfl : 12 + 1 = 13) ?_
  refine y_iconst h 0 dX8_init_13 (by decide) (rfl : 13 + 1 = 14) ?_
  refine y_putI (ci := 8) (C := RX8) (T := TX8) (N := 3) h 1 tyX8 tyX8_ok nmX8 rfl rfl (fun _ hq => List.mem_cons_of_mem _ (List.mem_append_right _ hq)) (by decide) (List.mem_of_getElem? (i := 3) rfl) rfl rfl rfl dX8_init_14 (rfl : 14 + 3 = 17) ?_
  refine y_aload_n h 0 dX8_init_17 rfl (rfl : 17 + 1 = 18) ?_
  refine y_iconst h 0 dX8_init_18 (by decide) (rfl : 18 + 1 = 19) ?_
  refine y_putI (ci := 8) (C := RX8) (T := TX8) (N := 3) h 2 tyX8 tyX8_ok nmX8 rfl rfl (fun _ hq => List.mem_cons_of_mem _ (List.mem_append_right _ hq)) (by decide) (List.mem_of_getElem? (i := 4) rfl) rfl rfl rfl dX8_init_19 (rfl : 19 + 3 = 22) ?_
  exact y_ret h hr rfl rfl rfl rfl dX8_init_22
theorem zyX0_init : zY yX0_init wsX0_init cX0_init 1 none 0 := ⟨⟨_, rfl⟩, by decide +kernel⟩
noncomputable abbrev rmX0_init_99 : Room := { frames := 3, cells := 5, slots := 23, locals := 64 }
def iIX0_init_99 (I : zM) : zM := iIX8_init_100 (zu (zu (zu I 99 0 0) 99 1 0) 99 2 0)
def iJX0_init_99 (J : zJ) : zJ := zuJ (zuJ (zuJ (zuJ (iJX8_init_100 J) 99 3 (some 100)) 102 0 (some 103)) 102 1 (some 104)) 99 4 (some 102)
theorem zZX0_init_99 {I : zM} {J : zJ} (hZ : zZ 100 I J) : zZ 105 (iIX0_init_99 I) (iJX0_init_99 J) := (zZ_zuJ (zZ_zuJ (zZ_zuJ (zZ_up (m := 105) (zZ_zuJ (zZX8_init_100 (zZ_up (m := 101) (zZ_zu (zZ_zu (zZ_zu hZ (by decide)) (by decide)) (by decide)) (by decide))) (by decide)) (by decide)) (by decide)) (by decide)) (by decide))
set_option maxHeartbeats 2000000 in
set_option maxRecDepth 100000 in
theorem c_X0_init_99 (B : zB) (hBs : zBs B) (I : zM) (J : zJ) (hZ : zZ 100 I J) : zCc B 100 I J yX0_init wsX0_init rmX0_init_99 [.ref (za B 99)] 105 (iIX0_init_99 I) (iJX0_init_99 J) := by
  refine y_start (own := RX0) (cc := cX0_init) (nL := 1) rfl (by decide) rfl rfl (Nat.le_of_ble_eq_true rfl) (L := [(0, .ref (za B 99))]) rfl (fun G h hr => ?_)
  refine y_aload_n h 0 dX0_init_0 rfl (rfl : 0 + 1 = 1) ?_
  refine y_objInit h (List.mem_of_getElem? (i := 1) rfl) (List.mem_of_getElem? (i := 2) rfl) (List.mem_of_getElem? (i := 3) rfl) (by decide) dX0_init_1 (rfl : 1 + 3 = 4) ?_
  refine y_aload_n h 0 dX0_init_4 rfl (rfl : 4 + 1 = 5) ?_
  refine y_iconst h 0 dX0_init_5 (by decide) (rfl : 5 + 1 = 6) ?_
  refine y_putI (ci := 0) (C := RX0) (T := TX0) (N := 5) h 0 tyX0 tyX0_ok nmX0 rfl rfl (fun _ hq => List.mem_cons_of_mem _ (List.mem_append_left _ (List.mem_append_right _ hq))) (by decide) (List.mem_of_getElem? (i := 4) rfl) rfl rfl rfl dX0_init_6 (rfl : 6 + 3 = 9) ?_
  refine y_aload_n h 0 dX0_init_9 rfl (rfl : 9 + 1 = 10) ?_
  refine y_iconst h 0 dX0_init_10 (by decide) (rfl : 10 + 1 = 11) ?_
  refine y_putI (ci := 0) (C := RX0) (T := TX0) (N := 5) h 1 tyX0 tyX0_ok nmX0 rfl rfl (fun _ hq => List.mem_cons_of_mem _ (List.mem_append_left _ (List.mem_append_right _ hq))) (by decide) (List.mem_of_getElem? (i := 5) rfl) rfl rfl rfl dX0_init_11 (rfl : 11 + 3 = 14) ?_
  refine y_aload_n h 0 dX0_init_14 rfl (rfl : 14 + 1 = 15) ?_
  refine y_iconst h 0 dX0_init_15 (by decide) (rfl : 15 + 1 = 16) ?_
  refine y_putI (ci := 0) (C := RX0) (T := TX0) (N := 5) h 2 tyX0 tyX0_ok nmX0 rfl rfl (fun _ hq => List.mem_cons_of_mem _ (List.mem_append_left _ (List.mem_append_right _ hq))) (by decide) (List.mem_of_getElem? (i := 6) rfl) rfl rfl rfl dX0_init_16 (rfl : 16 + 3 = 19) ?_
  refine y_aload_n h 0 dX0_init_19 rfl (rfl : 19 + 1 = 20) ?_
  refine y_new (ci := 8) (C := RX8) (T := TX8) (N := 3) h hBs (zZ_zu (zZ_zu (zZ_zu hZ (by decide)) (by decide)) (by decide)) (fun _ hq => List.mem_cons_of_mem _ (List.mem_append_right _ hq)) tyX8 tyX8_ok zdefX8 (List.mem_of_getElem? (i := 7) rfl) (List.mem_of_getElem? (i := 8) rfl) (List.mem_of_getElem? (i := 9) rfl) rfl rfl ⟨by decide, by decide⟩ dX0_init_20 (rfl : 20 + 3 = 23) ?_
  refine y_dup h rfl dX0_init_23 (rfl : 23 + 1 = 24) ?_
  refine y_callIN (n' := 102) (I' := iIX8_init_100 (zu (zu (zu I 99 0 0) 99 1 0) 99 2 0)) (J' := iJX8_init_100 J) h [] [.ref (za B 100), .ref (za B 99)] zyX8_init (c_X8_init_100 B hBs (zu (zu (zu I 99 0 0) 99 1 0) 99 2 0) J (zZ_up (m := 101) (zZ_zu (zZ_zu (zZ_zu hZ (by decide)) (by decide)) (by decide)) (by decide))) gX0_init_X8_init_n23 (List.mem_of_getElem? (i := 9) rfl) (List.mem_of_getElem? (i := 9) rfl) (List.mem_of_getElem? (i := 14) rfl) rfl ⟨by decide, by decide⟩ rfl (Nat.le_of_ble_eq_true rfl) ⟨by decide, by decide⟩ rfl dX0_init_24 (rfl : 24 + 3 = 27) ?_
  refine y_putR (ci := 0) (C := RX0) (T := TX0) (N := 5) h 3 tyX0 tyX0_ok nmX0 rfl rfl (fun _ hq => List.mem_cons_of_mem _ (List.mem_append_left _ (List.mem_append_right _ hq))) (by decide) (List.mem_of_getElem? (i := 10) rfl) rfl rfl hr.2.2.2 rfl (Or.inl ⟨_, rfl⟩) dX0_init_27 (rfl : 27 + 3 = 30) ?_
  refine y_aload_n h 0 dX0_init_30 rfl (rfl : 30 + 1 = 31) ?_
  refine y_iconst h 2 dX0_init_31 (by decide) (rfl : 31 + 1 = 32) ?_
  refine y_bipush h 6 dX0_init_32 (by decide) (rfl : 32 + 2 = 34) ?_
  refine y_mna h hBs (zZ_zuJ (zZX8_init_100 (zZ_up (m := 101) (zZ_zu (zZ_zu (zZ_zu hZ (by decide)) (by decide)) (by decide)) (by decide))) (by decide)) (List.mem_of_getElem? (i := 11) rfl) (List.mem_of_getElem? (i := 31) rfl) (List.mem_of_getElem? (i := 12) rfl) rfl rfl rfl ⟨by decide, by decide⟩ dX0_init_34 (rfl : 34 + 4 = 38) ?_
  refine y_putR (ci := 0) (C := RX0) (T := TX0) (N := 5) h 4 tyX0 tyX0_ok nmX0 rfl rfl (fun _ hq => List.mem_cons_of_mem _ (List.mem_append_left _ (List.mem_append_right _ hq))) (by decide) (List.mem_of_getElem? (i := 13) rfl) rfl rfl hr.2.2.2 rfl (Or.inr ⟨_, rfl⟩) dX0_init_38 (rfl : 38 + 3 = 41) ?_
  exact y_ret h hr rfl rfl rfl rfl dX0_init_41
noncomputable abbrev rmX10_init_106 : Room := { frames := 1, cells := 0, slots := 0, locals := 24 }
def iIX10_init_106 (I : zM) : zM := I
def iJX10_init_106 (J : zJ) : zJ := J
theorem zZX10_init_106 {I : zM} {J : zJ} (hZ : zZ 107 I J) : zZ 107 (iIX10_init_106 I) (iJX10_init_106 J) := hZ
set_option maxHeartbeats 2000000 in
set_option maxRecDepth 100000 in
theorem c_X10_init_106 (B : zB) (hBs : zBs B) (I : zM) (J : zJ) (hZ : zZ 107 I J) : zCc B 107 I J yX10_init wsX10_init rmX10_init_106 [.ref (za B 106)] 107 (iIX10_init_106 I) (iJX10_init_106 J) := by
  refine y_start (own := RX10) (cc := cX10_init) (nL := 1) rfl (by decide) rfl rfl (Nat.le_of_ble_eq_true rfl) (L := [(0, .ref (za B 106))]) rfl (fun G h hr => ?_)
  refine y_aload_n h 0 dX10_init_0 rfl (rfl : 0 + 1 = 1) ?_
  refine y_objInit h (List.mem_of_getElem? (i := 1) rfl) (List.mem_of_getElem? (i := 2) rfl) (List.mem_of_getElem? (i := 3) rfl) (by decide) dX10_init_1 (rfl : 1 + 3 = 4) ?_
  exact y_ret h hr rfl rfl rfl rfl dX10_init_4
noncomputable abbrev rmX8_init_106 : Room := { frames := 2, cells := 1, slots := 6, locals := 44 }
def iIX8_init_106 (I : zM) : zM := zu (zu (iIX10_init_106 I) 106 1 0) 106 2 0
def iJX8_init_106 (J : zJ) : zJ := zuJ (iJX10_init_106 J) 106 0 (some 107)
theorem zZX8_init_106 {I : zM} {J : zJ} (hZ : zZ 107 I J) : zZ 108 (iIX8_init_106 I) (iJX8_init_106 J) := (zZ_zu (zZ_zu (zZ_zuJ (zZ_up (m := 108) (zZX10_init_106 hZ) (by decide)) (by decide)) (by decide)) (by decide))
set_option maxHeartbeats 2000000 in
set_option maxRecDepth 100000 in
theorem c_X8_init_106 (B : zB) (hBs : zBs B) (I : zM) (J : zJ) (hZ : zZ 107 I J) : zCc B 107 I J yX8_init wsX8_init rmX8_init_106 [.ref (za B 106)] 108 (iIX8_init_106 I) (iJX8_init_106 J) := by
  refine y_start (own := RX8) (cc := cX8_init) (nL := 1) rfl (by decide) rfl rfl (Nat.le_of_ble_eq_true rfl) (L := [(0, .ref (za B 106))]) rfl (fun G h hr => ?_)
  refine y_aload_n h 0 dX8_init_0 rfl (rfl : 0 + 1 = 1) ?_
  refine y_callIN (n' := 107) (I' := iIX10_init_106 I) (J' := iJX10_init_106 J) h [] [] zyX10_init (c_X10_init_106 B hBs I J hZ) gX8_init_X10_init_n3 (List.mem_of_getElem? (i := 6) rfl) (List.mem_of_getElem? (i := 6) rfl) (List.mem_of_getElem? (i := 5) rfl) rfl ⟨by decide, by decide⟩ rfl (Nat.le_of_ble_eq_true rfl) ⟨by decide, by decide⟩ rfl dX8_init_1 (rfl : 1 + 3 = 4) ?_
  refine y_aload_n h 0 dX8_init_4 rfl (rfl : 4 + 1 = 5) ?_
  refine y_bipush h 6 dX8_init_5 (by decide) (rfl : 5 + 2 = 7) ?_
  refine y_newa (atype := .int) (t := 0) (m := 6) h hBs (zZX10_init_106 hZ) (List.mem_of_getElem? (i := 1) rfl) (by decide) rfl rfl (by decide) (by decide) (by decide) rfl ⟨by decide, by decide⟩ dX8_init_7 (rfl : 7 + 2 = 9) ?_
  refine y_putR (ci := 8) (C := RX8) (T := TX8) (N := 3) h 0 tyX8 tyX8_ok nmX8 rfl rfl (fun _ hq => List.mem_cons_of_mem _ (List.mem_append_right _ hq)) (by decide) (List.mem_of_getElem? (i := 2) rfl) rfl rfl hr.2.2.2 rfl (Or.inr ⟨_, rfl⟩) dX8_init_9 (rfl : 9 + 3 = 12) ?_
  refine y_aload_n h 0 dX8_init_12 rfl (rfl : 12 + 1 = 13) ?_
  refine y_iconst h 0 dX8_init_13 (by decide) (rfl : 13 + 1 = 14) ?_
  refine y_putI (ci := 8) (C := RX8) (T := TX8) (N := 3) h 1 tyX8 tyX8_ok nmX8 rfl rfl (fun _ hq => List.mem_cons_of_mem _ (List.mem_append_right _ hq)) (by decide) (List.mem_of_getElem? (i := 3) rfl) rfl rfl rfl dX8_init_14 (rfl : 14 + 3 = 17) ?_
  refine y_aload_n h 0 dX8_init_17 rfl (rfl : 17 + 1 = 18) ?_
  refine y_iconst h 0 dX8_init_18 (by decide) (rfl : 18 + 1 = 19) ?_
  refine y_putI (ci := 8) (C := RX8) (T := TX8) (N := 3) h 2 tyX8 tyX8_ok nmX8 rfl rfl (fun _ hq => List.mem_cons_of_mem _ (List.mem_append_right _ hq)) (by decide) (List.mem_of_getElem? (i := 4) rfl) rfl rfl rfl dX8_init_19 (rfl : 19 + 3 = 22) ?_
  exact y_ret h hr rfl rfl rfl rfl dX8_init_22
noncomputable abbrev rmX0_init_105 : Room := { frames := 3, cells := 5, slots := 23, locals := 64 }
def iIX0_init_105 (I : zM) : zM := iIX8_init_106 (zu (zu (zu I 105 0 0) 105 1 0) 105 2 0)
def iJX0_init_105 (J : zJ) : zJ := zuJ (zuJ (zuJ (zuJ (iJX8_init_106 J) 105 3 (some 106)) 108 0 (some 109)) 108 1 (some 110)) 105 4 (some 108)
theorem zZX0_init_105 {I : zM} {J : zJ} (hZ : zZ 106 I J) : zZ 111 (iIX0_init_105 I) (iJX0_init_105 J) := (zZ_zuJ (zZ_zuJ (zZ_zuJ (zZ_up (m := 111) (zZ_zuJ (zZX8_init_106 (zZ_up (m := 107) (zZ_zu (zZ_zu (zZ_zu hZ (by decide)) (by decide)) (by decide)) (by decide))) (by decide)) (by decide)) (by decide)) (by decide)) (by decide))
set_option maxHeartbeats 2000000 in
set_option maxRecDepth 100000 in
theorem c_X0_init_105 (B : zB) (hBs : zBs B) (I : zM) (J : zJ) (hZ : zZ 106 I J) : zCc B 106 I J yX0_init wsX0_init rmX0_init_105 [.ref (za B 105)] 111 (iIX0_init_105 I) (iJX0_init_105 J) := by
  refine y_start (own := RX0) (cc := cX0_init) (nL := 1) rfl (by decide) rfl rfl (Nat.le_of_ble_eq_true rfl) (L := [(0, .ref (za B 105))]) rfl (fun G h hr => ?_)
  refine y_aload_n h 0 dX0_init_0 rfl (rfl : 0 + 1 = 1) ?_
  refine y_objInit h (List.mem_of_getElem? (i := 1) rfl) (List.mem_of_getElem? (i := 2) rfl) (List.mem_of_getElem? (i := 3) rfl) (by decide) dX0_init_1 (rfl : 1 + 3 = 4) ?_
  refine y_aload_n h 0 dX0_init_4 rfl (rfl : 4 + 1 = 5) ?_
  refine y_iconst h 0 dX0_init_5 (by decide) (rfl : 5 + 1 = 6) ?_
  refine y_putI (ci := 0) (C := RX0) (T := TX0) (N := 5) h 0 tyX0 tyX0_ok nmX0 rfl rfl (fun _ hq => List.mem_cons_of_mem _ (List.mem_append_left _ (List.mem_append_right _ hq))) (by decide) (List.mem_of_getElem? (i := 4) rfl) rfl rfl rfl dX0_init_6 (rfl : 6 + 3 = 9) ?_
  refine y_aload_n h 0 dX0_init_9 rfl (rfl : 9 + 1 = 10) ?_
  refine y_iconst h 0 dX0_init_10 (by decide) (rfl : 10 + 1 = 11) ?_
  refine y_putI (ci := 0) (C := RX0) (T := TX0) (N := 5) h 1 tyX0 tyX0_ok nmX0 rfl rfl (fun _ hq => List.mem_cons_of_mem _ (List.mem_append_left _ (List.mem_append_right _ hq))) (by decide) (List.mem_of_getElem? (i := 5) rfl) rfl rfl rfl dX0_init_11 (rfl : 11 + 3 = 14) ?_
  refine y_aload_n h 0 dX0_init_14 rfl (rfl : 14 + 1 = 15) ?_
  refine y_iconst h 0 dX0_init_15 (by decide) (rfl : 15 + 1 = 16) ?_
  refine y_putI (ci := 0) (C := RX0) (T := TX0) (N := 5) h 2 tyX0 tyX0_ok nmX0 rfl rfl (fun _ hq => List.mem_cons_of_mem _ (List.mem_append_left _ (List.mem_append_right _ hq))) (by decide) (List.mem_of_getElem? (i := 6) rfl) rfl rfl rfl dX0_init_16 (rfl : 16 + 3 = 19) ?_
  refine y_aload_n h 0 dX0_init_19 rfl (rfl : 19 + 1 = 20) ?_
  refine y_new (ci := 8) (C := RX8) (T := TX8) (N := 3) h hBs (zZ_zu (zZ_zu (zZ_zu hZ (by decide)) (by decide)) (by decide)) (fun _ hq => List.mem_cons_of_mem _ (List.mem_append_right _ hq)) tyX8 tyX8_ok zdefX8 (List.mem_of_getElem? (i := 7) rfl) (List.mem_of_getElem? (i := 8) rfl) (List.mem_of_getElem? (i := 9) rfl) rfl rfl ⟨by decide, by decide⟩ dX0_init_20 (rfl : 20 + 3 = 23) ?_
  refine y_dup h rfl dX0_init_23 (rfl : 23 + 1 = 24) ?_
  refine y_callIN (n' := 108) (I' := iIX8_init_106 (zu (zu (zu I 105 0 0) 105 1 0) 105 2 0)) (J' := iJX8_init_106 J) h [] [.ref (za B 106), .ref (za B 105)] zyX8_init (c_X8_init_106 B hBs (zu (zu (zu I 105 0 0) 105 1 0) 105 2 0) J (zZ_up (m := 107) (zZ_zu (zZ_zu (zZ_zu hZ (by decide)) (by decide)) (by decide)) (by decide))) gX0_init_X8_init_n23 (List.mem_of_getElem? (i := 9) rfl) (List.mem_of_getElem? (i := 9) rfl) (List.mem_of_getElem? (i := 14) rfl) rfl ⟨by decide, by decide⟩ rfl (Nat.le_of_ble_eq_true rfl) ⟨by decide, by decide⟩ rfl dX0_init_24 (rfl : 24 + 3 = 27) ?_
  refine y_putR (ci := 0) (C := RX0) (T := TX0) (N := 5) h 3 tyX0 tyX0_ok nmX0 rfl rfl (fun _ hq => List.mem_cons_of_mem _ (List.mem_append_left _ (List.mem_append_right _ hq))) (by decide) (List.mem_of_getElem? (i := 10) rfl) rfl rfl hr.2.2.2 rfl (Or.inl ⟨_, rfl⟩) dX0_init_27 (rfl : 27 + 3 = 30) ?_
  refine y_aload_n h 0 dX0_init_30 rfl (rfl : 30 + 1 = 31) ?_
  refine y_iconst h 2 dX0_init_31 (by decide) (rfl : 31 + 1 = 32) ?_
  refine y_bipush h 6 dX0_init_32 (by decide) (rfl : 32 + 2 = 34) ?_
  refine y_mna h hBs (zZ_zuJ (zZX8_init_106 (zZ_up (m := 107) (zZ_zu (zZ_zu (zZ_zu hZ (by decide)) (by decide)) (by decide)) (by decide))) (by decide)) (List.mem_of_getElem? (i := 11) rfl) (List.mem_of_getElem? (i := 31) rfl) (List.mem_of_getElem? (i := 12) rfl) rfl rfl rfl ⟨by decide, by decide⟩ dX0_init_34 (rfl : 34 + 4 = 38) ?_
  refine y_putR (ci := 0) (C := RX0) (T := TX0) (N := 5) h 4 tyX0 tyX0_ok nmX0 rfl rfl (fun _ hq => List.mem_cons_of_mem _ (List.mem_append_left _ (List.mem_append_right _ hq))) (by decide) (List.mem_of_getElem? (i := 13) rfl) rfl rfl hr.2.2.2 rfl (Or.inr ⟨_, rfl⟩) dX0_init_38 (rfl : 38 + 3 = 41) ?_
  exact y_ret h hr rfl rfl rfl rfl dX0_init_41
noncomputable abbrev rmX10_init_112 : Room := { frames := 1, cells := 0, slots := 0, locals := 24 }
def iIX10_init_112 (I : zM) : zM := I
def iJX10_init_112 (J : zJ) : zJ := J
theorem zZX10_init_112 {I : zM} {J : zJ} (hZ : zZ 113 I J) : zZ 113 (iIX10_init_112 I) (iJX10_init_112 J) := hZ
set_option maxHeartbeats 2000000 in
set_option maxRecDepth 100000 in
theorem c_X10_init_112 (B : zB) (hBs : zBs B) (I : zM) (J : zJ) (hZ : zZ 113 I J) : zCc B 113 I J yX10_init wsX10_init rmX10_init_112 [.ref (za B 112)] 113 (iIX10_init_112 I) (iJX10_init_112 J) := by
  refine y_start (own := RX10) (cc := cX10_init) (nL := 1) rfl (by decide) rfl rfl (Nat.le_of_ble_eq_true rfl) (L := [(0, .ref (za B 112))]) rfl (fun G h hr => ?_)
  refine y_aload_n h 0 dX10_init_0 rfl (rfl : 0 + 1 = 1) ?_
  refine y_objInit h (List.mem_of_getElem? (i := 1) rfl) (List.mem_of_getElem? (i := 2) rfl) (List.mem_of_getElem? (i := 3) rfl) (by decide) dX10_init_1 (rfl : 1 + 3 = 4) ?_
  exact y_ret h hr rfl rfl rfl rfl dX10_init_4
noncomputable abbrev rmX8_init_112 : Room := { frames := 2, cells := 1, slots := 6, locals := 44 }
def iIX8_init_112 (I : zM) : zM := zu (zu (iIX10_init_112 I) 112 1 0) 112 2 0
def iJX8_init_112 (J : zJ) : zJ := zuJ (iJX10_init_112 J) 112 0 (some 113)
theorem zZX8_init_112 {I : zM} {J : zJ} (hZ : zZ 113 I J) : zZ 114 (iIX8_init_112 I) (iJX8_init_112 J) := (zZ_zu (zZ_zu (zZ_zuJ (zZ_up (m := 114) (zZX10_init_112 hZ) (by decide)) (by decide)) (by decide)) (by decide))
set_option maxHeartbeats 2000000 in
set_option maxRecDepth 100000 in
theorem c_X8_init_112 (B : zB) (hBs : zBs B) (I : zM) (J : zJ) (hZ : zZ 113 I J) : zCc B 113 I J yX8_init wsX8_init rmX8_init_112 [.ref (za B 112)] 114 (iIX8_init_112 I) (iJX8_init_112 J) := by
  refine y_start (own := RX8) (cc := cX8_init) (nL := 1) rfl (by decide) rfl rfl (Nat.le_of_ble_eq_true rfl) (L := [(0, .ref (za B 112))]) rfl (fun G h hr => ?_)
  refine y_aload_n h 0 dX8_init_0 rfl (rfl : 0 + 1 = 1) ?_
  refine y_callIN (n' := 113) (I' := iIX10_init_112 I) (J' := iJX10_init_112 J) h [] [] zyX10_init (c_X10_init_112 B hBs I J hZ) gX8_init_X10_init_n3 (List.mem_of_getElem? (i := 6) rfl) (List.mem_of_getElem? (i := 6) rfl) (List.mem_of_getElem? (i := 5) rfl) rfl ⟨by decide, by decide⟩ rfl (Nat.le_of_ble_eq_true rfl) ⟨by decide, by decide⟩ rfl dX8_init_1 (rfl : 1 + 3 = 4) ?_
  refine y_aload_n h 0 dX8_init_4 rfl (rfl : 4 + 1 = 5) ?_
  refine y_bipush h 6 dX8_init_5 (by decide) (rfl : 5 + 2 = 7) ?_
  refine y_newa (atype := .int) (t := 0) (m := 6) h hBs (zZX10_init_112 hZ) (List.mem_of_getElem? (i := 1) rfl) (by decide) rfl rfl (by decide) (by decide) (by decide) rfl ⟨by decide, by decide⟩ dX8_init_7 (rfl : 7 + 2 = 9) ?_
  refine y_putR (ci := 8) (C := RX8) (T := TX8) (N := 3) h 0 tyX8 tyX8_ok nmX8 rfl rfl (fun _ hq => List.mem_cons_of_mem _ (List.mem_append_right _ hq)) (by decide) (List.mem_of_getElem? (i := 2) rfl) rfl rfl hr.2.2.2 rfl (Or.inr ⟨_, rfl⟩) dX8_init_9 (rfl : 9 + 3 = 12) ?_
  refine y_aload_n h 0 dX8_init_12 rfl (rfl : 12 + 1 = 13) ?_
  refine y_iconst h 0 dX8_init_13 (by decide) (rfl : 13 + 1 = 14) ?_
  refine y_putI (ci := 8) (C := RX8) (T := TX8) (N := 3) h 1 tyX8 tyX8_ok nmX8 rfl rfl (fun _ hq => List.mem_cons_of_mem _ (List.mem_append_right _ hq)) (by decide) (List.mem_of_getElem? (i := 3) rfl) rfl rfl rfl dX8_init_14 (rfl : 14 + 3 = 17) ?_
  refine y_aload_n h 0 dX8_init_17 rfl (rfl : 17 + 1 = 18) ?_
  refine y_iconst h 0 dX8_init_18 (by decide) (rfl : 18 + 1 = 19) ?_
  refine y_putI (ci := 8) (C := RX8) (T := TX8) (N := 3) h 2 tyX8 tyX8_ok nmX8 rfl rfl (fun _ hq => List.mem_cons_of_mem _ (List.mem_append_right _ hq)) (by decide) (List.mem_of_getElem? (i := 4) rfl) rfl rfl rfl dX8_init_19 (rfl : 19 + 3 = 22) ?_
  exact y_ret h hr rfl rfl rfl rfl dX8_init_22
noncomputable abbrev rmX0_init_111 : Room := { frames := 3, cells := 5, slots := 23, locals := 64 }
def iIX0_init_111 (I : zM) : zM := iIX8_init_112 (zu (zu (zu I 111 0 0) 111 1 0) 111 2 0)
def iJX0_init_111 (J : zJ) : zJ := zuJ (zuJ (zuJ (zuJ (iJX8_init_112 J) 111 3 (some 112)) 114 0 (some 115)) 114 1 (some 116)) 111 4 (some 114)
theorem zZX0_init_111 {I : zM} {J : zJ} (hZ : zZ 112 I J) : zZ 117 (iIX0_init_111 I) (iJX0_init_111 J) := (zZ_zuJ (zZ_zuJ (zZ_zuJ (zZ_up (m := 117) (zZ_zuJ (zZX8_init_112 (zZ_up (m := 113) (zZ_zu (zZ_zu (zZ_zu hZ (by decide)) (by decide)) (by decide)) (by decide))) (by decide)) (by decide)) (by decide)) (by decide)) (by decide))
set_option maxHeartbeats 2000000 in
set_option maxRecDepth 100000 in
theorem c_X0_init_111 (B : zB) (hBs : zBs B) (I : zM) (J : zJ) (hZ : zZ 112 I J) : zCc B 112 I J yX0_init wsX0_init rmX0_init_111 [.ref (za B 111)] 117 (iIX0_init_111 I) (iJX0_init_111 J) := by
  refine y_start (own := RX0) (cc := cX0_init) (nL := 1) rfl (by decide) rfl rfl (Nat.le_of_ble_eq_true rfl) (L := [(0, .ref (za B 111))]) rfl (fun G h hr => ?_)
  refine y_aload_n h 0 dX0_init_0 rfl (rfl : 0 + 1 = 1) ?_
  refine y_objInit h (List.mem_of_getElem? (i := 1) rfl) (List.mem_of_getElem? (i := 2) rfl) (List.mem_of_getElem? (i := 3) rfl) (by decide) dX0_init_1 (rfl : 1 + 3 = 4) ?_
  refine y_aload_n h 0 dX0_init_4 rfl (rfl : 4 + 1 = 5) ?_
  refine y_iconst h 0 dX0_init_5 (by decide) (rfl : 5 + 1 = 6) ?_
  refine y_putI (ci := 0) (C := RX0) (T := TX0) (N := 5) h 0 tyX0 tyX0_ok nmX0 rfl rfl (fun _ hq => List.mem_cons_of_mem _ (List.mem_append_left _ (List.mem_append_right _ hq))) (by decide) (List.mem_of_getElem? (i := 4) rfl) rfl rfl rfl dX0_init_6 (rfl : 6 + 3 = 9) ?_
  refine y_aload_n h 0 dX0_init_9 rfl (rfl : 9 + 1 = 10) ?_
  refine y_iconst h 0 dX0_init_10 (by decide) (rfl : 10 + 1 = 11) ?_
  refine y_putI (ci := 0) (C := RX0) (T := TX0) (N := 5) h 1 tyX0 tyX0_ok nmX0 rfl rfl (fun _ hq => List.mem_cons_of_mem _ (List.mem_append_left _ (List.mem_append_right _ hq))) (by decide) (List.mem_of_getElem? (i := 5) rfl) rfl rfl rfl dX0_init_11 (rfl : 11 + 3 = 14) ?_
  refine y_aload_n h 0 dX0_init_14 rfl (rfl : 14 + 1 = 15) ?_
  refine y_iconst h 0 dX0_init_15 (by decide) (rfl : 15 + 1 = 16) ?_
  refine y_putI (ci := 0) (C := RX0) (T := TX0) (N := 5) h 2 tyX0 tyX0_ok nmX0 rfl rfl (fun _ hq => List.mem_cons_of_mem _ (List.mem_append_left _ (List.mem_append_right _ hq))) (by decide) (List.mem_of_getElem? (i := 6) rfl) rfl rfl rfl dX0_init_16 (rfl : 16 + 3 = 19) ?_
  refine y_aload_n h 0 dX0_init_19 rfl (rfl : 19 + 1 = 20) ?_
  refine y_new (ci := 8) (C := RX8) (T := TX8) (N := 3) h hBs (zZ_zu (zZ_zu (zZ_zu hZ (by decide)) (by decide)) (by decide)) (fun _ hq => List.mem_cons_of_mem _ (List.mem_append_right _ hq)) tyX8 tyX8_ok zdefX8 (List.mem_of_getElem? (i := 7) rfl) (List.mem_of_getElem? (i := 8) rfl) (List.mem_of_getElem? (i := 9) rfl) rfl rfl ⟨by decide, by decide⟩ dX0_init_20 (rfl : 20 + 3 = 23) ?_
  refine y_dup h rfl dX0_init_23 (rfl : 23 + 1 = 24) ?_
  refine y_callIN (n' := 114) (I' := iIX8_init_112 (zu (zu (zu I 111 0 0) 111 1 0) 111 2 0)) (J' := iJX8_init_112 J) h [] [.ref (za B 112), .ref (za B 111)] zyX8_init (c_X8_init_112 B hBs (zu (zu (zu I 111 0 0) 111 1 0) 111 2 0) J (zZ_up (m := 113) (zZ_zu (zZ_zu (zZ_zu hZ (by decide)) (by decide)) (by decide)) (by decide))) gX0_init_X8_init_n23 (List.mem_of_getElem? (i := 9) rfl) (List.mem_of_getElem? (i := 9) rfl) (List.mem_of_getElem? (i := 14) rfl) rfl ⟨by decide, by decide⟩ rfl (Nat.le_of_ble_eq_true rfl) ⟨by decide, by decide⟩ rfl dX0_init_24 (rfl : 24 + 3 = 27) ?_
  refine y_putR (ci := 0) (C := RX0) (T := TX0) (N := 5) h 3 tyX0 tyX0_ok nmX0 rfl rfl (fun _ hq => List.mem_cons_of_mem _ (List.mem_append_left _ (List.mem_append_right _ hq))) (by decide) (List.mem_of_getElem? (i := 10) rfl) rfl rfl hr.2.2.2 rfl (Or.inl ⟨_, rfl⟩) dX0_init_27 (rfl : 27 + 3 = 30) ?_
  refine y_aload_n h 0 dX0_init_30 rfl (rfl : 30 + 1 = 31) ?_
  refine y_iconst h 2 dX0_init_31 (by decide) (rfl : 31 + 1 = 32) ?_
  refine y_bipush h 6 dX0_init_32 (by decide) (rfl : 32 + 2 = 34) ?_
  refine y_mna h hBs (zZ_zuJ (zZX8_init_112 (zZ_up (m := 113) (zZ_zu (zZ_zu (zZ_zu hZ (by decide)) (by decide)) (by decide)) (by decide))) (by decide)) (List.mem_of_getElem? (i := 11) rfl) (List.mem_of_getElem? (i := 31) rfl) (List.mem_of_getElem? (i := 12) rfl) rfl rfl rfl ⟨by decide, by decide⟩ dX0_init_34 (rfl : 34 + 4 = 38) ?_
  refine y_putR (ci := 0) (C := RX0) (T := TX0) (N := 5) h 4 tyX0 tyX0_ok nmX0 rfl rfl (fun _ hq => List.mem_cons_of_mem _ (List.mem_append_left _ (List.mem_append_right _ hq))) (by decide) (List.mem_of_getElem? (i := 13) rfl) rfl rfl hr.2.2.2 rfl (Or.inr ⟨_, rfl⟩) dX0_init_38 (rfl : 38 + 3 = 41) ?_
  exact y_ret h hr rfl rfl rfl rfl dX0_init_41
noncomputable abbrev rmX10_init_118 : Room := { frames := 1, cells := 0, slots := 0, locals := 24 }
def iIX10_init_118 (I : zM) : zM := I
def iJX10_init_118 (J : zJ) : zJ := J
theorem zZX10_init_118 {I : zM} {J : zJ} (hZ : zZ 119 I J) : zZ 119 (iIX10_init_118 I) (iJX10_init_118 J) := hZ
set_option maxHeartbeats 2000000 in
set_option maxRecDepth 100000 in
theorem c_X10_init_118 (B : zB) (hBs : zBs B) (I : zM) (J : zJ) (hZ : zZ 119 I J) : zCc B 119 I J yX10_init wsX10_init rmX10_init_118 [.ref (za B 118)] 119 (iIX10_init_118 I) (iJX10_init_118 J) := by
  refine y_start (own := RX10) (cc := cX10_init) (nL := 1) rfl (by decide) rfl rfl (Nat.le_of_ble_eq_true rfl) (L := [(0, .ref (za B 118))]) rfl (fun G h hr => ?_)
  refine y_aload_n h 0 dX10_init_0 rfl (rfl : 0 + 1 = 1) ?_
  refine y_objInit h (List.mem_of_getElem? (i := 1) rfl) (List.mem_of_getElem? (i := 2) rfl) (List.mem_of_getElem? (i := 3) rfl) (by decide) dX10_init_1 (rfl : 1 + 3 = 4) ?_
  exact y_ret h hr rfl rfl rfl rfl dX10_init_4
noncomputable abbrev rmX8_init_118 : Room := { frames := 2, cells := 1, slots := 6, locals := 44 }
def iIX8_init_118 (I : zM) : zM := zu (zu (iIX10_init_118 I) 118 1 0) 118 2 0
def iJX8_init_118 (J : zJ) : zJ := zuJ (iJX10_init_118 J) 118 0 (some 119)
theorem zZX8_init_118 {I : zM} {J : zJ} (hZ : zZ 119 I J) : zZ 120 (iIX8_init_118 I) (iJX8_init_118 J) := (zZ_zu (zZ_zu (zZ_zuJ (zZ_up (m := 120) (zZX10_init_118 hZ) (by decide)) (by decide)) (by decide)) (by decide))
set_option maxHeartbeats 2000000 in
set_option maxRecDepth 100000 in
theorem c_X8_init_118 (B : zB) (hBs : zBs B) (I : zM) (J : zJ) (hZ : zZ 119 I J) : zCc B 119 I J yX8_init wsX8_init rmX8_init_118 [.ref (za B 118)] 120 (iIX8_init_118 I) (iJX8_init_118 J) := by
  refine y_start (own := RX8) (cc := cX8_init) (nL := 1) rfl (by decide) rfl rfl (Nat.le_of_ble_eq_true rfl) (L := [(0, .ref (za B 118))]) rfl (fun G h hr => ?_)
  refine y_aload_n h 0 dX8_init_0 rfl (rfl : 0 + 1 = 1) ?_
  refine y_callIN (n' := 119) (I' := iIX10_init_118 I) (J' := iJX10_init_118 J) h [] [] zyX10_init (c_X10_init_118 B hBs I J hZ) gX8_init_X10_init_n3 (List.mem_of_getElem? (i := 6) rfl) (List.mem_of_getElem? (i := 6) rfl) (List.mem_of_getElem? (i := 5) rfl) rfl ⟨by decide, by decide⟩ rfl (Nat.le_of_ble_eq_true rfl) ⟨by decide, by decide⟩ rfl dX8_init_1 (rfl : 1 + 3 = 4) ?_
  refine y_aload_n h 0 dX8_init_4 rfl (rfl : 4 + 1 = 5) ?_
  refine y_bipush h 6 dX8_init_5 (by decide) (rfl : 5 + 2 = 7) ?_
  refine y_newa (atype := .int) (t := 0) (m := 6) h hBs (zZX10_init_118 hZ) (List.mem_of_getElem? (i := 1) rfl) (by decide) rfl rfl (by decide) (by decide) (by decide) rfl ⟨by decide, by decide⟩ dX8_init_7 (rfl : 7 + 2 = 9) ?_
  refine y_putR (ci := 8) (C := RX8) (T := TX8) (N := 3) h 0 tyX8 tyX8_ok nmX8 rfl rfl (fun _ hq => List.mem_cons_of_mem _ (List.mem_append_right _ hq)) (by decide) (List.mem_of_getElem? (i := 2) rfl) rfl rfl hr.2.2.2 rfl (Or.inr ⟨_, rfl⟩) dX8_init_9 (rfl : 9 + 3 = 12) ?_
  refine y_aload_n h 0 dX8_init_12 rfl (rfl : 12 + 1 = 13) ?_
  refine y_iconst h 0 dX8_init_13 (by decide) (rfl : 13 + 1 = 14) ?_
  refine y_putI (ci := 8) (C := RX8) (T := TX8) (N := 3) h 1 tyX8 tyX8_ok nmX8 rfl rfl (fun _ hq => List.mem_cons_of_mem _ (List.mem_append_right _ hq)) (by decide) (List.mem_of_getElem? (i := 3) rfl) rfl rfl rfl dX8_init_14 (rfl : 14 + 3 = 17) ?_
  refine y_aload_n h 0 dX8_init_17 rfl (rfl : 17 + 1 = 18) ?_
  refine y_iconst h 0 dX8_init_18 (by decide) (rfl : 18 + 1 = 19) ?_
  refine y_putI (ci := 8) (C := RX8) (T := TX8) (N := 3) h 2 tyX8 tyX8_ok nmX8 rfl rfl (fun _ hq => List.mem_cons_of_mem _ (List.mem_append_right _ hq)) (by decide) (List.mem_of_getElem? (i := 4) rfl) rfl rfl rfl dX8_init_19 (rfl : 19 + 3 = 22) ?_
  exact y_ret h hr rfl rfl rfl rfl dX8_init_22
noncomputable abbrev rmX0_init_117 : Room := { frames := 3, cells := 5, slots := 23, locals := 64 }
def iIX0_init_117 (I : zM) : zM := iIX8_init_118 (zu (zu (zu I 117 0 0) 117 1 0) 117 2 0)
def iJX0_init_117 (J : zJ) : zJ := zuJ (zuJ (zuJ (zuJ (iJX8_init_118 J) 117 3 (some 118)) 120 0 (some 121)) 120 1 (some 122)) 117 4 (some 120)
theorem zZX0_init_117 {I : zM} {J : zJ} (hZ : zZ 118 I J) : zZ 123 (iIX0_init_117 I) (iJX0_init_117 J) := (zZ_zuJ (zZ_zuJ (zZ_zuJ (zZ_up (m := 123) (zZ_zuJ (zZX8_init_118 (zZ_up (m := 119) (zZ_zu (zZ_zu (zZ_zu hZ (by decide)) (by decide)) (by decide)) (by decide))) (by decide)) (by decide)) (by decide)) (by decide)) (by decide))
set_option maxHeartbeats 2000000 in
set_option maxRecDepth 100000 in
theorem c_X0_init_117 (B : zB) (hBs : zBs B) (I : zM) (J : zJ) (hZ : zZ 118 I J) : zCc B 118 I J yX0_init wsX0_init rmX0_init_117 [.ref (za B 117)] 123 (iIX0_init_117 I) (iJX0_init_117 J) := by
  refine y_start (own := RX0) (cc := cX0_init) (nL := 1) rfl (by decide) rfl rfl (Nat.le_of_ble_eq_true rfl) (L := [(0, .ref (za B 117))]) rfl (fun G h hr => ?_)
  refine y_aload_n h 0 dX0_init_0 rfl (rfl : 0 + 1 = 1) ?_
  refine y_objInit h (List.mem_of_getElem? (i := 1) rfl) (List.mem_of_getElem? (i := 2) rfl) (List.mem_of_getElem? (i := 3) rfl) (by decide) dX0_init_1 (rfl : 1 + 3 = 4) ?_
  refine y_aload_n h 0 dX0_init_4 rfl (rfl : 4 + 1 = 5) ?_
  refine y_iconst h 0 dX0_init_5 (by decide) (rfl : 5 + 1 = 6) ?_
  refine y_putI (ci := 0) (C := RX0) (T := TX0) (N := 5) h 0 tyX0 tyX0_ok nmX0 rfl rfl (fun _ hq => List.mem_cons_of_mem _ (List.mem_append_left _ (List.mem_append_right _ hq))) (by decide) (List.mem_of_getElem? (i := 4) rfl) rfl rfl rfl dX0_init_6 (rfl : 6 + 3 = 9) ?_
  refine y_aload_n h 0 dX0_init_9 rfl (rfl : 9 + 1 = 10) ?_
  refine y_iconst h 0 dX0_init_10 (by decide) (rfl : 10 + 1 = 11) ?_
  refine y_putI (ci := 0) (C := RX0) (T := TX0) (N := 5) h 1 tyX0 tyX0_ok nmX0 rfl rfl (fun _ hq => List.mem_cons_of_mem _ (List.mem_append_left _ (List.mem_append_right _ hq))) (by decide) (List.mem_of_getElem? (i := 5) rfl) rfl rfl rfl dX0_init_11 (rfl : 11 + 3 = 14) ?_
  refine y_aload_n h 0 dX0_init_14 rfl (rfl : 14 + 1 = 15) ?_
  refine y_iconst h 0 dX0_init_15 (by decide) (rfl : 15 + 1 = 16) ?_
  refine y_putI (ci := 0) (C := RX0) (T := TX0) (N := 5) h 2 tyX0 tyX0_ok nmX0 rfl rfl (fun _ hq => List.mem_cons_of_mem _ (List.mem_append_left _ (List.mem_append_right _ hq))) (by decide) (List.mem_of_getElem? (i := 6) rfl) rfl rfl rfl dX0_init_16 (rfl : 16 + 3 = 19) ?_
  refine y_aload_n h 0 dX0_init_19 rfl (rfl : 19 + 1 = 20) ?_
  refine y_new (ci := 8) (C := RX8) (T := TX8) (N := 3) h hBs (zZ_zu (zZ_zu (zZ_zu hZ (by decide)) (by decide)) (by decide)) (fun _ hq => List.mem_cons_of_mem _ (List.mem_append_right _ hq)) tyX8 tyX8_ok zdefX8 (List.mem_of_getElem? (i := 7) rfl) (List.mem_of_getElem? (i := 8) rfl) (List.mem_of_getElem? (i := 9) rfl) rfl rfl ⟨by decide, by decide⟩ dX0_init_20 (rfl : 20 + 3 = 23) ?_
  refine y_dup h rfl dX0_init_23 (rfl : 23 + 1 = 24) ?_
  refine y_callIN (n' := 120) (I' := iIX8_init_118 (zu (zu (zu I 117 0 0) 117 1 0) 117 2 0)) (J' := iJX8_init_118 J) h [] [.ref (za B 118), .ref (za B 117)] zyX8_init (c_X8_init_118 B hBs (zu (zu (zu I 117 0 0) 117 1 0) 117 2 0) J (zZ_up (m := 119) (zZ_zu (zZ_zu (zZ_zu hZ (by decide)) (by decide)) (by decide)) (by decide))) gX0_init_X8_init_n23 (List.mem_of_getElem? (i := 9) rfl) (List.mem_of_getElem? (i := 9) rfl) (List.mem_of_getElem? (i := 14) rfl) rfl ⟨by decide, by decide⟩ rfl (Nat.le_of_ble_eq_true rfl) ⟨by decide, by decide⟩ rfl dX0_init_24 (rfl : 24 + 3 = 27) ?_
  refine y_putR (ci := 0) (C := RX0) (T := TX0) (N := 5) h 3 tyX0 tyX0_ok nmX0 rfl rfl (fun _ hq => List.mem_cons_of_mem _ (List.mem_append_left _ (List.mem_append_right _ hq))) (by decide) (List.mem_of_getElem? (i := 10) rfl) rfl rfl hr.2.2.2 rfl (Or.inl ⟨_, rfl⟩) dX0_init_27 (rfl : 27 + 3 = 30) ?_
  refine y_aload_n h 0 dX0_init_30 rfl (rfl : 30 + 1 = 31) ?_
  refine y_iconst h 2 dX0_init_31 (by decide) (rfl : 31 + 1 = 32) ?_
  refine y_bipush h 6 dX0_init_32 (by decide) (rfl : 32 + 2 = 34) ?_
  refine y_mna h hBs (zZ_zuJ (zZX8_init_118 (zZ_up (m := 119) (zZ_zu (zZ_zu (zZ_zu hZ (by decide)) (by decide)) (by decide)) (by decide))) (by decide)) (List.mem_of_getElem? (i := 11) rfl) (List.mem_of_getElem? (i := 31) rfl) (List.mem_of_getElem? (i := 12) rfl) rfl rfl rfl ⟨by decide, by decide⟩ dX0_init_34 (rfl : 34 + 4 = 38) ?_
  refine y_putR (ci := 0) (C := RX0) (T := TX0) (N := 5) h 4 tyX0 tyX0_ok nmX0 rfl rfl (fun _ hq => List.mem_cons_of_mem _ (List.mem_append_left _ (List.mem_append_right _ hq))) (by decide) (List.mem_of_getElem? (i := 13) rfl) rfl rfl hr.2.2.2 rfl (Or.inr ⟨_, rfl⟩) dX0_init_38 (rfl : 38 + 3 = 41) ?_
  exact y_ret h hr rfl rfl rfl rfl dX0_init_41
noncomputable abbrev rmX10_init_124 : Room := { frames := 1, cells := 0, slots := 0, locals := 24 }
def iIX10_init_124 (I : zM) : zM := I
def iJX10_init_124 (J : zJ) : zJ := J
theorem zZX10_init_124 {I : zM} {J : zJ} (hZ : zZ 125 I J) : zZ 125 (iIX10_init_124 I) (iJX10_init_124 J) := hZ
set_option maxHeartbeats 2000000 in
set_option maxRecDepth 100000 in
theorem c_X10_init_124 (B : zB) (hBs : zBs B) (I : zM) (J : zJ) (hZ : zZ 125 I J) : zCc B 125 I J yX10_init wsX10_init rmX10_init_124 [.ref (za B 124)] 125 (iIX10_init_124 I) (iJX10_init_124 J) := by
  refine y_start (own := RX10) (cc := cX10_init) (nL := 1) rfl (by decide) rfl rfl (Nat.le_of_ble_eq_true rfl) (L := [(0, .ref (za B 124))]) rfl (fun G h hr => ?_)
  refine y_aload_n h 0 dX10_init_0 rfl (rfl : 0 + 1 = 1) ?_
  refine y_objInit h (List.mem_of_getElem? (i := 1) rfl) (List.mem_of_getElem? (i := 2) rfl) (List.mem_of_getElem? (i := 3) rfl) (by decide) dX10_init_1 (rfl : 1 + 3 = 4) ?_
  exact y_ret h hr rfl rfl rfl rfl dX10_init_4
noncomputable abbrev rmX8_init_124 : Room := { frames := 2, cells := 1, slots := 6, locals := 44 }
def iIX8_init_124 (I : zM) : zM := zu (zu (iIX10_init_124 I) 124 1 0) 124 2 0
def iJX8_init_124 (J : zJ) : zJ := zuJ (iJX10_init_124 J) 124 0 (some 125)
theorem zZX8_init_124 {I : zM} {J : zJ} (hZ : zZ 125 I J) : zZ 126 (iIX8_init_124 I) (iJX8_init_124 J) := (zZ_zu (zZ_zu (zZ_zuJ (zZ_up (m := 126) (zZX10_init_124 hZ) (by decide)) (by decide)) (by decide)) (by decide))
set_option maxHeartbeats 2000000 in
set_option maxRecDepth 100000 in
theorem c_X8_init_124 (B : zB) (hBs : zBs B) (I : zM) (J : zJ) (hZ : zZ 125 I J) : zCc B 125 I J yX8_init wsX8_init rmX8_init_124 [.ref (za B 124)] 126 (iIX8_init_124 I) (iJX8_init_124 J) := by
  refine y_start (own := RX8) (cc := cX8_init) (nL := 1) rfl (by decide) rfl rfl (Nat.le_of_ble_eq_true rfl) (L := [(0, .ref (za B 124))]) rfl (fun G h hr => ?_)
  refine y_aload_n h 0 dX8_init_0 rfl (rfl : 0 + 1 = 1) ?_
  refine y_callIN (n' := 125) (I' := iIX10_init_124 I) (J' := iJX10_init_124 J) h [] [] zyX10_init (c_X10_init_124 B hBs I J hZ) gX8_init_X10_init_n3 (List.mem_of_getElem? (i := 6) rfl) (List.mem_of_getElem? (i := 6) rfl) (List.mem_of_getElem? (i := 5) rfl) rfl ⟨by decide, by decide⟩ rfl (Nat.le_of_ble_eq_true rfl) ⟨by decide, by decide⟩ rfl dX8_init_1 (rfl : 1 + 3 = 4) ?_
  refine y_aload_n h 0 dX8_init_4 rfl (rfl : 4 + 1 = 5) ?_
  refine y_bipush h 6 dX8_init_5 (by decide) (rfl : 5 + 2 = 7) ?_
  refine y_newa (atype := .int) (t := 0) (m := 6) h hBs (zZX10_init_124 hZ) (List.mem_of_getElem? (i := 1) rfl) (by decide) rfl rfl (by decide) (by decide) (by decide) rfl ⟨by decide, by decide⟩ dX8_init_7 (rfl : 7 + 2 = 9) ?_
  refine y_putR (ci := 8) (C := RX8) (T := TX8) (N := 3) h 0 tyX8 tyX8_ok nmX8 rfl rfl (fun _ hq => List.mem_cons_of_mem _ (List.mem_append_right _ hq)) (by decide) (List.mem_of_getElem? (i := 2) rfl) rfl rfl hr.2.2.2 rfl (Or.inr ⟨_, rfl⟩) dX8_init_9 (rfl : 9 + 3 = 12) ?_
  refine y_aload_n h 0 dX8_init_12 rfl (rfl : 12 + 1 = 13) ?_
  refine y_iconst h 0 dX8_init_13 (by decide) (rfl : 13 + 1 = 14) ?_
  refine y_putI (ci := 8) (C := RX8) (T := TX8) (N := 3) h 1 tyX8 tyX8_ok nmX8 rfl rfl (fun _ hq => List.mem_cons_of_mem _ (List.mem_append_right _ hq)) (by decide) (List.mem_of_getElem? (i := 3) rfl) rfl rfl rfl dX8_init_14 (rfl : 14 + 3 = 17) ?_
  refine y_aload_n h 0 dX8_init_17 rfl (rfl : 17 + 1 = 18) ?_
  refine y_iconst h 0 dX8_init_18 (by decide) (rfl : 18 + 1 = 19) ?_
  refine y_putI (ci := 8) (C := RX8) (T := TX8) (N := 3) h 2 tyX8 tyX8_ok nmX8 rfl rfl (fun _ hq => List.mem_cons_of_mem _ (List.mem_append_right _ hq)) (by decide) (List.mem_of_getElem? (i := 4) rfl) rfl rfl rfl dX8_init_19 (rfl : 19 + 3 = 22) ?_
  exact y_ret h hr rfl rfl rfl rfl dX8_init_22
noncomputable abbrev rmX0_init_123 : Room := { frames := 3, cells := 5, slots := 23, locals := 64 }
def iIX0_init_123 (I : zM) : zM := iIX8_init_124 (zu (zu (zu I 123 0 0) 123 1 0) 123 2 0)
def iJX0_init_123 (J : zJ) : zJ := zuJ (zuJ (zuJ (zuJ (iJX8_init_124 J) 123 3 (some 124)) 126 0 (some 127)) 126 1 (some 128)) 123 4 (some 126)
theorem zZX0_init_123 {I : zM} {J : zJ} (hZ : zZ 124 I J) : zZ 129 (iIX0_init_123 I) (iJX0_init_123 J) := (zZ_zuJ (zZ_zuJ (zZ_zuJ (zZ_up (m := 129) (zZ_zuJ (zZX8_init_124 (zZ_up (m := 125) (zZ_zu (zZ_zu (zZ_zu hZ (by decide)) (by decide)) (by decide)) (by decide))) (by decide)) (by decide)) (by decide)) (by decide)) (by decide))
set_option maxHeartbeats 2000000 in
set_option maxRecDepth 100000 in
theorem c_X0_init_123 (B : zB) (hBs : zBs B) (I : zM) (J : zJ) (hZ : zZ 124 I J) : zCc B 124 I J yX0_init wsX0_init rmX0_init_123 [.ref (za B 123)] 129 (iIX0_init_123 I) (iJX0_init_123 J) := by
  refine y_start (own := RX0) (cc := cX0_init) (nL := 1) rfl (by decide) rfl rfl (Nat.le_of_ble_eq_true rfl) (L := [(0, .ref (za B 123))]) rfl (fun G h hr => ?_)
  refine y_aload_n h 0 dX0_init_0 rfl (rfl : 0 + 1 = 1) ?_
  refine y_objInit h (List.mem_of_getElem? (i := 1) rfl) (List.mem_of_getElem? (i := 2) rfl) (List.mem_of_getElem? (i := 3) rfl) (by decide) dX0_init_1 (rfl : 1 + 3 = 4) ?_
  refine y_aload_n h 0 dX0_init_4 rfl (rfl : 4 + 1 = 5) ?_
  refine y_iconst h 0 dX0_init_5 (by decide) (rfl : 5 + 1 = 6) ?_
  refine y_putI (ci := 0) (C := RX0) (T := TX0) (N := 5) h 0 tyX0 tyX0_ok nmX0 rfl rfl (fun _ hq => List.mem_cons_of_mem _ (List.mem_append_left _ (List.mem_append_right _ hq))) (by decide) (List.mem_of_getElem? (i := 4) rfl) rfl rfl rfl dX0_init_6 (rfl : 6 + 3 = 9) ?_
  refine y_aload_n h 0 dX0_init_9 rfl (rfl : 9 + 1 = 10) ?_
  refine y_iconst h 0 dX0_init_10 (by decide) (rfl : 10 + 1 = 11) ?_
  refine y_putI (ci := 0) (C := RX0) (T := TX0) (N := 5) h 1 tyX0 tyX0_ok nmX0 rfl rfl (fun _ hq => List.mem_cons_of_mem _ (List.mem_append_left _ (List.mem_append_right _ hq))) (by decide) (List.mem_of_getElem? (i := 5) rfl) rfl rfl rfl dX0_init_11 (rfl : 11 + 3 = 14) ?_
  refine y_aload_n h 0 dX0_init_14 rfl (rfl : 14 + 1 = 15) ?_
  refine y_iconst h 0 dX0_init_15 (by decide) (rfl : 15 + 1 = 16) ?_
  refine y_putI (ci := 0) (C := RX0) (T := TX0) (N := 5) h 2 tyX0 tyX0_ok nmX0 rfl rfl (fun _ hq => List.mem_cons_of_mem _ (List.mem_append_left _ (List.mem_append_right _ hq))) (by decide) (List.mem_of_getElem? (i := 6) rfl) rfl rfl rfl dX0_init_16 (rfl : 16 + 3 = 19) ?_
  refine y_aload_n h 0 dX0_init_19 rfl (rfl : 19 + 1 = 20) ?_
  refine y_new (ci := 8) (C := RX8) (T := TX8) (N := 3) h hBs (zZ_zu (zZ_zu (zZ_zu hZ (by decide)) (by decide)) (by decide)) (fun _ hq => List.mem_cons_of_mem _ (List.mem_append_right _ hq)) tyX8 tyX8_ok zdefX8 (List.mem_of_getElem? (i := 7) rfl) (List.mem_of_getElem? (i := 8) rfl) (List.mem_of_getElem? (i := 9) rfl) rfl rfl ⟨by decide, by decide⟩ dX0_init_20 (rfl : 20 + 3 = 23) ?_
  refine y_dup h rfl dX0_init_23 (rfl : 23 + 1 = 24) ?_
  refine y_callIN (n' := 126) (I' := iIX8_init_124 (zu (zu (zu I 123 0 0) 123 1 0) 123 2 0)) (J' := iJX8_init_124 J) h [] [.ref (za B 124), .ref (za B 123)] zyX8_init (c_X8_init_124 B hBs (zu (zu (zu I 123 0 0) 123 1 0) 123 2 0) J (zZ_up (m := 125) (zZ_zu (zZ_zu (zZ_zu hZ (by decide)) (by decide)) (by decide)) (by decide))) gX0_init_X8_init_n23 (List.mem_of_getElem? (i := 9) rfl) (List.mem_of_getElem? (i := 9) rfl) (List.mem_of_getElem? (i := 14) rfl) rfl ⟨by decide, by decide⟩ rfl (Nat.le_of_ble_eq_true rfl) ⟨by decide, by decide⟩ rfl dX0_init_24 (rfl : 24 + 3 = 27) ?_
  refine y_putR (ci := 0) (C := RX0) (T := TX0) (N := 5) h 3 tyX0 tyX0_ok nmX0 rfl rfl (fun _ hq => List.mem_cons_of_mem _ (List.mem_append_left _ (List.mem_append_right _ hq))) (by decide) (List.mem_of_getElem? (i := 10) rfl) rfl rfl hr.2.2.2 rfl (Or.inl ⟨_, rfl⟩) dX0_init_27 (rfl : 27 + 3 = 30) ?_
  refine y_aload_n h 0 dX0_init_30 rfl (rfl : 30 + 1 = 31) ?_
  refine y_iconst h 2 dX0_init_31 (by decide) (rfl : 31 + 1 = 32) ?_
  refine y_bipush h 6 dX0_init_32 (by decide) (rfl : 32 + 2 = 34) ?_
  refine y_mna h hBs (zZ_zuJ (zZX8_init_124 (zZ_up (m := 125) (zZ_zu (zZ_zu (zZ_zu hZ (by decide)) (by decide)) (by decide)) (by decide))) (by decide)) (List.mem_of_getElem? (i := 11) rfl) (List.mem_of_getElem? (i := 31) rfl) (List.mem_of_getElem? (i := 12) rfl) rfl rfl rfl ⟨by decide, by decide⟩ dX0_init_34 (rfl : 34 + 4 = 38) ?_
  refine y_putR (ci := 0) (C := RX0) (T := TX0) (N := 5) h 4 tyX0 tyX0_ok nmX0 rfl rfl (fun _ hq => List.mem_cons_of_mem _ (List.mem_append_left _ (List.mem_append_right _ hq))) (by decide) (List.mem_of_getElem? (i := 13) rfl) rfl rfl hr.2.2.2 rfl (Or.inr ⟨_, rfl⟩) dX0_init_38 (rfl : 38 + 3 = 41) ?_
  exact y_ret h hr rfl rfl rfl rfl dX0_init_41
noncomputable abbrev rmX10_init_130 : Room := { frames := 1, cells := 0, slots := 0, locals := 24 }
def iIX10_init_130 (I : zM) : zM := I
def iJX10_init_130 (J : zJ) : zJ := J
theorem zZX10_init_130 {I : zM} {J : zJ} (hZ : zZ 131 I J) : zZ 131 (iIX10_init_130 I) (iJX10_init_130 J) := hZ
set_option maxHeartbeats 2000000 in
set_option maxRecDepth 100000 in
theorem c_X10_init_130 (B : zB) (hBs : zBs B) (I : zM) (J : zJ) (hZ : zZ 131 I J) : zCc B 131 I J yX10_init wsX10_init rmX10_init_130 [.ref (za B 130)] 131 (iIX10_init_130 I) (iJX10_init_130 J) := by
  refine y_start (own := RX10) (cc := cX10_init) (nL := 1) rfl (by decide) rfl rfl (Nat.le_of_ble_eq_true rfl) (L := [(0, .ref (za B 130))]) rfl (fun G h hr => ?_)
  refine y_aload_n h 0 dX10_init_0 rfl (rfl : 0 + 1 = 1) ?_
  refine y_objInit h (List.mem_of_getElem? (i := 1) rfl) (List.mem_of_getElem? (i := 2) rfl) (List.mem_of_getElem? (i := 3) rfl) (by decide) dX10_init_1 (rfl : 1 + 3 = 4) ?_
  exact y_ret h hr rfl rfl rfl rfl dX10_init_4
noncomputable abbrev rmX8_init_130 : Room := { frames := 2, cells := 1, slots := 6, locals := 44 }
def iIX8_init_130 (I : zM) : zM := zu (zu (iIX10_init_130 I) 130 1 0) 130 2 0
def iJX8_init_130 (J : zJ) : zJ := zuJ (iJX10_init_130 J) 130 0 (some 131)
theorem zZX8_init_130 {I : zM} {J : zJ} (hZ : zZ 131 I J) : zZ 132 (iIX8_init_130 I) (iJX8_init_130 J) := (zZ_zu (zZ_zu (zZ_zuJ (zZ_up (m := 132) (zZX10_init_130 hZ) (by decide)) (by decide)) (by decide)) (by decide))
set_option maxHeartbeats 2000000 in
set_option maxRecDepth 100000 in
theorem c_X8_init_130 (B : zB) (hBs : zBs B) (I : zM) (J : zJ) (hZ : zZ 131 I J) : zCc B 131 I J yX8_init wsX8_init rmX8_init_130 [.ref (za B 130)] 132 (iIX8_init_130 I) (iJX8_init_130 J) := by
  refine y_start (own := RX8) (cc := cX8_init) (nL := 1) rfl (by decide) rfl rfl (Nat.le_of_ble_eq_true rfl) (L := [(0, .ref (za B 130))]) rfl (fun G h hr => ?_)
  refine y_aload_n h 0 dX8_init_0 rfl (rfl : 0 + 1 = 1) ?_
  refine y_callIN (n' := 131) (I' := iIX10_init_130 I) (J' := iJX10_init_130 J) h [] [] zyX10_init (c_X10_init_130 B hBs I J hZ) gX8_init_X10_init_n3 (List.mem_of_getElem? (i := 6) rfl) (List.mem_of_getElem? (i := 6) rfl) (List.mem_of_getElem? (i := 5) rfl) rfl ⟨by decide, by decide⟩ rfl (Nat.le_of_ble_eq_true rfl) ⟨by decide, by decide⟩ rfl dX8_init_1 (rfl : 1 + 3 = 4) ?_
  refine y_aload_n h 0 dX8_init_4 rfl (rfl : 4 + 1 = 5) ?_
  refine y_bipush h 6 dX8_init_5 (by decide) (rfl : 5 + 2 = 7) ?_
  refine y_newa (atype := .int) (t := 0) (m := 6) h hBs (zZX10_init_130 hZ) (List.mem_of_getElem? (i := 1) rfl) (by decide) rfl rfl (by decide) (by decide) (by decide) rfl ⟨by decide, by decide⟩ dX8_init_7 (rfl : 7 + 2 = 9) ?_
  refine y_putR (ci := 8) (C := RX8) (T := TX8) (N := 3) h 0 tyX8 tyX8_ok nmX8 rfl rfl (fun _ hq => List.mem_cons_of_mem _ (List.mem_append_right _ hq)) (by decide) (List.mem_of_getElem? (i := 2) rfl) rfl rfl hr.2.2.2 rfl (Or.inr ⟨_, rfl⟩) dX8_init_9 (rfl : 9 + 3 = 12) ?_
  refine y_aload_n h 0 dX8_init_12 rfl (rfl : 12 + 1 = 13) ?_
  refine y_iconst h 0 dX8_init_13 (by decide) (rfl : 13 + 1 = 14) ?_
  refine y_putI (ci := 8) (C := RX8) (T := TX8) (N := 3) h 1 tyX8 tyX8_ok nmX8 rfl rfl (fun _ hq => List.mem_cons_of_mem _ (List.mem_append_right _ hq)) (by decide) (List.mem_of_getElem? (i := 3) rfl) rfl rfl rfl dX8_init_14 (rfl : 14 + 3 = 17) ?_
  refine y_aload_n h 0 dX8_init_17 rfl (rfl : 17 + 1 = 18) ?_
  refine y_iconst h 0 dX8_init_18 (by decide) (rfl : 18 + 1 = 19) ?_
  refine y_putI (ci := 8) (C := RX8) (T := TX8) (N := 3) h 2 tyX8 tyX8_ok nmX8 rfl rfl (fun _ hq => List.mem_cons_of_mem _ (List.mem_append_right _ hq)) (by decide) (List.mem_of_getElem? (i := 4) rfl) rfl rfl rfl dX8_init_19 (rfl : 19 + 3 = 22) ?_
  exact y_ret h hr rfl rfl rfl rfl dX8_init_22
noncomputable abbrev rmX0_init_129 : Room := { frames := 3, cells := 5, slots := 23, locals := 64 }
def iIX0_init_129 (I : zM) : zM := iIX8_init_130 (zu (zu (zu I 129 0 0) 129 1 0) 129 2 0)
def iJX0_init_129 (J : zJ) : zJ := zuJ (zuJ (zuJ (zuJ (iJX8_init_130 J) 129 3 (some 130)) 132 0 (some 133)) 132 1 (some 134)) 129 4 (some 132)
theorem zZX0_init_129 {I : zM} {J : zJ} (hZ : zZ 130 I J) : zZ 135 (iIX0_init_129 I) (iJX0_init_129 J) := (zZ_zuJ (zZ_zuJ (zZ_zuJ (zZ_up (m := 135) (zZ_zuJ (zZX8_init_130 (zZ_up (m := 131) (zZ_zu (zZ_zu (zZ_zu hZ (by decide)) (by decide)) (by decide)) (by decide))) (by decide)) (by decide)) (by decide)) (by decide)) (by decide))
set_option maxHeartbeats 2000000 in
set_option maxRecDepth 100000 in
theorem c_X0_init_129 (B : zB) (hBs : zBs B) (I : zM) (J : zJ) (hZ : zZ 130 I J) : zCc B 130 I J yX0_init wsX0_init rmX0_init_129 [.ref (za B 129)] 135 (iIX0_init_129 I) (iJX0_init_129 J) := by
  refine y_start (own := RX0) (cc := cX0_init) (nL := 1) rfl (by decide) rfl rfl (Nat.le_of_ble_eq_true rfl) (L := [(0, .ref (za B 129))]) rfl (fun G h hr => ?_)
  refine y_aload_n h 0 dX0_init_0 rfl (rfl : 0 + 1 = 1) ?_
  refine y_objInit h (List.mem_of_getElem? (i := 1) rfl) (List.mem_of_getElem? (i := 2) rfl) (List.mem_of_getElem? (i := 3) rfl) (by decide) dX0_init_1 (rfl : 1 + 3 = 4) ?_
  refine y_aload_n h 0 dX0_init_4 rfl (rfl : 4 + 1 = 5) ?_
  refine y_iconst h 0 dX0_init_5 (by decide) (rfl : 5 + 1 = 6) ?_
  refine y_putI (ci := 0) (C := RX0) (T := TX0) (N := 5) h 0 tyX0 tyX0_ok nmX0 rfl rfl (fun _ hq => List.mem_cons_of_mem _ (List.mem_append_left _ (List.mem_append_right _ hq))) (by decide) (List.mem_of_getElem? (i := 4) rfl) rfl rfl rfl dX0_init_6 (rfl : 6 + 3 = 9) ?_
  refine y_aload_n h 0 dX0_init_9 rfl (rfl : 9 + 1 = 10) ?_
  refine y_iconst h 0 dX0_init_10 (by decide) (rfl : 10 + 1 = 11) ?_
  refine y_putI (ci := 0) (C := RX0) (T := TX0) (N := 5) h 1 tyX0 tyX0_ok nmX0 rfl rfl (fun _ hq => List.mem_cons_of_mem _ (List.mem_append_left _ (List.mem_append_right _ hq))) (by decide) (List.mem_of_getElem? (i := 5) rfl) rfl rfl rfl dX0_init_11 (rfl : 11 + 3 = 14) ?_
  refine y_aload_n h 0 dX0_init_14 rfl (rfl : 14 + 1 = 15) ?_
  refine y_iconst h 0 dX0_init_15 (by decide) (rfl : 15 + 1 = 16) ?_
  refine y_putI (ci := 0) (C := RX0) (T := TX0) (N := 5) h 2 tyX0 tyX0_ok nmX0 rfl rfl (fun _ hq => List.mem_cons_of_mem _ (List.mem_append_left _ (List.mem_append_right _ hq))) (by decide) (List.mem_of_getElem? (i := 6) rfl) rfl rfl rfl dX0_init_16 (rfl : 16 + 3 = 19) ?_
  refine y_aload_n h 0 dX0_init_19 rfl (rfl : 19 + 1 = 20) ?_
  refine y_new (ci := 8) (C := RX8) (T := TX8) (N := 3) h hBs (zZ_zu (zZ_zu (zZ_zu hZ (by decide)) (by decide)) (by decide)) (fun _ hq => List.mem_cons_of_mem _ (List.mem_append_right _ hq)) tyX8 tyX8_ok zdefX8 (List.mem_of_getElem? (i := 7) rfl) (List.mem_of_getElem? (i := 8) rfl) (List.mem_of_getElem? (i := 9) rfl) rfl rfl ⟨by decide, by decide⟩ dX0_init_20 (rfl : 20 + 3 = 23) ?_
  refine y_dup h rfl dX0_init_23 (rfl : 23 + 1 = 24) ?_
  refine y_callIN (n' := 132) (I' := iIX8_init_130 (zu (zu (zu I 129 0 0) 129 1 0) 129 2 0)) (J' := iJX8_init_130 J) h [] [.ref (za B 130), .ref (za B 129)] zyX8_init (c_X8_init_130 B hBs (zu (zu (zu I 129 0 0) 129 1 0) 129 2 0) J (zZ_up (m := 131) (zZ_zu (zZ_zu (zZ_zu hZ (by decide)) (by decide)) (by decide)) (by decide))) gX0_init_X8_init_n23 (List.mem_of_getElem? (i := 9) rfl) (List.mem_of_getElem? (i := 9) rfl) (List.mem_of_getElem? (i := 14) rfl) rfl ⟨by decide, by decide⟩ rfl (Nat.le_of_ble_eq_true rfl) ⟨by decide, by decide⟩ rfl dX0_init_24 (rfl : 24 + 3 = 27) ?_
  refine y_putR (ci := 0) (C := RX0) (T := TX0) (N := 5) h 3 tyX0 tyX0_ok nmX0 rfl rfl (fun _ hq => List.mem_cons_of_mem _ (List.mem_append_left _ (List.mem_append_right _ hq))) (by decide) (List.mem_of_getElem? (i := 10) rfl) rfl rfl hr.2.2.2 rfl (Or.inl ⟨_, rfl⟩) dX0_init_27 (rfl : 27 + 3 = 30) ?_
  refine y_aload_n h 0 dX0_init_30 rfl (rfl : 30 + 1 = 31) ?_
  refine y_iconst h 2 dX0_init_31 (by decide) (rfl : 31 + 1 = 32) ?_
  refine y_bipush h 6 dX0_init_32 (by decide) (rfl : 32 + 2 = 34) ?_
  refine y_mna h hBs (zZ_zuJ (zZX8_init_130 (zZ_up (m := 131) (zZ_zu (zZ_zu (zZ_zu hZ (by decide)) (by decide)) (by decide)) (by decide))) (by decide)) (List.mem_of_getElem? (i := 11) rfl) (List.mem_of_getElem? (i := 31) rfl) (List.mem_of_getElem? (i := 12) rfl) rfl rfl rfl ⟨by decide, by decide⟩ dX0_init_34 (rfl : 34 + 4 = 38) ?_
  refine y_putR (ci := 0) (C := RX0) (T := TX0) (N := 5) h 4 tyX0 tyX0_ok nmX0 rfl rfl (fun _ hq => List.mem_cons_of_mem _ (List.mem_append_left _ (List.mem_append_right _ hq))) (by decide) (List.mem_of_getElem? (i := 13) rfl) rfl rfl hr.2.2.2 rfl (Or.inr ⟨_, rfl⟩) dX0_init_38 (rfl : 38 + 3 = 41) ?_
  exact y_ret h hr rfl rfl rfl rfl dX0_init_41
noncomputable abbrev rmX10_init_136 : Room := { frames := 1, cells := 0, slots := 0, locals := 24 }
def iIX10_init_136 (I : zM) : zM := I
def iJX10_init_136 (J : zJ) : zJ := J
theorem zZX10_init_136 {I : zM} {J : zJ} (hZ : zZ 137 I J) : zZ 137 (iIX10_init_136 I) (iJX10_init_136 J) := hZ
set_option maxHeartbeats 2000000 in
set_option maxRecDepth 100000 in
theorem c_X10_init_136 (B : zB) (hBs : zBs B) (I : zM) (J : zJ) (hZ : zZ 137 I J) : zCc B 137 I J yX10_init wsX10_init rmX10_init_136 [.ref (za B 136)] 137 (iIX10_init_136 I) (iJX10_init_136 J) := by
  refine y_start (own := RX10) (cc := cX10_init) (nL := 1) rfl (by decide) rfl rfl (Nat.le_of_ble_eq_true rfl) (L := [(0, .ref (za B 136))]) rfl (fun G h hr => ?_)
  refine y_aload_n h 0 dX10_init_0 rfl (rfl : 0 + 1 = 1) ?_
  refine y_objInit h (List.mem_of_getElem? (i := 1) rfl) (List.mem_of_getElem? (i := 2) rfl) (List.mem_of_getElem? (i := 3) rfl) (by decide) dX10_init_1 (rfl : 1 + 3 = 4) ?_
  exact y_ret h hr rfl rfl rfl rfl dX10_init_4
noncomputable abbrev rmX8_init_136 : Room := { frames := 2, cells := 1, slots := 6, locals := 44 }
def iIX8_init_136 (I : zM) : zM := zu (zu (iIX10_init_136 I) 136 1 0) 136 2 0
def iJX8_init_136 (J : zJ) : zJ := zuJ (iJX10_init_136 J) 136 0 (some 137)
theorem zZX8_init_136 {I : zM} {J : zJ} (hZ : zZ 137 I J) : zZ 138 (iIX8_init_136 I) (iJX8_init_136 J) := (zZ_zu (zZ_zu (zZ_zuJ (zZ_up (m := 138) (zZX10_init_136 hZ) (by decide)) (by decide)) (by decide)) (by decide))
set_option maxHeartbeats 2000000 in
set_option maxRecDepth 100000 in
theorem c_X8_init_136 (B : zB) (hBs : zBs B) (I : zM) (J : zJ) (hZ : zZ 137 I J) : zCc B 137 I J yX8_init wsX8_init rmX8_init_136 [.ref (za B 136)] 138 (iIX8_init_136 I) (iJX8_init_136 J) := by
  refine y_start (own := RX8) (cc := cX8_init) (nL := 1) rfl (by decide) rfl rfl (Nat.le_of_ble_eq_true rfl) (L := [(0, .ref (za B 136))]) rfl (fun G h hr => ?_)
  refine y_aload_n h 0 dX8_init_0 rfl (rfl : 0 + 1 = 1) ?_
  refine y_callIN (n' := 137) (I' := iIX10_init_136 I) (J' := iJX10_init_136 J) h [] [] zyX10_init (c_X10_init_136 B hBs I J hZ) gX8_init_X10_init_n3 (List.mem_of_getElem? (i := 6) rfl) (List.mem_of_getElem? (i := 6) rfl) (List.mem_of_getElem? (i := 5) rfl) rfl ⟨by decide, by decide⟩ rfl (Nat.le_of_ble_eq_true rfl) ⟨by decide, by decide⟩ rfl dX8_init_1 (rfl : 1 + 3 = 4) ?_
  refine y_aload_n h 0 dX8_init_4 rfl (rfl : 4 + 1 = 5) ?_
  refine y_bipush h 6 dX8_init_5 (by decide) (rfl : 5 + 2 = 7) ?_
  refine y_newa (atype := .int) (t := 0) (m := 6) h hBs (zZX10_init_136 hZ) (List.mem_of_getElem? (i := 1) rfl) (by decide) rfl rfl (by decide) (by decide) (by decide) rfl ⟨by decide, by decide⟩ dX8_init_7 (rfl : 7 + 2 = 9) ?_
  refine y_putR (ci := 8) (C := RX8) (T := TX8) (N := 3) h 0 tyX8 tyX8_ok nmX8 rfl rfl (fun _ hq => List.mem_cons_of_mem _ (List.mem_append_right _ hq)) (by decide) (List.mem_of_getElem? (i := 2) rfl) rfl rfl hr.2.2.2 rfl (Or.inr ⟨_, rfl⟩) dX8_init_9 (rfl : 9 + 3 = 12) ?_
  refine y_aload_n h 0 dX8_init_12 rfl (rfl : 12 + 1 = 13) ?_
  refine y_iconst h 0 dX8_init_13 (by decide) (rfl : 13 + 1 = 14) ?_
  refine y_putI (ci := 8) (C := RX8) (T := TX8) (N := 3) h 1 tyX8 tyX8_ok nmX8 rfl rfl (fun _ hq => List.mem_cons_of_mem _ (List.mem_append_right _ hq)) (by decide) (List.mem_of_getElem? (i := 3) rfl) rfl rfl rfl dX8_init_14 (rfl : 14 + 3 = 17) ?_
  refine y_aload_n h 0 dX8_init_17 rfl (rfl : 17 + 1 = 18) ?_
  refine y_iconst h 0 dX8_init_18 (by decide) (rfl : 18 + 1 = 19) ?_
  refine y_putI (ci := 8) (C := RX8) (T := TX8) (N := 3) h 2 tyX8 tyX8_ok nmX8 rfl rfl (fun _ hq => List.mem_cons_of_mem _ (List.mem_append_right _ hq)) (by decide) (List.mem_of_getElem? (i := 4) rfl) rfl rfl rfl dX8_init_19 (rfl : 19 + 3 = 22) ?_
  exact y_ret h hr rfl rfl rfl rfl dX8_init_22
noncomputable abbrev rmX0_init_135 : Room := { frames := 3, cells := 5, slots := 23, locals := 64 }
def iIX0_init_135 (I : zM) : zM := iIX8_init_136 (zu (zu (zu I 135 0 0) 135 1 0) 135 2 0)
def iJX0_init_135 (J : zJ) : zJ := zuJ (zuJ (zuJ (zuJ (iJX8_init_136 J) 135 3 (some 136)) 138 0 (some 139)) 138 1 (some 140)) 135 4 (some 138)
theorem zZX0_init_135 {I : zM} {J : zJ} (hZ : zZ 136 I J) : zZ 141 (iIX0_init_135 I) (iJX0_init_135 J) := (zZ_zuJ (zZ_zuJ (zZ_zuJ (zZ_up (m := 141) (zZ_zuJ (zZX8_init_136 (zZ_up (m := 137) (zZ_zu (zZ_zu (zZ_zu hZ (by decide)) (by decide)) (by decide)) (by decide))) (by decide)) (by decide)) (by decide)) (by decide)) (by decide))
set_option maxHeartbeats 2000000 in
set_option maxRecDepth 100000 in
theorem c_X0_init_135 (B : zB) (hBs : zBs B) (I : zM) (J : zJ) (hZ : zZ 136 I J) : zCc B 136 I J yX0_init wsX0_init rmX0_init_135 [.ref (za B 135)] 141 (iIX0_init_135 I) (iJX0_init_135 J) := by
  refine y_start (own := RX0) (cc := cX0_init) (nL := 1) rfl (by decide) rfl rfl (Nat.le_of_ble_eq_true rfl) (L := [(0, .ref (za B 135))]) rfl (fun G h hr => ?_)
  refine y_aload_n h 0 dX0_init_0 rfl (rfl : 0 + 1 = 1) ?_
  refine y_objInit h (List.mem_of_getElem? (i := 1) rfl) (List.mem_of_getElem? (i := 2) rfl) (List.mem_of_getElem? (i := 3) rfl) (by decide) dX0_init_1 (rfl : 1 + 3 = 4) ?_
  refine y_aload_n h 0 dX0_init_4 rfl (rfl : 4 + 1 = 5) ?_
  refine y_iconst h 0 dX0_init_5 (by decide) (rfl : 5 + 1 = 6) ?_
  refine y_putI (ci := 0) (C := RX0) (T := TX0) (N := 5) h 0 tyX0 tyX0_ok nmX0 rfl rfl (fun _ hq => List.mem_cons_of_mem _ (List.mem_append_left _ (List.mem_append_right _ hq))) (by decide) (List.mem_of_getElem? (i := 4) rfl) rfl rfl rfl dX0_init_6 (rfl : 6 + 3 = 9) ?_
  refine y_aload_n h 0 dX0_init_9 rfl (rfl : 9 + 1 = 10) ?_
  refine y_iconst h 0 dX0_init_10 (by decide) (rfl : 10 + 1 = 11) ?_
  refine y_putI (ci := 0) (C := RX0) (T := TX0) (N := 5) h 1 tyX0 tyX0_ok nmX0 rfl rfl (fun _ hq => List.mem_cons_of_mem _ (List.mem_append_left _ (List.mem_append_right _ hq))) (by decide) (List.mem_of_getElem? (i := 5) rfl) rfl rfl rfl dX0_init_11 (rfl : 11 + 3 = 14) ?_
  refine y_aload_n h 0 dX0_init_14 rfl (rfl : 14 + 1 = 15) ?_
  refine y_iconst h 0 dX0_init_15 (by decide) (rfl : 15 + 1 = 16) ?_
  refine y_putI (ci := 0) (C := RX0) (T := TX0) (N := 5) h 2 tyX0 tyX0_ok nmX0 rfl rfl (fun _ hq => List.mem_cons_of_mem _ (List.mem_append_left _ (List.mem_append_right _ hq))) (by decide) (List.mem_of_getElem? (i := 6) rfl) rfl rfl rfl dX0_init_16 (rfl : 16 + 3 = 19) ?_
  refine y_aload_n h 0 dX0_init_19 rfl (rfl : 19 + 1 = 20) ?_
  refine y_new (ci := 8) (C := RX8) (T := TX8) (N := 3) h hBs (zZ_zu (zZ_zu (zZ_zu hZ (by decide)) (by decide)) (by decide)) (fun _ hq => List.mem_cons_of_mem _ (List.mem_append_right _ hq)) tyX8 tyX8_ok zdefX8 (List.mem_of_getElem? (i := 7) rfl) (List.mem_of_getElem? (i := 8) rfl) (List.mem_of_getElem? (i := 9) rfl) rfl rfl ⟨by decide, by decide⟩ dX0_init_20 (rfl : 20 + 3 = 23) ?_
  refine y_dup h rfl dX0_init_23 (rfl : 23 + 1 = 24) ?_
  refine y_callIN (n' := 138) (I' := iIX8_init_136 (zu (zu (zu I 135 0 0) 135 1 0) 135 2 0)) (J' := iJX8_init_136 J) h [] [.ref (za B 136), .ref (za B 135)] zyX8_init (c_X8_init_136 B hBs (zu (zu (zu I 135 0 0) 135 1 0) 135 2 0) J (zZ_up (m := 137) (zZ_zu (zZ_zu (zZ_zu hZ (by decide)) (by decide)) (by decide)) (by decide))) gX0_init_X8_init_n23 (List.mem_of_getElem? (i := 9) rfl) (List.mem_of_getElem? (i := 9) rfl) (List.mem_of_getElem? (i := 14) rfl) rfl ⟨by decide, by decide⟩ rfl (Nat.le_of_ble_eq_true rfl) ⟨by decide, by decide⟩ rfl dX0_init_24 (rfl : 24 + 3 = 27) ?_
  refine y_putR (ci := 0) (C := RX0) (T := TX0) (N := 5) h 3 tyX0 tyX0_ok nmX0 rfl rfl (fun _ hq => List.mem_cons_of_mem _ (List.mem_append_left _ (List.mem_append_right _ hq))) (by decide) (List.mem_of_getElem? (i := 10) rfl) rfl rfl hr.2.2.2 rfl (Or.inl ⟨_, rfl⟩) dX0_init_27 (rfl : 27 + 3 = 30) ?_
  refine y_aload_n h 0 dX0_init_30 rfl (rfl : 30 + 1 = 31) ?_
  refine y_iconst h 2 dX0_init_31 (by decide) (rfl : 31 + 1 = 32) ?_
  refine y_bipush h 6 dX0_init_32 (by decide) (rfl : 32 + 2 = 34) ?_
  refine y_mna h hBs (zZ_zuJ (zZX8_init_136 (zZ_up (m := 137) (zZ_zu (zZ_zu (zZ_zu hZ (by decide)) (by decide)) (by decide)) (by decide))) (by decide)) (List.mem_of_getElem? (i := 11) rfl) (List.mem_of_getElem? (i := 31) rfl) (List.mem_of_getElem? (i := 12) rfl) rfl rfl rfl ⟨by decide, by decide⟩ dX0_init_34 (rfl : 34 + 4 = 38) ?_
  refine y_putR (ci := 0) (C := RX0) (T := TX0) (N := 5) h 4 tyX0 tyX0_ok nmX0 rfl rfl (fun _ hq => List.mem_cons_of_mem _ (List.mem_append_left _ (List.mem_append_right _ hq))) (by decide) (List.mem_of_getElem? (i := 13) rfl) rfl rfl hr.2.2.2 rfl (Or.inr ⟨_, rfl⟩) dX0_init_38 (rfl : 38 + 3 = 41) ?_
  exact y_ret h hr rfl rfl rfl rfl dX0_init_41
noncomputable abbrev rmX10_init_142 : Room := { frames := 1, cells := 0, slots := 0, locals := 24 }
def iIX10_init_142 (I : zM) : zM := I
def iJX10_init_142 (J : zJ) : zJ := J
theorem zZX10_init_142 {I : zM} {J : zJ} (hZ : zZ 143 I J) : zZ 143 (iIX10_init_142 I) (iJX10_init_142 J) := hZ
set_option maxHeartbeats 2000000 in
set_option maxRecDepth 100000 in
theorem c_X10_init_142 (B : zB) (hBs : zBs B) (I : zM) (J : zJ) (hZ : zZ 143 I J) : zCc B 143 I J yX10_init wsX10_init rmX10_init_142 [.ref (za B 142)] 143 (iIX10_init_142 I) (iJX10_init_142 J) := by
  refine y_start (own := RX10) (cc := cX10_init) (nL := 1) rfl (by decide) rfl rfl (Nat.le_of_ble_eq_true rfl) (L := [(0, .ref (za B 142))]) rfl (fun G h hr => ?_)
  refine y_aload_n h 0 dX10_init_0 rfl (rfl : 0 + 1 = 1) ?_
  refine y_objInit h (List.mem_of_getElem? (i := 1) rfl) (List.mem_of_getElem? (i := 2) rfl) (List.mem_of_getElem? (i := 3) rfl) (by decide) dX10_init_1 (rfl : 1 + 3 = 4) ?_
  exact y_ret h hr rfl rfl rfl rfl dX10_init_4
noncomputable abbrev rmX8_init_142 : Room := { frames := 2, cells := 1, slots := 6, locals := 44 }
def iIX8_init_142 (I : zM) : zM := zu (zu (iIX10_init_142 I) 142 1 0) 142 2 0
def iJX8_init_142 (J : zJ) : zJ := zuJ (iJX10_init_142 J) 142 0 (some 143)
theorem zZX8_init_142 {I : zM} {J : zJ} (hZ : zZ 143 I J) : zZ 144 (iIX8_init_142 I) (iJX8_init_142 J) := (zZ_zu (zZ_zu (zZ_zuJ (zZ_up (m := 144) (zZX10_init_142 hZ) (by decide)) (by decide)) (by decide)) (by decide))
set_option maxHeartbeats 2000000 in
set_option maxRecDepth 100000 in
theorem c_X8_init_142 (B : zB) (hBs : zBs B) (I : zM) (J : zJ) (hZ : zZ 143 I J) : zCc B 143 I J yX8_init wsX8_init rmX8_init_142 [.ref (za B 142)] 144 (iIX8_init_142 I) (iJX8_init_142 J) := by
  refine y_start (own := RX8) (cc := cX8_init) (nL := 1) rfl (by decide) rfl rfl (Nat.le_of_ble_eq_true rfl) (L := [(0, .ref (za B 142))]) rfl (fun G h hr => ?_)
  refine y_aload_n h 0 dX8_init_0 rfl (rfl : 0 + 1 = 1) ?_
  refine y_callIN (n' := 143) (I' := iIX10_init_142 I) (J' := iJX10_init_142 J) h [] [] zyX10_init (c_X10_init_142 B hBs I J hZ) gX8_init_X10_init_n3 (List.mem_of_getElem? (i := 6) rfl) (List.mem_of_getElem? (i := 6) rfl) (List.mem_of_getElem? (i := 5) rfl) rfl ⟨by decide, by decide⟩ rfl (Nat.le_of_ble_eq_true rfl) ⟨by decide, by decide⟩ rfl dX8_init_1 (rfl : 1 + 3 = 4) ?_
  refine y_aload_n h 0 dX8_init_4 rfl (rfl : 4 + 1 = 5) ?_
  refine y_bipush h 6 dX8_init_5 (by decide) (rfl : 5 + 2 = 7) ?_
  refine y_newa (atype := .int) (t := 0) (m := 6) h hBs (zZX10_init_142 hZ) (List.mem_of_getElem? (i := 1) rfl) (by decide) rfl rfl (by decide) (by decide) (by decide) rfl ⟨by decide, by decide⟩ dX8_init_7 (rfl : 7 + 2 = 9) ?_
  refine y_putR (ci := 8) (C := RX8) (T := TX8) (N := 3) h 0 tyX8 tyX8_ok nmX8 rfl rfl (fun _ hq => List.mem_cons_of_mem _ (List.mem_append_right _ hq)) (by decide) (List.mem_of_getElem? (i := 2) rfl) rfl rfl hr.2.2.2 rfl (Or.inr ⟨_, rfl⟩) dX8_init_9 (rfl : 9 + 3 = 12) ?_
  refine y_aload_n h 0 dX8_init_12 rfl (rfl : 12 + 1 = 13) ?_
  refine y_iconst h 0 dX8_init_13 (by decide) (rfl : 13 + 1 = 14) ?_
  refine y_putI (ci := 8) (C := RX8) (T := TX8) (N := 3) h 1 tyX8 tyX8_ok nmX8 rfl rfl (fun _ hq => List.mem_cons_of_mem _ (List.mem_append_right _ hq)) (by decide) (List.mem_of_getElem? (i := 3) rfl) rfl rfl rfl dX8_init_14 (rfl : 14 + 3 = 17) ?_
  refine y_aload_n h 0 dX8_init_17 rfl (rfl : 17 + 1 = 18) ?_
  refine y_iconst h 0 dX8_init_18 (by decide) (rfl : 18 + 1 = 19) ?_
  refine y_putI (ci := 8) (C := RX8) (T := TX8) (N := 3) h 2 tyX8 tyX8_ok nmX8 rfl rfl (fun _ hq => List.mem_cons_of_mem _ (List.mem_append_right _ hq)) (by decide) (List.mem_of_getElem? (i := 4) rfl) rfl rfl rfl dX8_init_19 (rfl : 19 + 3 = 22) ?_
  exact y_ret h hr rfl rfl rfl rfl dX8_init_22
noncomputable abbrev rmX0_init_141 : Room := { frames := 3, cells := 5, slots := 23, locals := 64 }
def iIX0_init_141 (I : zM) : zM := iIX8_init_142 (zu (zu (zu I 141 0 0) 141 1 0) 141 2 0)
def iJX0_init_141 (J : zJ) : zJ := zuJ (zuJ (zuJ (zuJ (iJX8_init_142 J) 141 3 (some 142)) 144 0 (some 145)) 144 1 (some 146)) 141 4 (some 144)
theorem zZX0_init_141 {I : zM} {J : zJ} (hZ : zZ 142 I J) : zZ 147 (iIX0_init_141 I) (iJX0_init_141 J) := (zZ_zuJ (zZ_zuJ (zZ_zuJ (zZ_up (m := 147) (zZ_zuJ (zZX8_init_142 (zZ_up (m := 143) (zZ_zu (zZ_zu (zZ_zu hZ (by decide)) (by decide)) (by decide)) (by decide))) (by decide)) (by decide)) (by decide)) (by decide)) (by decide))
set_option maxHeartbeats 2000000 in
set_option maxRecDepth 100000 in
theorem c_X0_init_141 (B : zB) (hBs : zBs B) (I : zM) (J : zJ) (hZ : zZ 142 I J) : zCc B 142 I J yX0_init wsX0_init rmX0_init_141 [.ref (za B 141)] 147 (iIX0_init_141 I) (iJX0_init_141 J) := by
  refine y_start (own := RX0) (cc := cX0_init) (nL := 1) rfl (by decide) rfl rfl (Nat.le_of_ble_eq_true rfl) (L := [(0, .ref (za B 141))]) rfl (fun G h hr => ?_)
  refine y_aload_n h 0 dX0_init_0 rfl (rfl : 0 + 1 = 1) ?_
  refine y_objInit h (List.mem_of_getElem? (i := 1) rfl) (List.mem_of_getElem? (i := 2) rfl) (List.mem_of_getElem? (i := 3) rfl) (by decide) dX0_init_1 (rfl : 1 + 3 = 4) ?_
  refine y_aload_n h 0 dX0_init_4 rfl (rfl : 4 + 1 = 5) ?_
  refine y_iconst h 0 dX0_init_5 (by decide) (rfl : 5 + 1 = 6) ?_
  refine y_putI (ci := 0) (C := RX0) (T := TX0) (N := 5) h 0 tyX0 tyX0_ok nmX0 rfl rfl (fun _ hq => List.mem_cons_of_mem _ (List.mem_append_left _ (List.mem_append_right _ hq))) (by decide) (List.mem_of_getElem? (i := 4) rfl) rfl rfl rfl dX0_init_6 (rfl : 6 + 3 = 9) ?_
  refine y_aload_n h 0 dX0_init_9 rfl (rfl : 9 + 1 = 10) ?_
  refine y_iconst h 0 dX0_init_10 (by decide) (rfl : 10 + 1 = 11) ?_
  refine y_putI (ci := 0) (C := RX0) (T := TX0) (N := 5) h 1 tyX0 tyX0_ok nmX0 rfl rfl (fun _ hq => List.mem_cons_of_mem _ (List.mem_append_left _ (List.mem_append_right _ hq))) (by decide) (List.mem_of_getElem? (i := 5) rfl) rfl rfl rfl dX0_init_11 (rfl : 11 + 3 = 14) ?_
  refine y_aload_n h 0 dX0_init_14 rfl (rfl : 14 + 1 = 15) ?_
  refine y_iconst h 0 dX0_init_15 (by decide) (rfl : 15 + 1 = 16) ?_
  refine y_putI (ci := 0) (C := RX0) (T := TX0) (N := 5) h 2 tyX0 tyX0_ok nmX0 rfl rfl (fun _ hq => List.mem_cons_of_mem _ (List.mem_append_left _ (List.mem_append_right _ hq))) (by decide) (List.mem_of_getElem? (i := 6) rfl) rfl rfl rfl dX0_init_16 (rfl : 16 + 3 = 19) ?_
  refine y_aload_n h 0 dX0_init_19 rfl (rfl : 19 + 1 = 20) ?_
  refine y_new (ci := 8) (C := RX8) (T := TX8) (N := 3) h hBs (zZ_zu (zZ_zu (zZ_zu hZ (by decide)) (by decide)) (by decide)) (fun _ hq => List.mem_cons_of_mem _ (List.mem_append_right _ hq)) tyX8 tyX8_ok zdefX8 (List.mem_of_getElem? (i := 7) rfl) (List.mem_of_getElem? (i := 8) rfl) (List.mem_of_getElem? (i := 9) rfl) rfl rfl ⟨by decide, by decide⟩ dX0_init_20 (rfl : 20 + 3 = 23) ?_
  refine y_dup h rfl dX0_init_23 (rfl : 23 + 1 = 24) ?_
  refine y_callIN (n' := 144) (I' := iIX8_init_142 (zu (zu (zu I 141 0 0) 141 1 0) 141 2 0)) (J' := iJX8_init_142 J) h [] [.ref (za B 142), .ref (za B 141)] zyX8_init (c_X8_init_142 B hBs (zu (zu (zu I 141 0 0) 141 1 0) 141 2 0) J (zZ_up (m := 143) (zZ_zu (zZ_zu (zZ_zu hZ (by decide)) (by decide)) (by decide)) (by decide))) gX0_init_X8_init_n23 (List.mem_of_getElem? (i := 9) rfl) (List.mem_of_getElem? (i := 9) rfl) (List.mem_of_getElem? (i := 14) rfl) rfl ⟨by decide, by decide⟩ rfl (Nat.le_of_ble_eq_true rfl) ⟨by decide, by decide⟩ rfl dX0_init_24 (rfl : 24 + 3 = 27) ?_
  refine y_putR (ci := 0) (C := RX0) (T := TX0) (N := 5) h 3 tyX0 tyX0_ok nmX0 rfl rfl (fun _ hq => List.mem_cons_of_mem _ (List.mem_append_left _ (List.mem_append_right _ hq))) (by decide) (List.mem_of_getElem? (i := 10) rfl) rfl rfl hr.2.2.2 rfl (Or.inl ⟨_, rfl⟩) dX0_init_27 (rfl : 27 + 3 = 30) ?_
  refine y_aload_n h 0 dX0_init_30 rfl (rfl : 30 + 1 = 31) ?_
  refine y_iconst h 2 dX0_init_31 (by decide) (rfl : 31 + 1 = 32) ?_
  refine y_bipush h 6 dX0_init_32 (by decide) (rfl : 32 + 2 = 34) ?_
  refine y_mna h hBs (zZ_zuJ (zZX8_init_142 (zZ_up (m := 143) (zZ_zu (zZ_zu (zZ_zu hZ (by decide)) (by decide)) (by decide)) (by decide))) (by decide)) (List.mem_of_getElem? (i := 11) rfl) (List.mem_of_getElem? (i := 31) rfl) (List.mem_of_getElem? (i := 12) rfl) rfl rfl rfl ⟨by decide, by decide⟩ dX0_init_34 (rfl : 34 + 4 = 38) ?_
  refine y_putR (ci := 0) (C := RX0) (T := TX0) (N := 5) h 4 tyX0 tyX0_ok nmX0 rfl rfl (fun _ hq => List.mem_cons_of_mem _ (List.mem_append_left _ (List.mem_append_right _ hq))) (by decide) (List.mem_of_getElem? (i := 13) rfl) rfl rfl hr.2.2.2 rfl (Or.inr ⟨_, rfl⟩) dX0_init_38 (rfl : 38 + 3 = 41) ?_
  exact y_ret h hr rfl rfl rfl rfl dX0_init_41
theorem zyX11_init : zY yX11_init wsX11_init cX11_init 2 none 0 := ⟨⟨_, rfl⟩, by decide +kernel⟩
noncomputable abbrev rmX11_init_0 : Room := { frames := 4, cells := 146, slots := 1366, locals := 121 }
def iIX11_init_0 (I : zM) : zM := iIX0_init_141 (iIX0_init_135 (iIX0_init_129 (iIX0_init_123 (iIX0_init_117 (iIX0_init_111 (iIX0_init_105 (iIX0_init_99 (iIX4_init_97 (iIX4_init_95 (iIX4_init_93 (iIX4_init_91 (iIX1_init_83 (iIX1_init_75 (iIX5_init_39 (iIX8_init_37 (iIX4_init_35 (zu (iIX7_init_18 (iIX9_init_16 (iIX1_init_6 (fun q => if q = 5 then zT0 else (iIX3_init_1 I) q)))) 0 9 0)))))))))))))))))
def iJX11_init_0 (J : zJ) : zJ := zuJ (iJX0_init_141 (zuJ (iJX0_init_135 (zuJ (iJX0_init_129 (zuJ (iJX0_init_123 (zuJ (iJX0_init_117 (zuJ (iJX0_init_111 (zuJ (iJX0_init_105 (zuJ (iJX0_init_99 (zuJ (iJX4_init_97 (zuJ (iJX4_init_95 (zuJ (iJX4_init_93 (zuJ (iJX4_init_91 (zuJ (iJX1_init_83 (zuJ (iJX1_init_75 (zuJ (iJX5_init_39 (zuJ (iJX8_init_37 (zuJ (iJX4_init_35 (zuJ (zuJ (zuJ (iJX7_init_18 (zuJ (iJX9_init_16 (zuJ (zuJ (zuJ (iJX1_init_6 (zuJ (zuJ (iJX3_init_1 J) 0 0 (some 1)) 0 1 (some 5))) 0 2 (some 6)) 0 3 (some 14)) 0 4 (some 15))) 0 5 (some 16))) 0 6 (some 18)) 0 7 (some 33)) 0 8 (some 34))) 0 10 (some 35))) 0 11 (some 37))) 0 12 (some 39))) 14 0 (some 75))) 14 1 (some 83))) 33 0 (some 91))) 33 1 (some 93))) 33 2 (some 95))) 33 3 (some 97))) 34 0 (some 99))) 34 1 (some 105))) 34 2 (some 111))) 34 3 (some 117))) 34 4 (some 123))) 34 5 (some 129))) 34 6 (some 135))) 34 7 (some 141)
theorem zZX11_init_0 {I : zM} {J : zJ} (hZ : zZ 1 I J) : zZ 147 (iIX11_init_0 I) (iJX11_init_0 J) := (zZ_zuJ (zZX0_init_141 (zZ_up (m := 142) (zZ_zuJ (zZX0_init_135 (zZ_up (m := 136) (zZ_zuJ (zZX0_init_129 (zZ_up (m := 130) (zZ_zuJ (zZX0_init_123 (zZ_up (m := 124) (zZ_zuJ (zZX0_init_117 (zZ_up (m := 118) (zZ_zuJ (zZX0_init_111 (zZ_up (m := 112) (zZ_zuJ (zZX0_init_105 (zZ_up (m := 106) (zZ_zuJ (zZX0_init_99 (zZ_up (m := 100) (zZ_zuJ (zZX4_init_97 (zZ_up (m := 98) (zZ_zuJ (zZX4_init_95 (zZ_up (m := 96) (zZ_zuJ (zZX4_init_93 (zZ_up (m := 94) (zZ_zuJ (zZX4_init_91 (zZ_up (m := 92) (zZ_zuJ (zZX1_init_83 (zZ_up (m := 84) (zZ_zuJ (zZX1_init_75 (zZ_up (m := 76) (zZ_zuJ (zZX5_init_39 (zZ_up (m := 40) (zZ_zuJ (zZX8_init_37 (zZ_up (m := 38) (zZ_zuJ (zZX4_init_35 (zZ_up (m := 36) (zZ_zu (zZ_zuJ (zZ_up (m := 35) (zZ_zuJ (zZ_up (m := 34) (zZ_zuJ (zZX7_init_18 (zZ_up (m := 19) (zZ_zuJ (zZX9_init_16 (zZ_up (m := 17) (zZ_zuJ (zZ_up (m := 16) (zZ_zuJ (zZ_up (m := 15) (zZ_zuJ (zZX1_init_6 (zZ_up (m := 7) (zZ_zuJ (zZ_cl (zZ_zuJ (zZX3_init_1 (zZ_up (m := 2) hZ (by decide))) (by decide))) (by decide)) (by decide))) (by decide)) (by decide)) (by decide)) (by decide)) (by decide)) (by decide))) (by decide)) (by decide))) (by decide)) (by decide)) (by decide)) (by decide)) (by decide)) (by decide)) (by decide))) (by decide)) (by decide))) (by decide)) (by decide))) (by decide)) (by decide))) (by decide)) (by decide))) (by decide)) (by decide))) (by decide)) (by decide))) (by decide)) (by decide))) (by decide)) (by decide))) (by decide)) (by decide))) (by decide)) (by decide))) (by decide)) (by decide))) (by decide)) (by decide))) (by decide)) (by decide))) (by decide)) (by decide))) (by decide)) (by decide))) (by decide)) (by decide))) (by decide))
set_option maxHeartbeats 2000000 in
set_option maxRecDepth 100000 in
theorem c_X11_init_0 (B : zB) (hBs : zBs B) (I : zM) (J : zJ) (hZ : zZ 1 I J) : zCc B 1 I J yX11_init wsX11_init rmX11_init_0 [.ref (za B 0)] 147 (iIX11_init_0 I) (iJX11_init_0 J) := by
  refine y_start (own := RX11) (cc := cX11_init) (nL := 2) rfl (by decide) rfl rfl (Nat.le_of_ble_eq_true rfl) (L := [(0, .ref (za B 0))]) rfl (fun G h hr => ?_)
  refine y_aload_n h 0 dX11_init_0 rfl (rfl : 0 + 1 = 1) ?_
  refine y_objInit h (List.mem_of_getElem? (i := 1) rfl) (List.mem_of_getElem? (i := 2) rfl) (List.mem_of_getElem? (i := 3) rfl) (by decide) dX11_init_1 (rfl : 1 + 3 = 4) ?_
  refine y_aload_n h 0 dX11_init_4 rfl (rfl : 4 + 1 = 5) ?_
  refine y_new (ci := 3) (C := RX3) (T := TX3) (N := 4) h hBs hZ (fun _ hq => List.mem_cons_of_mem _ (List.mem_append_left _ (List.mem_append_left _ (List.mem_append_left _ (List.mem_append_left _ (List.mem_append_left _ (List.mem_append_left _ (List.mem_append_left _ (List.mem_append_left _ (List.mem_append_left _ (List.mem_append_left _ (List.mem_append_right _ hq)))))))))))) tyX3 tyX3_ok zdefX3 (List.mem_of_getElem? (i := 4) rfl) (List.mem_of_getElem? (i := 5) rfl) (List.mem_of_getElem? (i := 6) rfl) rfl rfl ⟨by decide, by decide⟩ dX11_init_5 (rfl : 5 + 3 = 8) ?_
  refine y_dup h rfl dX11_init_8 (rfl : 8 + 1 = 9) ?_
  refine y_callI (n' := 5) (I' := iIX3_init_1 I) (J' := iJX3_init_1 J) h [] [.ref (za B 1), .ref (za B 0)] zyX3_init (c_X3_init_1 B hBs I J (zZ_up (m := 2) hZ (by decide))) gX11_init_X3_init (List.mem_of_getElem? (i := 6) rfl) (List.mem_of_getElem? (i := 49) rfl) (List.mem_of_getElem? (i := 50) rfl) rfl ⟨by decide, by decide⟩ rfl (Nat.le_of_ble_eq_true rfl) ⟨by decide, by decide⟩ rfl dX11_init_9 (rfl : 9 + 3 = 12) ?_
  refine y_putR (ci := 10) (C := RX11) (T := TX11) (N := 13) h 0 tyX11 tyX11_ok nmX11 rfl rfl (fun _ hq => List.mem_cons_of_mem _ (List.mem_append_left _ (List.mem_append_left _ (List.mem_append_left _ (List.mem_append_left _ (List.mem_append_left _ (List.mem_append_left _ (List.mem_append_left _ (List.mem_append_left _ (List.mem_append_left _ (List.mem_append_right _ hq))))))))))) (by decide) (List.mem_of_getElem? (i := 7) rfl) rfl rfl hr.2.2.2 rfl (Or.inl ⟨_, rfl⟩) dX11_init_12 (rfl : 12 + 3 = 15) ?_
  refine y_aload_n h 0 dX11_init_15 rfl (rfl : 15 + 1 = 16) ?_
  refine y_clone (J' := J) (i1 := 16) (i2 := 20) (i3 := 21) (pc1 := 19) (pc2 := 22) (pc' := 25) h hBs (zZ_zuJ (zZX3_init_1 (zZ_up (m := 2) hZ (by decide))) (by decide)) rfl (List.mem_of_getElem? (i := 8) rfl) (List.mem_of_getElem? (i := 9) rfl) (List.mem_of_getElem? (i := 10) rfl) (List.mem_of_getElem? (i := 11) rfl) (List.mem_of_getElem? (i := 12) rfl) (List.mem_of_getElem? (i := 13) rfl) (List.mem_of_getElem? (i := 25) rfl) (List.mem_of_getElem? (i := 14) rfl) ⟨Nat.le_of_ble_eq_true rfl, Nat.le_of_ble_eq_true rfl⟩ ⟨by decide, by decide⟩ dX11_init_16 rfl dX11_init_19 rfl dX11_init_22 rfl ?_
  refine y_putR (ci := 10) (C := RX11) (T := TX11) (N := 13) h 1 tyX11 tyX11_ok nmX11 rfl rfl (fun _ hq => List.mem_cons_of_mem _ (List.mem_append_left _ (List.mem_append_left _ (List.mem_append_left _ (List.mem_append_left _ (List.mem_append_left _ (List.mem_append_left _ (List.mem_append_left _ (List.mem_append_left _ (List.mem_append_left _ (List.mem_append_right _ hq))))))))))) (by decide) (List.mem_of_getElem? (i := 15) rfl) rfl rfl hr.2.2.2 rfl (Or.inr ⟨_, rfl⟩) dX11_init_25 (rfl : 25 + 3 = 28) ?_
  refine y_aload_n h 0 dX11_init_28 rfl (rfl : 28 + 1 = 29) ?_
  refine y_new (ci := 1) (C := RX1) (T := TX1) (N := 9) h hBs (zZ_zuJ (zZ_cl (zZ_zuJ (zZX3_init_1 (zZ_up (m := 2) hZ (by decide))) (by decide))) (by decide)) (fun _ hq => List.mem_cons_of_mem _ (List.mem_append_left _ (List.mem_append_left _ (List.mem_append_left _ (List.mem_append_left _ (List.mem_append_left _ (List.mem_append_left _ (List.mem_append_left _ (List.mem_append_left _ (List.mem_append_right _ hq)))))))))) tyX1 tyX1_ok zdefX1 (List.mem_of_getElem? (i := 16) rfl) (List.mem_of_getElem? (i := 17) rfl) (List.mem_of_getElem? (i := 18) rfl) rfl rfl ⟨by decide, by decide⟩ dX11_init_29 (rfl : 29 + 3 = 32) ?_
  refine y_dup h rfl dX11_init_32 (rfl : 32 + 1 = 33) ?_
  refine y_callIN (n' := 14) (I' := iIX1_init_6 (fun q => if q = 5 then zT0 else (iIX3_init_1 I) q)) (J' := iJX1_init_6 (zuJ (zuJ (iJX3_init_1 J) 0 0 (some 1)) 0 1 (some 5))) h [] [.ref (za B 6), .ref (za B 0)] zyX1_init (c_X1_init_6 B hBs (fun q => if q = 5 then zT0 else (iIX3_init_1 I) q) (zuJ (zuJ (iJX3_init_1 J) 0 0 (some 1)) 0 1 (some 5)) (zZ_up (m := 7) (zZ_zuJ (zZ_cl (zZ_zuJ (zZX3_init_1 (zZ_up (m := 2) hZ (by decide))) (by decide))) (by decide)) (by decide))) gX11_init_X1_init_n30 (List.mem_of_getElem? (i := 18) rfl) (List.mem_of_getElem? (i := 0) rfl) (List.mem_of_getElem? (i := 58) rfl) rfl ⟨by decide, by decide⟩ rfl (Nat.le_of_ble_eq_true rfl) ⟨by decide, by decide⟩ rfl dX11_init_33 (rfl : 33 + 3 = 36) ?_
  refine y_putR (ci := 10) (C := RX11) (T := TX11) (N := 13) h 2 tyX11 tyX11_ok nmX11 rfl rfl (fun _ hq => List.mem_cons_of_mem _ (List.mem_append_left _ (List.mem_append_left _ (List.mem_append_left _ (List.mem_append_left _ (List.mem_append_left _ (List.mem_append_left _ (List.mem_append_left _ (List.mem_append_left _ (List.mem_append_left _ (List.mem_append_right _ hq))))))))))) (by decide) (List.mem_of_getElem? (i := 19) rfl) rfl rfl hr.2.2.2 rfl (Or.inl ⟨_, rfl⟩) dX11_init_36 (rfl : 36 + 3 = 39) ?_
  refine y_aload_n h 0 dX11_init_39 rfl (rfl : 39 + 1 = 40) ?_
  refine y_iconst h 2 dX11_init_40 (by decide) (rfl : 40 + 1 = 41) ?_
  refine y_anew (t := 4) (m := 2) (C := RX1) h hBs (zZ_zuJ (zZX1_init_6 (zZ_up (m := 7) (zZ_zuJ (zZ_cl (zZ_zuJ (zZX3_init_1 (zZ_up (m := 2) hZ (by decide))) (by decide))) (by decide)) (by decide))) (by decide)) (List.mem_of_getElem? (i := 16) rfl) (List.mem_of_getElem? (i := 26) rfl) (by decide) rfl (by decide) (by decide) (by decide) rfl ⟨by decide, by decide⟩ dX11_init_41 (rfl : 41 + 3 = 44) ?_
  refine y_putR (ci := 10) (C := RX11) (T := TX11) (N := 13) h 3 tyX11 tyX11_ok nmX11 rfl rfl (fun _ hq => List.mem_cons_of_mem _ (List.mem_append_left _ (List.mem_append_left _ (List.mem_append_left _ (List.mem_append_left _ (List.mem_append_left _ (List.mem_append_left _ (List.mem_append_left _ (List.mem_append_left _ (List.mem_append_left _ (List.mem_append_right _ hq))))))))))) (by decide) (List.mem_of_getElem? (i := 20) rfl) rfl rfl hr.2.2.2 rfl (Or.inr ⟨_, rfl⟩) dX11_init_44 (rfl : 44 + 3 = 47) ?_
  refine y_aload_n h 0 dX11_init_47 rfl (rfl : 47 + 1 = 48) ?_
  refine y_iconst h 2 dX11_init_48 (by decide) (rfl : 48 + 1 = 49) ?_
  refine y_newa (atype := .boolean) (t := 1) (m := 2) h hBs (zZ_zuJ (zZ_up (m := 15) (zZ_zuJ (zZX1_init_6 (zZ_up (m := 7) (zZ_zuJ (zZ_cl (zZ_zuJ (zZX3_init_1 (zZ_up (m := 2) hZ (by decide))) (by decide))) (by decide)) (by decide))) (by decide)) (by decide)) (by decide)) (List.mem_of_getElem? (i := 21) rfl) (by decide) rfl rfl (by decide) (by decide) (by decide) rfl ⟨by decide, by decide⟩ dX11_init_49 (rfl : 49 + 2 = 51) ?_
  refine y_putR (ci := 10) (C := RX11) (T := TX11) (N := 13) h 4 tyX11 tyX11_ok nmX11 rfl rfl (fun _ hq => List.mem_cons_of_mem _ (List.mem_append_left _ (List.mem_append_left _ (List.mem_append_left _ (List.mem_append_left _ (List.mem_append_left _ (List.mem_append_left _ (List.mem_append_left _ (List.mem_append_left _ (List.mem_append_left _ (List.mem_append_right _ hq))))))))))) (by decide) (List.mem_of_getElem? (i := 22) rfl) rfl rfl hr.2.2.2 rfl (Or.inr ⟨_, rfl⟩) dX11_init_51 (rfl : 51 + 3 = 54) ?_
  refine y_aload_n h 0 dX11_init_54 rfl (rfl : 54 + 1 = 55) ?_
  refine y_new (ci := 9) (C := RX9) (T := TX9) (N := 2) h hBs (zZ_zuJ (zZ_up (m := 16) (zZ_zuJ (zZ_up (m := 15) (zZ_zuJ (zZX1_init_6 (zZ_up (m := 7) (zZ_zuJ (zZ_cl (zZ_zuJ (zZX3_init_1 (zZ_up (m := 2) hZ (by decide))) (by decide))) (by decide)) (by decide))) (by decide)) (by decide)) (by decide)) (by decide)) (by decide)) (fun _ hq => List.mem_cons_of_mem _ (List.mem_append_left _ (List.mem_append_left _ (List.mem_append_left _ (List.mem_append_left _ (List.mem_append_left _ (List.mem_append_left _ (List.mem_append_left _ (List.mem_append_right _ hq))))))))) tyX9 tyX9_ok zdefX9 (List.mem_of_getElem? (i := 23) rfl) (List.mem_of_getElem? (i := 24) rfl) (List.mem_of_getElem? (i := 25) rfl) rfl rfl ⟨by decide, by decide⟩ dX11_init_55 (rfl : 55 + 3 = 58) ?_
  refine y_dup h rfl dX11_init_58 (rfl : 58 + 1 = 59) ?_
  refine y_callIN (n' := 18) (I' := iIX9_init_16 (iIX1_init_6 (fun q => if q = 5 then zT0 else (iIX3_init_1 I) q))) (J' := iJX9_init_16 (zuJ (zuJ (zuJ (iJX1_init_6 (zuJ (zuJ (iJX3_init_1 J) 0 0 (some 1)) 0 1 (some 5))) 0 2 (some 6)) 0 3 (some 14)) 0 4 (some 15))) h [] [.ref (za B 16), .ref (za B 0)] zyX9_init (c_X9_init_16 B hBs (iIX1_init_6 (fun q => if q = 5 then zT0 else (iIX3_init_1 I) q)) (zuJ (zuJ (zuJ (iJX1_init_6 (zuJ (zuJ (iJX3_init_1 J) 0 0 (some 1)) 0 1 (some 5))) 0 2 (some 6)) 0 3 (some 14)) 0 4 (some 15)) (zZ_up (m := 17) (zZ_zuJ (zZ_up (m := 16) (zZ_zuJ (zZ_up (m := 15) (zZ_zuJ (zZX1_init_6 (zZ_up (m := 7) (zZ_zuJ (zZ_cl (zZ_zuJ (zZX3_init_1 (zZ_up (m := 2) hZ (by decide))) (by decide))) (by decide)) (by decide))) (by decide)) (by decide)) (by decide)) (by decide)) (by decide)) (by decide))) gX11_init_X9_init_n45 (List.mem_of_getElem? (i := 25) rfl) (List.mem_of_getElem? (i := 1) rfl) (List.mem_of_getElem? (i := 70) rfl) rfl ⟨by decide, by decide⟩ rfl (Nat.le_of_ble_eq_true rfl) ⟨by decide, by decide⟩ rfl dX11_init_59 (rfl : 59 + 3 = 62) ?_
  refine y_putR (ci := 10) (C := RX11) (T := TX11) (N := 13) h 5 tyX11 tyX11_ok nmX11 rfl rfl (fun _ hq => List.mem_cons_of_mem _ (List.mem_append_left _ (List.mem_append_left _ (List.mem_append_left _ (List.mem_append_left _ (List.mem_append_left _ (List.mem_append_left _ (List.mem_append_left _ (List.mem_append_left _ (List.mem_append_left _ (List.mem_append_right _ hq))))))))))) (by decide) (List.mem_of_getElem? (i := 26) rfl) rfl rfl hr.2.2.2 rfl (Or.inl ⟨_, rfl⟩) dX11_init_62 (rfl : 62 + 3 = 65) ?_
  refine y_aload_n h 0 dX11_init_65 rfl (rfl : 65 + 1 = 66) ?_
  refine y_new (ci := 7) (C := RX7) (T := TX7) (N := 2) h hBs (zZ_zuJ (zZX9_init_16 (zZ_up (m := 17) (zZ_zuJ (zZ_up (m := 16) (zZ_zuJ (zZ_up (m := 15) (zZ_zuJ (zZX1_init_6 (zZ_up (m := 7) (zZ_zuJ (zZ_cl (zZ_zuJ (zZX3_init_1 (zZ_up (m := 2) hZ (by decide))) (by decide))) (by decide)) (by decide))) (by decide)) (by decide)) (by decide)) (by decide)) (by decide)) (by decide))) (by decide)) (fun _ hq => List.mem_cons_of_mem _ (List.mem_append_left _ (List.mem_append_left _ (List.mem_append_left _ (List.mem_append_left _ (List.mem_append_left _ (List.mem_append_left _ (List.mem_append_right _ hq)))))))) tyX7 tyX7_ok zdefX7 (List.mem_of_getElem? (i := 27) rfl) (List.mem_of_getElem? (i := 28) rfl) (List.mem_of_getElem? (i := 29) rfl) rfl rfl ⟨by decide, by decide⟩ dX11_init_66 (rfl : 66 + 3 = 69) ?_
  refine y_dup h rfl dX11_init_69 (rfl : 69 + 1 = 70) ?_
  refine y_callI (n' := 33) (I' := iIX7_init_18 (iIX9_init_16 (iIX1_init_6 (fun q => if q = 5 then zT0 else (iIX3_init_1 I) q)))) (J' := iJX7_init_18 (zuJ (iJX9_init_16 (zuJ (zuJ (zuJ (iJX1_init_6 (zuJ (zuJ (iJX3_init_1 J) 0 0 (some 1)) 0 1 (some 5))) 0 2 (some 6)) 0 3 (some 14)) 0 4 (some 15))) 0 5 (some 16))) h [] [.ref (za B 18), .ref (za B 0)] zyX7_init (c_X7_init_18 B hBs (iIX9_init_16 (iIX1_init_6 (fun q => if q = 5 then zT0 else (iIX3_init_1 I) q))) (zuJ (iJX9_init_16 (zuJ (zuJ (zuJ (iJX1_init_6 (zuJ (zuJ (iJX3_init_1 J) 0 0 (some 1)) 0 1 (some 5))) 0 2 (some 6)) 0 3 (some 14)) 0 4 (some 15))) 0 5 (some 16)) (zZ_up (m := 19) (zZ_zuJ (zZX9_init_16 (zZ_up (m := 17) (zZ_zuJ (zZ_up (m := 16) (zZ_zuJ (zZ_up (m := 15) (zZ_zuJ (zZX1_init_6 (zZ_up (m := 7) (zZ_zuJ (zZ_cl (zZ_zuJ (zZX3_init_1 (zZ_up (m := 2) hZ (by decide))) (by decide))) (by decide)) (by decide))) (by decide)) (by decide)) (by decide)) (by decide)) (by decide)) (by decide))) (by decide)) (by decide))) gX11_init_X7_init (List.mem_of_getElem? (i := 29) rfl) (List.mem_of_getElem? (i := 76) rfl) (List.mem_of_getElem? (i := 77) rfl) rfl ⟨by decide, by decide⟩ rfl (Nat.le_of_ble_eq_true rfl) ⟨by decide, by decide⟩ rfl dX11_init_70 (rfl : 70 + 3 = 73) ?_
  refine y_putR (ci := 10) (C := RX11) (T := TX11) (N := 13) h 6 tyX11 tyX11_ok nmX11 rfl rfl (fun _ hq => List.mem_cons_of_mem _ (List.mem_append_left _ (List.mem_append_left _ (List.mem_append_left _ (List.mem_append_left _ (List.mem_append_left _ (List.mem_append_left _ (List.mem_append_left _ (List.mem_append_left _ (List.mem_append_left _ (List.mem_append_right _ hq))))))))))) (by decide) (List.mem_of_getElem? (i := 30) rfl) rfl rfl hr.2.2.2 rfl (Or.inl ⟨_, rfl⟩) dX11_init_73 (rfl : 73 + 3 = 76) ?_
  refine y_aload_n h 0 dX11_init_76 rfl (rfl : 76 + 1 = 77) ?_
  refine y_iconst h 4 dX11_init_77 (by decide) (rfl : 77 + 1 = 78) ?_
  refine y_anew (t := 6) (m := 4) (C := RX4) h hBs (zZ_zuJ (zZX7_init_18 (zZ_up (m := 19) (zZ_zuJ (zZX9_init_16 (zZ_up (m := 17) (zZ_zuJ (zZ_up (m := 16) (zZ_zuJ (zZ_up (m := 15) (zZ_zuJ (zZX1_init_6 (zZ_up (m := 7) (zZ_zuJ (zZ_cl (zZ_zuJ (zZX3_init_1 (zZ_up (m := 2) hZ (by decide))) (by decide))) (by decide)) (by decide))) (by decide)) (by decide)) (by decide)) (by decide)) (by decide)) (by decide))) (by decide)) (by decide))) (by decide)) (List.mem_of_getElem? (i := 31) rfl) (List.mem_of_getElem? (i := 28) rfl) (by decide) rfl (by decide) (by decide) (by decide) rfl ⟨by decide, by decide⟩ dX11_init_78 (rfl : 78 + 3 = 81) ?_
  refine y_putR (ci := 10) (C := RX11) (T := TX11) (N := 13) h 7 tyX11 tyX11_ok nmX11 rfl rfl (fun _ hq => List.mem_cons_of_mem _ (List.mem_append_left _ (List.mem_append_left _ (List.mem_append_left _ (List.mem_append_left _ (List.mem_append_left _ (List.mem_append_left _ (List.mem_append_left _ (List.mem_append_left _ (List.mem_append_left _ (List.mem_append_right _ hq))))))))))) (by decide) (List.mem_of_getElem? (i := 32) rfl) rfl rfl hr.2.2.2 rfl (Or.inr ⟨_, rfl⟩) dX11_init_81 (rfl : 81 + 3 = 84) ?_
  refine y_aload_n h 0 dX11_init_84 rfl (rfl : 84 + 1 = 85) ?_
  refine y_bipush h 8 dX11_init_85 (by decide) (rfl : 85 + 2 = 87) ?_
  refine y_anew (t := 3) (m := 8) (C := RX0) h hBs (zZ_zuJ (zZ_up (m := 34) (zZ_zuJ (zZX7_init_18 (zZ_up (m := 19) (zZ_zuJ (zZX9_init_16 (zZ_up (m := 17) (zZ_zuJ (zZ_up (m := 16) (zZ_zuJ (zZ_up (m := 15) (zZ_zuJ (zZX1_init_6 (zZ_up (m := 7) (zZ_zuJ (zZ_cl (zZ_zuJ (zZX3_init_1 (zZ_up (m := 2) hZ (by decide))) (by decide))) (by decide)) (by decide))) (by decide)) (by decide)) (by decide)) (by decide)) (by decide)) (by decide))) (by decide)) (by decide))) (by decide)) (by decide)) (by decide)) (List.mem_of_getElem? (i := 33) rfl) (List.mem_of_getElem? (i := 29) rfl) (by decide) rfl (by decide) (by decide) (by decide) rfl ⟨by decide, by decide⟩ dX11_init_87 (rfl : 87 + 3 = 90) ?_
  refine y_putR (ci := 10) (C := RX11) (T := TX11) (N := 13) h 8 tyX11 tyX11_ok nmX11 rfl rfl (fun _ hq => List.mem_cons_of_mem _ (List.mem_append_left _ (List.mem_append_left _ (List.mem_append_left _ (List.mem_append_left _ (List.mem_append_left _ (List.mem_append_left _ (List.mem_append_left _ (List.mem_append_left _ (List.mem_append_left _ (List.mem_append_right _ hq))))))))))) (by decide) (List.mem_of_getElem? (i := 34) rfl) rfl rfl hr.2.2.2 rfl (Or.inr ⟨_, rfl⟩) dX11_init_90 (rfl : 90 + 3 = 93) ?_
  refine y_aload_n h 0 dX11_init_93 rfl (rfl : 93 + 1 = 94) ?_
  refine y_iconst h 0 dX11_init_94 (by decide) (rfl : 94 + 1 = 95) ?_
  refine y_putI (ci := 10) (C := RX11) (T := TX11) (N := 13) h 9 tyX11 tyX11_ok nmX11 rfl rfl (fun _ hq => List.mem_cons_of_mem _ (List.mem_append_left _ (List.mem_append_left _ (List.mem_append_left _ (List.mem_append_left _ (List.mem_append_left _ (List.mem_append_left _ (List.mem_append_left _ (List.mem_append_left _ (List.mem_append_left _ (List.mem_append_right _ hq))))))))))) (by decide) (List.mem_of_getElem? (i := 35) rfl) rfl rfl rfl dX11_init_95 (rfl : 95 + 3 = 98) ?_
  refine y_aload_n h 0 dX11_init_98 rfl (rfl : 98 + 1 = 99) ?_
  refine y_new (ci := 4) (C := RX4) (T := TX4) (N := 2) h hBs (zZ_zu (zZ_zuJ (zZ_up (m := 35) (zZ_zuJ (zZ_up (m := 34) (zZ_zuJ (zZX7_init_18 (zZ_up (m := 19) (zZ_zuJ (zZX9_init_16 (zZ_up (m := 17) (zZ_zuJ (zZ_up (m := 16) (zZ_zuJ (zZ_up (m := 15) (zZ_zuJ (zZX1_init_6 (zZ_up (m := 7) (zZ_zuJ (zZ_cl (zZ_zuJ (zZX3_init_1 (zZ_up (m := 2) hZ (by decide))) (by decide))) (by decide)) (by decide))) (by decide)) (by decide)) (by decide)) (by decide)) (by decide)) (by decide))) (by decide)) (by decide))) (by decide)) (by decide)) (by decide)) (by decide)) (by decide)) (by decide)) (fun _ hq => List.mem_cons_of_mem _ (List.mem_append_left _ (List.mem_append_left _ (List.mem_append_left _ (List.mem_append_left _ (List.mem_append_left _ (List.mem_append_right _ hq))))))) tyX4 tyX4_ok zdefX4 (List.mem_of_getElem? (i := 31) rfl) (List.mem_of_getElem? (i := 36) rfl) (List.mem_of_getElem? (i := 37) rfl) rfl rfl ⟨by decide, by decide⟩ dX11_init_99 (rfl : 99 + 3 = 102) ?_
  refine y_dup h rfl dX11_init_102 (rfl : 102 + 1 = 103) ?_
  refine y_callI (n' := 37) (I' := iIX4_init_35 (zu (iIX7_init_18 (iIX9_init_16 (iIX1_init_6 (fun q => if q = 5 then zT0 else (iIX3_init_1 I) q)))) 0 9 0)) (J' := iJX4_init_35 (zuJ (zuJ (zuJ (iJX7_init_18 (zuJ (iJX9_init_16 (zuJ (zuJ (zuJ (iJX1_init_6 (zuJ (zuJ (iJX3_init_1 J) 0 0 (some 1)) 0 1 (some 5))) 0 2 (some 6)) 0 3 (some 14)) 0 4 (some 15))) 0 5 (some 16))) 0 6 (some 18)) 0 7 (some 33)) 0 8 (some 34))) h [] [.ref (za B 35), .ref (za B 0)] zyX4_init (c_X4_init_35 B hBs (zu (iIX7_init_18 (iIX9_init_16 (iIX1_init_6 (fun q => if q = 5 then zT0 else (iIX3_init_1 I) q)))) 0 9 0) (zuJ (zuJ (zuJ (iJX7_init_18 (zuJ (iJX9_init_16 (zuJ (zuJ (zuJ (iJX1_init_6 (zuJ (zuJ (iJX3_init_1 J) 0 0 (some 1)) 0 1 (some 5))) 0 2 (some 6)) 0 3 (some 14)) 0 4 (some 15))) 0 5 (some 16))) 0 6 (some 18)) 0 7 (some 33)) 0 8 (some 34)) (zZ_up (m := 36) (zZ_zu (zZ_zuJ (zZ_up (m := 35) (zZ_zuJ (zZ_up (m := 34) (zZ_zuJ (zZX7_init_18 (zZ_up (m := 19) (zZ_zuJ (zZX9_init_16 (zZ_up (m := 17) (zZ_zuJ (zZ_up (m := 16) (zZ_zuJ (zZ_up (m := 15) (zZ_zuJ (zZX1_init_6 (zZ_up (m := 7) (zZ_zuJ (zZ_cl (zZ_zuJ (zZX3_init_1 (zZ_up (m := 2) hZ (by decide))) (by decide))) (by decide)) (by decide))) (by decide)) (by decide)) (by decide)) (by decide)) (by decide)) (by decide))) (by decide)) (by decide))) (by decide)) (by decide)) (by decide)) (by decide)) (by decide)) (by decide)) (by decide))) gX11_init_X4_init (List.mem_of_getElem? (i := 37) rfl) (List.mem_of_getElem? (i := 97) rfl) (List.mem_of_getElem? (i := 98) rfl) rfl ⟨by decide, by decide⟩ rfl (Nat.le_of_ble_eq_true rfl) ⟨by decide, by decide⟩ rfl dX11_init_103 (rfl : 103 + 3 = 106) ?_
  refine y_putR (ci := 10) (C := RX11) (T := TX11) (N := 13) h 10 tyX11 tyX11_ok nmX11 rfl rfl (fun _ hq => List.mem_cons_of_mem _ (List.mem_append_left _ (List.mem_append_left _ (List.mem_append_left _ (List.mem_append_left _ (List.mem_append_left _ (List.mem_append_left _ (List.mem_append_left _ (List.mem_append_left _ (List.mem_append_left _ (List.mem_append_right _ hq))))))))))) (by decide) (List.mem_of_getElem? (i := 38) rfl) rfl rfl hr.2.2.2 rfl (Or.inl ⟨_, rfl⟩) dX11_init_106 (rfl : 106 + 3 = 109) ?_
  refine y_aload_n h 0 dX11_init_109 rfl (rfl : 109 + 1 = 110) ?_
  refine y_new (ci := 8) (C := RX8) (T := TX8) (N := 3) h hBs (zZ_zuJ (zZX4_init_35 (zZ_up (m := 36) (zZ_zu (zZ_zuJ (zZ_up (m := 35) (zZ_zuJ (zZ_up (m := 34) (zZ_zuJ (zZX7_init_18 (zZ_up (m := 19) (zZ_zuJ (zZX9_init_16 (zZ_up (m := 17) (zZ_zuJ (zZ_up (m := 16) (zZ_zuJ (zZ_up (m := 15) (zZ_zuJ (zZX1_init_6 (zZ_up (m := 7) (zZ_zuJ (zZ_cl (zZ_zuJ (zZX3_init_1 (zZ_up (m := 2) hZ (by decide))) (by decide))) (by decide)) (by decide))) (by decide)) (by decide)) (by decide)) (by decide)) (by decide)) (by decide))) (by decide)) (by decide))) (by decide)) (by decide)) (by decide)) (by decide)) (by decide)) (by decide)) (by decide))) (by decide)) (fun _ hq => List.mem_cons_of_mem _ (List.mem_append_left _ (List.mem_append_left _ (List.mem_append_left _ (List.mem_append_left _ (List.mem_append_right _ hq)))))) tyX8 tyX8_ok zdefX8 (List.mem_of_getElem? (i := 39) rfl) (List.mem_of_getElem? (i := 40) rfl) (List.mem_of_getElem? (i := 41) rfl) rfl rfl ⟨by decide, by decide⟩ dX11_init_110 (rfl : 110 + 3 = 113) ?_
  refine y_dup h rfl dX11_init_113 (rfl : 113 + 1 = 114) ?_
  refine y_callIN (n' := 39) (I' := iIX8_init_37 (iIX4_init_35 (zu (iIX7_init_18 (iIX9_init_16 (iIX1_init_6 (fun q => if q = 5 then zT0 else (iIX3_init_1 I) q)))) 0 9 0))) (J' := iJX8_init_37 (zuJ (iJX4_init_35 (zuJ (zuJ (zuJ (iJX7_init_18 (zuJ (iJX9_init_16 (zuJ (zuJ (zuJ (iJX1_init_6 (zuJ (zuJ (iJX3_init_1 J) 0 0 (some 1)) 0 1 (some 5))) 0 2 (some 6)) 0 3 (some 14)) 0 4 (some 15))) 0 5 (some 16))) 0 6 (some 18)) 0 7 (some 33)) 0 8 (some 34))) 0 10 (some 35))) h [] [.ref (za B 37), .ref (za B 0)] zyX8_init (c_X8_init_37 B hBs (iIX4_init_35 (zu (iIX7_init_18 (iIX9_init_16 (iIX1_init_6 (fun q => if q = 5 then zT0 else (iIX3_init_1 I) q)))) 0 9 0)) (zuJ (iJX4_init_35 (zuJ (zuJ (zuJ (iJX7_init_18 (zuJ (iJX9_init_16 (zuJ (zuJ (zuJ (iJX1_init_6 (zuJ (zuJ (iJX3_init_1 J) 0 0 (some 1)) 0 1 (some 5))) 0 2 (some 6)) 0 3 (some 14)) 0 4 (some 15))) 0 5 (some 16))) 0 6 (some 18)) 0 7 (some 33)) 0 8 (some 34))) 0 10 (some 35)) (zZ_up (m := 38) (zZ_zuJ (zZX4_init_35 (zZ_up (m := 36) (zZ_zu (zZ_zuJ (zZ_up (m := 35) (zZ_zuJ (zZ_up (m := 34) (zZ_zuJ (zZX7_init_18 (zZ_up (m := 19) (zZ_zuJ (zZX9_init_16 (zZ_up (m := 17) (zZ_zuJ (zZ_up (m := 16) (zZ_zuJ (zZ_up (m := 15) (zZ_zuJ (zZX1_init_6 (zZ_up (m := 7) (zZ_zuJ (zZ_cl (zZ_zuJ (zZX3_init_1 (zZ_up (m := 2) hZ (by decide))) (by decide))) (by decide)) (by decide))) (by decide)) (by decide)) (by decide)) (by decide)) (by decide)) (by decide))) (by decide)) (by decide))) (by decide)) (by decide)) (by decide)) (by decide)) (by decide)) (by decide)) (by decide))) (by decide)) (by decide))) gX11_init_X8_init_n80 (List.mem_of_getElem? (i := 41) rfl) (List.mem_of_getElem? (i := 5) rfl) (List.mem_of_getElem? (i := 114) rfl) rfl ⟨by decide, by decide⟩ rfl (Nat.le_of_ble_eq_true rfl) ⟨by decide, by decide⟩ rfl dX11_init_114 (rfl : 114 + 3 = 117) ?_
  refine y_putR (ci := 10) (C := RX11) (T := TX11) (N := 13) h 11 tyX11 tyX11_ok nmX11 rfl rfl (fun _ hq => List.mem_cons_of_mem _ (List.mem_append_left _ (List.mem_append_left _ (List.mem_append_left _ (List.mem_append_left _ (List.mem_append_left _ (List.mem_append_left _ (List.mem_append_left _ (List.mem_append_left _ (List.mem_append_left _ (List.mem_append_right _ hq))))))))))) (by decide) (List.mem_of_getElem? (i := 42) rfl) rfl rfl hr.2.2.2 rfl (Or.inl ⟨_, rfl⟩) dX11_init_117 (rfl : 117 + 3 = 120) ?_
  refine y_aload_n h 0 dX11_init_120 rfl (rfl : 120 + 1 = 121) ?_
  refine y_new (ci := 5) (C := RX5) (T := TX5) (N := 17) h hBs (zZ_zuJ (zZX8_init_37 (zZ_up (m := 38) (zZ_zuJ (zZX4_init_35 (zZ_up (m := 36) (zZ_zu (zZ_zuJ (zZ_up (m := 35) (zZ_zuJ (zZ_up (m := 34) (zZ_zuJ (zZX7_init_18 (zZ_up (m := 19) (zZ_zuJ (zZX9_init_16 (zZ_up (m := 17) (zZ_zuJ (zZ_up (m := 16) (zZ_zuJ (zZ_up (m := 15) (zZ_zuJ (zZX1_init_6 (zZ_up (m := 7) (zZ_zuJ (zZ_cl (zZ_zuJ (zZX3_init_1 (zZ_up (m := 2) hZ (by decide))) (by decide))) (by decide)) (by decide))) (by decide)) (by decide)) (by decide)) (by decide)) (by decide)) (by decide))) (by decide)) (by decide))) (by decide)) (by decide)) (by decide)) (by decide)) (by decide)) (by decide)) (by decide))) (by decide)) (by decide))) (by decide)) (fun _ hq => List.mem_cons_of_mem _ (List.mem_append_left _ (List.mem_append_left _ (List.mem_append_left _ (List.mem_append_right _ hq))))) tyX5 tyX5_ok zdefX5 (List.mem_of_getElem? (i := 43) rfl) (List.mem_of_getElem? (i := 44) rfl) (List.mem_of_getElem? (i := 45) rfl) rfl rfl ⟨by decide, by decide⟩ dX11_init_121 (rfl : 121 + 3 = 124) ?_
  refine y_dup h rfl dX11_init_124 (rfl : 124 + 1 = 125) ?_
  refine y_aload_n h 0 dX11_init_125 rfl (rfl : 125 + 1 = 126) ?_
  refine y_get (ci := 10) (C := RX11) (T := TX11) (N := 13) h 0 (.ref (za B 1)) rfl rfl (fun _ hq => List.mem_cons_of_mem _ (List.mem_append_left _ (List.mem_append_left _ (List.mem_append_left _ (List.mem_append_left _ (List.mem_append_left _ (List.mem_append_left _ (List.mem_append_left _ (List.mem_append_left _ (List.mem_append_left _ (List.mem_append_right _ hq))))))))))) (by decide) (List.mem_of_getElem? (i := 7) rfl) (zfs_ref rfl (by rfl)) dX11_init_126 (rfl : 126 + 3 = 129) ?_
  refine y_aload_n h 0 dX11_init_129 rfl (rfl : 129 + 1 = 130) ?_
  refine y_get (ci := 10) (C := RX11) (T := TX11) (N := 13) h 1 (.ref (za B 5)) rfl rfl (fun _ hq => List.mem_cons_of_mem _ (List.mem_append_left _ (List.mem_append_left _ (List.mem_append_left _ (List.mem_append_left _ (List.mem_append_left _ (List.mem_append_left _ (List.mem_append_left _ (List.mem_append_left _ (List.mem_append_left _ (List.mem_append_right _ hq))))))))))) (by decide) (List.mem_of_getElem? (i := 15) rfl) (zfs_ref rfl (by rfl)) dX11_init_130 (rfl : 130 + 3 = 133) ?_
  refine y_aload_n h 0 dX11_init_133 rfl (rfl : 133 + 1 = 134) ?_
  refine y_get (ci := 10) (C := RX11) (T := TX11) (N := 13) h 6 (.ref (za B 18)) rfl rfl (fun _ hq => List.mem_cons_of_mem _ (List.mem_append_left _ (List.mem_append_left _ (List.mem_append_left _ (List.mem_append_left _ (List.mem_append_left _ (List.mem_append_left _ (List.mem_append_left _ (List.mem_append_left _ (List.mem_append_left _ (List.mem_append_right _ hq))))))))))) (by decide) (List.mem_of_getElem? (i := 30) rfl) (zfs_ref rfl (by rfl)) dX11_init_134 (rfl : 134 + 3 = 137) ?_
  refine y_callI (n' := 75) (I' := iIX5_init_39 (iIX8_init_37 (iIX4_init_35 (zu (iIX7_init_18 (iIX9_init_16 (iIX1_init_6 (fun q => if q = 5 then zT0 else (iIX3_init_1 I) q)))) 0 9 0)))) (J' := iJX5_init_39 (zuJ (iJX8_init_37 (zuJ (iJX4_init_35 (zuJ (zuJ (zuJ (iJX7_init_18 (zuJ (iJX9_init_16 (zuJ (zuJ (zuJ (iJX1_init_6 (zuJ (zuJ (iJX3_init_1 J) 0 0 (some 1)) 0 1 (some 5))) 0 2 (some 6)) 0 3 (some 14)) 0 4 (some 15))) 0 5 (some 16))) 0 6 (some 18)) 0 7 (some 33)) 0 8 (some 34))) 0 10 (some 35))) 0 11 (some 37))) h [.ref (za B 1), .ref (za B 5), .ref (za B 18)] [.ref (za B 39), .ref (za B 0)] zyX5_init (c_X5_init_39 B hBs (iIX8_init_37 (iIX4_init_35 (zu (iIX7_init_18 (iIX9_init_16 (iIX1_init_6 (fun q => if q = 5 then zT0 else (iIX3_init_1 I) q)))) 0 9 0))) (zuJ (iJX8_init_37 (zuJ (iJX4_init_35 (zuJ (zuJ (zuJ (iJX7_init_18 (zuJ (iJX9_init_16 (zuJ (zuJ (zuJ (iJX1_init_6 (zuJ (zuJ (iJX3_init_1 J) 0 0 (some 1)) 0 1 (some 5))) 0 2 (some 6)) 0 3 (some 14)) 0 4 (some 15))) 0 5 (some 16))) 0 6 (some 18)) 0 7 (some 33)) 0 8 (some 34))) 0 10 (some 35))) 0 11 (some 37)) (zZ_up (m := 40) (zZ_zuJ (zZX8_init_37 (zZ_up (m := 38) (zZ_zuJ (zZX4_init_35 (zZ_up (m := 36) (zZ_zu (zZ_zuJ (zZ_up (m := 35) (zZ_zuJ (zZ_up (m := 34) (zZ_zuJ (zZX7_init_18 (zZ_up (m := 19) (zZ_zuJ (zZX9_init_16 (zZ_up (m := 17) (zZ_zuJ (zZ_up (m := 16) (zZ_zuJ (zZ_up (m := 15) (zZ_zuJ (zZX1_init_6 (zZ_up (m := 7) (zZ_zuJ (zZ_cl (zZ_zuJ (zZX3_init_1 (zZ_up (m := 2) hZ (by decide))) (by decide))) (by decide)) (by decide))) (by decide)) (by decide)) (by decide)) (by decide)) (by decide)) (by decide))) (by decide)) (by decide))) (by decide)) (by decide)) (by decide)) (by decide)) (by decide)) (by decide)) (by decide))) (by decide)) (by decide))) (by decide)) (by decide))) gX11_init_X5_init (List.mem_of_getElem? (i := 45) rfl) (List.mem_of_getElem? (i := 119) rfl) (List.mem_of_getElem? (i := 120) rfl) rfl ⟨by decide, by decide⟩ rfl (Nat.le_of_ble_eq_true rfl) ⟨by decide, by decide⟩ rfl dX11_init_137 (rfl : 137 + 3 = 140) ?_
  refine y_putR (ci := 10) (C := RX11) (T := TX11) (N := 13) h 12 tyX11 tyX11_ok nmX11 rfl rfl (fun _ hq => List.mem_cons_of_mem _ (List.mem_append_left _ (List.mem_append_left _ (List.mem_append_left _ (List.mem_append_left _ (List.mem_append_left _ (List.mem_append_left _ (List.mem_append_left _ (List.mem_append_left _ (List.mem_append_left _ (List.mem_append_right _ hq))))))))))) (by decide) (List.mem_of_getElem? (i := 46) rfl) rfl rfl hr.2.2.2 rfl (Or.inl ⟨_, rfl⟩) dX11_init_140 (rfl : 140 + 3 = 143) ?_
  refine y_iconst h 0 dX11_init_143 (by decide) (rfl : 143 + 1 = 144) ?_
  refine y_istore_n h [(1, .int 0), (0, .ref (za B 0))] dX11_init_144 (by decide) rfl (rfl : 144 + 1 = 145) ?_
  refine y_iload_n h 0 dX11_init_145 rfl (rfl : 145 + 1 = 146) ?_
  refine y_iconst h 2 dX11_init_146 (by decide) (rfl : 146 + 1 = 147) ?_
  refine y_icmp_ge (pc' := 150) h 169 dX11_init_147 (by decide) rfl (fun q => absurd q (by decide)) (fun _ => ?_)
  refine y_aload_n h 1 dX11_init_150 rfl (rfl : 150 + 1 = 151) ?_
  refine y_get (ci := 10) (C := RX11) (T := TX11) (N := 13) h 3 (.ref (za B 14)) rfl rfl (fun _ hq => List.mem_cons_of_mem _ (List.mem_append_left _ (List.mem_append_left _ (List.mem_append_left _ (List.mem_append_left _ (List.mem_append_left _ (List.mem_append_left _ (List.mem_append_left _ (List.mem_append_left _ (List.mem_append_left _ (List.mem_append_right _ hq))))))))))) (by decide) (List.mem_of_getElem? (i := 20) rfl) (zfs_ref rfl (by rfl)) dX11_init_151 (rfl : 151 + 3 = 154) ?_
  refine y_iload_n h 0 dX11_init_154 rfl (rfl : 154 + 1 = 155) ?_
  refine y_new (ci := 1) (C := RX1) (T := TX1) (N := 9) h hBs (zZ_zuJ (zZX5_init_39 (zZ_up (m := 40) (zZ_zuJ (zZX8_init_37 (zZ_up (m := 38) (zZ_zuJ (zZX4_init_35 (zZ_up (m := 36) (zZ_zu (zZ_zuJ (zZ_up (m := 35) (zZ_zuJ (zZ_up (m := 34) (zZ_zuJ (zZX7_init_18 (zZ_up (m := 19) (zZ_zuJ (zZX9_init_16 (zZ_up (m := 17) (zZ_zuJ (zZ_up (m := 16) (zZ_zuJ (zZ_up (m := 15) (zZ_zuJ (zZX1_init_6 (zZ_up (m := 7) (zZ_zuJ (zZ_cl (zZ_zuJ (zZX3_init_1 (zZ_up (m := 2) hZ (by decide))) (by decide))) (by decide)) (by decide))) (by decide)) (by decide)) (by decide)) (by decide)) (by decide)) (by decide))) (by decide)) (by decide))) (by decide)) (by decide)) (by decide)) (by decide)) (by decide)) (by decide)) (by decide))) (by decide)) (by decide))) (by decide)) (by decide))) (by decide)) (fun _ hq => List.mem_cons_of_mem _ (List.mem_append_left _ (List.mem_append_left _ (List.mem_append_left _ (List.mem_append_left _ (List.mem_append_left _ (List.mem_append_left _ (List.mem_append_left _ (List.mem_append_left _ (List.mem_append_right _ hq)))))))))) tyX1 tyX1_ok zdefX1 (List.mem_of_getElem? (i := 16) rfl) (List.mem_of_getElem? (i := 17) rfl) (List.mem_of_getElem? (i := 18) rfl) rfl rfl ⟨by decide, by decide⟩ dX11_init_155 (rfl : 155 + 3 = 158) ?_
  refine y_dup h rfl dX11_init_158 (rfl : 158 + 1 = 159) ?_
  refine y_callIN (n' := 83) (I' := iIX1_init_75 (iIX5_init_39 (iIX8_init_37 (iIX4_init_35 (zu (iIX7_init_18 (iIX9_init_16 (iIX1_init_6 (fun q => if q = 5 then zT0 else (iIX3_init_1 I) q)))) 0 9 0))))) (J' := iJX1_init_75 (zuJ (iJX5_init_39 (zuJ (iJX8_init_37 (zuJ (iJX4_init_35 (zuJ (zuJ (zuJ (iJX7_init_18 (zuJ (iJX9_init_16 (zuJ (zuJ (zuJ (iJX1_init_6 (zuJ (zuJ (iJX3_init_1 J) 0 0 (some 1)) 0 1 (some 5))) 0 2 (some 6)) 0 3 (some 14)) 0 4 (some 15))) 0 5 (some 16))) 0 6 (some 18)) 0 7 (some 33)) 0 8 (some 34))) 0 10 (some 35))) 0 11 (some 37))) 0 12 (some 39))) h [] [.ref (za B 75), .int 0, .ref (za B 14)] zyX1_init (c_X1_init_75 B hBs (iIX5_init_39 (iIX8_init_37 (iIX4_init_35 (zu (iIX7_init_18 (iIX9_init_16 (iIX1_init_6 (fun q => if q = 5 then zT0 else (iIX3_init_1 I) q)))) 0 9 0)))) (zuJ (iJX5_init_39 (zuJ (iJX8_init_37 (zuJ (iJX4_init_35 (zuJ (zuJ (zuJ (iJX7_init_18 (zuJ (iJX9_init_16 (zuJ (zuJ (zuJ (iJX1_init_6 (zuJ (zuJ (iJX3_init_1 J) 0 0 (some 1)) 0 1 (some 5))) 0 2 (some 6)) 0 3 (some 14)) 0 4 (some 15))) 0 5 (some 16))) 0 6 (some 18)) 0 7 (some 33)) 0 8 (some 34))) 0 10 (some 35))) 0 11 (some 37))) 0 12 (some 39)) (zZ_up (m := 76) (zZ_zuJ (zZX5_init_39 (zZ_up (m := 40) (zZ_zuJ (zZX8_init_37 (zZ_up (m := 38) (zZ_zuJ (zZX4_init_35 (zZ_up (m := 36) (zZ_zu (zZ_zuJ (zZ_up (m := 35) (zZ_zuJ (zZ_up (m := 34) (zZ_zuJ (zZX7_init_18 (zZ_up (m := 19) (zZ_zuJ (zZX9_init_16 (zZ_up (m := 17) (zZ_zuJ (zZ_up (m := 16) (zZ_zuJ (zZ_up (m := 15) (zZ_zuJ (zZX1_init_6 (zZ_up (m := 7) (zZ_zuJ (zZ_cl (zZ_zuJ (zZX3_init_1 (zZ_up (m := 2) hZ (by decide))) (by decide))) (by decide)) (by decide))) (by decide)) (by decide)) (by decide)) (by decide)) (by decide)) (by decide))) (by decide)) (by decide))) (by decide)) (by decide)) (by decide)) (by decide)) (by decide)) (by decide)) (by decide))) (by decide)) (by decide))) (by decide)) (by decide))) (by decide)) (by decide))) gX11_init_X1_init_n30 (List.mem_of_getElem? (i := 18) rfl) (List.mem_of_getElem? (i := 0) rfl) (List.mem_of_getElem? (i := 58) rfl) rfl ⟨by decide, by decide⟩ rfl (Nat.le_of_ble_eq_true rfl) ⟨by decide, by decide⟩ rfl dX11_init_159 (rfl : 159 + 3 = 162) ?_
  refine y_astq (ci := 1) h (by decide) rfl rfl (by decide) rfl rfl dX11_init_162 (rfl : 162 + 1 = 163) ?_
  refine y_iinc h 0 1 [(1, .int 1), (0, .ref (za B 0))] dX11_init_163 rfl (by decide) (by decide) rfl (rfl : 163 + 3 = 166) ?_
  refine y_goto (pc' := 145) h dX11_init_166 (by decide) ?_
  refine y_iload_n h 0 dX11_init_145 rfl (rfl : 145 + 1 = 146) ?_
  refine y_iconst h 2 dX11_init_146 (by decide) (rfl : 146 + 1 = 147) ?_
  refine y_icmp_ge (pc' := 150) h 169 dX11_init_147 (by decide) rfl (fun q => absurd q (by decide)) (fun _ => ?_)
  refine y_aload_n h 1 dX11_init_150 rfl (rfl : 150 + 1 = 151) ?_
  refine y_get (ci := 10) (C := RX11) (T := TX11) (N := 13) h 3 (.ref (za B 14)) rfl rfl (fun _ hq => List.mem_cons_of_mem _ (List.mem_append_left _ (List.mem_append_left _ (List.mem_append_left _ (List.mem_append_left _ (List.mem_append_left _ (List.mem_append_left _ (List.mem_append_left _ (List.mem_append_left _ (List.mem_append_left _ (List.mem_append_right _ hq))))))))))) (by decide) (List.mem_of_getElem? (i := 20) rfl) (zfs_ref rfl (by rfl)) dX11_init_151 (rfl : 151 + 3 = 154) ?_
  refine y_iload_n h 0 dX11_init_154 rfl (rfl : 154 + 1 = 155) ?_
  refine y_new (ci := 1) (C := RX1) (T := TX1) (N := 9) h hBs (zZ_zuJ (zZX1_init_75 (zZ_up (m := 76) (zZ_zuJ (zZX5_init_39 (zZ_up (m := 40) (zZ_zuJ (zZX8_init_37 (zZ_up (m := 38) (zZ_zuJ (zZX4_init_35 (zZ_up (m := 36) (zZ_zu (zZ_zuJ (zZ_up (m := 35) (zZ_zuJ (zZ_up (m := 34) (zZ_zuJ (zZX7_init_18 (zZ_up (m := 19) (zZ_zuJ (zZX9_init_16 (zZ_up (m := 17) (zZ_zuJ (zZ_up (m := 16) (zZ_zuJ (zZ_up (m := 15) (zZ_zuJ (zZX1_init_6 (zZ_up (m := 7) (zZ_zuJ (zZ_cl (zZ_zuJ (zZX3_init_1 (zZ_up (m := 2) hZ (by decide))) (by decide))) (by decide)) (by decide))) (by decide)) (by decide)) (by decide)) (by decide)) (by decide)) (by decide))) (by decide)) (by decide))) (by decide)) (by decide)) (by decide)) (by decide)) (by decide)) (by decide)) (by decide))) (by decide)) (by decide))) (by decide)) (by decide))) (by decide)) (by decide))) (by decide)) (fun _ hq => List.mem_cons_of_mem _ (List.mem_append_left _ (List.mem_append_left _ (List.mem_append_left _ (List.mem_append_left _ (List.mem_append_left _ (List.mem_append_left _ (List.mem_append_left _ (List.mem_append_left _ (List.mem_append_right _ hq)))))))))) tyX1 tyX1_ok zdefX1 (List.mem_of_getElem? (i := 16) rfl) (List.mem_of_getElem? (i := 17) rfl) (List.mem_of_getElem? (i := 18) rfl) rfl rfl ⟨by decide, by decide⟩ dX11_init_155 (rfl : 155 + 3 = 158) ?_
  refine y_dup h rfl dX11_init_158 (rfl : 158 + 1 = 159) ?_
  refine y_callIN (n' := 91) (I' := iIX1_init_83 (iIX1_init_75 (iIX5_init_39 (iIX8_init_37 (iIX4_init_35 (zu (iIX7_init_18 (iIX9_init_16 (iIX1_init_6 (fun q => if q = 5 then zT0 else (iIX3_init_1 I) q)))) 0 9 0)))))) (J' := iJX1_init_83 (zuJ (iJX1_init_75 (zuJ (iJX5_init_39 (zuJ (iJX8_init_37 (zuJ (iJX4_init_35 (zuJ (zuJ (zuJ (iJX7_init_18 (zuJ (iJX9_init_16 (zuJ (zuJ (zuJ (iJX1_init_6 (zuJ (zuJ (iJX3_init_1 J) 0 0 (some 1)) 0 1 (some 5))) 0 2 (some 6)) 0 3 (some 14)) 0 4 (some 15))) 0 5 (some 16))) 0 6 (some 18)) 0 7 (some 33)) 0 8 (some 34))) 0 10 (some 35))) 0 11 (some 37))) 0 12 (some 39))) 14 0 (some 75))) h [] [.ref (za B 83), .int 1, .ref (za B 14)] zyX1_init (c_X1_init_83 B hBs (iIX1_init_75 (iIX5_init_39 (iIX8_init_37 (iIX4_init_35 (zu (iIX7_init_18 (iIX9_init_16 (iIX1_init_6 (fun q => if q = 5 then zT0 else (iIX3_init_1 I) q)))) 0 9 0))))) (zuJ (iJX1_init_75 (zuJ (iJX5_init_39 (zuJ (iJX8_init_37 (zuJ (iJX4_init_35 (zuJ (zuJ (zuJ (iJX7_init_18 (zuJ (iJX9_init_16 (zuJ (zuJ (zuJ (iJX1_init_6 (zuJ (zuJ (iJX3_init_1 J) 0 0 (some 1)) 0 1 (some 5))) 0 2 (some 6)) 0 3 (some 14)) 0 4 (some 15))) 0 5 (some 16))) 0 6 (some 18)) 0 7 (some 33)) 0 8 (some 34))) 0 10 (some 35))) 0 11 (some 37))) 0 12 (some 39))) 14 0 (some 75)) (zZ_up (m := 84) (zZ_zuJ (zZX1_init_75 (zZ_up (m := 76) (zZ_zuJ (zZX5_init_39 (zZ_up (m := 40) (zZ_zuJ (zZX8_init_37 (zZ_up (m := 38) (zZ_zuJ (zZX4_init_35 (zZ_up (m := 36) (zZ_zu (zZ_zuJ (zZ_up (m := 35) (zZ_zuJ (zZ_up (m := 34) (zZ_zuJ (zZX7_init_18 (zZ_up (m := 19) (zZ_zuJ (zZX9_init_16 (zZ_up (m := 17) (zZ_zuJ (zZ_up (m := 16) (zZ_zuJ (zZ_up (m := 15) (zZ_zuJ (zZX1_init_6 (zZ_up (m := 7) (zZ_zuJ (zZ_cl (zZ_zuJ (zZX3_init_1 (zZ_up (m := 2) hZ (by decide))) (by decide))) (by decide)) (by decide))) (by decide)) (by decide)) (by decide)) (by decide)) (by decide)) (by decide))) (by decide)) (by decide))) (by decide)) (by decide)) (by decide)) (by decide)) (by decide)) (by decide)) (by decide))) (by decide)) (by decide))) (by decide)) (by decide))) (by decide)) (by decide))) (by decide)) (by decide))) gX11_init_X1_init_n30 (List.mem_of_getElem? (i := 18) rfl) (List.mem_of_getElem? (i := 0) rfl) (List.mem_of_getElem? (i := 58) rfl) rfl ⟨by decide, by decide⟩ rfl (Nat.le_of_ble_eq_true rfl) ⟨by decide, by decide⟩ rfl dX11_init_159 (rfl : 159 + 3 = 162) ?_
  refine y_astq (ci := 1) h (by decide) rfl rfl (by decide) rfl rfl dX11_init_162 (rfl : 162 + 1 = 163) ?_
  refine y_iinc h 0 2 [(1, .int 2), (0, .ref (za B 0))] dX11_init_163 rfl (by decide) (by decide) rfl (rfl : 163 + 3 = 166) ?_
  refine y_goto (pc' := 145) h dX11_init_166 (by decide) ?_
  refine y_iload_n h 0 dX11_init_145 rfl (rfl : 145 + 1 = 146) ?_
  refine y_iconst h 2 dX11_init_146 (by decide) (rfl : 146 + 1 = 147) ?_
  refine y_icmp_ge (pc' := 150) h 169 dX11_init_147 (by decide) rfl (fun _ => ?_) (fun q => absurd q (by decide))
  refine y_iconst h 0 dX11_init_169 (by decide) (rfl : 169 + 1 = 170) ?_
  refine y_istore_n h [(1, .int 0), (0, .ref (za B 0))] dX11_init_170 (by decide) rfl (rfl : 170 + 1 = 171) ?_
  refine y_iload_n h 0 dX11_init_171 rfl (rfl : 171 + 1 = 172) ?_
  refine y_iconst h 4 dX11_init_172 (by decide) (rfl : 172 + 1 = 173) ?_
  refine y_icmp_ge (pc' := 176) h 195 dX11_init_173 (by decide) rfl (fun q => absurd q (by decide)) (fun _ => ?_)
  refine y_aload_n h 1 dX11_init_176 rfl (rfl : 176 + 1 = 177) ?_
  refine y_get (ci := 10) (C := RX11) (T := TX11) (N := 13) h 7 (.ref (za B 33)) rfl rfl (fun _ hq => List.mem_cons_of_mem _ (List.mem_append_left _ (List.mem_append_left _ (List.mem_append_left _ (List.mem_append_left _ (List.mem_append_left _ (List.mem_append_left _ (List.mem_append_left _ (List.mem_append_left _ (List.mem_append_left _ (List.mem_append_right _ hq))))))))))) (by decide) (List.mem_of_getElem? (i := 32) rfl) (zfs_ref rfl (by rfl)) dX11_init_177 (rfl : 177 + 3 = 180) ?_
  refine y_iload_n h 0 dX11_init_180 rfl (rfl : 180 + 1 = 181) ?_
  refine y_new (ci := 4) (C := RX4) (T := TX4) (N := 2) h hBs (zZ_zuJ (zZX1_init_83 (zZ_up (m := 84) (zZ_zuJ (zZX1_init_75 (zZ_up (m := 76) (zZ_zuJ (zZX5_init_39 (zZ_up (m := 40) (zZ_zuJ (zZX8_init_37 (zZ_up (m := 38) (zZ_zuJ (zZX4_init_35 (zZ_up (m := 36) (zZ_zu (zZ_zuJ (zZ_up (m := 35) (zZ_zuJ (zZ_up (m := 34) (zZ_zuJ (zZX7_init_18 (zZ_up (m := 19) (zZ_zuJ (zZX9_init_16 (zZ_up (m := 17) (zZ_zuJ (zZ_up (m := 16) (zZ_zuJ (zZ_up (m := 15) (zZ_zuJ (zZX1_init_6 (zZ_up (m := 7) (zZ_zuJ (zZ_cl (zZ_zuJ (zZX3_init_1 (zZ_up (m := 2) hZ (by decide))) (by decide))) (by decide)) (by decide))) (by decide)) (by decide)) (by decide)) (by decide)) (by decide)) (by decide))) (by decide)) (by decide))) (by decide)) (by decide)) (by decide)) (by decide)) (by decide)) (by decide)) (by decide))) (by decide)) (by decide))) (by decide)) (by decide))) (by decide)) (by decide))) (by decide)) (by decide))) (by decide)) (fun _ hq => List.mem_cons_of_mem _ (List.mem_append_left _ (List.mem_append_left _ (List.mem_append_left _ (List.mem_append_left _ (List.mem_append_left _ (List.mem_append_right _ hq))))))) tyX4 tyX4_ok zdefX4 (List.mem_of_getElem? (i := 31) rfl) (List.mem_of_getElem? (i := 36) rfl) (List.mem_of_getElem? (i := 37) rfl) rfl rfl ⟨by decide, by decide⟩ dX11_init_181 (rfl : 181 + 3 = 184) ?_
  refine y_dup h rfl dX11_init_184 (rfl : 184 + 1 = 185) ?_
  refine y_callI (n' := 93) (I' := iIX4_init_91 (iIX1_init_83 (iIX1_init_75 (iIX5_init_39 (iIX8_init_37 (iIX4_init_35 (zu (iIX7_init_18 (iIX9_init_16 (iIX1_init_6 (fun q => if q = 5 then zT0 else (iIX3_init_1 I) q)))) 0 9 0))))))) (J' := iJX4_init_91 (zuJ (iJX1_init_83 (zuJ (iJX1_init_75 (zuJ (iJX5_init_39 (zuJ (iJX8_init_37 (zuJ (iJX4_init_35 (zuJ (zuJ (zuJ (iJX7_init_18 (zuJ (iJX9_init_16 (zuJ (zuJ (zuJ (iJX1_init_6 (zuJ (zuJ (iJX3_init_1 J) 0 0 (some 1)) 0 1 (some 5))) 0 2 (some 6)) 0 3 (some 14)) 0 4 (some 15))) 0 5 (some 16))) 0 6 (some 18)) 0 7 (some 33)) 0 8 (some 34))) 0 10 (some 35))) 0 11 (some 37))) 0 12 (some 39))) 14 0 (some 75))) 14 1 (some 83))) h [] [.ref (za B 91), .int 0, .ref (za B 33)] zyX4_init (c_X4_init_91 B hBs (iIX1_init_83 (iIX1_init_75 (iIX5_init_39 (iIX8_init_37 (iIX4_init_35 (zu (iIX7_init_18 (iIX9_init_16 (iIX1_init_6 (fun q => if q = 5 then zT0 else (iIX3_init_1 I) q)))) 0 9 0)))))) (zuJ (iJX1_init_83 (zuJ (iJX1_init_75 (zuJ (iJX5_init_39 (zuJ (iJX8_init_37 (zuJ (iJX4_init_35 (zuJ (zuJ (zuJ (iJX7_init_18 (zuJ (iJX9_init_16 (zuJ (zuJ (zuJ (iJX1_init_6 (zuJ (zuJ (iJX3_init_1 J) 0 0 (some 1)) 0 1 (some 5))) 0 2 (some 6)) 0 3 (some 14)) 0 4 (some 15))) 0 5 (some 16))) 0 6 (some 18)) 0 7 (some 33)) 0 8 (some 34))) 0 10 (some 35))) 0 11 (some 37))) 0 12 (some 39))) 14 0 (some 75))) 14 1 (some 83)) (zZ_up (m := 92) (zZ_zuJ (zZX1_init_83 (zZ_up (m := 84) (zZ_zuJ (zZX1_init_75 (zZ_up (m := 76) (zZ_zuJ (zZX5_init_39 (zZ_up (m := 40) (zZ_zuJ (zZX8_init_37 (zZ_up (m := 38) (zZ_zuJ (zZX4_init_35 (zZ_up (m := 36) (zZ_zu (zZ_zuJ (zZ_up (m := 35) (zZ_zuJ (zZ_up (m := 34) (zZ_zuJ (zZX7_init_18 (zZ_up (m := 19) (zZ_zuJ (zZX9_init_16 (zZ_up (m := 17) (zZ_zuJ (zZ_up (m := 16) (zZ_zuJ (zZ_up (m := 15) (zZ_zuJ (zZX1_init_6 (zZ_up (m := 7) (zZ_zuJ (zZ_cl (zZ_zuJ (zZX3_init_1 (zZ_up (m := 2) hZ (by decide))) (by decide))) (by decide)) (by decide))) (by decide)) (by decide)) (by decide)) (by decide)) (by decide)) (by decide))) (by decide)) (by decide))) (by decide)) (by decide)) (by decide)) (by decide)) (by decide)) (by decide)) (by decide))) (by decide)) (by decide))) (by decide)) (by decide))) (by decide)) (by decide))) (by decide)) (by decide))) (by decide)) (by decide))) gX11_init_X4_init (List.mem_of_getElem? (i := 37) rfl) (List.mem_of_getElem? (i := 97) rfl) (List.mem_of_getElem? (i := 98) rfl) rfl ⟨by decide, by decide⟩ rfl (Nat.le_of_ble_eq_true rfl) ⟨by decide, by decide⟩ rfl dX11_init_185 (rfl : 185 + 3 = 188) ?_
  refine y_astq (ci := 4) h (by decide) rfl rfl (by decide) rfl rfl dX11_init_188 (rfl : 188 + 1 = 189) ?_
  refine y_iinc h 0 1 [(1, .int 1), (0, .ref (za B 0))] dX11_init_189 rfl (by decide) (by decide) rfl (rfl : 189 + 3 = 192) ?_
  refine y_goto (pc' := 171) h dX11_init_192 (by decide) ?_
  refine y_iload_n h 0 dX11_init_171 rfl (rfl : 171 + 1 = 172) ?_
  refine y_iconst h 4 dX11_init_172 (by decide) (rfl : 172 + 1 = 173) ?_
  refine y_icmp_ge (pc' := 176) h 195 dX11_init_173 (by decide) rfl (fun q => absurd q (by decide)) (fun _ => ?_)
  refine y_aload_n h 1 dX11_init_176 rfl (rfl : 176 + 1 = 177) ?_
  refine y_get (ci := 10) (C := RX11) (T := TX11) (N := 13) h 7 (.ref (za B 33)) rfl rfl (fun _ hq => List.mem_cons_of_mem _ (List.mem_append_left _ (List.mem_append_left _ (List.mem_append_left _ (List.mem_append_left _ (List.mem_append_left _ (List.mem_append_left _ (List.mem_append_left _ (List.mem_append_left _ (List.mem_append_left _ (List.mem_append_right _ hq))))))))))) (by decide) (List.mem_of_getElem? (i := 32) rfl) (zfs_ref rfl (by rfl)) dX11_init_177 (rfl : 177 + 3 = 180) ?_
  refine y_iload_n h 0 dX11_init_180 rfl (rfl : 180 + 1 = 181) ?_
  refine y_new (ci := 4) (C := RX4) (T := TX4) (N := 2) h hBs (zZ_zuJ (zZX4_init_91 (zZ_up (m := 92) (zZ_zuJ (zZX1_init_83 (zZ_up (m := 84) (zZ_zuJ (zZX1_init_75 (zZ_up (m := 76) (zZ_zuJ (zZX5_init_39 (zZ_up (m := 40) (zZ_zuJ (zZX8_init_37 (zZ_up (m := 38) (zZ_zuJ (zZX4_init_35 (zZ_up (m := 36) (zZ_zu (zZ_zuJ (zZ_up (m := 35) (zZ_zuJ (zZ_up (m := 34) (zZ_zuJ (zZX7_init_18 (zZ_up (m := 19) (zZ_zuJ (zZX9_init_16 (zZ_up (m := 17) (zZ_zuJ (zZ_up (m := 16) (zZ_zuJ (zZ_up (m := 15) (zZ_zuJ (zZX1_init_6 (zZ_up (m := 7) (zZ_zuJ (zZ_cl (zZ_zuJ (zZX3_init_1 (zZ_up (m := 2) hZ (by decide))) (by decide))) (by decide)) (by decide))) (by decide)) (by decide)) (by decide)) (by decide)) (by decide)) (by decide))) (by decide)) (by decide))) (by decide)) (by decide)) (by decide)) (by decide)) (by decide)) (by decide)) (by decide))) (by decide)) (by decide))) (by decide)) (by decide))) (by decide)) (by decide))) (by decide)) (by decide))) (by decide)) (by decide))) (by decide)) (fun _ hq => List.mem_cons_of_mem _ (List.mem_append_left _ (List.mem_append_left _ (List.mem_append_left _ (List.mem_append_left _ (List.mem_append_left _ (List.mem_append_right _ hq))))))) tyX4 tyX4_ok zdefX4 (List.mem_of_getElem? (i := 31) rfl) (List.mem_of_getElem? (i := 36) rfl) (List.mem_of_getElem? (i := 37) rfl) rfl rfl ⟨by decide, by decide⟩ dX11_init_181 (rfl : 181 + 3 = 184) ?_
  refine y_dup h rfl dX11_init_184 (rfl : 184 + 1 = 185) ?_
  refine y_callI (n' := 95) (I' := iIX4_init_93 (iIX4_init_91 (iIX1_init_83 (iIX1_init_75 (iIX5_init_39 (iIX8_init_37 (iIX4_init_35 (zu (iIX7_init_18 (iIX9_init_16 (iIX1_init_6 (fun q => if q = 5 then zT0 else (iIX3_init_1 I) q)))) 0 9 0)))))))) (J' := iJX4_init_93 (zuJ (iJX4_init_91 (zuJ (iJX1_init_83 (zuJ (iJX1_init_75 (zuJ (iJX5_init_39 (zuJ (iJX8_init_37 (zuJ (iJX4_init_35 (zuJ (zuJ (zuJ (iJX7_init_18 (zuJ (iJX9_init_16 (zuJ (zuJ (zuJ (iJX1_init_6 (zuJ (zuJ (iJX3_init_1 J) 0 0 (some 1)) 0 1 (some 5))) 0 2 (some 6)) 0 3 (some 14)) 0 4 (some 15))) 0 5 (some 16))) 0 6 (some 18)) 0 7 (some 33)) 0 8 (some 34))) 0 10 (some 35))) 0 11 (some 37))) 0 12 (some 39))) 14 0 (some 75))) 14 1 (some 83))) 33 0 (some 91))) h [] [.ref (za B 93), .int 1, .ref (za B 33)] zyX4_init (c_X4_init_93 B hBs (iIX4_init_91 (iIX1_init_83 (iIX1_init_75 (iIX5_init_39 (iIX8_init_37 (iIX4_init_35 (zu (iIX7_init_18 (iIX9_init_16 (iIX1_init_6 (fun q => if q = 5 then zT0 else (iIX3_init_1 I) q)))) 0 9 0))))))) (zuJ (iJX4_init_91 (zuJ (iJX1_init_83 (zuJ (iJX1_init_75 (zuJ (iJX5_init_39 (zuJ (iJX8_init_37 (zuJ (iJX4_init_35 (zuJ (zuJ (zuJ (iJX7_init_18 (zuJ (iJX9_init_16 (zuJ (zuJ (zuJ (iJX1_init_6 (zuJ (zuJ (iJX3_init_1 J) 0 0 (some 1)) 0 1 (some 5))) 0 2 (some 6)) 0 3 (some 14)) 0 4 (some 15))) 0 5 (some 16))) 0 6 (some 18)) 0 7 (some 33)) 0 8 (some 34))) 0 10 (some 35))) 0 11 (some 37))) 0 12 (some 39))) 14 0 (some 75))) 14 1 (some 83))) 33 0 (some 91)) (zZ_up (m := 94) (zZ_zuJ (zZX4_init_91 (zZ_up (m := 92) (zZ_zuJ (zZX1_init_83 (zZ_up (m := 84) (zZ_zuJ (zZX1_init_75 (zZ_up (m := 76) (zZ_zuJ (zZX5_init_39 (zZ_up (m := 40) (zZ_zuJ (zZX8_init_37 (zZ_up (m := 38) (zZ_zuJ (zZX4_init_35 (zZ_up (m := 36) (zZ_zu (zZ_zuJ (zZ_up (m := 35) (zZ_zuJ (zZ_up (m := 34) (zZ_zuJ (zZX7_init_18 (zZ_up (m := 19) (zZ_zuJ (zZX9_init_16 (zZ_up (m := 17) (zZ_zuJ (zZ_up (m := 16) (zZ_zuJ (zZ_up (m := 15) (zZ_zuJ (zZX1_init_6 (zZ_up (m := 7) (zZ_zuJ (zZ_cl (zZ_zuJ (zZX3_init_1 (zZ_up (m := 2) hZ (by decide))) (by decide))) (by decide)) (by decide))) (by decide)) (by decide)) (by decide)) (by decide)) (by decide)) (by decide))) (by decide)) (by decide))) (by decide)) (by decide)) (by decide)) (by decide)) (by decide)) (by decide)) (by decide))) (by decide)) (by decide))) (by decide)) (by decide))) (by decide)) (by decide))) (by decide)) (by decide))) (by decide)) (by decide))) (by decide)) (by decide))) gX11_init_X4_init (List.mem_of_getElem? (i := 37) rfl) (List.mem_of_getElem? (i := 97) rfl) (List.mem_of_getElem? (i := 98) rfl) rfl ⟨by decide, by decide⟩ rfl (Nat.le_of_ble_eq_true rfl) ⟨by decide, by decide⟩ rfl dX11_init_185 (rfl : 185 + 3 = 188) ?_
  refine y_astq (ci := 4) h (by decide) rfl rfl (by decide) rfl rfl dX11_init_188 (rfl : 188 + 1 = 189) ?_
  refine y_iinc h 0 2 [(1, .int 2), (0, .ref (za B 0))] dX11_init_189 rfl (by decide) (by decide) rfl (rfl : 189 + 3 = 192) ?_
  refine y_goto (pc' := 171) h dX11_init_192 (by decide) ?_
  refine y_iload_n h 0 dX11_init_171 rfl (rfl : 171 + 1 = 172) ?_
  refine y_iconst h 4 dX11_init_172 (by decide) (rfl : 172 + 1 = 173) ?_
  refine y_icmp_ge (pc' := 176) h 195 dX11_init_173 (by decide) rfl (fun q => absurd q (by decide)) (fun _ => ?_)
  refine y_aload_n h 1 dX11_init_176 rfl (rfl : 176 + 1 = 177) ?_
  refine y_get (ci := 10) (C := RX11) (T := TX11) (N := 13) h 7 (.ref (za B 33)) rfl rfl (fun _ hq => List.mem_cons_of_mem _ (List.mem_append_left _ (List.mem_append_left _ (List.mem_append_left _ (List.mem_append_left _ (List.mem_append_left _ (List.mem_append_left _ (List.mem_append_left _ (List.mem_append_left _ (List.mem_append_left _ (List.mem_append_right _ hq))))))))))) (by decide) (List.mem_of_getElem? (i := 32) rfl) (zfs_ref rfl (by rfl)) dX11_init_177 (rfl : 177 + 3 = 180) ?_
  refine y_iload_n h 0 dX11_init_180 rfl (rfl : 180 + 1 = 181) ?_
  refine y_new (ci := 4) (C := RX4) (T := TX4) (N := 2) h hBs (zZ_zuJ (zZX4_init_93 (zZ_up (m := 94) (zZ_zuJ (zZX4_init_91 (zZ_up (m := 92) (zZ_zuJ (zZX1_init_83 (zZ_up (m := 84) (zZ_zuJ (zZX1_init_75 (zZ_up (m := 76) (zZ_zuJ (zZX5_init_39 (zZ_up (m := 40) (zZ_zuJ (zZX8_init_37 (zZ_up (m := 38) (zZ_zuJ (zZX4_init_35 (zZ_up (m := 36) (zZ_zu (zZ_zuJ (zZ_up (m := 35) (zZ_zuJ (zZ_up (m := 34) (zZ_zuJ (zZX7_init_18 (zZ_up (m := 19) (zZ_zuJ (zZX9_init_16 (zZ_up (m := 17) (zZ_zuJ (zZ_up (m := 16) (zZ_zuJ (zZ_up (m := 15) (zZ_zuJ (zZX1_init_6 (zZ_up (m := 7) (zZ_zuJ (zZ_cl (zZ_zuJ (zZX3_init_1 (zZ_up (m := 2) hZ (by decide))) (by decide))) (by decide)) (by decide))) (by decide)) (by decide)) (by decide)) (by decide)) (by decide)) (by decide))) (by decide)) (by decide))) (by decide)) (by decide)) (by decide)) (by decide)) (by decide)) (by decide)) (by decide))) (by decide)) (by decide))) (by decide)) (by decide))) (by decide)) (by decide))) (by decide)) (by decide))) (by decide)) (by decide))) (by decide)) (by decide))) (by decide)) (fun _ hq => List.mem_cons_of_mem _ (List.mem_append_left _ (List.mem_append_left _ (List.mem_append_left _ (List.mem_append_left _ (List.mem_append_left _ (List.mem_append_right _ hq))))))) tyX4 tyX4_ok zdefX4 (List.mem_of_getElem? (i := 31) rfl) (List.mem_of_getElem? (i := 36) rfl) (List.mem_of_getElem? (i := 37) rfl) rfl rfl ⟨by decide, by decide⟩ dX11_init_181 (rfl : 181 + 3 = 184) ?_
  refine y_dup h rfl dX11_init_184 (rfl : 184 + 1 = 185) ?_
  refine y_callI (n' := 97) (I' := iIX4_init_95 (iIX4_init_93 (iIX4_init_91 (iIX1_init_83 (iIX1_init_75 (iIX5_init_39 (iIX8_init_37 (iIX4_init_35 (zu (iIX7_init_18 (iIX9_init_16 (iIX1_init_6 (fun q => if q = 5 then zT0 else (iIX3_init_1 I) q)))) 0 9 0))))))))) (J' := iJX4_init_95 (zuJ (iJX4_init_93 (zuJ (iJX4_init_91 (zuJ (iJX1_init_83 (zuJ (iJX1_init_75 (zuJ (iJX5_init_39 (zuJ (iJX8_init_37 (zuJ (iJX4_init_35 (zuJ (zuJ (zuJ (iJX7_init_18 (zuJ (iJX9_init_16 (zuJ (zuJ (zuJ (iJX1_init_6 (zuJ (zuJ (iJX3_init_1 J) 0 0 (some 1)) 0 1 (some 5))) 0 2 (some 6)) 0 3 (some 14)) 0 4 (some 15))) 0 5 (some 16))) 0 6 (some 18)) 0 7 (some 33)) 0 8 (some 34))) 0 10 (some 35))) 0 11 (some 37))) 0 12 (some 39))) 14 0 (some 75))) 14 1 (some 83))) 33 0 (some 91))) 33 1 (some 93))) h [] [.ref (za B 95), .int 2, .ref (za B 33)] zyX4_init (c_X4_init_95 B hBs (iIX4_init_93 (iIX4_init_91 (iIX1_init_83 (iIX1_init_75 (iIX5_init_39 (iIX8_init_37 (iIX4_init_35 (zu (iIX7_init_18 (iIX9_init_16 (iIX1_init_6 (fun q => if q = 5 then zT0 else (iIX3_init_1 I) q)))) 0 9 0)))))))) (zuJ (iJX4_init_93 (zuJ (iJX4_init_91 (zuJ (iJX1_init_83 (zuJ (iJX1_init_75 (zuJ (iJX5_init_39 (zuJ (iJX8_init_37 (zuJ (iJX4_init_35 (zuJ (zuJ (zuJ (iJX7_init_18 (zuJ (iJX9_init_16 (zuJ (zuJ (zuJ (iJX1_init_6 (zuJ (zuJ (iJX3_init_1 J) 0 0 (some 1)) 0 1 (some 5))) 0 2 (some 6)) 0 3 (some 14)) 0 4 (some 15))) 0 5 (some 16))) 0 6 (some 18)) 0 7 (some 33)) 0 8 (some 34))) 0 10 (some 35))) 0 11 (some 37))) 0 12 (some 39))) 14 0 (some 75))) 14 1 (some 83))) 33 0 (some 91))) 33 1 (some 93)) (zZ_up (m := 96) (zZ_zuJ (zZX4_init_93 (zZ_up (m := 94) (zZ_zuJ (zZX4_init_91 (zZ_up (m := 92) (zZ_zuJ (zZX1_init_83 (zZ_up (m := 84) (zZ_zuJ (zZX1_init_75 (zZ_up (m := 76) (zZ_zuJ (zZX5_init_39 (zZ_up (m := 40) (zZ_zuJ (zZX8_init_37 (zZ_up (m := 38) (zZ_zuJ (zZX4_init_35 (zZ_up (m := 36) (zZ_zu (zZ_zuJ (zZ_up (m := 35) (zZ_zuJ (zZ_up (m := 34) (zZ_zuJ (zZX7_init_18 (zZ_up (m := 19) (zZ_zuJ (zZX9_init_16 (zZ_up (m := 17) (zZ_zuJ (zZ_up (m := 16) (zZ_zuJ (zZ_up (m := 15) (zZ_zuJ (zZX1_init_6 (zZ_up (m := 7) (zZ_zuJ (zZ_cl (zZ_zuJ (zZX3_init_1 (zZ_up (m := 2) hZ (by decide))) (by decide))) (by decide)) (by decide))) (by decide)) (by decide)) (by decide)) (by decide)) (by decide)) (by decide))) (by decide)) (by decide))) (by decide)) (by decide)) (by decide)) (by decide)) (by decide)) (by decide)) (by decide))) (by decide)) (by decide))) (by decide)) (by decide))) (by decide)) (by decide))) (by decide)) (by decide))) (by decide)) (by decide))) (by decide)) (by decide))) (by decide)) (by decide))) gX11_init_X4_init (List.mem_of_getElem? (i := 37) rfl) (List.mem_of_getElem? (i := 97) rfl) (List.mem_of_getElem? (i := 98) rfl) rfl ⟨by decide, by decide⟩ rfl (Nat.le_of_ble_eq_true rfl) ⟨by decide, by decide⟩ rfl dX11_init_185 (rfl : 185 + 3 = 188) ?_
  refine y_astq (ci := 4) h (by decide) rfl rfl (by decide) rfl rfl dX11_init_188 (rfl : 188 + 1 = 189) ?_
  refine y_iinc h 0 3 [(1, .int 3), (0, .ref (za B 0))] dX11_init_189 rfl (by decide) (by decide) rfl (rfl : 189 + 3 = 192) ?_
  refine y_goto (pc' := 171) h dX11_init_192 (by decide) ?_
  refine y_iload_n h 0 dX11_init_171 rfl (rfl : 171 + 1 = 172) ?_
  refine y_iconst h 4 dX11_init_172 (by decide) (rfl : 172 + 1 = 173) ?_
  refine y_icmp_ge (pc' := 176) h 195 dX11_init_173 (by decide) rfl (fun q => absurd q (by decide)) (fun _ => ?_)
  refine y_aload_n h 1 dX11_init_176 rfl (rfl : 176 + 1 = 177) ?_
  refine y_get (ci := 10) (C := RX11) (T := TX11) (N := 13) h 7 (.ref (za B 33)) rfl rfl (fun _ hq => List.mem_cons_of_mem _ (List.mem_append_left _ (List.mem_append_left _ (List.mem_append_left _ (List.mem_append_left _ (List.mem_append_left _ (List.mem_append_left _ (List.mem_append_left _ (List.mem_append_left _ (List.mem_append_left _ (List.mem_append_right _ hq))))))))))) (by decide) (List.mem_of_getElem? (i := 32) rfl) (zfs_ref rfl (by rfl)) dX11_init_177 (rfl : 177 + 3 = 180) ?_
  refine y_iload_n h 0 dX11_init_180 rfl (rfl : 180 + 1 = 181) ?_
  refine y_new (ci := 4) (C := RX4) (T := TX4) (N := 2) h hBs (zZ_zuJ (zZX4_init_95 (zZ_up (m := 96) (zZ_zuJ (zZX4_init_93 (zZ_up (m := 94) (zZ_zuJ (zZX4_init_91 (zZ_up (m := 92) (zZ_zuJ (zZX1_init_83 (zZ_up (m := 84) (zZ_zuJ (zZX1_init_75 (zZ_up (m := 76) (zZ_zuJ (zZX5_init_39 (zZ_up (m := 40) (zZ_zuJ (zZX8_init_37 (zZ_up (m := 38) (zZ_zuJ (zZX4_init_35 (zZ_up (m := 36) (zZ_zu (zZ_zuJ (zZ_up (m := 35) (zZ_zuJ (zZ_up (m := 34) (zZ_zuJ (zZX7_init_18 (zZ_up (m := 19) (zZ_zuJ (zZX9_init_16 (zZ_up (m := 17) (zZ_zuJ (zZ_up (m := 16) (zZ_zuJ (zZ_up (m := 15) (zZ_zuJ (zZX1_init_6 (zZ_up (m := 7) (zZ_zuJ (zZ_cl (zZ_zuJ (zZX3_init_1 (zZ_up (m := 2) hZ (by decide))) (by decide))) (by decide)) (by decide))) (by decide)) (by decide)) (by decide)) (by decide)) (by decide)) (by decide))) (by decide)) (by decide))) (by decide)) (by decide)) (by decide)) (by decide)) (by decide)) (by decide)) (by decide))) (by decide)) (by decide))) (by decide)) (by decide))) (by decide)) (by decide))) (by decide)) (by decide))) (by decide)) (by decide))) (by decide)) (by decide))) (by decide)) (by decide))) (by decide)) (fun _ hq => List.mem_cons_of_mem _ (List.mem_append_left _ (List.mem_append_left _ (List.mem_append_left _ (List.mem_append_left _ (List.mem_append_left _ (List.mem_append_right _ hq))))))) tyX4 tyX4_ok zdefX4 (List.mem_of_getElem? (i := 31) rfl) (List.mem_of_getElem? (i := 36) rfl) (List.mem_of_getElem? (i := 37) rfl) rfl rfl ⟨by decide, by decide⟩ dX11_init_181 (rfl : 181 + 3 = 184) ?_
  refine y_dup h rfl dX11_init_184 (rfl : 184 + 1 = 185) ?_
  refine y_callI (n' := 99) (I' := iIX4_init_97 (iIX4_init_95 (iIX4_init_93 (iIX4_init_91 (iIX1_init_83 (iIX1_init_75 (iIX5_init_39 (iIX8_init_37 (iIX4_init_35 (zu (iIX7_init_18 (iIX9_init_16 (iIX1_init_6 (fun q => if q = 5 then zT0 else (iIX3_init_1 I) q)))) 0 9 0)))))))))) (J' := iJX4_init_97 (zuJ (iJX4_init_95 (zuJ (iJX4_init_93 (zuJ (iJX4_init_91 (zuJ (iJX1_init_83 (zuJ (iJX1_init_75 (zuJ (iJX5_init_39 (zuJ (iJX8_init_37 (zuJ (iJX4_init_35 (zuJ (zuJ (zuJ (iJX7_init_18 (zuJ (iJX9_init_16 (zuJ (zuJ (zuJ (iJX1_init_6 (zuJ (zuJ (iJX3_init_1 J) 0 0 (some 1)) 0 1 (some 5))) 0 2 (some 6)) 0 3 (some 14)) 0 4 (some 15))) 0 5 (some 16))) 0 6 (some 18)) 0 7 (some 33)) 0 8 (some 34))) 0 10 (some 35))) 0 11 (some 37))) 0 12 (some 39))) 14 0 (some 75))) 14 1 (some 83))) 33 0 (some 91))) 33 1 (some 93))) 33 2 (some 95))) h [] [.ref (za B 97), .int 3, .ref (za B 33)] zyX4_init (c_X4_init_97 B hBs (iIX4_init_95 (iIX4_init_93 (iIX4_init_91 (iIX1_init_83 (iIX1_init_75 (iIX5_init_39 (iIX8_init_37 (iIX4_init_35 (zu (iIX7_init_18 (iIX9_init_16 (iIX1_init_6 (fun q => if q = 5 then zT0 else (iIX3_init_1 I) q)))) 0 9 0))))))))) (zuJ (iJX4_init_95 (zuJ (iJX4_init_93 (zuJ (iJX4_init_91 (zuJ (iJX1_init_83 (zuJ (iJX1_init_75 (zuJ (iJX5_init_39 (zuJ (iJX8_init_37 (zuJ (iJX4_init_35 (zuJ (zuJ (zuJ (iJX7_init_18 (zuJ (iJX9_init_16 (zuJ (zuJ (zuJ (iJX1_init_6 (zuJ (zuJ (iJX3_init_1 J) 0 0 (some 1)) 0 1 (some 5))) 0 2 (some 6)) 0 3 (some 14)) 0 4 (some 15))) 0 5 (some 16))) 0 6 (some 18)) 0 7 (some 33)) 0 8 (some 34))) 0 10 (some 35))) 0 11 (some 37))) 0 12 (some 39))) 14 0 (some 75))) 14 1 (some 83))) 33 0 (some 91))) 33 1 (some 93))) 33 2 (some 95)) (zZ_up (m := 98) (zZ_zuJ (zZX4_init_95 (zZ_up (m := 96) (zZ_zuJ (zZX4_init_93 (zZ_up (m := 94) (zZ_zuJ (zZX4_init_91 (zZ_up (m := 92) (zZ_zuJ (zZX1_init_83 (zZ_up (m := 84) (zZ_zuJ (zZX1_init_75 (zZ_up (m := 76) (zZ_zuJ (zZX5_init_39 (zZ_up (m := 40) (zZ_zuJ (zZX8_init_37 (zZ_up (m := 38) (zZ_zuJ (zZX4_init_35 (zZ_up (m := 36) (zZ_zu (zZ_zuJ (zZ_up (m := 35) (zZ_zuJ (zZ_up (m := 34) (zZ_zuJ (zZX7_init_18 (zZ_up (m := 19) (zZ_zuJ (zZX9_init_16 (zZ_up (m := 17) (zZ_zuJ (zZ_up (m := 16) (zZ_zuJ (zZ_up (m := 15) (zZ_zuJ (zZX1_init_6 (zZ_up (m := 7) (zZ_zuJ (zZ_cl (zZ_zuJ (zZX3_init_1 (zZ_up (m := 2) hZ (by decide))) (by decide))) (by decide)) (by decide))) (by decide)) (by decide)) (by decide)) (by decide)) (by decide)) (by decide))) (by decide)) (by decide))) (by decide)) (by decide)) (by decide)) (by decide)) (by decide)) (by decide)) (by decide))) (by decide)) (by decide))) (by decide)) (by decide))) (by decide)) (by decide))) (by decide)) (by decide))) (by decide)) (by decide))) (by decide)) (by decide))) (by decide)) (by decide))) (by decide)) (by decide))) gX11_init_X4_init (List.mem_of_getElem? (i := 37) rfl) (List.mem_of_getElem? (i := 97) rfl) (List.mem_of_getElem? (i := 98) rfl) rfl ⟨by decide, by decide⟩ rfl (Nat.le_of_ble_eq_true rfl) ⟨by decide, by decide⟩ rfl dX11_init_185 (rfl : 185 + 3 = 188) ?_
  refine y_astq (ci := 4) h (by decide) rfl rfl (by decide) rfl rfl dX11_init_188 (rfl : 188 + 1 = 189) ?_
  refine y_iinc h 0 4 [(1, .int 4), (0, .ref (za B 0))] dX11_init_189 rfl (by decide) (by decide) rfl (rfl : 189 + 3 = 192) ?_
  refine y_goto (pc' := 171) h dX11_init_192 (by decide) ?_
  refine y_iload_n h 0 dX11_init_171 rfl (rfl : 171 + 1 = 172) ?_
  refine y_iconst h 4 dX11_init_172 (by decide) (rfl : 172 + 1 = 173) ?_
  refine y_icmp_ge (pc' := 176) h 195 dX11_init_173 (by decide) rfl (fun _ => ?_) (fun q => absurd q (by decide))
  refine y_iconst h 0 dX11_init_195 (by decide) (rfl : 195 + 1 = 196) ?_
  refine y_istore_n h [(1, .int 0), (0, .ref (za B 0))] dX11_init_196 (by decide) rfl (rfl : 196 + 1 = 197) ?_
  refine y_iload_n h 0 dX11_init_197 rfl (rfl : 197 + 1 = 198) ?_
  refine y_bipush h 8 dX11_init_198 (by decide) (rfl : 198 + 2 = 200) ?_
  refine y_icmp_ge (pc' := 203) h 222 dX11_init_200 (by decide) rfl (fun q => absurd q (by decide)) (fun _ => ?_)
  refine y_aload_n h 1 dX11_init_203 rfl (rfl : 203 + 1 = 204) ?_
  refine y_get (ci := 10) (C := RX11) (T := TX11) (N := 13) h 8 (.ref (za B 34)) rfl rfl (fun _ hq => List.mem_cons_of_mem _ (List.mem_append_left _ (List.mem_append_left _ (List.mem_append_left _ (List.mem_append_left _ (List.mem_append_left _ (List.mem_append_left _ (List.mem_append_left _ (List.mem_append_left _ (List.mem_append_left _ (List.mem_append_right _ hq))))))))))) (by decide) (List.mem_of_getElem? (i := 34) rfl) (zfs_ref rfl (by rfl)) dX11_init_204 (rfl : 204 + 3 = 207) ?_
  refine y_iload_n h 0 dX11_init_207 rfl (rfl : 207 + 1 = 208) ?_
  refine y_new (ci := 0) (C := RX0) (T := TX0) (N := 5) h hBs (zZ_zuJ (zZX4_init_97 (zZ_up (m := 98) (zZ_zuJ (zZX4_init_95 (zZ_up (m := 96) (zZ_zuJ (zZX4_init_93 (zZ_up (m := 94) (zZ_zuJ (zZX4_init_91 (zZ_up (m := 92) (zZ_zuJ (zZX1_init_83 (zZ_up (m := 84) (zZ_zuJ (zZX1_init_75 (zZ_up (m := 76) (zZ_zuJ (zZX5_init_39 (zZ_up (m := 40) (zZ_zuJ (zZX8_init_37 (zZ_up (m := 38) (zZ_zuJ (zZX4_init_35 (zZ_up (m := 36) (zZ_zu (zZ_zuJ (zZ_up (m := 35) (zZ_zuJ (zZ_up (m := 34) (zZ_zuJ (zZX7_init_18 (zZ_up (m := 19) (zZ_zuJ (zZX9_init_16 (zZ_up (m := 17) (zZ_zuJ (zZ_up (m := 16) (zZ_zuJ (zZ_up (m := 15) (zZ_zuJ (zZX1_init_6 (zZ_up (m := 7) (zZ_zuJ (zZ_cl (zZ_zuJ (zZX3_init_1 (zZ_up (m := 2) hZ (by decide))) (by decide))) (by decide)) (by decide))) (by decide)) (by decide)) (by decide)) (by decide)) (by decide)) (by decide))) (by decide)) (by decide))) (by decide)) (by decide)) (by decide)) (by decide)) (by decide)) (by decide)) (by decide))) (by decide)) (by decide))) (by decide)) (by decide))) (by decide)) (by decide))) (by decide)) (by decide))) (by decide)) (by decide))) (by decide)) (by decide))) (by decide)) (by decide))) (by decide)) (by decide))) (by decide)) (fun _ hq => List.mem_cons_of_mem _ (List.mem_append_left _ (List.mem_append_left _ (List.mem_append_right _ hq)))) tyX0 tyX0_ok zdefX0 (List.mem_of_getElem? (i := 33) rfl) (List.mem_of_getElem? (i := 47) rfl) (List.mem_of_getElem? (i := 48) rfl) rfl rfl ⟨by decide, by decide⟩ dX11_init_208 (rfl : 208 + 3 = 211) ?_
  refine y_dup h rfl dX11_init_211 (rfl : 211 + 1 = 212) ?_
  refine y_callIN (n' := 105) (I' := iIX0_init_99 (iIX4_init_97 (iIX4_init_95 (iIX4_init_93 (iIX4_init_91 (iIX1_init_83 (iIX1_init_75 (iIX5_init_39 (iIX8_init_37 (iIX4_init_35 (zu (iIX7_init_18 (iIX9_init_16 (iIX1_init_6 (fun q => if q = 5 then zT0 else (iIX3_init_1 I) q)))) 0 9 0))))))))))) (J' := iJX0_init_99 (zuJ (iJX4_init_97 (zuJ (iJX4_init_95 (zuJ (iJX4_init_93 (zuJ (iJX4_init_91 (zuJ (iJX1_init_83 (zuJ (iJX1_init_75 (zuJ (iJX5_init_39 (zuJ (iJX8_init_37 (zuJ (iJX4_init_35 (zuJ (zuJ (zuJ (iJX7_init_18 (zuJ (iJX9_init_16 (zuJ (zuJ (zuJ (iJX1_init_6 (zuJ (zuJ (iJX3_init_1 J) 0 0 (some 1)) 0 1 (some 5))) 0 2 (some 6)) 0 3 (some 14)) 0 4 (some 15))) 0 5 (some 16))) 0 6 (some 18)) 0 7 (some 33)) 0 8 (some 34))) 0 10 (some 35))) 0 11 (some 37))) 0 12 (some 39))) 14 0 (some 75))) 14 1 (some 83))) 33 0 (some 91))) 33 1 (some 93))) 33 2 (some 95))) 33 3 (some 97))) h [] [.ref (za B 99), .int 0, .ref (za B 34)] zyX0_init (c_X0_init_99 B hBs (iIX4_init_97 (iIX4_init_95 (iIX4_init_93 (iIX4_init_91 (iIX1_init_83 (iIX1_init_75 (iIX5_init_39 (iIX8_init_37 (iIX4_init_35 (zu (iIX7_init_18 (iIX9_init_16 (iIX1_init_6 (fun q => if q = 5 then zT0 else (iIX3_init_1 I) q)))) 0 9 0)))))))))) (zuJ (iJX4_init_97 (zuJ (iJX4_init_95 (zuJ (iJX4_init_93 (zuJ (iJX4_init_91 (zuJ (iJX1_init_83 (zuJ (iJX1_init_75 (zuJ (iJX5_init_39 (zuJ (iJX8_init_37 (zuJ (iJX4_init_35 (zuJ (zuJ (zuJ (iJX7_init_18 (zuJ (iJX9_init_16 (zuJ (zuJ (zuJ (iJX1_init_6 (zuJ (zuJ (iJX3_init_1 J) 0 0 (some 1)) 0 1 (some 5))) 0 2 (some 6)) 0 3 (some 14)) 0 4 (some 15))) 0 5 (some 16))) 0 6 (some 18)) 0 7 (some 33)) 0 8 (some 34))) 0 10 (some 35))) 0 11 (some 37))) 0 12 (some 39))) 14 0 (some 75))) 14 1 (some 83))) 33 0 (some 91))) 33 1 (some 93))) 33 2 (some 95))) 33 3 (some 97)) (zZ_up (m := 100) (zZ_zuJ (zZX4_init_97 (zZ_up (m := 98) (zZ_zuJ (zZX4_init_95 (zZ_up (m := 96) (zZ_zuJ (zZX4_init_93 (zZ_up (m := 94) (zZ_zuJ (zZX4_init_91 (zZ_up (m := 92) (zZ_zuJ (zZX1_init_83 (zZ_up (m := 84) (zZ_zuJ (zZX1_init_75 (zZ_up (m := 76) (zZ_zuJ (zZX5_init_39 (zZ_up (m := 40) (zZ_zuJ (zZX8_init_37 (zZ_up (m := 38) (zZ_zuJ (zZX4_init_35 (zZ_up (m := 36) (zZ_zu (zZ_zuJ (zZ_up (m := 35) (zZ_zuJ (zZ_up (m := 34) (zZ_zuJ (zZX7_init_18 (zZ_up (m := 19) (zZ_zuJ (zZX9_init_16 (zZ_up (m := 17) (zZ_zuJ (zZ_up (m := 16) (zZ_zuJ (zZ_up (m := 15) (zZ_zuJ (zZX1_init_6 (zZ_up (m := 7) (zZ_zuJ (zZ_cl (zZ_zuJ (zZX3_init_1 (zZ_up (m := 2) hZ (by decide))) (by decide))) (by decide)) (by decide))) (by decide)) (by decide)) (by decide)) (by decide)) (by decide)) (by decide))) (by decide)) (by decide))) (by decide)) (by decide)) (by decide)) (by decide)) (by decide)) (by decide)) (by decide))) (by decide)) (by decide))) (by decide)) (by decide))) (by decide)) (by decide))) (by decide)) (by decide))) (by decide)) (by decide))) (by decide)) (by decide))) (by decide)) (by decide))) (by decide)) (by decide))) (by decide)) (by decide))) gX11_init_X0_init_n94 (List.mem_of_getElem? (i := 48) rfl) (List.mem_of_getElem? (i := 8) rfl) (List.mem_of_getElem? (i := 151) rfl) rfl ⟨by decide, by decide⟩ rfl (Nat.le_of_ble_eq_true rfl) ⟨by decide, by decide⟩ rfl dX11_init_212 (rfl : 212 + 3 = 215) ?_
  refine y_astq (ci := 0) h (by decide) rfl rfl (by decide) rfl rfl dX11_init_215 (rfl : 215 + 1 = 216) ?_
  refine y_iinc h 0 1 [(1, .int 1), (0, .ref (za B 0))] dX11_init_216 rfl (by decide) (by decide) rfl (rfl : 216 + 3 = 219) ?_
  refine y_goto (pc' := 197) h dX11_init_219 (by decide) ?_
  refine y_iload_n h 0 dX11_init_197 rfl (rfl : 197 + 1 = 198) ?_
  refine y_bipush h 8 dX11_init_198 (by decide) (rfl : 198 + 2 = 200) ?_
  refine y_icmp_ge (pc' := 203) h 222 dX11_init_200 (by decide) rfl (fun q => absurd q (by decide)) (fun _ => ?_)
  refine y_aload_n h 1 dX11_init_203 rfl (rfl : 203 + 1 = 204) ?_
  refine y_get (ci := 10) (C := RX11) (T := TX11) (N := 13) h 8 (.ref (za B 34)) rfl rfl (fun _ hq => List.mem_cons_of_mem _ (List.mem_append_left _ (List.mem_append_left _ (List.mem_append_left _ (List.mem_append_left _ (List.mem_append_left _ (List.mem_append_left _ (List.mem_append_left _ (List.mem_append_left _ (List.mem_append_left _ (List.mem_append_right _ hq))))))))))) (by decide) (List.mem_of_getElem? (i := 34) rfl) (zfs_ref rfl (by rfl)) dX11_init_204 (rfl : 204 + 3 = 207) ?_
  refine y_iload_n h 0 dX11_init_207 rfl (rfl : 207 + 1 = 208) ?_
  refine y_new (ci := 0) (C := RX0) (T := TX0) (N := 5) h hBs (zZ_zuJ (zZX0_init_99 (zZ_up (m := 100) (zZ_zuJ (zZX4_init_97 (zZ_up (m := 98) (zZ_zuJ (zZX4_init_95 (zZ_up (m := 96) (zZ_zuJ (zZX4_init_93 (zZ_up (m := 94) (zZ_zuJ (zZX4_init_91 (zZ_up (m := 92) (zZ_zuJ (zZX1_init_83 (zZ_up (m := 84) (zZ_zuJ (zZX1_init_75 (zZ_up (m := 76) (zZ_zuJ (zZX5_init_39 (zZ_up (m := 40) (zZ_zuJ (zZX8_init_37 (zZ_up (m := 38) (zZ_zuJ (zZX4_init_35 (zZ_up (m := 36) (zZ_zu (zZ_zuJ (zZ_up (m := 35) (zZ_zuJ (zZ_up (m := 34) (zZ_zuJ (zZX7_init_18 (zZ_up (m := 19) (zZ_zuJ (zZX9_init_16 (zZ_up (m := 17) (zZ_zuJ (zZ_up (m := 16) (zZ_zuJ (zZ_up (m := 15) (zZ_zuJ (zZX1_init_6 (zZ_up (m := 7) (zZ_zuJ (zZ_cl (zZ_zuJ (zZX3_init_1 (zZ_up (m := 2) hZ (by decide))) (by decide))) (by decide)) (by decide))) (by decide)) (by decide)) (by decide)) (by decide)) (by decide)) (by decide))) (by decide)) (by decide))) (by decide)) (by decide)) (by decide)) (by decide)) (by decide)) (by decide)) (by decide))) (by decide)) (by decide))) (by decide)) (by decide))) (by decide)) (by decide))) (by decide)) (by decide))) (by decide)) (by decide))) (by decide)) (by decide))) (by decide)) (by decide))) (by decide)) (by decide))) (by decide)) (by decide))) (by decide)) (fun _ hq => List.mem_cons_of_mem _ (List.mem_append_left _ (List.mem_append_left _ (List.mem_append_right _ hq)))) tyX0 tyX0_ok zdefX0 (List.mem_of_getElem? (i := 33) rfl) (List.mem_of_getElem? (i := 47) rfl) (List.mem_of_getElem? (i := 48) rfl) rfl rfl ⟨by decide, by decide⟩ dX11_init_208 (rfl : 208 + 3 = 211) ?_
  refine y_dup h rfl dX11_init_211 (rfl : 211 + 1 = 212) ?_
  refine y_callIN (n' := 111) (I' := iIX0_init_105 (iIX0_init_99 (iIX4_init_97 (iIX4_init_95 (iIX4_init_93 (iIX4_init_91 (iIX1_init_83 (iIX1_init_75 (iIX5_init_39 (iIX8_init_37 (iIX4_init_35 (zu (iIX7_init_18 (iIX9_init_16 (iIX1_init_6 (fun q => if q = 5 then zT0 else (iIX3_init_1 I) q)))) 0 9 0)))))))))))) (J' := iJX0_init_105 (zuJ (iJX0_init_99 (zuJ (iJX4_init_97 (zuJ (iJX4_init_95 (zuJ (iJX4_init_93 (zuJ (iJX4_init_91 (zuJ (iJX1_init_83 (zuJ (iJX1_init_75 (zuJ (iJX5_init_39 (zuJ (iJX8_init_37 (zuJ (iJX4_init_35 (zuJ (zuJ (zuJ (iJX7_init_18 (zuJ (iJX9_init_16 (zuJ (zuJ (zuJ (iJX1_init_6 (zuJ (zuJ (iJX3_init_1 J) 0 0 (some 1)) 0 1 (some 5))) 0 2 (some 6)) 0 3 (some 14)) 0 4 (some 15))) 0 5 (some 16))) 0 6 (some 18)) 0 7 (some 33)) 0 8 (some 34))) 0 10 (some 35))) 0 11 (some 37))) 0 12 (some 39))) 14 0 (some 75))) 14 1 (some 83))) 33 0 (some 91))) 33 1 (some 93))) 33 2 (some 95))) 33 3 (some 97))) 34 0 (some 99))) h [] [.ref (za B 105), .int 1, .ref (za B 34)] zyX0_init (c_X0_init_105 B hBs (iIX0_init_99 (iIX4_init_97 (iIX4_init_95 (iIX4_init_93 (iIX4_init_91 (iIX1_init_83 (iIX1_init_75 (iIX5_init_39 (iIX8_init_37 (iIX4_init_35 (zu (iIX7_init_18 (iIX9_init_16 (iIX1_init_6 (fun q => if q = 5 then zT0 else (iIX3_init_1 I) q)))) 0 9 0))))))))))) (zuJ (iJX0_init_99 (zuJ (iJX4_init_97 (zuJ (iJX4_init_95 (zuJ (iJX4_init_93 (zuJ (iJX4_init_91 (zuJ (iJX1_init_83 (zuJ (iJX1_init_75 (zuJ (iJX5_init_39 (zuJ (iJX8_init_37 (zuJ (iJX4_init_35 (zuJ (zuJ (zuJ (iJX7_init_18 (zuJ (iJX9_init_16 (zuJ (zuJ (zuJ (iJX1_init_6 (zuJ (zuJ (iJX3_init_1 J) 0 0 (some 1)) 0 1 (some 5))) 0 2 (some 6)) 0 3 (some 14)) 0 4 (some 15))) 0 5 (some 16))) 0 6 (some 18)) 0 7 (some 33)) 0 8 (some 34))) 0 10 (some 35))) 0 11 (some 37))) 0 12 (some 39))) 14 0 (some 75))) 14 1 (some 83))) 33 0 (some 91))) 33 1 (some 93))) 33 2 (some 95))) 33 3 (some 97))) 34 0 (some 99)) (zZ_up (m := 106) (zZ_zuJ (zZX0_init_99 (zZ_up (m := 100) (zZ_zuJ (zZX4_init_97 (zZ_up (m := 98) (zZ_zuJ (zZX4_init_95 (zZ_up (m := 96) (zZ_zuJ (zZX4_init_93 (zZ_up (m := 94) (zZ_zuJ (zZX4_init_91 (zZ_up (m := 92) (zZ_zuJ (zZX1_init_83 (zZ_up (m := 84) (zZ_zuJ (zZX1_init_75 (zZ_up (m := 76) (zZ_zuJ (zZX5_init_39 (zZ_up (m := 40) (zZ_zuJ (zZX8_init_37 (zZ_up (m := 38) (zZ_zuJ (zZX4_init_35 (zZ_up (m := 36) (zZ_zu (zZ_zuJ (zZ_up (m := 35) (zZ_zuJ (zZ_up (m := 34) (zZ_zuJ (zZX7_init_18 (zZ_up (m := 19) (zZ_zuJ (zZX9_init_16 (zZ_up (m := 17) (zZ_zuJ (zZ_up (m := 16) (zZ_zuJ (zZ_up (m := 15) (zZ_zuJ (zZX1_init_6 (zZ_up (m := 7) (zZ_zuJ (zZ_cl (zZ_zuJ (zZX3_init_1 (zZ_up (m := 2) hZ (by decide))) (by decide))) (by decide)) (by decide))) (by decide)) (by decide)) (by decide)) (by decide)) (by decide)) (by decide))) (by decide)) (by decide))) (by decide)) (by decide)) (by decide)) (by decide)) (by decide)) (by decide)) (by decide))) (by decide)) (by decide))) (by decide)) (by decide))) (by decide)) (by decide))) (by decide)) (by decide))) (by decide)) (by decide))) (by decide)) (by decide))) (by decide)) (by decide))) (by decide)) (by decide))) (by decide)) (by decide))) (by decide)) (by decide))) gX11_init_X0_init_n94 (List.mem_of_getElem? (i := 48) rfl) (List.mem_of_getElem? (i := 8) rfl) (List.mem_of_getElem? (i := 151) rfl) rfl ⟨by decide, by decide⟩ rfl (Nat.le_of_ble_eq_true rfl) ⟨by decide, by decide⟩ rfl dX11_init_212 (rfl : 212 + 3 = 215) ?_
  refine y_astq (ci := 0) h (by decide) rfl rfl (by decide) rfl rfl dX11_init_215 (rfl : 215 + 1 = 216) ?_
  refine y_iinc h 0 2 [(1, .int 2), (0, .ref (za B 0))] dX11_init_216 rfl (by decide) (by decide) rfl (rfl : 216 + 3 = 219) ?_
  refine y_goto (pc' := 197) h dX11_init_219 (by decide) ?_
  refine y_iload_n h 0 dX11_init_197 rfl (rfl : 197 + 1 = 198) ?_
  refine y_bipush h 8 dX11_init_198 (by decide) (rfl : 198 + 2 = 200) ?_
  refine y_icmp_ge (pc' := 203) h 222 dX11_init_200 (by decide) rfl (fun q => absurd q (by decide)) (fun _ => ?_)
  refine y_aload_n h 1 dX11_init_203 rfl (rfl : 203 + 1 = 204) ?_
  refine y_get (ci := 10) (C := RX11) (T := TX11) (N := 13) h 8 (.ref (za B 34)) rfl rfl (fun _ hq => List.mem_cons_of_mem _ (List.mem_append_left _ (List.mem_append_left _ (List.mem_append_left _ (List.mem_append_left _ (List.mem_append_left _ (List.mem_append_left _ (List.mem_append_left _ (List.mem_append_left _ (List.mem_append_left _ (List.mem_append_right _ hq))))))))))) (by decide) (List.mem_of_getElem? (i := 34) rfl) (zfs_ref rfl (by rfl)) dX11_init_204 (rfl : 204 + 3 = 207) ?_
  refine y_iload_n h 0 dX11_init_207 rfl (rfl : 207 + 1 = 208) ?_
  refine y_new (ci := 0) (C := RX0) (T := TX0) (N := 5) h hBs (zZ_zuJ (zZX0_init_105 (zZ_up (m := 106) (zZ_zuJ (zZX0_init_99 (zZ_up (m := 100) (zZ_zuJ (zZX4_init_97 (zZ_up (m := 98) (zZ_zuJ (zZX4_init_95 (zZ_up (m := 96) (zZ_zuJ (zZX4_init_93 (zZ_up (m := 94) (zZ_zuJ (zZX4_init_91 (zZ_up (m := 92) (zZ_zuJ (zZX1_init_83 (zZ_up (m := 84) (zZ_zuJ (zZX1_init_75 (zZ_up (m := 76) (zZ_zuJ (zZX5_init_39 (zZ_up (m := 40) (zZ_zuJ (zZX8_init_37 (zZ_up (m := 38) (zZ_zuJ (zZX4_init_35 (zZ_up (m := 36) (zZ_zu (zZ_zuJ (zZ_up (m := 35) (zZ_zuJ (zZ_up (m := 34) (zZ_zuJ (zZX7_init_18 (zZ_up (m := 19) (zZ_zuJ (zZX9_init_16 (zZ_up (m := 17) (zZ_zuJ (zZ_up (m := 16) (zZ_zuJ (zZ_up (m := 15) (zZ_zuJ (zZX1_init_6 (zZ_up (m := 7) (zZ_zuJ (zZ_cl (zZ_zuJ (zZX3_init_1 (zZ_up (m := 2) hZ (by decide))) (by decide))) (by decide)) (by decide))) (by decide)) (by decide)) (by decide)) (by decide)) (by decide)) (by decide))) (by decide)) (by decide))) (by decide)) (by decide)) (by decide)) (by decide)) (by decide)) (by decide)) (by decide))) (by decide)) (by decide))) (by decide)) (by decide))) (by decide)) (by decide))) (by decide)) (by decide))) (by decide)) (by decide))) (by decide)) (by decide))) (by decide)) (by decide))) (by decide)) (by decide))) (by decide)) (by decide))) (by decide)) (by decide))) (by decide)) (fun _ hq => List.mem_cons_of_mem _ (List.mem_append_left _ (List.mem_append_left _ (List.mem_append_right _ hq)))) tyX0 tyX0_ok zdefX0 (List.mem_of_getElem? (i := 33) rfl) (List.mem_of_getElem? (i := 47) rfl) (List.mem_of_getElem? (i := 48) rfl) rfl rfl ⟨by decide, by decide⟩ dX11_init_208 (rfl : 208 + 3 = 211) ?_
  refine y_dup h rfl dX11_init_211 (rfl : 211 + 1 = 212) ?_
  refine y_callIN (n' := 117) (I' := iIX0_init_111 (iIX0_init_105 (iIX0_init_99 (iIX4_init_97 (iIX4_init_95 (iIX4_init_93 (iIX4_init_91 (iIX1_init_83 (iIX1_init_75 (iIX5_init_39 (iIX8_init_37 (iIX4_init_35 (zu (iIX7_init_18 (iIX9_init_16 (iIX1_init_6 (fun q => if q = 5 then zT0 else (iIX3_init_1 I) q)))) 0 9 0))))))))))))) (J' := iJX0_init_111 (zuJ (iJX0_init_105 (zuJ (iJX0_init_99 (zuJ (iJX4_init_97 (zuJ (iJX4_init_95 (zuJ (iJX4_init_93 (zuJ (iJX4_init_91 (zuJ (iJX1_init_83 (zuJ (iJX1_init_75 (zuJ (iJX5_init_39 (zuJ (iJX8_init_37 (zuJ (iJX4_init_35 (zuJ (zuJ (zuJ (iJX7_init_18 (zuJ (iJX9_init_16 (zuJ (zuJ (zuJ (iJX1_init_6 (zuJ (zuJ (iJX3_init_1 J) 0 0 (some 1)) 0 1 (some 5))) 0 2 (some 6)) 0 3 (some 14)) 0 4 (some 15))) 0 5 (some 16))) 0 6 (some 18)) 0 7 (some 33)) 0 8 (some 34))) 0 10 (some 35))) 0 11 (some 37))) 0 12 (some 39))) 14 0 (some 75))) 14 1 (some 83))) 33 0 (some 91))) 33 1 (some 93))) 33 2 (some 95))) 33 3 (some 97))) 34 0 (some 99))) 34 1 (some 105))) h [] [.ref (za B 111), .int 2, .ref (za B 34)] zyX0_init (c_X0_init_111 B hBs (iIX0_init_105 (iIX0_init_99 (iIX4_init_97 (iIX4_init_95 (iIX4_init_93 (iIX4_init_91 (iIX1_init_83 (iIX1_init_75 (iIX5_init_39 (iIX8_init_37 (iIX4_init_35 (zu (iIX7_init_18 (iIX9_init_16 (iIX1_init_6 (fun q => if q = 5 then zT0 else (iIX3_init_1 I) q)))) 0 9 0)))))))))))) (zuJ (iJX0_init_105 (zuJ (iJX0_init_99 (zuJ (iJX4_init_97 (zuJ (iJX4_init_95 (zuJ (iJX4_init_93 (zuJ (iJX4_init_91 (zuJ (iJX1_init_83 (zuJ (iJX1_init_75 (zuJ (iJX5_init_39 (zuJ (iJX8_init_37 (zuJ (iJX4_init_35 (zuJ (zuJ (zuJ (iJX7_init_18 (zuJ (iJX9_init_16 (zuJ (zuJ (zuJ (iJX1_init_6 (zuJ (zuJ (iJX3_init_1 J) 0 0 (some 1)) 0 1 (some 5))) 0 2 (some 6)) 0 3 (some 14)) 0 4 (some 15))) 0 5 (some 16))) 0 6 (some 18)) 0 7 (some 33)) 0 8 (some 34))) 0 10 (some 35))) 0 11 (some 37))) 0 12 (some 39))) 14 0 (some 75))) 14 1 (some 83))) 33 0 (some 91))) 33 1 (some 93))) 33 2 (some 95))) 33 3 (some 97))) 34 0 (some 99))) 34 1 (some 105)) (zZ_up (m := 112) (zZ_zuJ (zZX0_init_105 (zZ_up (m := 106) (zZ_zuJ (zZX0_init_99 (zZ_up (m := 100) (zZ_zuJ (zZX4_init_97 (zZ_up (m := 98) (zZ_zuJ (zZX4_init_95 (zZ_up (m := 96) (zZ_zuJ (zZX4_init_93 (zZ_up (m := 94) (zZ_zuJ (zZX4_init_91 (zZ_up (m := 92) (zZ_zuJ (zZX1_init_83 (zZ_up (m := 84) (zZ_zuJ (zZX1_init_75 (zZ_up (m := 76) (zZ_zuJ (zZX5_init_39 (zZ_up (m := 40) (zZ_zuJ (zZX8_init_37 (zZ_up (m := 38) (zZ_zuJ (zZX4_init_35 (zZ_up (m := 36) (zZ_zu (zZ_zuJ (zZ_up (m := 35) (zZ_zuJ (zZ_up (m := 34) (zZ_zuJ (zZX7_init_18 (zZ_up (m := 19) (zZ_zuJ (zZX9_init_16 (zZ_up (m := 17) (zZ_zuJ (zZ_up (m := 16) (zZ_zuJ (zZ_up (m := 15) (zZ_zuJ (zZX1_init_6 (zZ_up (m := 7) (zZ_zuJ (zZ_cl (zZ_zuJ (zZX3_init_1 (zZ_up (m := 2) hZ (by decide))) (by decide))) (by decide)) (by decide))) (by decide)) (by decide)) (by decide)) (by decide)) (by decide)) (by decide))) (by decide)) (by decide))) (by decide)) (by decide)) (by decide)) (by decide)) (by decide)) (by decide)) (by decide))) (by decide)) (by decide))) (by decide)) (by decide))) (by decide)) (by decide))) (by decide)) (by decide))) (by decide)) (by decide))) (by decide)) (by decide))) (by decide)) (by decide))) (by decide)) (by decide))) (by decide)) (by decide))) (by decide)) (by decide))) (by decide)) (by decide))) gX11_init_X0_init_n94 (List.mem_of_getElem? (i := 48) rfl) (List.mem_of_getElem? (i := 8) rfl) (List.mem_of_getElem? (i := 151) rfl) rfl ⟨by decide, by decide⟩ rfl (Nat.le_of_ble_eq_true rfl) ⟨by decide, by decide⟩ rfl dX11_init_212 (rfl : 212 + 3 = 215) ?_
  refine y_astq (ci := 0) h (by decide) rfl rfl (by decide) rfl rfl dX11_init_215 (rfl : 215 + 1 = 216) ?_
  refine y_iinc h 0 3 [(1, .int 3), (0, .ref (za B 0))] dX11_init_216 rfl (by decide) (by decide) rfl (rfl : 216 + 3 = 219) ?_
  refine y_goto (pc' := 197) h dX11_init_219 (by decide) ?_
  refine y_iload_n h 0 dX11_init_197 rfl (rfl : 197 + 1 = 198) ?_
  refine y_bipush h 8 dX11_init_198 (by decide) (rfl : 198 + 2 = 200) ?_
  refine y_icmp_ge (pc' := 203) h 222 dX11_init_200 (by decide) rfl (fun q => absurd q (by decide)) (fun _ => ?_)
  refine y_aload_n h 1 dX11_init_203 rfl (rfl : 203 + 1 = 204) ?_
  refine y_get (ci := 10) (C := RX11) (T := TX11) (N := 13) h 8 (.ref (za B 34)) rfl rfl (fun _ hq => List.mem_cons_of_mem _ (List.mem_append_left _ (List.mem_append_left _ (List.mem_append_left _ (List.mem_append_left _ (List.mem_append_left _ (List.mem_append_left _ (List.mem_append_left _ (List.mem_append_left _ (List.mem_append_left _ (List.mem_append_right _ hq))))))))))) (by decide) (List.mem_of_getElem? (i := 34) rfl) (zfs_ref rfl (by rfl)) dX11_init_204 (rfl : 204 + 3 = 207) ?_
  refine y_iload_n h 0 dX11_init_207 rfl (rfl : 207 + 1 = 208) ?_
  refine y_new (ci := 0) (C := RX0) (T := TX0) (N := 5) h hBs (zZ_zuJ (zZX0_init_111 (zZ_up (m := 112) (zZ_zuJ (zZX0_init_105 (zZ_up (m := 106) (zZ_zuJ (zZX0_init_99 (zZ_up (m := 100) (zZ_zuJ (zZX4_init_97 (zZ_up (m := 98) (zZ_zuJ (zZX4_init_95 (zZ_up (m := 96) (zZ_zuJ (zZX4_init_93 (zZ_up (m := 94) (zZ_zuJ (zZX4_init_91 (zZ_up (m := 92) (zZ_zuJ (zZX1_init_83 (zZ_up (m := 84) (zZ_zuJ (zZX1_init_75 (zZ_up (m := 76) (zZ_zuJ (zZX5_init_39 (zZ_up (m := 40) (zZ_zuJ (zZX8_init_37 (zZ_up (m := 38) (zZ_zuJ (zZX4_init_35 (zZ_up (m := 36) (zZ_zu (zZ_zuJ (zZ_up (m := 35) (zZ_zuJ (zZ_up (m := 34) (zZ_zuJ (zZX7_init_18 (zZ_up (m := 19) (zZ_zuJ (zZX9_init_16 (zZ_up (m := 17) (zZ_zuJ (zZ_up (m := 16) (zZ_zuJ (zZ_up (m := 15) (zZ_zuJ (zZX1_init_6 (zZ_up (m := 7) (zZ_zuJ (zZ_cl (zZ_zuJ (zZX3_init_1 (zZ_up (m := 2) hZ (by decide))) (by decide))) (by decide)) (by decide))) (by decide)) (by decide)) (by decide)) (by decide)) (by decide)) (by decide))) (by decide)) (by decide))) (by decide)) (by decide)) (by decide)) (by decide)) (by decide)) (by decide)) (by decide))) (by decide)) (by decide))) (by decide)) (by decide))) (by decide)) (by decide))) (by decide)) (by decide))) (by decide)) (by decide))) (by decide)) (by decide))) (by decide)) (by decide))) (by decide)) (by decide))) (by decide)) (by decide))) (by decide)) (by decide))) (by decide)) (by decide))) (by decide)) (fun _ hq => List.mem_cons_of_mem _ (List.mem_append_left _ (List.mem_append_left _ (List.mem_append_right _ hq)))) tyX0 tyX0_ok zdefX0 (List.mem_of_getElem? (i := 33) rfl) (List.mem_of_getElem? (i := 47) rfl) (List.mem_of_getElem? (i := 48) rfl) rfl rfl ⟨by decide, by decide⟩ dX11_init_208 (rfl : 208 + 3 = 211) ?_
  refine y_dup h rfl dX11_init_211 (rfl : 211 + 1 = 212) ?_
  refine y_callIN (n' := 123) (I' := iIX0_init_117 (iIX0_init_111 (iIX0_init_105 (iIX0_init_99 (iIX4_init_97 (iIX4_init_95 (iIX4_init_93 (iIX4_init_91 (iIX1_init_83 (iIX1_init_75 (iIX5_init_39 (iIX8_init_37 (iIX4_init_35 (zu (iIX7_init_18 (iIX9_init_16 (iIX1_init_6 (fun q => if q = 5 then zT0 else (iIX3_init_1 I) q)))) 0 9 0)))))))))))))) (J' := iJX0_init_117 (zuJ (iJX0_init_111 (zuJ (iJX0_init_105 (zuJ (iJX0_init_99 (zuJ (iJX4_init_97 (zuJ (iJX4_init_95 (zuJ (iJX4_init_93 (zuJ (iJX4_init_91 (zuJ (iJX1_init_83 (zuJ (iJX1_init_75 (zuJ (iJX5_init_39 (zuJ (iJX8_init_37 (zuJ (iJX4_init_35 (zuJ (zuJ (zuJ (iJX7_init_18 (zuJ (iJX9_init_16 (zuJ (zuJ (zuJ (iJX1_init_6 (zuJ (zuJ (iJX3_init_1 J) 0 0 (some 1)) 0 1 (some 5))) 0 2 (some 6)) 0 3 (some 14)) 0 4 (some 15))) 0 5 (some 16))) 0 6 (some 18)) 0 7 (some 33)) 0 8 (some 34))) 0 10 (some 35))) 0 11 (some 37))) 0 12 (some 39))) 14 0 (some 75))) 14 1 (some 83))) 33 0 (some 91))) 33 1 (some 93))) 33 2 (some 95))) 33 3 (some 97))) 34 0 (some 99))) 34 1 (some 105))) 34 2 (some 111))) h [] [.ref (za B 117), .int 3, .ref (za B 34)] zyX0_init (c_X0_init_117 B hBs (iIX0_init_111 (iIX0_init_105 (iIX0_init_99 (iIX4_init_97 (iIX4_init_95 (iIX4_init_93 (iIX4_init_91 (iIX1_init_83 (iIX1_init_75 (iIX5_init_39 (iIX8_init_37 (iIX4_init_35 (zu (iIX7_init_18 (iIX9_init_16 (iIX1_init_6 (fun q => if q = 5 then zT0 else (iIX3_init_1 I) q)))) 0 9 0))))))))))))) (zuJ (iJX0_init_111 (zuJ (iJX0_init_105 (zuJ (iJX0_init_99 (zuJ (iJX4_init_97 (zuJ (iJX4_init_95 (zuJ (iJX4_init_93 (zuJ (iJX4_init_91 (zuJ (iJX1_init_83 (zuJ (iJX1_init_75 (zuJ (iJX5_init_39 (zuJ (iJX8_init_37 (zuJ (iJX4_init_35 (zuJ (zuJ (zuJ (iJX7_init_18 (zuJ (iJX9_init_16 (zuJ (zuJ (zuJ (iJX1_init_6 (zuJ (zuJ (iJX3_init_1 J) 0 0 (some 1)) 0 1 (some 5))) 0 2 (some 6)) 0 3 (some 14)) 0 4 (some 15))) 0 5 (some 16))) 0 6 (some 18)) 0 7 (some 33)) 0 8 (some 34))) 0 10 (some 35))) 0 11 (some 37))) 0 12 (some 39))) 14 0 (some 75))) 14 1 (some 83))) 33 0 (some 91))) 33 1 (some 93))) 33 2 (some 95))) 33 3 (some 97))) 34 0 (some 99))) 34 1 (some 105))) 34 2 (some 111)) (zZ_up (m := 118) (zZ_zuJ (zZX0_init_111 (zZ_up (m := 112) (zZ_zuJ (zZX0_init_105 (zZ_up (m := 106) (zZ_zuJ (zZX0_init_99 (zZ_up (m := 100) (zZ_zuJ (zZX4_init_97 (zZ_up (m := 98) (zZ_zuJ (zZX4_init_95 (zZ_up (m := 96) (zZ_zuJ (zZX4_init_93 (zZ_up (m := 94) (zZ_zuJ (zZX4_init_91 (zZ_up (m := 92) (zZ_zuJ (zZX1_init_83 (zZ_up (m := 84) (zZ_zuJ (zZX1_init_75 (zZ_up (m := 76) (zZ_zuJ (zZX5_init_39 (zZ_up (m := 40) (zZ_zuJ (zZX8_init_37 (zZ_up (m := 38) (zZ_zuJ (zZX4_init_35 (zZ_up (m := 36) (zZ_zu (zZ_zuJ (zZ_up (m := 35) (zZ_zuJ (zZ_up (m := 34) (zZ_zuJ (zZX7_init_18 (zZ_up (m := 19) (zZ_zuJ (zZX9_init_16 (zZ_up (m := 17) (zZ_zuJ (zZ_up (m := 16) (zZ_zuJ (zZ_up (m := 15) (zZ_zuJ (zZX1_init_6 (zZ_up (m := 7) (zZ_zuJ (zZ_cl (zZ_zuJ (zZX3_init_1 (zZ_up (m := 2) hZ (by decide))) (by decide))) (by decide)) (by decide))) (by decide)) (by decide)) (by decide)) (by decide)) (by decide)) (by decide))) (by decide)) (by decide))) (by decide)) (by decide)) (by decide)) (by decide)) (by decide)) (by decide)) (by decide))) (by decide)) (by decide))) (by decide)) (by decide))) (by decide)) (by decide))) (by decide)) (by decide))) (by decide)) (by decide))) (by decide)) (by decide))) (by decide)) (by decide))) (by decide)) (by decide))) (by decide)) (by decide))) (by decide)) (by decide))) (by decide)) (by decide))) (by decide)) (by decide))) gX11_init_X0_init_n94 (List.mem_of_getElem? (i := 48) rfl) (List.mem_of_getElem? (i := 8) rfl) (List.mem_of_getElem? (i := 151) rfl) rfl ⟨by decide, by decide⟩ rfl (Nat.le_of_ble_eq_true rfl) ⟨by decide, by decide⟩ rfl dX11_init_212 (rfl : 212 + 3 = 215) ?_
  refine y_astq (ci := 0) h (by decide) rfl rfl (by decide) rfl rfl dX11_init_215 (rfl : 215 + 1 = 216) ?_
  refine y_iinc h 0 4 [(1, .int 4), (0, .ref (za B 0))] dX11_init_216 rfl (by decide) (by decide) rfl (rfl : 216 + 3 = 219) ?_
  refine y_goto (pc' := 197) h dX11_init_219 (by decide) ?_
  refine y_iload_n h 0 dX11_init_197 rfl (rfl : 197 + 1 = 198) ?_
  refine y_bipush h 8 dX11_init_198 (by decide) (rfl : 198 + 2 = 200) ?_
  refine y_icmp_ge (pc' := 203) h 222 dX11_init_200 (by decide) rfl (fun q => absurd q (by decide)) (fun _ => ?_)
  refine y_aload_n h 1 dX11_init_203 rfl (rfl : 203 + 1 = 204) ?_
  refine y_get (ci := 10) (C := RX11) (T := TX11) (N := 13) h 8 (.ref (za B 34)) rfl rfl (fun _ hq => List.mem_cons_of_mem _ (List.mem_append_left _ (List.mem_append_left _ (List.mem_append_left _ (List.mem_append_left _ (List.mem_append_left _ (List.mem_append_left _ (List.mem_append_left _ (List.mem_append_left _ (List.mem_append_left _ (List.mem_append_right _ hq))))))))))) (by decide) (List.mem_of_getElem? (i := 34) rfl) (zfs_ref rfl (by rfl)) dX11_init_204 (rfl : 204 + 3 = 207) ?_
  refine y_iload_n h 0 dX11_init_207 rfl (rfl : 207 + 1 = 208) ?_
  refine y_new (ci := 0) (C := RX0) (T := TX0) (N := 5) h hBs (zZ_zuJ (zZX0_init_117 (zZ_up (m := 118) (zZ_zuJ (zZX0_init_111 (zZ_up (m := 112) (zZ_zuJ (zZX0_init_105 (zZ_up (m := 106) (zZ_zuJ (zZX0_init_99 (zZ_up (m := 100) (zZ_zuJ (zZX4_init_97 (zZ_up (m := 98) (zZ_zuJ (zZX4_init_95 (zZ_up (m := 96) (zZ_zuJ (zZX4_init_93 (zZ_up (m := 94) (zZ_zuJ (zZX4_init_91 (zZ_up (m := 92) (zZ_zuJ (zZX1_init_83 (zZ_up (m := 84) (zZ_zuJ (zZX1_init_75 (zZ_up (m := 76) (zZ_zuJ (zZX5_init_39 (zZ_up (m := 40) (zZ_zuJ (zZX8_init_37 (zZ_up (m := 38) (zZ_zuJ (zZX4_init_35 (zZ_up (m := 36) (zZ_zu (zZ_zuJ (zZ_up (m := 35) (zZ_zuJ (zZ_up (m := 34) (zZ_zuJ (zZX7_init_18 (zZ_up (m := 19) (zZ_zuJ (zZX9_init_16 (zZ_up (m := 17) (zZ_zuJ (zZ_up (m := 16) (zZ_zuJ (zZ_up (m := 15) (zZ_zuJ (zZX1_init_6 (zZ_up (m := 7) (zZ_zuJ (zZ_cl (zZ_zuJ (zZX3_init_1 (zZ_up (m := 2) hZ (by decide))) (by decide))) (by decide)) (by decide))) (by decide)) (by decide)) (by decide)) (by decide)) (by decide)) (by decide))) (by decide)) (by decide))) (by decide)) (by decide)) (by decide)) (by decide)) (by decide)) (by decide)) (by decide))) (by decide)) (by decide))) (by decide)) (by decide))) (by decide)) (by decide))) (by decide)) (by decide))) (by decide)) (by decide))) (by decide)) (by decide))) (by decide)) (by decide))) (by decide)) (by decide))) (by decide)) (by decide))) (by decide)) (by decide))) (by decide)) (by decide))) (by decide)) (by decide))) (by decide)) (fun _ hq => List.mem_cons_of_mem _ (List.mem_append_left _ (List.mem_append_left _ (List.mem_append_right _ hq)))) tyX0 tyX0_ok zdefX0 (List.mem_of_getElem? (i := 33) rfl) (List.mem_of_getElem? (i := 47) rfl) (List.mem_of_getElem? (i := 48) rfl) rfl rfl ⟨by decide, by decide⟩ dX11_init_208 (rfl : 208 + 3 = 211) ?_
  refine y_dup h rfl dX11_init_211 (rfl : 211 + 1 = 212) ?_
  refine y_callIN (n' := 129) (I' := iIX0_init_123 (iIX0_init_117 (iIX0_init_111 (iIX0_init_105 (iIX0_init_99 (iIX4_init_97 (iIX4_init_95 (iIX4_init_93 (iIX4_init_91 (iIX1_init_83 (iIX1_init_75 (iIX5_init_39 (iIX8_init_37 (iIX4_init_35 (zu (iIX7_init_18 (iIX9_init_16 (iIX1_init_6 (fun q => if q = 5 then zT0 else (iIX3_init_1 I) q)))) 0 9 0))))))))))))))) (J' := iJX0_init_123 (zuJ (iJX0_init_117 (zuJ (iJX0_init_111 (zuJ (iJX0_init_105 (zuJ (iJX0_init_99 (zuJ (iJX4_init_97 (zuJ (iJX4_init_95 (zuJ (iJX4_init_93 (zuJ (iJX4_init_91 (zuJ (iJX1_init_83 (zuJ (iJX1_init_75 (zuJ (iJX5_init_39 (zuJ (iJX8_init_37 (zuJ (iJX4_init_35 (zuJ (zuJ (zuJ (iJX7_init_18 (zuJ (iJX9_init_16 (zuJ (zuJ (zuJ (iJX1_init_6 (zuJ (zuJ (iJX3_init_1 J) 0 0 (some 1)) 0 1 (some 5))) 0 2 (some 6)) 0 3 (some 14)) 0 4 (some 15))) 0 5 (some 16))) 0 6 (some 18)) 0 7 (some 33)) 0 8 (some 34))) 0 10 (some 35))) 0 11 (some 37))) 0 12 (some 39))) 14 0 (some 75))) 14 1 (some 83))) 33 0 (some 91))) 33 1 (some 93))) 33 2 (some 95))) 33 3 (some 97))) 34 0 (some 99))) 34 1 (some 105))) 34 2 (some 111))) 34 3 (some 117))) h [] [.ref (za B 123), .int 4, .ref (za B 34)] zyX0_init (c_X0_init_123 B hBs (iIX0_init_117 (iIX0_init_111 (iIX0_init_105 (iIX0_init_99 (iIX4_init_97 (iIX4_init_95 (iIX4_init_93 (iIX4_init_91 (iIX1_init_83 (iIX1_init_75 (iIX5_init_39 (iIX8_init_37 (iIX4_init_35 (zu (iIX7_init_18 (iIX9_init_16 (iIX1_init_6 (fun q => if q = 5 then zT0 else (iIX3_init_1 I) q)))) 0 9 0)))))))))))))) (zuJ (iJX0_init_117 (zuJ (iJX0_init_111 (zuJ (iJX0_init_105 (zuJ (iJX0_init_99 (zuJ (iJX4_init_97 (zuJ (iJX4_init_95 (zuJ (iJX4_init_93 (zuJ (iJX4_init_91 (zuJ (iJX1_init_83 (zuJ (iJX1_init_75 (zuJ (iJX5_init_39 (zuJ (iJX8_init_37 (zuJ (iJX4_init_35 (zuJ (zuJ (zuJ (iJX7_init_18 (zuJ (iJX9_init_16 (zuJ (zuJ (zuJ (iJX1_init_6 (zuJ (zuJ (iJX3_init_1 J) 0 0 (some 1)) 0 1 (some 5))) 0 2 (some 6)) 0 3 (some 14)) 0 4 (some 15))) 0 5 (some 16))) 0 6 (some 18)) 0 7 (some 33)) 0 8 (some 34))) 0 10 (some 35))) 0 11 (some 37))) 0 12 (some 39))) 14 0 (some 75))) 14 1 (some 83))) 33 0 (some 91))) 33 1 (some 93))) 33 2 (some 95))) 33 3 (some 97))) 34 0 (some 99))) 34 1 (some 105))) 34 2 (some 111))) 34 3 (some 117)) (zZ_up (m := 124) (zZ_zuJ (zZX0_init_117 (zZ_up (m := 118) (zZ_zuJ (zZX0_init_111 (zZ_up (m := 112) (zZ_zuJ (zZX0_init_105 (zZ_up (m := 106) (zZ_zuJ (zZX0_init_99 (zZ_up (m := 100) (zZ_zuJ (zZX4_init_97 (zZ_up (m := 98) (zZ_zuJ (zZX4_init_95 (zZ_up (m := 96) (zZ_zuJ (zZX4_init_93 (zZ_up (m := 94) (zZ_zuJ (zZX4_init_91 (zZ_up (m := 92) (zZ_zuJ (zZX1_init_83 (zZ_up (m := 84) (zZ_zuJ (zZX1_init_75 (zZ_up (m := 76) (zZ_zuJ (zZX5_init_39 (zZ_up (m := 40) (zZ_zuJ (zZX8_init_37 (zZ_up (m := 38) (zZ_zuJ (zZX4_init_35 (zZ_up (m := 36) (zZ_zu (zZ_zuJ (zZ_up (m := 35) (zZ_zuJ (zZ_up (m := 34) (zZ_zuJ (zZX7_init_18 (zZ_up (m := 19) (zZ_zuJ (zZX9_init_16 (zZ_up (m := 17) (zZ_zuJ (zZ_up (m := 16) (zZ_zuJ (zZ_up (m := 15) (zZ_zuJ (zZX1_init_6 (zZ_up (m := 7) (zZ_zuJ (zZ_cl (zZ_zuJ (zZX3_init_1 (zZ_up (m := 2) hZ (by decide))) (by decide))) (by decide)) (by decide))) (by decide)) (by decide)) (by decide)) (by decide)) (by decide)) (by decide))) (by decide)) (by decide))) (by decide)) (by decide)) (by decide)) (by decide)) (by decide)) (by decide)) (by decide))) (by decide)) (by decide))) (by decide)) (by decide))) (by decide)) (by decide))) (by decide)) (by decide))) (by decide)) (by decide))) (by decide)) (by decide))) (by decide)) (by decide))) (by decide)) (by decide))) (by decide)) (by decide))) (by decide)) (by decide))) (by decide)) (by decide))) (by decide)) (by decide))) (by decide)) (by decide))) gX11_init_X0_init_n94 (List.mem_of_getElem? (i := 48) rfl) (List.mem_of_getElem? (i := 8) rfl) (List.mem_of_getElem? (i := 151) rfl) rfl ⟨by decide, by decide⟩ rfl (Nat.le_of_ble_eq_true rfl) ⟨by decide, by decide⟩ rfl dX11_init_212 (rfl : 212 + 3 = 215) ?_
  refine y_astq (ci := 0) h (by decide) rfl rfl (by decide) rfl rfl dX11_init_215 (rfl : 215 + 1 = 216) ?_
  refine y_iinc h 0 5 [(1, .int 5), (0, .ref (za B 0))] dX11_init_216 rfl (by decide) (by decide) rfl (rfl : 216 + 3 = 219) ?_
  refine y_goto (pc' := 197) h dX11_init_219 (by decide) ?_
  refine y_iload_n h 0 dX11_init_197 rfl (rfl : 197 + 1 = 198) ?_
  refine y_bipush h 8 dX11_init_198 (by decide) (rfl : 198 + 2 = 200) ?_
  refine y_icmp_ge (pc' := 203) h 222 dX11_init_200 (by decide) rfl (fun q => absurd q (by decide)) (fun _ => ?_)
  refine y_aload_n h 1 dX11_init_203 rfl (rfl : 203 + 1 = 204) ?_
  refine y_get (ci := 10) (C := RX11) (T := TX11) (N := 13) h 8 (.ref (za B 34)) rfl rfl (fun _ hq => List.mem_cons_of_mem _ (List.mem_append_left _ (List.mem_append_left _ (List.mem_append_left _ (List.mem_append_left _ (List.mem_append_left _ (List.mem_append_left _ (List.mem_append_left _ (List.mem_append_left _ (List.mem_append_left _ (List.mem_append_right _ hq))))))))))) (by decide) (List.mem_of_getElem? (i := 34) rfl) (zfs_ref rfl (by rfl)) dX11_init_204 (rfl : 204 + 3 = 207) ?_
  refine y_iload_n h 0 dX11_init_207 rfl (rfl : 207 + 1 = 208) ?_
  refine y_new (ci := 0) (C := RX0) (T := TX0) (N := 5) h hBs (zZ_zuJ (zZX0_init_123 (zZ_up (m := 124) (zZ_zuJ (zZX0_init_117 (zZ_up (m := 118) (zZ_zuJ (zZX0_init_111 (zZ_up (m := 112) (zZ_zuJ (zZX0_init_105 (zZ_up (m := 106) (zZ_zuJ (zZX0_init_99 (zZ_up (m := 100) (zZ_zuJ (zZX4_init_97 (zZ_up (m := 98) (zZ_zuJ (zZX4_init_95 (zZ_up (m := 96) (zZ_zuJ (zZX4_init_93 (zZ_up (m := 94) (zZ_zuJ (zZX4_init_91 (zZ_up (m := 92) (zZ_zuJ (zZX1_init_83 (zZ_up (m := 84) (zZ_zuJ (zZX1_init_75 (zZ_up (m := 76) (zZ_zuJ (zZX5_init_39 (zZ_up (m := 40) (zZ_zuJ (zZX8_init_37 (zZ_up (m := 38) (zZ_zuJ (zZX4_init_35 (zZ_up (m := 36) (zZ_zu (zZ_zuJ (zZ_up (m := 35) (zZ_zuJ (zZ_up (m := 34) (zZ_zuJ (zZX7_init_18 (zZ_up (m := 19) (zZ_zuJ (zZX9_init_16 (zZ_up (m := 17) (zZ_zuJ (zZ_up (m := 16) (zZ_zuJ (zZ_up (m := 15) (zZ_zuJ (zZX1_init_6 (zZ_up (m := 7) (zZ_zuJ (zZ_cl (zZ_zuJ (zZX3_init_1 (zZ_up (m := 2) hZ (by decide))) (by decide))) (by decide)) (by decide))) (by decide)) (by decide)) (by decide)) (by decide)) (by decide)) (by decide))) (by decide)) (by decide))) (by decide)) (by decide)) (by decide)) (by decide)) (by decide)) (by decide)) (by decide))) (by decide)) (by decide))) (by decide)) (by decide))) (by decide)) (by decide))) (by decide)) (by decide))) (by decide)) (by decide))) (by decide)) (by decide))) (by decide)) (by decide))) (by decide)) (by decide))) (by decide)) (by decide))) (by decide)) (by decide))) (by decide)) (by decide))) (by decide)) (by decide))) (by decide)) (by decide))) (by decide)) (fun _ hq => List.mem_cons_of_mem _ (List.mem_append_left _ (List.mem_append_left _ (List.mem_append_right _ hq)))) tyX0 tyX0_ok zdefX0 (List.mem_of_getElem? (i := 33) rfl) (List.mem_of_getElem? (i := 47) rfl) (List.mem_of_getElem? (i := 48) rfl) rfl rfl ⟨by decide, by decide⟩ dX11_init_208 (rfl : 208 + 3 = 211) ?_
  refine y_dup h rfl dX11_init_211 (rfl : 211 + 1 = 212) ?_
  refine y_callIN (n' := 135) (I' := iIX0_init_129 (iIX0_init_123 (iIX0_init_117 (iIX0_init_111 (iIX0_init_105 (iIX0_init_99 (iIX4_init_97 (iIX4_init_95 (iIX4_init_93 (iIX4_init_91 (iIX1_init_83 (iIX1_init_75 (iIX5_init_39 (iIX8_init_37 (iIX4_init_35 (zu (iIX7_init_18 (iIX9_init_16 (iIX1_init_6 (fun q => if q = 5 then zT0 else (iIX3_init_1 I) q)))) 0 9 0)))))))))))))))) (J' := iJX0_init_129 (zuJ (iJX0_init_123 (zuJ (iJX0_init_117 (zuJ (iJX0_init_111 (zuJ (iJX0_init_105 (zuJ (iJX0_init_99 (zuJ (iJX4_init_97 (zuJ (iJX4_init_95 (zuJ (iJX4_init_93 (zuJ (iJX4_init_91 (zuJ (iJX1_init_83 (zuJ (iJX1_init_75 (zuJ (iJX5_init_39 (zuJ (iJX8_init_37 (zuJ (iJX4_init_35 (zuJ (zuJ (zuJ (iJX7_init_18 (zuJ (iJX9_init_16 (zuJ (zuJ (zuJ (iJX1_init_6 (zuJ (zuJ (iJX3_init_1 J) 0 0 (some 1)) 0 1 (some 5))) 0 2 (some 6)) 0 3 (some 14)) 0 4 (some 15))) 0 5 (some 16))) 0 6 (some 18)) 0 7 (some 33)) 0 8 (some 34))) 0 10 (some 35))) 0 11 (some 37))) 0 12 (some 39))) 14 0 (some 75))) 14 1 (some 83))) 33 0 (some 91))) 33 1 (some 93))) 33 2 (some 95))) 33 3 (some 97))) 34 0 (some 99))) 34 1 (some 105))) 34 2 (some 111))) 34 3 (some 117))) 34 4 (some 123))) h [] [.ref (za B 129), .int 5, .ref (za B 34)] zyX0_init (c_X0_init_129 B hBs (iIX0_init_123 (iIX0_init_117 (iIX0_init_111 (iIX0_init_105 (iIX0_init_99 (iIX4_init_97 (iIX4_init_95 (iIX4_init_93 (iIX4_init_91 (iIX1_init_83 (iIX1_init_75 (iIX5_init_39 (iIX8_init_37 (iIX4_init_35 (zu (iIX7_init_18 (iIX9_init_16 (iIX1_init_6 (fun q => if q = 5 then zT0 else (iIX3_init_1 I) q)))) 0 9 0))))))))))))))) (zuJ (iJX0_init_123 (zuJ (iJX0_init_117 (zuJ (iJX0_init_111 (zuJ (iJX0_init_105 (zuJ (iJX0_init_99 (zuJ (iJX4_init_97 (zuJ (iJX4_init_95 (zuJ (iJX4_init_93 (zuJ (iJX4_init_91 (zuJ (iJX1_init_83 (zuJ (iJX1_init_75 (zuJ (iJX5_init_39 (zuJ (iJX8_init_37 (zuJ (iJX4_init_35 (zuJ (zuJ (zuJ (iJX7_init_18 (zuJ (iJX9_init_16 (zuJ (zuJ (zuJ (iJX1_init_6 (zuJ (zuJ (iJX3_init_1 J) 0 0 (some 1)) 0 1 (some 5))) 0 2 (some 6)) 0 3 (some 14)) 0 4 (some 15))) 0 5 (some 16))) 0 6 (some 18)) 0 7 (some 33)) 0 8 (some 34))) 0 10 (some 35))) 0 11 (some 37))) 0 12 (some 39))) 14 0 (some 75))) 14 1 (some 83))) 33 0 (some 91))) 33 1 (some 93))) 33 2 (some 95))) 33 3 (some 97))) 34 0 (some 99))) 34 1 (some 105))) 34 2 (some 111))) 34 3 (some 117))) 34 4 (some 123)) (zZ_up (m := 130) (zZ_zuJ (zZX0_init_123 (zZ_up (m := 124) (zZ_zuJ (zZX0_init_117 (zZ_up (m := 118) (zZ_zuJ (zZX0_init_111 (zZ_up (m := 112) (zZ_zuJ (zZX0_init_105 (zZ_up (m := 106) (zZ_zuJ (zZX0_init_99 (zZ_up (m := 100) (zZ_zuJ (zZX4_init_97 (zZ_up (m := 98) (zZ_zuJ (zZX4_init_95 (zZ_up (m := 96) (zZ_zuJ (zZX4_init_93 (zZ_up (m := 94) (zZ_zuJ (zZX4_init_91 (zZ_up (m := 92) (zZ_zuJ (zZX1_init_83 (zZ_up (m := 84) (zZ_zuJ (zZX1_init_75 (zZ_up (m := 76) (zZ_zuJ (zZX5_init_39 (zZ_up (m := 40) (zZ_zuJ (zZX8_init_37 (zZ_up (m := 38) (zZ_zuJ (zZX4_init_35 (zZ_up (m := 36) (zZ_zu (zZ_zuJ (zZ_up (m := 35) (zZ_zuJ (zZ_up (m := 34) (zZ_zuJ (zZX7_init_18 (zZ_up (m := 19) (zZ_zuJ (zZX9_init_16 (zZ_up (m := 17) (zZ_zuJ (zZ_up (m := 16) (zZ_zuJ (zZ_up (m := 15) (zZ_zuJ (zZX1_init_6 (zZ_up (m := 7) (zZ_zuJ (zZ_cl (zZ_zuJ (zZX3_init_1 (zZ_up (m := 2) hZ (by decide))) (by decide))) (by decide)) (by decide))) (by decide)) (by decide)) (by decide)) (by decide)) (by decide)) (by decide))) (by decide)) (by decide))) (by decide)) (by decide)) (by decide)) (by decide)) (by decide)) (by decide)) (by decide))) (by decide)) (by decide))) (by decide)) (by decide))) (by decide)) (by decide))) (by decide)) (by decide))) (by decide)) (by decide))) (by decide)) (by decide))) (by decide)) (by decide))) (by decide)) (by decide))) (by decide)) (by decide))) (by decide)) (by decide))) (by decide)) (by decide))) (by decide)) (by decide))) (by decide)) (by decide))) (by decide)) (by decide))) gX11_init_X0_init_n94 (List.mem_of_getElem? (i := 48) rfl) (List.mem_of_getElem? (i := 8) rfl) (List.mem_of_getElem? (i := 151) rfl) rfl ⟨by decide, by decide⟩ rfl (Nat.le_of_ble_eq_true rfl) ⟨by decide, by decide⟩ rfl dX11_init_212 (rfl : 212 + 3 = 215) ?_
  refine y_astq (ci := 0) h (by decide) rfl rfl (by decide) rfl rfl dX11_init_215 (rfl : 215 + 1 = 216) ?_
  refine y_iinc h 0 6 [(1, .int 6), (0, .ref (za B 0))] dX11_init_216 rfl (by decide) (by decide) rfl (rfl : 216 + 3 = 219) ?_
  refine y_goto (pc' := 197) h dX11_init_219 (by decide) ?_
  refine y_iload_n h 0 dX11_init_197 rfl (rfl : 197 + 1 = 198) ?_
  refine y_bipush h 8 dX11_init_198 (by decide) (rfl : 198 + 2 = 200) ?_
  refine y_icmp_ge (pc' := 203) h 222 dX11_init_200 (by decide) rfl (fun q => absurd q (by decide)) (fun _ => ?_)
  refine y_aload_n h 1 dX11_init_203 rfl (rfl : 203 + 1 = 204) ?_
  refine y_get (ci := 10) (C := RX11) (T := TX11) (N := 13) h 8 (.ref (za B 34)) rfl rfl (fun _ hq => List.mem_cons_of_mem _ (List.mem_append_left _ (List.mem_append_left _ (List.mem_append_left _ (List.mem_append_left _ (List.mem_append_left _ (List.mem_append_left _ (List.mem_append_left _ (List.mem_append_left _ (List.mem_append_left _ (List.mem_append_right _ hq))))))))))) (by decide) (List.mem_of_getElem? (i := 34) rfl) (zfs_ref rfl (by rfl)) dX11_init_204 (rfl : 204 + 3 = 207) ?_
  refine y_iload_n h 0 dX11_init_207 rfl (rfl : 207 + 1 = 208) ?_
  refine y_new (ci := 0) (C := RX0) (T := TX0) (N := 5) h hBs (zZ_zuJ (zZX0_init_129 (zZ_up (m := 130) (zZ_zuJ (zZX0_init_123 (zZ_up (m := 124) (zZ_zuJ (zZX0_init_117 (zZ_up (m := 118) (zZ_zuJ (zZX0_init_111 (zZ_up (m := 112) (zZ_zuJ (zZX0_init_105 (zZ_up (m := 106) (zZ_zuJ (zZX0_init_99 (zZ_up (m := 100) (zZ_zuJ (zZX4_init_97 (zZ_up (m := 98) (zZ_zuJ (zZX4_init_95 (zZ_up (m := 96) (zZ_zuJ (zZX4_init_93 (zZ_up (m := 94) (zZ_zuJ (zZX4_init_91 (zZ_up (m := 92) (zZ_zuJ (zZX1_init_83 (zZ_up (m := 84) (zZ_zuJ (zZX1_init_75 (zZ_up (m := 76) (zZ_zuJ (zZX5_init_39 (zZ_up (m := 40) (zZ_zuJ (zZX8_init_37 (zZ_up (m := 38) (zZ_zuJ (zZX4_init_35 (zZ_up (m := 36) (zZ_zu (zZ_zuJ (zZ_up (m := 35) (zZ_zuJ (zZ_up (m := 34) (zZ_zuJ (zZX7_init_18 (zZ_up (m := 19) (zZ_zuJ (zZX9_init_16 (zZ_up (m := 17) (zZ_zuJ (zZ_up (m := 16) (zZ_zuJ (zZ_up (m := 15) (zZ_zuJ (zZX1_init_6 (zZ_up (m := 7) (zZ_zuJ (zZ_cl (zZ_zuJ (zZX3_init_1 (zZ_up (m := 2) hZ (by decide))) (by decide))) (by decide)) (by decide))) (by decide)) (by decide)) (by decide)) (by decide)) (by decide)) (by decide))) (by decide)) (by decide))) (by decide)) (by decide)) (by decide)) (by decide)) (by decide)) (by decide)) (by decide))) (by decide)) (by decide))) (by decide)) (by decide))) (by decide)) (by decide))) (by decide)) (by decide))) (by decide)) (by decide))) (by decide)) (by decide))) (by decide)) (by decide))) (by decide)) (by decide))) (by decide)) (by decide))) (by decide)) (by decide))) (by decide)) (by decide))) (by decide)) (by decide))) (by decide)) (by decide))) (by decide)) (by decide))) (by decide)) (fun _ hq => List.mem_cons_of_mem _ (List.mem_append_left _ (List.mem_append_left _ (List.mem_append_right _ hq)))) tyX0 tyX0_ok zdefX0 (List.mem_of_getElem? (i := 33) rfl) (List.mem_of_getElem? (i := 47) rfl) (List.mem_of_getElem? (i := 48) rfl) rfl rfl ⟨by decide, by decide⟩ dX11_init_208 (rfl : 208 + 3 = 211) ?_
  refine y_dup h rfl dX11_init_211 (rfl : 211 + 1 = 212) ?_
  refine y_callIN (n' := 141) (I' := iIX0_init_135 (iIX0_init_129 (iIX0_init_123 (iIX0_init_117 (iIX0_init_111 (iIX0_init_105 (iIX0_init_99 (iIX4_init_97 (iIX4_init_95 (iIX4_init_93 (iIX4_init_91 (iIX1_init_83 (iIX1_init_75 (iIX5_init_39 (iIX8_init_37 (iIX4_init_35 (zu (iIX7_init_18 (iIX9_init_16 (iIX1_init_6 (fun q => if q = 5 then zT0 else (iIX3_init_1 I) q)))) 0 9 0))))))))))))))))) (J' := iJX0_init_135 (zuJ (iJX0_init_129 (zuJ (iJX0_init_123 (zuJ (iJX0_init_117 (zuJ (iJX0_init_111 (zuJ (iJX0_init_105 (zuJ (iJX0_init_99 (zuJ (iJX4_init_97 (zuJ (iJX4_init_95 (zuJ (iJX4_init_93 (zuJ (iJX4_init_91 (zuJ (iJX1_init_83 (zuJ (iJX1_init_75 (zuJ (iJX5_init_39 (zuJ (iJX8_init_37 (zuJ (iJX4_init_35 (zuJ (zuJ (zuJ (iJX7_init_18 (zuJ (iJX9_init_16 (zuJ (zuJ (zuJ (iJX1_init_6 (zuJ (zuJ (iJX3_init_1 J) 0 0 (some 1)) 0 1 (some 5))) 0 2 (some 6)) 0 3 (some 14)) 0 4 (some 15))) 0 5 (some 16))) 0 6 (some 18)) 0 7 (some 33)) 0 8 (some 34))) 0 10 (some 35))) 0 11 (some 37))) 0 12 (some 39))) 14 0 (some 75))) 14 1 (some 83))) 33 0 (some 91))) 33 1 (some 93))) 33 2 (some 95))) 33 3 (some 97))) 34 0 (some 99))) 34 1 (some 105))) 34 2 (some 111))) 34 3 (some 117))) 34 4 (some 123))) 34 5 (some 129))) h [] [.ref (za B 135), .int 6, .ref (za B 34)] zyX0_init (c_X0_init_135 B hBs (iIX0_init_129 (iIX0_init_123 (iIX0_init_117 (iIX0_init_111 (iIX0_init_105 (iIX0_init_99 (iIX4_init_97 (iIX4_init_95 (iIX4_init_93 (iIX4_init_91 (iIX1_init_83 (iIX1_init_75 (iIX5_init_39 (iIX8_init_37 (iIX4_init_35 (zu (iIX7_init_18 (iIX9_init_16 (iIX1_init_6 (fun q => if q = 5 then zT0 else (iIX3_init_1 I) q)))) 0 9 0)))))))))))))))) (zuJ (iJX0_init_129 (zuJ (iJX0_init_123 (zuJ (iJX0_init_117 (zuJ (iJX0_init_111 (zuJ (iJX0_init_105 (zuJ (iJX0_init_99 (zuJ (iJX4_init_97 (zuJ (iJX4_init_95 (zuJ (iJX4_init_93 (zuJ (iJX4_init_91 (zuJ (iJX1_init_83 (zuJ (iJX1_init_75 (zuJ (iJX5_init_39 (zuJ (iJX8_init_37 (zuJ (iJX4_init_35 (zuJ (zuJ (zuJ (iJX7_init_18 (zuJ (iJX9_init_16 (zuJ (zuJ (zuJ (iJX1_init_6 (zuJ (zuJ (iJX3_init_1 J) 0 0 (some 1)) 0 1 (some 5))) 0 2 (some 6)) 0 3 (some 14)) 0 4 (some 15))) 0 5 (some 16))) 0 6 (some 18)) 0 7 (some 33)) 0 8 (some 34))) 0 10 (some 35))) 0 11 (some 37))) 0 12 (some 39))) 14 0 (some 75))) 14 1 (some 83))) 33 0 (some 91))) 33 1 (some 93))) 33 2 (some 95))) 33 3 (some 97))) 34 0 (some 99))) 34 1 (some 105))) 34 2 (some 111))) 34 3 (some 117))) 34 4 (some 123))) 34 5 (some 129)) (zZ_up (m := 136) (zZ_zuJ (zZX0_init_129 (zZ_up (m := 130) (zZ_zuJ (zZX0_init_123 (zZ_up (m := 124) (zZ_zuJ (zZX0_init_117 (zZ_up (m := 118) (zZ_zuJ (zZX0_init_111 (zZ_up (m := 112) (zZ_zuJ (zZX0_init_105 (zZ_up (m := 106) (zZ_zuJ (zZX0_init_99 (zZ_up (m := 100) (zZ_zuJ (zZX4_init_97 (zZ_up (m := 98) (zZ_zuJ (zZX4_init_95 (zZ_up (m := 96) (zZ_zuJ (zZX4_init_93 (zZ_up (m := 94) (zZ_zuJ (zZX4_init_91 (zZ_up (m := 92) (zZ_zuJ (zZX1_init_83 (zZ_up (m := 84) (zZ_zuJ (zZX1_init_75 (zZ_up (m := 76) (zZ_zuJ (zZX5_init_39 (zZ_up (m := 40) (zZ_zuJ (zZX8_init_37 (zZ_up (m := 38) (zZ_zuJ (zZX4_init_35 (zZ_up (m := 36) (zZ_zu (zZ_zuJ (zZ_up (m := 35) (zZ_zuJ (zZ_up (m := 34) (zZ_zuJ (zZX7_init_18 (zZ_up (m := 19) (zZ_zuJ (zZX9_init_16 (zZ_up (m := 17) (zZ_zuJ (zZ_up (m := 16) (zZ_zuJ (zZ_up (m := 15) (zZ_zuJ (zZX1_init_6 (zZ_up (m := 7) (zZ_zuJ (zZ_cl (zZ_zuJ (zZX3_init_1 (zZ_up (m := 2) hZ (by decide))) (by decide))) (by decide)) (by decide))) (by decide)) (by decide)) (by decide)) (by decide)) (by decide)) (by decide))) (by decide)) (by decide))) (by decide)) (by decide)) (by decide)) (by decide)) (by decide)) (by decide)) (by decide))) (by decide)) (by decide))) (by decide)) (by decide))) (by decide)) (by decide))) (by decide)) (by decide))) (by decide)) (by decide))) (by decide)) (by decide))) (by decide)) (by decide))) (by decide)) (by decide))) (by decide)) (by decide))) (by decide)) (by decide))) (by decide)) (by decide))) (by decide)) (by decide))) (by decide)) (by decide))) (by decide)) (by decide))) (by decide)) (by decide))) gX11_init_X0_init_n94 (List.mem_of_getElem? (i := 48) rfl) (List.mem_of_getElem? (i := 8) rfl) (List.mem_of_getElem? (i := 151) rfl) rfl ⟨by decide, by decide⟩ rfl (Nat.le_of_ble_eq_true rfl) ⟨by decide, by decide⟩ rfl dX11_init_212 (rfl : 212 + 3 = 215) ?_
  refine y_astq (ci := 0) h (by decide) rfl rfl (by decide) rfl rfl dX11_init_215 (rfl : 215 + 1 = 216) ?_
  refine y_iinc h 0 7 [(1, .int 7), (0, .ref (za B 0))] dX11_init_216 rfl (by decide) (by decide) rfl (rfl : 216 + 3 = 219) ?_
  refine y_goto (pc' := 197) h dX11_init_219 (by decide) ?_
  refine y_iload_n h 0 dX11_init_197 rfl (rfl : 197 + 1 = 198) ?_
  refine y_bipush h 8 dX11_init_198 (by decide) (rfl : 198 + 2 = 200) ?_
  refine y_icmp_ge (pc' := 203) h 222 dX11_init_200 (by decide) rfl (fun q => absurd q (by decide)) (fun _ => ?_)
  refine y_aload_n h 1 dX11_init_203 rfl (rfl : 203 + 1 = 204) ?_
  refine y_get (ci := 10) (C := RX11) (T := TX11) (N := 13) h 8 (.ref (za B 34)) rfl rfl (fun _ hq => List.mem_cons_of_mem _ (List.mem_append_left _ (List.mem_append_left _ (List.mem_append_left _ (List.mem_append_left _ (List.mem_append_left _ (List.mem_append_left _ (List.mem_append_left _ (List.mem_append_left _ (List.mem_append_left _ (List.mem_append_right _ hq))))))))))) (by decide) (List.mem_of_getElem? (i := 34) rfl) (zfs_ref rfl (by rfl)) dX11_init_204 (rfl : 204 + 3 = 207) ?_
  refine y_iload_n h 0 dX11_init_207 rfl (rfl : 207 + 1 = 208) ?_
  refine y_new (ci := 0) (C := RX0) (T := TX0) (N := 5) h hBs (zZ_zuJ (zZX0_init_135 (zZ_up (m := 136) (zZ_zuJ (zZX0_init_129 (zZ_up (m := 130) (zZ_zuJ (zZX0_init_123 (zZ_up (m := 124) (zZ_zuJ (zZX0_init_117 (zZ_up (m := 118) (zZ_zuJ (zZX0_init_111 (zZ_up (m := 112) (zZ_zuJ (zZX0_init_105 (zZ_up (m := 106) (zZ_zuJ (zZX0_init_99 (zZ_up (m := 100) (zZ_zuJ (zZX4_init_97 (zZ_up (m := 98) (zZ_zuJ (zZX4_init_95 (zZ_up (m := 96) (zZ_zuJ (zZX4_init_93 (zZ_up (m := 94) (zZ_zuJ (zZX4_init_91 (zZ_up (m := 92) (zZ_zuJ (zZX1_init_83 (zZ_up (m := 84) (zZ_zuJ (zZX1_init_75 (zZ_up (m := 76) (zZ_zuJ (zZX5_init_39 (zZ_up (m := 40) (zZ_zuJ (zZX8_init_37 (zZ_up (m := 38) (zZ_zuJ (zZX4_init_35 (zZ_up (m := 36) (zZ_zu (zZ_zuJ (zZ_up (m := 35) (zZ_zuJ (zZ_up (m := 34) (zZ_zuJ (zZX7_init_18 (zZ_up (m := 19) (zZ_zuJ (zZX9_init_16 (zZ_up (m := 17) (zZ_zuJ (zZ_up (m := 16) (zZ_zuJ (zZ_up (m := 15) (zZ_zuJ (zZX1_init_6 (zZ_up (m := 7) (zZ_zuJ (zZ_cl (zZ_zuJ (zZX3_init_1 (zZ_up (m := 2) hZ (by decide))) (by decide))) (by decide)) (by decide))) (by decide)) (by decide)) (by decide)) (by decide)) (by decide)) (by decide))) (by decide)) (by decide))) (by decide)) (by decide)) (by decide)) (by decide)) (by decide)) (by decide)) (by decide))) (by decide)) (by decide))) (by decide)) (by decide))) (by decide)) (by decide))) (by decide)) (by decide))) (by decide)) (by decide))) (by decide)) (by decide))) (by decide)) (by decide))) (by decide)) (by decide))) (by decide)) (by decide))) (by decide)) (by decide))) (by decide)) (by decide))) (by decide)) (by decide))) (by decide)) (by decide))) (by decide)) (by decide))) (by decide)) (by decide))) (by decide)) (fun _ hq => List.mem_cons_of_mem _ (List.mem_append_left _ (List.mem_append_left _ (List.mem_append_right _ hq)))) tyX0 tyX0_ok zdefX0 (List.mem_of_getElem? (i := 33) rfl) (List.mem_of_getElem? (i := 47) rfl) (List.mem_of_getElem? (i := 48) rfl) rfl rfl ⟨by decide, by decide⟩ dX11_init_208 (rfl : 208 + 3 = 211) ?_
  refine y_dup h rfl dX11_init_211 (rfl : 211 + 1 = 212) ?_
  refine y_callIN (n' := 147) (I' := iIX0_init_141 (iIX0_init_135 (iIX0_init_129 (iIX0_init_123 (iIX0_init_117 (iIX0_init_111 (iIX0_init_105 (iIX0_init_99 (iIX4_init_97 (iIX4_init_95 (iIX4_init_93 (iIX4_init_91 (iIX1_init_83 (iIX1_init_75 (iIX5_init_39 (iIX8_init_37 (iIX4_init_35 (zu (iIX7_init_18 (iIX9_init_16 (iIX1_init_6 (fun q => if q = 5 then zT0 else (iIX3_init_1 I) q)))) 0 9 0)))))))))))))))))) (J' := iJX0_init_141 (zuJ (iJX0_init_135 (zuJ (iJX0_init_129 (zuJ (iJX0_init_123 (zuJ (iJX0_init_117 (zuJ (iJX0_init_111 (zuJ (iJX0_init_105 (zuJ (iJX0_init_99 (zuJ (iJX4_init_97 (zuJ (iJX4_init_95 (zuJ (iJX4_init_93 (zuJ (iJX4_init_91 (zuJ (iJX1_init_83 (zuJ (iJX1_init_75 (zuJ (iJX5_init_39 (zuJ (iJX8_init_37 (zuJ (iJX4_init_35 (zuJ (zuJ (zuJ (iJX7_init_18 (zuJ (iJX9_init_16 (zuJ (zuJ (zuJ (iJX1_init_6 (zuJ (zuJ (iJX3_init_1 J) 0 0 (some 1)) 0 1 (some 5))) 0 2 (some 6)) 0 3 (some 14)) 0 4 (some 15))) 0 5 (some 16))) 0 6 (some 18)) 0 7 (some 33)) 0 8 (some 34))) 0 10 (some 35))) 0 11 (some 37))) 0 12 (some 39))) 14 0 (some 75))) 14 1 (some 83))) 33 0 (some 91))) 33 1 (some 93))) 33 2 (some 95))) 33 3 (some 97))) 34 0 (some 99))) 34 1 (some 105))) 34 2 (some 111))) 34 3 (some 117))) 34 4 (some 123))) 34 5 (some 129))) 34 6 (some 135))) h [] [.ref (za B 141), .int 7, .ref (za B 34)] zyX0_init (c_X0_init_141 B hBs (iIX0_init_135 (iIX0_init_129 (iIX0_init_123 (iIX0_init_117 (iIX0_init_111 (iIX0_init_105 (iIX0_init_99 (iIX4_init_97 (iIX4_init_95 (iIX4_init_93 (iIX4_init_91 (iIX1_init_83 (iIX1_init_75 (iIX5_init_39 (iIX8_init_37 (iIX4_init_35 (zu (iIX7_init_18 (iIX9_init_16 (iIX1_init_6 (fun q => if q = 5 then zT0 else (iIX3_init_1 I) q)))) 0 9 0))))))))))))))))) (zuJ (iJX0_init_135 (zuJ (iJX0_init_129 (zuJ (iJX0_init_123 (zuJ (iJX0_init_117 (zuJ (iJX0_init_111 (zuJ (iJX0_init_105 (zuJ (iJX0_init_99 (zuJ (iJX4_init_97 (zuJ (iJX4_init_95 (zuJ (iJX4_init_93 (zuJ (iJX4_init_91 (zuJ (iJX1_init_83 (zuJ (iJX1_init_75 (zuJ (iJX5_init_39 (zuJ (iJX8_init_37 (zuJ (iJX4_init_35 (zuJ (zuJ (zuJ (iJX7_init_18 (zuJ (iJX9_init_16 (zuJ (zuJ (zuJ (iJX1_init_6 (zuJ (zuJ (iJX3_init_1 J) 0 0 (some 1)) 0 1 (some 5))) 0 2 (some 6)) 0 3 (some 14)) 0 4 (some 15))) 0 5 (some 16))) 0 6 (some 18)) 0 7 (some 33)) 0 8 (some 34))) 0 10 (some 35))) 0 11 (some 37))) 0 12 (some 39))) 14 0 (some 75))) 14 1 (some 83))) 33 0 (some 91))) 33 1 (some 93))) 33 2 (some 95))) 33 3 (some 97))) 34 0 (some 99))) 34 1 (some 105))) 34 2 (some 111))) 34 3 (some 117))) 34 4 (some 123))) 34 5 (some 129))) 34 6 (some 135)) (zZ_up (m := 142) (zZ_zuJ (zZX0_init_135 (zZ_up (m := 136) (zZ_zuJ (zZX0_init_129 (zZ_up (m := 130) (zZ_zuJ (zZX0_init_123 (zZ_up (m := 124) (zZ_zuJ (zZX0_init_117 (zZ_up (m := 118) (zZ_zuJ (zZX0_init_111 (zZ_up (m := 112) (zZ_zuJ (zZX0_init_105 (zZ_up (m := 106) (zZ_zuJ (zZX0_init_99 (zZ_up (m := 100) (zZ_zuJ (zZX4_init_97 (zZ_up (m := 98) (zZ_zuJ (zZX4_init_95 (zZ_up (m := 96) (zZ_zuJ (zZX4_init_93 (zZ_up (m := 94) (zZ_zuJ (zZX4_init_91 (zZ_up (m := 92) (zZ_zuJ (zZX1_init_83 (zZ_up (m := 84) (zZ_zuJ (zZX1_init_75 (zZ_up (m := 76) (zZ_zuJ (zZX5_init_39 (zZ_up (m := 40) (zZ_zuJ (zZX8_init_37 (zZ_up (m := 38) (zZ_zuJ (zZX4_init_35 (zZ_up (m := 36) (zZ_zu (zZ_zuJ (zZ_up (m := 35) (zZ_zuJ (zZ_up (m := 34) (zZ_zuJ (zZX7_init_18 (zZ_up (m := 19) (zZ_zuJ (zZX9_init_16 (zZ_up (m := 17) (zZ_zuJ (zZ_up (m := 16) (zZ_zuJ (zZ_up (m := 15) (zZ_zuJ (zZX1_init_6 (zZ_up (m := 7) (zZ_zuJ (zZ_cl (zZ_zuJ (zZX3_init_1 (zZ_up (m := 2) hZ (by decide))) (by decide))) (by decide)) (by decide))) (by decide)) (by decide)) (by decide)) (by decide)) (by decide)) (by decide))) (by decide)) (by decide))) (by decide)) (by decide)) (by decide)) (by decide)) (by decide)) (by decide)) (by decide))) (by decide)) (by decide))) (by decide)) (by decide))) (by decide)) (by decide))) (by decide)) (by decide))) (by decide)) (by decide))) (by decide)) (by decide))) (by decide)) (by decide))) (by decide)) (by decide))) (by decide)) (by decide))) (by decide)) (by decide))) (by decide)) (by decide))) (by decide)) (by decide))) (by decide)) (by decide))) (by decide)) (by decide))) (by decide)) (by decide))) (by decide)) (by decide))) gX11_init_X0_init_n94 (List.mem_of_getElem? (i := 48) rfl) (List.mem_of_getElem? (i := 8) rfl) (List.mem_of_getElem? (i := 151) rfl) rfl ⟨by decide, by decide⟩ rfl (Nat.le_of_ble_eq_true rfl) ⟨by decide, by decide⟩ rfl dX11_init_212 (rfl : 212 + 3 = 215) ?_
  refine y_astq (ci := 0) h (by decide) rfl rfl (by decide) rfl rfl dX11_init_215 (rfl : 215 + 1 = 216) ?_
  refine y_iinc h 0 8 [(1, .int 8), (0, .ref (za B 0))] dX11_init_216 rfl (by decide) (by decide) rfl (rfl : 216 + 3 = 219) ?_
  refine y_goto (pc' := 197) h dX11_init_219 (by decide) ?_
  refine y_iload_n h 0 dX11_init_197 rfl (rfl : 197 + 1 = 198) ?_
  refine y_bipush h 8 dX11_init_198 (by decide) (rfl : 198 + 2 = 200) ?_
  refine y_icmp_ge (pc' := 203) h 222 dX11_init_200 (by decide) rfl (fun _ => ?_) (fun q => absurd q (by decide))
  exact y_ret h hr rfl rfl rfl rfl dX11_init_222
theorem zyX12_init : zY yX12_init wsX12_init cX12_init 3 none 0 := ⟨⟨_, rfl⟩, by decide +kernel⟩
noncomputable abbrev rmX12_init_147 : Room := { frames := 1, cells := 30, slots := 94328, locals := 24 }
def iIX12_init_147 (I : zM) : zM := zu (zu (zu (zu (zu (zu (zu (zu (zu (zu (zu (zu (zu (zu (zu (zu (zu (zu (zu (zu (zu (zu (zu (zu (zu (zu (zu (zu (zu (zu (zu (zu (zu (zu I 147 8 2) 147 9 3) 147 10 60) 147 32 (-9)) 150 0 (-9)) 150 1 (-9)) 150 2 (-9)) 150 3 (-9)) 150 4 (-9)) 150 5 (-9)) 158 0 5) 157 0 0) 157 1 1) 157 2 2) 157 3 3) 157 4 4) 158 1 5) 157 5 0) 157 6 1) 157 7 2) 157 8 3) 157 9 4) 158 2 5) 157 10 0) 157 11 1) 157 12 2) 157 13 3) 157 14 4) 158 3 5) 157 15 0) 157 16 1) 157 17 2) 157 18 3) 157 19 4
def iJX12_init_147 (J : zJ) : zJ := zuJ (zuJ (zuJ (zuJ (zuJ (zuJ (zuJ (zuJ (zuJ (zuJ (zuJ (zuJ (zuJ (zuJ (zuJ (zuJ (zuJ (zuJ (zuJ (zuJ (zuJ (zuJ (zuJ (zuJ (zuJ (zuJ (zuJ (zuJ (zuJ (zuJ J 147 1 (some 148)) 147 2 (some 149)) 147 3 (some 150)) 147 4 (some 151)) 147 5 (some 152)) 147 7 (some 153)) 147 11 (some 154)) 147 14 (some 155)) 147 16 (some 156)) 147 17 (some 157)) 147 18 (some 158)) 147 19 (some 159)) 147 20 (some 160)) 147 21 (some 161)) 147 22 (some 162)) 147 23 (some 163)) 147 24 (some 164)) 147 26 (some 165)) 147 28 (some 166)) 147 29 (some 167)) 147 30 (some 168)) 147 31 (some 169)) 147 34 (some 170)) 147 35 (some 171)) 147 36 (some 172)) 147 37 (some 173)) 147 38 (some 174)) 147 43 (some 175)) 147 44 (some 176)) 147 45 (some 177)
theorem zZX12_init_147 {I : zM} {J : zJ} (hZ : zZ 148 I J) : zZ 178 (iIX12_init_147 I) (iJX12_init_147 J) := (zZ_zu (zZ_zu (zZ_zu (zZ_zu (zZ_zu (zZ_zu (zZ_zu (zZ_zu (zZ_zu (zZ_zu (zZ_zu (zZ_zu (zZ_zu (zZ_zu (zZ_zu (zZ_zu (zZ_zu (zZ_zu (zZ_zu (zZ_zu (zZ_zu (zZ_zu (zZ_zu (zZ_zu (zZ_zu (zZ_zu (zZ_zu (zZ_zu (zZ_zu (zZ_zu (zZ_zuJ (zZ_up (m := 178) (zZ_zuJ (zZ_up (m := 177) (zZ_zuJ (zZ_up (m := 176) (zZ_zuJ (zZ_up (m := 175) (zZ_zuJ (zZ_up (m := 174) (zZ_zuJ (zZ_up (m := 173) (zZ_zuJ (zZ_up (m := 172) (zZ_zuJ (zZ_up (m := 171) (zZ_zu (zZ_zuJ (zZ_up (m := 170) (zZ_zuJ (zZ_up (m := 169) (zZ_zuJ (zZ_up (m := 168) (zZ_zuJ (zZ_up (m := 167) (zZ_zuJ (zZ_up (m := 166) (zZ_zuJ (zZ_up (m := 165) (zZ_zuJ (zZ_up (m := 164) (zZ_zuJ (zZ_up (m := 163) (zZ_zuJ (zZ_up (m := 162) (zZ_zuJ (zZ_up (m := 161) (zZ_zuJ (zZ_up (m := 160) (zZ_zuJ (zZ_up (m := 159) (zZ_zuJ (zZ_up (m := 158) (zZ_zuJ (zZ_up (m := 157) (zZ_zuJ (zZ_up (m := 156) (zZ_zuJ (zZ_up (m := 155) (zZ_zu (zZ_zu (zZ_zu (zZ_zuJ (zZ_up (m := 154) (zZ_zuJ (zZ_up (m := 153) (zZ_zuJ (zZ_up (m := 152) (zZ_zuJ (zZ_up (m := 151) (zZ_zuJ (zZ_up (m := 150) (zZ_zuJ (zZ_up (m := 149) hZ (by decide)) (by decide)) (by decide)) (by decide)) (by decide)) (by decide)) (by decide)) (by decide)) (by decide)) (by decide)) (by decide)) (by decide)) (by decide)) (by decide)) (by decide)) (by decide)) (by decide)) (by decide)) (by decide)) (by decide)) (by decide)) (by decide)) (by decide)) (by decide)) (by decide)) (by decide)) (by decide)) (by decide)) (by decide)) (by decide)) (by decide)) (by decide)) (by decide)) (by decide)) (by decide)) (by decide)) (by decide)) (by decide)) (by decide)) (by decide)) (by decide)) (by decide)) (by decide)) (by decide)) (by decide)) (by decide)) (by decide)) (by decide)) (by decide)) (by decide)) (by decide)) (by decide)) (by decide)) (by decide)) (by decide)) (by decide)) (by decide)) (by decide)) (by decide)) (by decide)) (by decide)) (by decide)) (by decide)) (by decide)) (by decide)) (by decide)) (by decide)) (by decide)) (by decide)) (by decide)) (by decide)) (by decide)) (by decide)) (by decide)) (by decide)) (by decide)) (by decide)) (by decide)) (by decide)) (by decide)) (by decide)) (by decide)) (by decide)) (by decide)) (by decide)) (by decide)) (by decide)) (by decide)) (by decide)) (by decide)) (by decide)) (by decide)) (by decide)) (by decide))
set_option maxHeartbeats 2000000 in
set_option maxRecDepth 100000 in
theorem c_X12_init_147 (B : zB) (hBs : zBs B) (I : zM) (J : zJ) (hZ : zZ 148 I J) : zCc B 148 I J yX12_init wsX12_init rmX12_init_147 [.ref (za B 147)] 178 (iIX12_init_147 I) (iJX12_init_147 J) := by
  refine y_start (own := RX12) (cc := cX12_init) (nL := 3) rfl (by decide) rfl rfl (Nat.le_of_ble_eq_true rfl) (L := [(0, .ref (za B 147))]) rfl (fun G h hr => ?_)
  refine y_aload_n h 0 dX12_init_0 rfl (rfl : 0 + 1 = 1) ?_
  refine y_objInit h (List.mem_of_getElem? (i := 1) rfl) (List.mem_of_getElem? (i := 2) rfl) (List.mem_of_getElem? (i := 3) rfl) (by decide) dX12_init_1 (rfl : 1 + 3 = 4) ?_
  refine y_aload_n h 0 dX12_init_4 rfl (rfl : 4 + 1 = 5) ?_
  refine y_bipush h 6 dX12_init_5 (by decide) (rfl : 5 + 2 = 7) ?_
  refine y_newa (atype := .int) (t := 0) (m := 6) h hBs hZ (List.mem_of_getElem? (i := 4) rfl) (by decide) rfl rfl (by decide) (by decide) (by decide) rfl ⟨by decide, by decide⟩ dX12_init_7 (rfl : 7 + 2 = 9) ?_
  refine y_putR (ci := 11) (C := RX12) (T := TX12) (N := 46) h 1 tyX12 tyX12_ok nmX12 rfl rfl (fun _ hq => List.mem_cons_of_mem _ (List.mem_append_right _ hq)) (by decide) (List.mem_of_getElem? (i := 5) rfl) rfl rfl hr.2.2.2 rfl (Or.inr ⟨_, rfl⟩) dX12_init_9 (rfl : 9 + 3 = 12) ?_
  refine y_aload_n h 0 dX12_init_12 rfl (rfl : 12 + 1 = 13) ?_
  refine y_bipush h 6 dX12_init_13 (by decide) (rfl : 13 + 2 = 15) ?_
  refine y_newa (atype := .boolean) (t := 1) (m := 6) h hBs (zZ_zuJ (zZ_up (m := 149) hZ (by decide)) (by decide)) (List.mem_of_getElem? (i := 6) rfl) (by decide) rfl rfl (by decide) (by decide) (by decide) rfl ⟨by decide, by decide⟩ dX12_init_15 (rfl : 15 + 2 = 17) ?_
  refine y_putR (ci := 11) (C := RX12) (T := TX12) (N := 46) h 2 tyX12 tyX12_ok nmX12 rfl rfl (fun _ hq => List.mem_cons_of_mem _ (List.mem_append_right _ hq)) (by decide) (List.mem_of_getElem? (i := 7) rfl) rfl rfl hr.2.2.2 rfl (Or.inr ⟨_, rfl⟩) dX12_init_17 (rfl : 17 + 3 = 20) ?_
  refine y_aload_n h 0 dX12_init_20 rfl (rfl : 20 + 1 = 21) ?_
  refine y_bipush h 6 dX12_init_21 (by decide) (rfl : 21 + 2 = 23) ?_
  refine y_newa (atype := .int) (t := 0) (m := 6) h hBs (zZ_zuJ (zZ_up (m := 150) (zZ_zuJ (zZ_up (m := 149) hZ (by decide)) (by decide)) (by decide)) (by decide)) (List.mem_of_getElem? (i := 4) rfl) (by decide) rfl rfl (by decide) (by decide) (by decide) rfl ⟨by decide, by decide⟩ dX12_init_23 (rfl : 23 + 2 = 25) ?_
  refine y_putR (ci := 11) (C := RX12) (T := TX12) (N := 46) h 3 tyX12 tyX12_ok nmX12 rfl rfl (fun _ hq => List.mem_cons_of_mem _ (List.mem_append_right _ hq)) (by decide) (List.mem_of_getElem? (i := 8) rfl) rfl rfl hr.2.2.2 rfl (Or.inr ⟨_, rfl⟩) dX12_init_25 (rfl : 25 + 3 = 28) ?_
  refine y_aload_n h 0 dX12_init_28 rfl (rfl : 28 + 1 = 29) ?_
  refine y_bipush h 6 dX12_init_29 (by decide) (rfl : 29 + 2 = 31) ?_
  refine y_newa (atype := .int) (t := 0) (m := 6) h hBs (zZ_zuJ (zZ_up (m := 151) (zZ_zuJ (zZ_up (m := 150) (zZ_zuJ (zZ_up (m := 149) hZ (by decide)) (by decide)) (by decide)) (by decide)) (by decide)) (by decide)) (List.mem_of_getElem? (i := 4) rfl) (by decide) rfl rfl (by decide) (by decide) (by decide) rfl ⟨by decide, by decide⟩ dX12_init_31 (rfl : 31 + 2 = 33) ?_
  refine y_putR (ci := 11) (C := RX12) (T := TX12) (N := 46) h 4 tyX12 tyX12_ok nmX12 rfl rfl (fun _ hq => List.mem_cons_of_mem _ (List.mem_append_right _ hq)) (by decide) (List.mem_of_getElem? (i := 9) rfl) rfl rfl hr.2.2.2 rfl (Or.inr ⟨_, rfl⟩) dX12_init_33 (rfl : 33 + 3 = 36) ?_
  refine y_aload_n h 0 dX12_init_36 rfl (rfl : 36 + 1 = 37) ?_
  refine y_sipush h 144 dX12_init_37 (by decide) (rfl : 37 + 3 = 40) ?_
  refine y_newa (atype := .int) (t := 0) (m := 144) h hBs (zZ_zuJ (zZ_up (m := 152) (zZ_zuJ (zZ_up (m := 151) (zZ_zuJ (zZ_up (m := 150) (zZ_zuJ (zZ_up (m := 149) hZ (by decide)) (by decide)) (by decide)) (by decide)) (by decide)) (by decide)) (by decide)) (by decide)) (List.mem_of_getElem? (i := 4) rfl) (by decide) rfl rfl (by decide) (by decide) (by decide) rfl ⟨by decide, by decide⟩ dX12_init_40 (rfl : 40 + 2 = 42) ?_
  refine y_putR (ci := 11) (C := RX12) (T := TX12) (N := 46) h 5 tyX12 tyX12_ok nmX12 rfl rfl (fun _ hq => List.mem_cons_of_mem _ (List.mem_append_right _ hq)) (by decide) (List.mem_of_getElem? (i := 10) rfl) rfl rfl hr.2.2.2 rfl (Or.inr ⟨_, rfl⟩) dX12_init_42 (rfl : 42 + 3 = 45) ?_
  refine y_aload_n h 0 dX12_init_45 rfl (rfl : 45 + 1 = 46) ?_
  refine y_bipush h 15 dX12_init_46 (by decide) (rfl : 46 + 2 = 48) ?_
  refine y_newa (atype := .boolean) (t := 1) (m := 15) h hBs (zZ_zuJ (zZ_up (m := 153) (zZ_zuJ (zZ_up (m := 152) (zZ_zuJ (zZ_up (m := 151) (zZ_zuJ (zZ_up (m := 150) (zZ_zuJ (zZ_up (m := 149) hZ (by decide)) (by decide)) (by decide)) (by decide)) (by decide)) (by decide)) (by decide)) (by decide)) (by decide)) (by decide)) (List.mem_of_getElem? (i := 6) rfl) (by decide) rfl rfl (by decide) (by decide) (by decide) rfl ⟨by decide, by decide⟩ dX12_init_48 (rfl : 48 + 2 = 50) ?_
  refine y_putR (ci := 11) (C := RX12) (T := TX12) (N := 46) h 7 tyX12 tyX12_ok nmX12 rfl rfl (fun _ hq => List.mem_cons_of_mem _ (List.mem_append_right _ hq)) (by decide) (List.mem_of_getElem? (i := 11) rfl) rfl rfl hr.2.2.2 rfl (Or.inr ⟨_, rfl⟩) dX12_init_50 (rfl : 50 + 3 = 53) ?_
  refine y_aload_n h 0 dX12_init_53 rfl (rfl : 53 + 1 = 54) ?_
  refine y_iconst h 2 dX12_init_54 (by decide) (rfl : 54 + 1 = 55) ?_
  refine y_putI (ci := 11) (C := RX12) (T := TX12) (N := 46) h 8 tyX12 tyX12_ok nmX12 rfl rfl (fun _ hq => List.mem_cons_of_mem _ (List.mem_append_right _ hq)) (by decide) (List.mem_of_getElem? (i := 12) rfl) rfl rfl rfl dX12_init_55 (rfl : 55 + 3 = 58) ?_
  refine y_aload_n h 0 dX12_init_58 rfl (rfl : 58 + 1 = 59) ?_
  refine y_iconst h 3 dX12_init_59 (by decide) (rfl : 59 + 1 = 60) ?_
  refine y_putI (ci := 11) (C := RX12) (T := TX12) (N := 46) h 9 tyX12 tyX12_ok nmX12 rfl rfl (fun _ hq => List.mem_cons_of_mem _ (List.mem_append_right _ hq)) (by decide) (List.mem_of_getElem? (i := 13) rfl) rfl rfl rfl dX12_init_60 (rfl : 60 + 3 = 63) ?_
  refine y_aload_n h 0 dX12_init_63 rfl (rfl : 63 + 1 = 64) ?_
  refine y_bipush h 60 dX12_init_64 (by decide) (rfl : 64 + 2 = 66) ?_
  refine y_putI (ci := 11) (C := RX12) (T := TX12) (N := 46) h 10 tyX12 tyX12_ok nmX12 rfl rfl (fun _ hq => List.mem_cons_of_mem _ (List.mem_append_right _ hq)) (by decide) (List.mem_of_getElem? (i := 14) rfl) rfl rfl rfl dX12_init_66 (rfl : 66 + 3 = 69) ?_
  refine y_aload_n h 0 dX12_init_69 rfl (rfl : 69 + 1 = 70) ?_
  refine y_bipush h 24 dX12_init_70 (by decide) (rfl : 70 + 2 = 72) ?_
  refine y_newa (atype := .int) (t := 0) (m := 24) h hBs (zZ_zu (zZ_zu (zZ_zu (zZ_zuJ (zZ_up (m := 154) (zZ_zuJ (zZ_up (m := 153) (zZ_zuJ (zZ_up (m := 152) (zZ_zuJ (zZ_up (m := 151) (zZ_zuJ (zZ_up (m := 150) (zZ_zuJ (zZ_up (m := 149) hZ (by decide)) (by decide)) (by decide)) (by decide)) (by decide)) (by decide)) (by decide)) (by decide)) (by decide)) (by decide)) (by decide)) (by decide)) (by decide)) (by decide)) (by decide)) (List.mem_of_getElem? (i := 4) rfl) (by decide) rfl rfl (by decide) (by decide) (by decide) rfl ⟨by decide, by decide⟩ dX12_init_72 (rfl : 72 + 2 = 74) ?_
  refine y_putR (ci := 11) (C := RX12) (T := TX12) (N := 46) h 11 tyX12 tyX12_ok nmX12 rfl rfl (fun _ hq => List.mem_cons_of_mem _ (List.mem_append_right _ hq)) (by decide) (List.mem_of_getElem? (i := 15) rfl) rfl rfl hr.2.2.2 rfl (Or.inr ⟨_, rfl⟩) dX12_init_74 (rfl : 74 + 3 = 77) ?_
  refine y_aload_n h 0 dX12_init_77 rfl (rfl : 77 + 1 = 78) ?_
  refine y_bipush h 72 dX12_init_78 (by decide) (rfl : 78 + 2 = 80) ?_
  refine y_newa (atype := .int) (t := 0) (m := 72) h hBs (zZ_zuJ (zZ_up (m := 155) (zZ_zu (zZ_zu (zZ_zu (zZ_zuJ (zZ_up (m := 154) (zZ_zuJ (zZ_up (m := 153) (zZ_zuJ (zZ_up (m := 152) (zZ_zuJ (zZ_up (m := 151) (zZ_zuJ (zZ_up (m := 150) (zZ_zuJ (zZ_up (m := 149) hZ (by decide)) (by decide)) (by decide)) (by decide)) (by decide)) (by decide)) (by decide)) (by decide)) (by decide)) (by decide)) (by decide)) (by decide)) (by decide)) (by decide)) (by decide)) (by decide)) (by decide)) (List.mem_of_getElem? (i := 4) rfl) (by decide) rfl rfl (by decide) (by decide) (by decide) rfl ⟨by decide, by decide⟩ dX12_init_80 (rfl : 80 + 2 = 82) ?_
  refine y_putR (ci := 11) (C := RX12) (T := TX12) (N := 46) h 14 tyX12 tyX12_ok nmX12 rfl rfl (fun _ hq => List.mem_cons_of_mem _ (List.mem_append_right _ hq)) (by decide) (List.mem_of_getElem? (i := 16) rfl) rfl rfl hr.2.2.2 rfl (Or.inr ⟨_, rfl⟩) dX12_init_82 (rfl : 82 + 3 = 85) ?_
  refine y_aload_n h 0 dX12_init_85 rfl (rfl : 85 + 1 = 86) ?_
  refine y_bipush h 6 dX12_init_86 (by decide) (rfl : 86 + 2 = 88) ?_
  refine y_newa (atype := .int) (t := 0) (m := 6) h hBs (zZ_zuJ (zZ_up (m := 156) (zZ_zuJ (zZ_up (m := 155) (zZ_zu (zZ_zu (zZ_zu (zZ_zuJ (zZ_up (m := 154) (zZ_zuJ (zZ_up (m := 153) (zZ_zuJ (zZ_up (m := 152) (zZ_zuJ (zZ_up (m := 151) (zZ_zuJ (zZ_up (m := 150) (zZ_zuJ (zZ_up (m := 149) hZ (by decide)) (by decide)) (by decide)) (by decide)) (by decide)) (by decide)) (by decide)) (by decide)) (by decide)) (by decide)) (by decide)) (by decide)) (by decide)) (by decide)) (by decide)) (by decide)) (by decide)) (by decide)) (by decide)) (List.mem_of_getElem? (i := 4) rfl) (by decide) rfl rfl (by decide) (by decide) (by decide) rfl ⟨by decide, by decide⟩ dX12_init_88 (rfl : 88 + 2 = 90) ?_
  refine y_putR (ci := 11) (C := RX12) (T := TX12) (N := 46) h 16 tyX12 tyX12_ok nmX12 rfl rfl (fun _ hq => List.mem_cons_of_mem _ (List.mem_append_right _ hq)) (by decide) (List.mem_of_getElem? (i := 17) rfl) rfl rfl hr.2.2.2 rfl (Or.inr ⟨_, rfl⟩) dX12_init_90 (rfl : 90 + 3 = 93) ?_
  refine y_aload_n h 0 dX12_init_93 rfl (rfl : 93 + 1 = 94) ?_
  refine y_bipush h 25 dX12_init_94 (by decide) (rfl : 94 + 2 = 96) ?_
  refine y_newa (atype := .int) (t := 0) (m := 25) h hBs (zZ_zuJ (zZ_up (m := 157) (zZ_zuJ (zZ_up (m := 156) (zZ_zuJ (zZ_up (m := 155) (zZ_zu (zZ_zu (zZ_zu (zZ_zuJ (zZ_up (m := 154) (zZ_zuJ (zZ_up (m := 153) (zZ_zuJ (zZ_up (m := 152) (zZ_zuJ (zZ_up (m := 151) (zZ_zuJ (zZ_up (m := 150) (zZ_zuJ (zZ_up (m := 149) hZ (by decide)) (by decide)) (by decide)) (by decide)) (by decide)) (by decide)) (by decide)) (by decide)) (by decide)) (by decide)) (by decide)) (by decide)) (by decide)) (by decide)) (by decide)) (by decide)) (by decide)) (by decide)) (by decide)) (by decide)) (by decide)) (List.mem_of_getElem? (i := 4) rfl) (by decide) rfl rfl (by decide) (by decide) (by decide) rfl ⟨by decide, by decide⟩ dX12_init_96 (rfl : 96 + 2 = 98) ?_
  refine y_putR (ci := 11) (C := RX12) (T := TX12) (N := 46) h 17 tyX12 tyX12_ok nmX12 rfl rfl (fun _ hq => List.mem_cons_of_mem _ (List.mem_append_right _ hq)) (by decide) (List.mem_of_getElem? (i := 18) rfl) rfl rfl hr.2.2.2 rfl (Or.inr ⟨_, rfl⟩) dX12_init_98 (rfl : 98 + 3 = 101) ?_
  refine y_aload_n h 0 dX12_init_101 rfl (rfl : 101 + 1 = 102) ?_
  refine y_iconst h 5 dX12_init_102 (by decide) (rfl : 102 + 1 = 103) ?_
  refine y_newa (atype := .int) (t := 0) (m := 5) h hBs (zZ_zuJ (zZ_up (m := 158) (zZ_zuJ (zZ_up (m := 157) (zZ_zuJ (zZ_up (m := 156) (zZ_zuJ (zZ_up (m := 155) (zZ_zu (zZ_zu (zZ_zu (zZ_zuJ (zZ_up (m := 154) (zZ_zuJ (zZ_up (m := 153) (zZ_zuJ (zZ_up (m := 152) (zZ_zuJ (zZ_up (m := 151) (zZ_zuJ (zZ_up (m := 150) (zZ_zuJ (zZ_up (m := 149) hZ (by decide)) (by decide)) (by decide)) (by decide)) (by decide)) (by decide)) (by decide)) (by decide)) (by decide)) (by decide)) (by decide)) (by decide)) (by decide)) (by decide)) (by decide)) (by decide)) (by decide)) (by decide)) (by decide)) (by decide)) (by decide)) (by decide)) (by decide)) (List.mem_of_getElem? (i := 4) rfl) (by decide) rfl rfl (by decide) (by decide) (by decide) rfl ⟨by decide, by decide⟩ dX12_init_103 (rfl : 103 + 2 = 105) ?_
  refine y_putR (ci := 11) (C := RX12) (T := TX12) (N := 46) h 18 tyX12 tyX12_ok nmX12 rfl rfl (fun _ hq => List.mem_cons_of_mem _ (List.mem_append_right _ hq)) (by decide) (List.mem_of_getElem? (i := 19) rfl) rfl rfl hr.2.2.2 rfl (Or.inr ⟨_, rfl⟩) dX12_init_105 (rfl : 105 + 3 = 108) ?_
  refine y_aload_n h 0 dX12_init_108 rfl (rfl : 108 + 1 = 109) ?_
  refine y_bipush h 8 dX12_init_109 (by decide) (rfl : 109 + 2 = 111) ?_
  refine y_newa (atype := .int) (t := 0) (m := 8) h hBs (zZ_zuJ (zZ_up (m := 159) (zZ_zuJ (zZ_up (m := 158) (zZ_zuJ (zZ_up (m := 157) (zZ_zuJ (zZ_up (m := 156) (zZ_zuJ (zZ_up (m := 155) (zZ_zu (zZ_zu (zZ_zu (zZ_zuJ (zZ_up (m := 154) (zZ_zuJ (zZ_up (m := 153) (zZ_zuJ (zZ_up (m := 152) (zZ_zuJ (zZ_up (m := 151) (zZ_zuJ (zZ_up (m := 150) (zZ_zuJ (zZ_up (m := 149) hZ (by decide)) (by decide)) (by decide)) (by decide)) (by decide)) (by decide)) (by decide)) (by decide)) (by decide)) (by decide)) (by decide)) (by decide)) (by decide)) (by decide)) (by decide)) (by decide)) (by decide)) (by decide)) (by decide)) (by decide)) (by decide)) (by decide)) (by decide)) (by decide)) (by decide)) (List.mem_of_getElem? (i := 4) rfl) (by decide) rfl rfl (by decide) (by decide) (by decide) rfl ⟨by decide, by decide⟩ dX12_init_111 (rfl : 111 + 2 = 113) ?_
  refine y_putR (ci := 11) (C := RX12) (T := TX12) (N := 46) h 19 tyX12 tyX12_ok nmX12 rfl rfl (fun _ hq => List.mem_cons_of_mem _ (List.mem_append_right _ hq)) (by decide) (List.mem_of_getElem? (i := 20) rfl) rfl rfl hr.2.2.2 rfl (Or.inr ⟨_, rfl⟩) dX12_init_113 (rfl : 113 + 3 = 116) ?_
  refine y_aload_n h 0 dX12_init_116 rfl (rfl : 116 + 1 = 117) ?_
  refine y_bipush h 8 dX12_init_117 (by decide) (rfl : 117 + 2 = 119) ?_
  refine y_newa (atype := .int) (t := 0) (m := 8) h hBs (zZ_zuJ (zZ_up (m := 160) (zZ_zuJ (zZ_up (m := 159) (zZ_zuJ (zZ_up (m := 158) (zZ_zuJ (zZ_up (m := 157) (zZ_zuJ (zZ_up (m := 156) (zZ_zuJ (zZ_up (m := 155) (zZ_zu (zZ_zu (zZ_zu (zZ_zuJ (zZ_up (m := 154) (zZ_zuJ (zZ_up (m := 153) (zZ_zuJ (zZ_up (m := 152) (zZ_zuJ (zZ_up (m := 151) (zZ_zuJ (zZ_up (m := 150) (zZ_zuJ (zZ_up (m := 149) hZ (by decide)) (by decide)) (by decide)) (by decide)) (by decide)) (by decide)) (by decide)) (by decide)) (by decide)) (by decide)) (by decide)) (by decide)) (by decide)) (by decide)) (by decide)) (by decide)) (by decide)) (by decide)) (by decide)) (by decide)) (by decide)) (by decide)) (by decide)) (by decide)) (by decide)) (by decide)) (by decide)) (List.mem_of_getElem? (i := 4) rfl) (by decide) rfl rfl (by decide) (by decide) (by decide) rfl ⟨by decide, by decide⟩ dX12_init_119 (rfl : 119 + 2 = 121) ?_
  refine y_putR (ci := 11) (C := RX12) (T := TX12) (N := 46) h 20 tyX12 tyX12_ok nmX12 rfl rfl (fun _ hq => List.mem_cons_of_mem _ (List.mem_append_right _ hq)) (by decide) (List.mem_of_getElem? (i := 21) rfl) rfl rfl hr.2.2.2 rfl (Or.inr ⟨_, rfl⟩) dX12_init_121 (rfl : 121 + 3 = 124) ?_
  refine y_aload_n h 0 dX12_init_124 rfl (rfl : 124 + 1 = 125) ?_
  refine y_bipush h 8 dX12_init_125 (by decide) (rfl : 125 + 2 = 127) ?_
  refine y_newa (atype := .int) (t := 0) (m := 8) h hBs (zZ_zuJ (zZ_up (m := 161) (zZ_zuJ (zZ_up (m := 160) (zZ_zuJ (zZ_up (m := 159) (zZ_zuJ (zZ_up (m := 158) (zZ_zuJ (zZ_up (m := 157) (zZ_zuJ (zZ_up (m := 156) (zZ_zuJ (zZ_up (m := 155) (zZ_zu (zZ_zu (zZ_zu (zZ_zuJ (zZ_up (m := 154) (zZ_zuJ (zZ_up (m := 153) (zZ_zuJ (zZ_up (m := 152) (zZ_zuJ (zZ_up (m := 151) (zZ_zuJ (zZ_up (m := 150) (zZ_zuJ (zZ_up (m := 149) hZ (by decide)) (by decide)) (by decide)) (by decide)) (by decide)) (by decide)) (by decide)) (by decide)) (by decide)) (by decide)) (by decide)) (by decide)) (by decide)) (by decide)) (by decide)) (by decide)) (by decide)) (by decide)) (by decide)) (by decide)) (by decide)) (by decide)) (by decide)) (by decide)) (by decide)) (by decide)) (by decide)) (by decide)) (by decide)) (List.mem_of_getElem? (i := 4) rfl) (by decide) rfl rfl (by decide) (by decide) (by decide) rfl ⟨by decide, by decide⟩ dX12_init_127 (rfl : 127 + 2 = 129) ?_
  refine y_putR (ci := 11) (C := RX12) (T := TX12) (N := 46) h 21 tyX12 tyX12_ok nmX12 rfl rfl (fun _ hq => List.mem_cons_of_mem _ (List.mem_append_right _ hq)) (by decide) (List.mem_of_getElem? (i := 22) rfl) rfl rfl hr.2.2.2 rfl (Or.inr ⟨_, rfl⟩) dX12_init_129 (rfl : 129 + 3 = 132) ?_
  refine y_aload_n h 0 dX12_init_132 rfl (rfl : 132 + 1 = 133) ?_
  refine y_bipush h 48 dX12_init_133 (by decide) (rfl : 133 + 2 = 135) ?_
  refine y_newa (atype := .int) (t := 0) (m := 48) h hBs (zZ_zuJ (zZ_up (m := 162) (zZ_zuJ (zZ_up (m := 161) (zZ_zuJ (zZ_up (m := 160) (zZ_zuJ (zZ_up (m := 159) (zZ_zuJ (zZ_up (m := 158) (zZ_zuJ (zZ_up (m := 157) (zZ_zuJ (zZ_up (m := 156) (zZ_zuJ (zZ_up (m := 155) (zZ_zu (zZ_zu (zZ_zu (zZ_zuJ (zZ_up (m := 154) (zZ_zuJ (zZ_up (m := 153) (zZ_zuJ (zZ_up (m := 152) (zZ_zuJ (zZ_up (m := 151) (zZ_zuJ (zZ_up (m := 150) (zZ_zuJ (zZ_up (m := 149) hZ (by decide)) (by decide)) (by decide)) (by decide)) (by decide)) (by decide)) (by decide)) (by decide)) (by decide)) (by decide)) (by decide)) (by decide)) (by decide)) (by decide)) (by decide)) (by decide)) (by decide)) (by decide)) (by decide)) (by decide)) (by decide)) (by decide)) (by decide)) (by decide)) (by decide)) (by decide)) (by decide)) (by decide)) (by decide)) (by decide)) (by decide)) (List.mem_of_getElem? (i := 4) rfl) (by decide) rfl rfl (by decide) (by decide) (by decide) rfl ⟨by decide, by decide⟩ dX12_init_135 (rfl : 135 + 2 = 137) ?_
  refine y_putR (ci := 11) (C := RX12) (T := TX12) (N := 46) h 22 tyX12 tyX12_ok nmX12 rfl rfl (fun _ hq => List.mem_cons_of_mem _ (List.mem_append_right _ hq)) (by decide) (List.mem_of_getElem? (i := 23) rfl) rfl rfl hr.2.2.2 rfl (Or.inr ⟨_, rfl⟩) dX12_init_137 (rfl : 137 + 3 = 140) ?_
  refine y_aload_n h 0 dX12_init_140 rfl (rfl : 140 + 1 = 141) ?_
  refine y_bipush h 8 dX12_init_141 (by decide) (rfl : 141 + 2 = 143) ?_
  refine y_newa (atype := .int) (t := 0) (m := 8) h hBs (zZ_zuJ (zZ_up (m := 163) (zZ_zuJ (zZ_up (m := 162) (zZ_zuJ (zZ_up (m := 161) (zZ_zuJ (zZ_up (m := 160) (zZ_zuJ (zZ_up (m := 159) (zZ_zuJ (zZ_up (m := 158) (zZ_zuJ (zZ_up (m := 157) (zZ_zuJ (zZ_up (m := 156) (zZ_zuJ (zZ_up (m := 155) (zZ_zu (zZ_zu (zZ_zu (zZ_zuJ (zZ_up (m := 154) (zZ_zuJ (zZ_up (m := 153) (zZ_zuJ (zZ_up (m := 152) (zZ_zuJ (zZ_up (m := 151) (zZ_zuJ (zZ_up (m := 150) (zZ_zuJ (zZ_up (m := 149) hZ (by decide)) (by decide)) (by decide)) (by decide)) (by decide)) (by decide)) (by decide)) (by decide)) (by decide)) (by decide)) (by decide)) (by decide)) (by decide)) (by decide)) (by decide)) (by decide)) (by decide)) (by decide)) (by decide)) (by decide)) (by decide)) (by decide)) (by decide)) (by decide)) (by decide)) (by decide)) (by decide)) (by decide)) (by decide)) (by decide)) (by decide)) (by decide)) (by decide)) (List.mem_of_getElem? (i := 4) rfl) (by decide) rfl rfl (by decide) (by decide) (by decide) rfl ⟨by decide, by decide⟩ dX12_init_143 (rfl : 143 + 2 = 145) ?_
  refine y_putR (ci := 11) (C := RX12) (T := TX12) (N := 46) h 23 tyX12 tyX12_ok nmX12 rfl rfl (fun _ hq => List.mem_cons_of_mem _ (List.mem_append_right _ hq)) (by decide) (List.mem_of_getElem? (i := 24) rfl) rfl rfl hr.2.2.2 rfl (Or.inr ⟨_, rfl⟩) dX12_init_145 (rfl : 145 + 3 = 148) ?_
  refine y_aload_n h 0 dX12_init_148 rfl (rfl : 148 + 1 = 149) ?_
  refine y_bipush h 96 dX12_init_149 (by decide) (rfl : 149 + 2 = 151) ?_
  refine y_newa (atype := .int) (t := 0) (m := 96) h hBs (zZ_zuJ (zZ_up (m := 164) (zZ_zuJ (zZ_up (m := 163) (zZ_zuJ (zZ_up (m := 162) (zZ_zuJ (zZ_up (m := 161) (zZ_zuJ (zZ_up (m := 160) (zZ_zuJ (zZ_up (m := 159) (zZ_zuJ (zZ_up (m := 158) (zZ_zuJ (zZ_up (m := 157) (zZ_zuJ (zZ_up (m := 156) (zZ_zuJ (zZ_up (m := 155) (zZ_zu (zZ_zu (zZ_zu (zZ_zuJ (zZ_up (m := 154) (zZ_zuJ (zZ_up (m := 153) (zZ_zuJ (zZ_up (m := 152) (zZ_zuJ (zZ_up (m := 151) (zZ_zuJ (zZ_up (m := 150) (zZ_zuJ (zZ_up (m := 149) hZ (by decide)) (by decide)) (by decide)) (by decide)) (by decide)) (by decide)) (by decide)) (by decide)) (by decide)) (by decide)) (by decide)) (by decide)) (by decide)) (by decide)) (by decide)) (by decide)) (by decide)) (by decide)) (by decide)) (by decide)) (by decide)) (by decide)) (by decide)) (by decide)) (by decide)) (by decide)) (by decide)) (by decide)) (by decide)) (by decide)) (by decide)) (by decide)) (by decide)) (by decide)) (by decide)) (List.mem_of_getElem? (i := 4) rfl) (by decide) rfl rfl (by decide) (by decide) (by decide) rfl ⟨by decide, by decide⟩ dX12_init_151 (rfl : 151 + 2 = 153) ?_
  refine y_putR (ci := 11) (C := RX12) (T := TX12) (N := 46) h 24 tyX12 tyX12_ok nmX12 rfl rfl (fun _ hq => List.mem_cons_of_mem _ (List.mem_append_right _ hq)) (by decide) (List.mem_of_getElem? (i := 25) rfl) rfl rfl hr.2.2.2 rfl (Or.inr ⟨_, rfl⟩) dX12_init_153 (rfl : 153 + 3 = 156) ?_
  refine y_aload_n h 0 dX12_init_156 rfl (rfl : 156 + 1 = 157) ?_
  refine y_bipush h 6 dX12_init_157 (by decide) (rfl : 157 + 2 = 159) ?_
  refine y_newa (atype := .int) (t := 0) (m := 6) h hBs (zZ_zuJ (zZ_up (m := 165) (zZ_zuJ (zZ_up (m := 164) (zZ_zuJ (zZ_up (m := 163) (zZ_zuJ (zZ_up (m := 162) (zZ_zuJ (zZ_up (m := 161) (zZ_zuJ (zZ_up (m := 160) (zZ_zuJ (zZ_up (m := 159) (zZ_zuJ (zZ_up (m := 158) (zZ_zuJ (zZ_up (m := 157) (zZ_zuJ (zZ_up (m := 156) (zZ_zuJ (zZ_up (m := 155) (zZ_zu (zZ_zu (zZ_zu (zZ_zuJ (zZ_up (m := 154) (zZ_zuJ (zZ_up (m := 153) (zZ_zuJ (zZ_up (m := 152) (zZ_zuJ (zZ_up (m := 151) (zZ_zuJ (zZ_up (m := 150) (zZ_zuJ (zZ_up (m := 149) hZ (by decide)) (by decide)) (by decide)) (by decide)) (by decide)) (by decide)) (by decide)) (by decide)) (by decide)) (by decide)) (by decide)) (by decide)) (by decide)) (by decide)) (by decide)) (by decide)) (by decide)) (by decide)) (by decide)) (by decide)) (by decide)) (by decide)) (by decide)) (by decide)) (by decide)) (by decide)) (by decide)) (by decide)) (by decide)) (by decide)) (by decide)) (by decide)) (by decide)) (by decide)) (by decide)) (by decide)) (by decide)) (List.mem_of_getElem? (i := 4) rfl) (by decide) rfl rfl (by decide) (by decide) (by decide) rfl ⟨by decide, by decide⟩ dX12_init_159 (rfl : 159 + 2 = 161) ?_
  refine y_putR (ci := 11) (C := RX12) (T := TX12) (N := 46) h 26 tyX12 tyX12_ok nmX12 rfl rfl (fun _ hq => List.mem_cons_of_mem _ (List.mem_append_right _ hq)) (by decide) (List.mem_of_getElem? (i := 26) rfl) rfl rfl hr.2.2.2 rfl (Or.inr ⟨_, rfl⟩) dX12_init_161 (rfl : 161 + 3 = 164) ?_
  refine y_aload_n h 0 dX12_init_164 rfl (rfl : 164 + 1 = 165) ?_
  refine y_sipush h 432 dX12_init_165 (by decide) (rfl : 165 + 3 = 168) ?_
  refine y_newa (atype := .int) (t := 0) (m := 432) h hBs (zZ_zuJ (zZ_up (m := 166) (zZ_zuJ (zZ_up (m := 165) (zZ_zuJ (zZ_up (m := 164) (zZ_zuJ (zZ_up (m := 163) (zZ_zuJ (zZ_up (m := 162) (zZ_zuJ (zZ_up (m := 161) (zZ_zuJ (zZ_up (m := 160) (zZ_zuJ (zZ_up (m := 159) (zZ_zuJ (zZ_up (m := 158) (zZ_zuJ (zZ_up (m := 157) (zZ_zuJ (zZ_up (m := 156) (zZ_zuJ (zZ_up (m := 155) (zZ_zu (zZ_zu (zZ_zu (zZ_zuJ (zZ_up (m := 154) (zZ_zuJ (zZ_up (m := 153) (zZ_zuJ (zZ_up (m := 152) (zZ_zuJ (zZ_up (m := 151) (zZ_zuJ (zZ_up (m := 150) (zZ_zuJ (zZ_up (m := 149) hZ (by decide)) (by decide)) (by decide)) (by decide)) (by decide)) (by decide)) (by decide)) (by decide)) (by decide)) (by decide)) (by decide)) (by decide)) (by decide)) (by decide)) (by decide)) (by decide)) (by decide)) (by decide)) (by decide)) (by decide)) (by decide)) (by decide)) (by decide)) (by decide)) (by decide)) (by decide)) (by decide)) (by decide)) (by decide)) (by decide)) (by decide)) (by decide)) (by decide)) (by decide)) (by decide)) (by decide)) (by decide)) (by decide)) (by decide)) (List.mem_of_getElem? (i := 4) rfl) (by decide) rfl rfl (by decide) (by decide) (by decide) rfl ⟨by decide, by decide⟩ dX12_init_168 (rfl : 168 + 2 = 170) ?_
  refine y_putR (ci := 11) (C := RX12) (T := TX12) (N := 46) h 28 tyX12 tyX12_ok nmX12 rfl rfl (fun _ hq => List.mem_cons_of_mem _ (List.mem_append_right _ hq)) (by decide) (List.mem_of_getElem? (i := 27) rfl) rfl rfl hr.2.2.2 rfl (Or.inr ⟨_, rfl⟩) dX12_init_170 (rfl : 170 + 3 = 173) ?_
  refine y_aload_n h 0 dX12_init_173 rfl (rfl : 173 + 1 = 174) ?_
  refine y_iconst h 3 dX12_init_174 (by decide) (rfl : 174 + 1 = 175) ?_
  refine y_newa (atype := .int) (t := 0) (m := 3) h hBs (zZ_zuJ (zZ_up (m := 167) (zZ_zuJ (zZ_up (m := 166) (zZ_zuJ (zZ_up (m := 165) (zZ_zuJ (zZ_up (m := 164) (zZ_zuJ (zZ_up (m := 163) (zZ_zuJ (zZ_up (m := 162) (zZ_zuJ (zZ_up (m := 161) (zZ_zuJ (zZ_up (m := 160) (zZ_zuJ (zZ_up (m := 159) (zZ_zuJ (zZ_up (m := 158) (zZ_zuJ (zZ_up (m := 157) (zZ_zuJ (zZ_up (m := 156) (zZ_zuJ (zZ_up (m := 155) (zZ_zu (zZ_zu (zZ_zu (zZ_zuJ (zZ_up (m := 154) (zZ_zuJ (zZ_up (m := 153) (zZ_zuJ (zZ_up (m := 152) (zZ_zuJ (zZ_up (m := 151) (zZ_zuJ (zZ_up (m := 150) (zZ_zuJ (zZ_up (m := 149) hZ (by decide)) (by decide)) (by decide)) (by decide)) (by decide)) (by decide)) (by decide)) (by decide)) (by decide)) (by decide)) (by decide)) (by decide)) (by decide)) (by decide)) (by decide)) (by decide)) (by decide)) (by decide)) (by decide)) (by decide)) (by decide)) (by decide)) (by decide)) (by decide)) (by decide)) (by decide)) (by decide)) (by decide)) (by decide)) (by decide)) (by decide)) (by decide)) (by decide)) (by decide)) (by decide)) (by decide)) (by decide)) (by decide)) (by decide)) (by decide)) (by decide)) (List.mem_of_getElem? (i := 4) rfl) (by decide) rfl rfl (by decide) (by decide) (by decide) rfl ⟨by decide, by decide⟩ dX12_init_175 (rfl : 175 + 2 = 177) ?_
  refine y_putR (ci := 11) (C := RX12) (T := TX12) (N := 46) h 29 tyX12 tyX12_ok nmX12 rfl rfl (fun _ hq => List.mem_cons_of_mem _ (List.mem_append_right _ hq)) (by decide) (List.mem_of_getElem? (i := 28) rfl) rfl rfl hr.2.2.2 rfl (Or.inr ⟨_, rfl⟩) dX12_init_177 (rfl : 177 + 3 = 180) ?_
  refine y_aload_n h 0 dX12_init_180 rfl (rfl : 180 + 1 = 181) ?_
  refine y_bipush h 45 dX12_init_181 (by decide) (rfl : 181 + 2 = 183) ?_
  refine y_newa (atype := .boolean) (t := 1) (m := 45) h hBs (zZ_zuJ (zZ_up (m := 168) (zZ_zuJ (zZ_up (m := 167) (zZ_zuJ (zZ_up (m := 166) (zZ_zuJ (zZ_up (m := 165) (zZ_zuJ (zZ_up (m := 164) (zZ_zuJ (zZ_up (m := 163) (zZ_zuJ (zZ_up (m := 162) (zZ_zuJ (zZ_up (m := 161) (zZ_zuJ (zZ_up (m := 160) (zZ_zuJ (zZ_up (m := 159) (zZ_zuJ (zZ_up (m := 158) (zZ_zuJ (zZ_up (m := 157) (zZ_zuJ (zZ_up (m := 156) (zZ_zuJ (zZ_up (m := 155) (zZ_zu (zZ_zu (zZ_zu (zZ_zuJ (zZ_up (m := 154) (zZ_zuJ (zZ_up (m := 153) (zZ_zuJ (zZ_up (m := 152) (zZ_zuJ (zZ_up (m := 151) (zZ_zuJ (zZ_up (m := 150) (zZ_zuJ (zZ_up (m := 149) hZ (by decide)) (by decide)) (by decide)) (by decide)) (by decide)) (by decide)) (by decide)) (by decide)) (by decide)) (by decide)) (by decide)) (by decide)) (by decide)) (by decide)) (by decide)) (by decide)) (by decide)) (by decide)) (by decide)) (by decide)) (by decide)) (by decide)) (by decide)) (by decide)) (by decide)) (by decide)) (by decide)) (by decide)) (by decide)) (by decide)) (by decide)) (by decide)) (by decide)) (by decide)) (by decide)) (by decide)) (by decide)) (by decide)) (by decide)) (by decide)) (by decide)) (by decide)) (by decide)) (List.mem_of_getElem? (i := 6) rfl) (by decide) rfl rfl (by decide) (by decide) (by decide) rfl ⟨by decide, by decide⟩ dX12_init_183 (rfl : 183 + 2 = 185) ?_
  refine y_putR (ci := 11) (C := RX12) (T := TX12) (N := 46) h 30 tyX12 tyX12_ok nmX12 rfl rfl (fun _ hq => List.mem_cons_of_mem _ (List.mem_append_right _ hq)) (by decide) (List.mem_of_getElem? (i := 29) rfl) rfl rfl hr.2.2.2 rfl (Or.inr ⟨_, rfl⟩) dX12_init_185 (rfl : 185 + 3 = 188) ?_
  refine y_aload_n h 0 dX12_init_188 rfl (rfl : 188 + 1 = 189) ?_
  refine y_iconst h 3 dX12_init_189 (by decide) (rfl : 189 + 1 = 190) ?_
  refine y_newa (atype := .boolean) (t := 1) (m := 3) h hBs (zZ_zuJ (zZ_up (m := 169) (zZ_zuJ (zZ_up (m := 168) (zZ_zuJ (zZ_up (m := 167) (zZ_zuJ (zZ_up (m := 166) (zZ_zuJ (zZ_up (m := 165) (zZ_zuJ (zZ_up (m := 164) (zZ_zuJ (zZ_up (m := 163) (zZ_zuJ (zZ_up (m := 162) (zZ_zuJ (zZ_up (m := 161) (zZ_zuJ (zZ_up (m := 160) (zZ_zuJ (zZ_up (m := 159) (zZ_zuJ (zZ_up (m := 158) (zZ_zuJ (zZ_up (m := 157) (zZ_zuJ (zZ_up (m := 156) (zZ_zuJ (zZ_up (m := 155) (zZ_zu (zZ_zu (zZ_zu (zZ_zuJ (zZ_up (m := 154) (zZ_zuJ (zZ_up (m := 153) (zZ_zuJ (zZ_up (m := 152) (zZ_zuJ (zZ_up (m := 151) (zZ_zuJ (zZ_up (m := 150) (zZ_zuJ (zZ_up (m := 149) hZ (by decide)) (by decide)) (by decide)) (by decide)) (by decide)) (by decide)) (by decide)) (by decide)) (by decide)) (by decide)) (by decide)) (by decide)) (by decide)) (by decide)) (by decide)) (by decide)) (by decide)) (by decide)) (by decide)) (by decide)) (by decide)) (by decide)) (by decide)) (by decide)) (by decide)) (by decide)) (by decide)) (by decide)) (by decide)) (by decide)) (by decide)) (by decide)) (by decide)) (by decide)) (by decide)) (by decide)) (by decide)) (by decide)) (by decide)) (by decide)) (by decide)) (by decide)) (by decide)) (by decide)) (by decide)) (List.mem_of_getElem? (i := 6) rfl) (by decide) rfl rfl (by decide) (by decide) (by decide) rfl ⟨by decide, by decide⟩ dX12_init_190 (rfl : 190 + 2 = 192) ?_
  refine y_putR (ci := 11) (C := RX12) (T := TX12) (N := 46) h 31 tyX12 tyX12_ok nmX12 rfl rfl (fun _ hq => List.mem_cons_of_mem _ (List.mem_append_right _ hq)) (by decide) (List.mem_of_getElem? (i := 30) rfl) rfl rfl hr.2.2.2 rfl (Or.inr ⟨_, rfl⟩) dX12_init_192 (rfl : 192 + 3 = 195) ?_
  refine y_aload_n h 0 dX12_init_195 rfl (rfl : 195 + 1 = 196) ?_
  refine y_bipush h (-9) dX12_init_196 (by decide) (rfl : 196 + 2 = 198) ?_
  refine y_putI (ci := 11) (C := RX12) (T := TX12) (N := 46) h 32 tyX12 tyX12_ok nmX12 rfl rfl (fun _ hq => List.mem_cons_of_mem _ (List.mem_append_right _ hq)) (by decide) (List.mem_of_getElem? (i := 31) rfl) rfl rfl rfl dX12_init_198 (rfl : 198 + 3 = 201) ?_
  refine y_aload_n h 0 dX12_init_201 rfl (rfl : 201 + 1 = 202) ?_
  refine y_bipush h 6 dX12_init_202 (by decide) (rfl : 202 + 2 = 204) ?_
  refine y_newa (atype := .int) (t := 0) (m := 6) h hBs (zZ_zu (zZ_zuJ (zZ_up (m := 170) (zZ_zuJ (zZ_up (m := 169) (zZ_zuJ (zZ_up (m := 168) (zZ_zuJ (zZ_up (m := 167) (zZ_zuJ (zZ_up (m := 166) (zZ_zuJ (zZ_up (m := 165) (zZ_zuJ (zZ_up (m := 164) (zZ_zuJ (zZ_up (m := 163) (zZ_zuJ (zZ_up (m := 162) (zZ_zuJ (zZ_up (m := 161) (zZ_zuJ (zZ_up (m := 160) (zZ_zuJ (zZ_up (m := 159) (zZ_zuJ (zZ_up (m := 158) (zZ_zuJ (zZ_up (m := 157) (zZ_zuJ (zZ_up (m := 156) (zZ_zuJ (zZ_up (m := 155) (zZ_zu (zZ_zu (zZ_zu (zZ_zuJ (zZ_up (m := 154) (zZ_zuJ (zZ_up (m := 153) (zZ_zuJ (zZ_up (m := 152) (zZ_zuJ (zZ_up (m := 151) (zZ_zuJ (zZ_up (m := 150) (zZ_zuJ (zZ_up (m := 149) hZ (by decide)) (by decide)) (by decide)) (by decide)) (by decide)) (by decide)) (by decide)) (by decide)) (by decide)) (by decide)) (by decide)) (by decide)) (by decide)) (by decide)) (by decide)) (by decide)) (by decide)) (by decide)) (by decide)) (by decide)) (by decide)) (by decide)) (by decide)) (by decide)) (by decide)) (by decide)) (by decide)) (by decide)) (by decide)) (by decide)) (by decide)) (by decide)) (by decide)) (by decide)) (by decide)) (by decide)) (by decide)) (by decide)) (by decide)) (by decide)) (by decide)) (by decide)) (by decide)) (by decide)) (by decide)) (by decide)) (by decide)) (by decide)) (List.mem_of_getElem? (i := 4) rfl) (by decide) rfl rfl (by decide) (by decide) (by decide) rfl ⟨by decide, by decide⟩ dX12_init_204 (rfl : 204 + 2 = 206) ?_
  refine y_putR (ci := 11) (C := RX12) (T := TX12) (N := 46) h 34 tyX12 tyX12_ok nmX12 rfl rfl (fun _ hq => List.mem_cons_of_mem _ (List.mem_append_right _ hq)) (by decide) (List.mem_of_getElem? (i := 32) rfl) rfl rfl hr.2.2.2 rfl (Or.inr ⟨_, rfl⟩) dX12_init_206 (rfl : 206 + 3 = 209) ?_
  refine y_aload_n h 0 dX12_init_209 rfl (rfl : 209 + 1 = 210) ?_
  refine y_bipush h 6 dX12_init_210 (by decide) (rfl : 210 + 2 = 212) ?_
  refine y_newa (atype := .int) (t := 0) (m := 6) h hBs (zZ_zuJ (zZ_up (m := 171) (zZ_zu (zZ_zuJ (zZ_up (m := 170) (zZ_zuJ (zZ_up (m := 169) (zZ_zuJ (zZ_up (m := 168) (zZ_zuJ (zZ_up (m := 167) (zZ_zuJ (zZ_up (m := 166) (zZ_zuJ (zZ_up (m := 165) (zZ_zuJ (zZ_up (m := 164) (zZ_zuJ (zZ_up (m := 163) (zZ_zuJ (zZ_up (m := 162) (zZ_zuJ (zZ_up (m := 161) (zZ_zuJ (zZ_up (m := 160) (zZ_zuJ (zZ_up (m := 159) (zZ_zuJ (zZ_up (m := 158) (zZ_zuJ (zZ_up (m := 157) (zZ_zuJ (zZ_up (m := 156) (zZ_zuJ (zZ_up (m := 155) (zZ_zu (zZ_zu (zZ_zu (zZ_zuJ (zZ_up (m := 154) (zZ_zuJ (zZ_up (m := 153) (zZ_zuJ (zZ_up (m := 152) (zZ_zuJ (zZ_up (m := 151) (zZ_zuJ (zZ_up (m := 150) (zZ_zuJ (zZ_up (m := 149) hZ (by decide)) (by decide)) (by decide)) (by decide)) (by decide)) (by decide)) (by decide)) (by decide)) (by decide)) (by decide)) (by decide)) (by decide)) (by decide)) (by decide)) (by decide)) (by decide)) (by decide)) (by decide)) (by decide)) (by decide)) (by decide)) (by decide)) (by decide)) (by decide)) (by decide)) (by decide)) (by decide)) (by decide)) (by decide)) (by decide)) (by decide)) (by decide)) (by decide)) (by decide)) (by decide)) (by decide)) (by decide)) (by decide)) (by decide)) (by decide)) (by decide)) (by decide)) (by decide)) (by decide)) (by decide)) (by decide)) (by decide)) (by decide)) (by decide)) (by decide)) (List.mem_of_getElem? (i := 4) rfl) (by decide) rfl rfl (by decide) (by decide) (by decide) rfl ⟨by decide, by decide⟩ dX12_init_212 (rfl : 212 + 2 = 214) ?_
  refine y_putR (ci := 11) (C := RX12) (T := TX12) (N := 46) h 35 tyX12 tyX12_ok nmX12 rfl rfl (fun _ hq => List.mem_cons_of_mem _ (List.mem_append_right _ hq)) (by decide) (List.mem_of_getElem? (i := 33) rfl) rfl rfl hr.2.2.2 rfl (Or.inr ⟨_, rfl⟩) dX12_init_214 (rfl : 214 + 3 = 217) ?_
  refine y_aload_n h 0 dX12_init_217 rfl (rfl : 217 + 1 = 218) ?_
  refine y_bipush h 6 dX12_init_218 (by decide) (rfl : 218 + 2 = 220) ?_
  refine y_newa (atype := .int) (t := 0) (m := 6) h hBs (zZ_zuJ (zZ_up (m := 172) (zZ_zuJ (zZ_up (m := 171) (zZ_zu (zZ_zuJ (zZ_up (m := 170) (zZ_zuJ (zZ_up (m := 169) (zZ_zuJ (zZ_up (m := 168) (zZ_zuJ (zZ_up (m := 167) (zZ_zuJ (zZ_up (m := 166) (zZ_zuJ (zZ_up (m := 165) (zZ_zuJ (zZ_up (m := 164) (zZ_zuJ (zZ_up (m := 163) (zZ_zuJ (zZ_up (m := 162) (zZ_zuJ (zZ_up (m := 161) (zZ_zuJ (zZ_up (m := 160) (zZ_zuJ (zZ_up (m := 159) (zZ_zuJ (zZ_up (m := 158) (zZ_zuJ (zZ_up (m := 157) (zZ_zuJ (zZ_up (m := 156) (zZ_zuJ (zZ_up (m := 155) (zZ_zu (zZ_zu (zZ_zu (zZ_zuJ (zZ_up (m := 154) (zZ_zuJ (zZ_up (m := 153) (zZ_zuJ (zZ_up (m := 152) (zZ_zuJ (zZ_up (m := 151) (zZ_zuJ (zZ_up (m := 150) (zZ_zuJ (zZ_up (m := 149) hZ (by decide)) (by decide)) (by decide)) (by decide)) (by decide)) (by decide)) (by decide)) (by decide)) (by decide)) (by decide)) (by decide)) (by decide)) (by decide)) (by decide)) (by decide)) (by decide)) (by decide)) (by decide)) (by decide)) (by decide)) (by decide)) (by decide)) (by decide)) (by decide)) (by decide)) (by decide)) (by decide)) (by decide)) (by decide)) (by decide)) (by decide)) (by decide)) (by decide)) (by decide)) (by decide)) (by decide)) (by decide)) (by decide)) (by decide)) (by decide)) (by decide)) (by decide)) (by decide)) (by decide)) (by decide)) (by decide)) (by decide)) (by decide)) (by decide)) (by decide)) (by decide)) (by decide)) (List.mem_of_getElem? (i := 4) rfl) (by decide) rfl rfl (by decide) (by decide) (by decide) rfl ⟨by decide, by decide⟩ dX12_init_220 (rfl : 220 + 2 = 222) ?_
  refine y_putR (ci := 11) (C := RX12) (T := TX12) (N := 46) h 36 tyX12 tyX12_ok nmX12 rfl rfl (fun _ hq => List.mem_cons_of_mem _ (List.mem_append_right _ hq)) (by decide) (List.mem_of_getElem? (i := 34) rfl) rfl rfl hr.2.2.2 rfl (Or.inr ⟨_, rfl⟩) dX12_init_222 (rfl : 222 + 3 = 225) ?_
  refine y_aload_n h 0 dX12_init_225 rfl (rfl : 225 + 1 = 226) ?_
  refine y_ldc h 46656 (List.mem_of_getElem? (i := 35) rfl) dX12_init_226 (rfl : 226 + 2 = 228) ?_
  refine y_newa (atype := .int) (t := 0) (m := 46656) h hBs (zZ_zuJ (zZ_up (m := 173) (zZ_zuJ (zZ_up (m := 172) (zZ_zuJ (zZ_up (m := 171) (zZ_zu (zZ_zuJ (zZ_up (m := 170) (zZ_zuJ (zZ_up (m := 169) (zZ_zuJ (zZ_up (m := 168) (zZ_zuJ (zZ_up (m := 167) (zZ_zuJ (zZ_up (m := 166) (zZ_zuJ (zZ_up (m := 165) (zZ_zuJ (zZ_up (m := 164) (zZ_zuJ (zZ_up (m := 163) (zZ_zuJ (zZ_up (m := 162) (zZ_zuJ (zZ_up (m := 161) (zZ_zuJ (zZ_up (m := 160) (zZ_zuJ (zZ_up (m := 159) (zZ_zuJ (zZ_up (m := 158) (zZ_zuJ (zZ_up (m := 157) (zZ_zuJ (zZ_up (m := 156) (zZ_zuJ (zZ_up (m := 155) (zZ_zu (zZ_zu (zZ_zu (zZ_zuJ (zZ_up (m := 154) (zZ_zuJ (zZ_up (m := 153) (zZ_zuJ (zZ_up (m := 152) (zZ_zuJ (zZ_up (m := 151) (zZ_zuJ (zZ_up (m := 150) (zZ_zuJ (zZ_up (m := 149) hZ (by decide)) (by decide)) (by decide)) (by decide)) (by decide)) (by decide)) (by decide)) (by decide)) (by decide)) (by decide)) (by decide)) (by decide)) (by decide)) (by decide)) (by decide)) (by decide)) (by decide)) (by decide)) (by decide)) (by decide)) (by decide)) (by decide)) (by decide)) (by decide)) (by decide)) (by decide)) (by decide)) (by decide)) (by decide)) (by decide)) (by decide)) (by decide)) (by decide)) (by decide)) (by decide)) (by decide)) (by decide)) (by decide)) (by decide)) (by decide)) (by decide)) (by decide)) (by decide)) (by decide)) (by decide)) (by decide)) (by decide)) (by decide)) (by decide)) (by decide)) (by decide)) (by decide)) (by decide)) (by decide)) (List.mem_of_getElem? (i := 4) rfl) (by decide) rfl rfl (by decide) (by decide) (by decide) rfl ⟨by decide, by decide⟩ dX12_init_228 (rfl : 228 + 2 = 230) ?_
  refine y_putR (ci := 11) (C := RX12) (T := TX12) (N := 46) h 37 tyX12 tyX12_ok nmX12 rfl rfl (fun _ hq => List.mem_cons_of_mem _ (List.mem_append_right _ hq)) (by decide) (List.mem_of_getElem? (i := 36) rfl) rfl rfl hr.2.2.2 rfl (Or.inr ⟨_, rfl⟩) dX12_init_230 (rfl : 230 + 3 = 233) ?_
  refine y_aload_n h 0 dX12_init_233 rfl (rfl : 233 + 1 = 234) ?_
  refine y_ldc h 46656 (List.mem_of_getElem? (i := 35) rfl) dX12_init_234 (rfl : 234 + 2 = 236) ?_
  refine y_newa (atype := .int) (t := 0) (m := 46656) h hBs (zZ_zuJ (zZ_up (m := 174) (zZ_zuJ (zZ_up (m := 173) (zZ_zuJ (zZ_up (m := 172) (zZ_zuJ (zZ_up (m := 171) (zZ_zu (zZ_zuJ (zZ_up (m := 170) (zZ_zuJ (zZ_up (m := 169) (zZ_zuJ (zZ_up (m := 168) (zZ_zuJ (zZ_up (m := 167) (zZ_zuJ (zZ_up (m := 166) (zZ_zuJ (zZ_up (m := 165) (zZ_zuJ (zZ_up (m := 164) (zZ_zuJ (zZ_up (m := 163) (zZ_zuJ (zZ_up (m := 162) (zZ_zuJ (zZ_up (m := 161) (zZ_zuJ (zZ_up (m := 160) (zZ_zuJ (zZ_up (m := 159) (zZ_zuJ (zZ_up (m := 158) (zZ_zuJ (zZ_up (m := 157) (zZ_zuJ (zZ_up (m := 156) (zZ_zuJ (zZ_up (m := 155) (zZ_zu (zZ_zu (zZ_zu (zZ_zuJ (zZ_up (m := 154) (zZ_zuJ (zZ_up (m := 153) (zZ_zuJ (zZ_up (m := 152) (zZ_zuJ (zZ_up (m := 151) (zZ_zuJ (zZ_up (m := 150) (zZ_zuJ (zZ_up (m := 149) hZ (by decide)) (by decide)) (by decide)) (by decide)) (by decide)) (by decide)) (by decide)) (by decide)) (by decide)) (by decide)) (by decide)) (by decide)) (by decide)) (by decide)) (by decide)) (by decide)) (by decide)) (by decide)) (by decide)) (by decide)) (by decide)) (by decide)) (by decide)) (by decide)) (by decide)) (by decide)) (by decide)) (by decide)) (by decide)) (by decide)) (by decide)) (by decide)) (by decide)) (by decide)) (by decide)) (by decide)) (by decide)) (by decide)) (by decide)) (by decide)) (by decide)) (by decide)) (by decide)) (by decide)) (by decide)) (by decide)) (by decide)) (by decide)) (by decide)) (by decide)) (by decide)) (by decide)) (by decide)) (by decide)) (by decide)) (by decide)) (List.mem_of_getElem? (i := 4) rfl) (by decide) rfl rfl (by decide) (by decide) (by decide) rfl ⟨by decide, by decide⟩ dX12_init_236 (rfl : 236 + 2 = 238) ?_
  refine y_putR (ci := 11) (C := RX12) (T := TX12) (N := 46) h 38 tyX12 tyX12_ok nmX12 rfl rfl (fun _ hq => List.mem_cons_of_mem _ (List.mem_append_right _ hq)) (by decide) (List.mem_of_getElem? (i := 37) rfl) rfl rfl hr.2.2.2 rfl (Or.inr ⟨_, rfl⟩) dX12_init_238 (rfl : 238 + 3 = 241) ?_
  refine y_aload_n h 0 dX12_init_241 rfl (rfl : 241 + 1 = 242) ?_
  refine y_bipush h 6 dX12_init_242 (by decide) (rfl : 242 + 2 = 244) ?_
  refine y_newa (atype := .int) (t := 0) (m := 6) h hBs (zZ_zuJ (zZ_up (m := 175) (zZ_zuJ (zZ_up (m := 174) (zZ_zuJ (zZ_up (m := 173) (zZ_zuJ (zZ_up (m := 172) (zZ_zuJ (zZ_up (m := 171) (zZ_zu (zZ_zuJ (zZ_up (m := 170) (zZ_zuJ (zZ_up (m := 169) (zZ_zuJ (zZ_up (m := 168) (zZ_zuJ (zZ_up (m := 167) (zZ_zuJ (zZ_up (m := 166) (zZ_zuJ (zZ_up (m := 165) (zZ_zuJ (zZ_up (m := 164) (zZ_zuJ (zZ_up (m := 163) (zZ_zuJ (zZ_up (m := 162) (zZ_zuJ (zZ_up (m := 161) (zZ_zuJ (zZ_up (m := 160) (zZ_zuJ (zZ_up (m := 159) (zZ_zuJ (zZ_up (m := 158) (zZ_zuJ (zZ_up (m := 157) (zZ_zuJ (zZ_up (m := 156) (zZ_zuJ (zZ_up (m := 155) (zZ_zu (zZ_zu (zZ_zu (zZ_zuJ (zZ_up (m := 154) (zZ_zuJ (zZ_up (m := 153) (zZ_zuJ (zZ_up (m := 152) (zZ_zuJ (zZ_up (m := 151) (zZ_zuJ (zZ_up (m := 150) (zZ_zuJ (zZ_up (m := 149) hZ (by decide)) (by decide)) (by decide)) (by decide)) (by decide)) (by decide)) (by decide)) (by decide)) (by decide)) (by decide)) (by decide)) (by decide)) (by decide)) (by decide)) (by decide)) (by decide)) (by decide)) (by decide)) (by decide)) (by decide)) (by decide)) (by decide)) (by decide)) (by decide)) (by decide)) (by decide)) (by decide)) (by decide)) (by decide)) (by decide)) (by decide)) (by decide)) (by decide)) (by decide)) (by decide)) (by decide)) (by decide)) (by decide)) (by decide)) (by decide)) (by decide)) (by decide)) (by decide)) (by decide)) (by decide)) (by decide)) (by decide)) (by decide)) (by decide)) (by decide)) (by decide)) (by decide)) (by decide)) (by decide)) (by decide)) (by decide)) (by decide)) (by decide)) (List.mem_of_getElem? (i := 4) rfl) (by decide) rfl rfl (by decide) (by decide) (by decide) rfl ⟨by decide, by decide⟩ dX12_init_244 (rfl : 244 + 2 = 246) ?_
  refine y_putR (ci := 11) (C := RX12) (T := TX12) (N := 46) h 43 tyX12 tyX12_ok nmX12 rfl rfl (fun _ hq => List.mem_cons_of_mem _ (List.mem_append_right _ hq)) (by decide) (List.mem_of_getElem? (i := 38) rfl) rfl rfl hr.2.2.2 rfl (Or.inr ⟨_, rfl⟩) dX12_init_246 (rfl : 246 + 3 = 249) ?_
  refine y_aload_n h 0 dX12_init_249 rfl (rfl : 249 + 1 = 250) ?_
  refine y_bipush h 6 dX12_init_250 (by decide) (rfl : 250 + 2 = 252) ?_
  refine y_newa (atype := .int) (t := 0) (m := 6) h hBs (zZ_zuJ (zZ_up (m := 176) (zZ_zuJ (zZ_up (m := 175) (zZ_zuJ (zZ_up (m := 174) (zZ_zuJ (zZ_up (m := 173) (zZ_zuJ (zZ_up (m := 172) (zZ_zuJ (zZ_up (m := 171) (zZ_zu (zZ_zuJ (zZ_up (m := 170) (zZ_zuJ (zZ_up (m := 169) (zZ_zuJ (zZ_up (m := 168) (zZ_zuJ (zZ_up (m := 167) (zZ_zuJ (zZ_up (m := 166) (zZ_zuJ (zZ_up (m := 165) (zZ_zuJ (zZ_up (m := 164) (zZ_zuJ (zZ_up (m := 163) (zZ_zuJ (zZ_up (m := 162) (zZ_zuJ (zZ_up (m := 161) (zZ_zuJ (zZ_up (m := 160) (zZ_zuJ (zZ_up (m := 159) (zZ_zuJ (zZ_up (m := 158) (zZ_zuJ (zZ_up (m := 157) (zZ_zuJ (zZ_up (m := 156) (zZ_zuJ (zZ_up (m := 155) (zZ_zu (zZ_zu (zZ_zu (zZ_zuJ (zZ_up (m := 154) (zZ_zuJ (zZ_up (m := 153) (zZ_zuJ (zZ_up (m := 152) (zZ_zuJ (zZ_up (m := 151) (zZ_zuJ (zZ_up (m := 150) (zZ_zuJ (zZ_up (m := 149) hZ (by decide)) (by decide)) (by decide)) (by decide)) (by decide)) (by decide)) (by decide)) (by decide)) (by decide)) (by decide)) (by decide)) (by decide)) (by decide)) (by decide)) (by decide)) (by decide)) (by decide)) (by decide)) (by decide)) (by decide)) (by decide)) (by decide)) (by decide)) (by decide)) (by decide)) (by decide)) (by decide)) (by decide)) (by decide)) (by decide)) (by decide)) (by decide)) (by decide)) (by decide)) (by decide)) (by decide)) (by decide)) (by decide)) (by decide)) (by decide)) (by decide)) (by decide)) (by decide)) (by decide)) (by decide)) (by decide)) (by decide)) (by decide)) (by decide)) (by decide)) (by decide)) (by decide)) (by decide)) (by decide)) (by decide)) (by decide)) (by decide)) (by decide)) (by decide)) (by decide)) (List.mem_of_getElem? (i := 4) rfl) (by decide) rfl rfl (by decide) (by decide) (by decide) rfl ⟨by decide, by decide⟩ dX12_init_252 (rfl : 252 + 2 = 254) ?_
  refine y_putR (ci := 11) (C := RX12) (T := TX12) (N := 46) h 44 tyX12 tyX12_ok nmX12 rfl rfl (fun _ hq => List.mem_cons_of_mem _ (List.mem_append_right _ hq)) (by decide) (List.mem_of_getElem? (i := 39) rfl) rfl rfl hr.2.2.2 rfl (Or.inr ⟨_, rfl⟩) dX12_init_254 (rfl : 254 + 3 = 257) ?_
  refine y_aload_n h 0 dX12_init_257 rfl (rfl : 257 + 1 = 258) ?_
  refine y_bipush h 6 dX12_init_258 (by decide) (rfl : 258 + 2 = 260) ?_
  refine y_newa (atype := .boolean) (t := 1) (m := 6) h hBs (zZ_zuJ (zZ_up (m := 177) (zZ_zuJ (zZ_up (m := 176) (zZ_zuJ (zZ_up (m := 175) (zZ_zuJ (zZ_up (m := 174) (zZ_zuJ (zZ_up (m := 173) (zZ_zuJ (zZ_up (m := 172) (zZ_zuJ (zZ_up (m := 171) (zZ_zu (zZ_zuJ (zZ_up (m := 170) (zZ_zuJ (zZ_up (m := 169) (zZ_zuJ (zZ_up (m := 168) (zZ_zuJ (zZ_up (m := 167) (zZ_zuJ (zZ_up (m := 166) (zZ_zuJ (zZ_up (m := 165) (zZ_zuJ (zZ_up (m := 164) (zZ_zuJ (zZ_up (m := 163) (zZ_zuJ (zZ_up (m := 162) (zZ_zuJ (zZ_up (m := 161) (zZ_zuJ (zZ_up (m := 160) (zZ_zuJ (zZ_up (m := 159) (zZ_zuJ (zZ_up (m := 158) (zZ_zuJ (zZ_up (m := 157) (zZ_zuJ (zZ_up (m := 156) (zZ_zuJ (zZ_up (m := 155) (zZ_zu (zZ_zu (zZ_zu (zZ_zuJ (zZ_up (m := 154) (zZ_zuJ (zZ_up (m := 153) (zZ_zuJ (zZ_up (m := 152) (zZ_zuJ (zZ_up (m := 151) (zZ_zuJ (zZ_up (m := 150) (zZ_zuJ (zZ_up (m := 149) hZ (by decide)) (by decide)) (by decide)) (by decide)) (by decide)) (by decide)) (by decide)) (by decide)) (by decide)) (by decide)) (by decide)) (by decide)) (by decide)) (by decide)) (by decide)) (by decide)) (by decide)) (by decide)) (by decide)) (by decide)) (by decide)) (by decide)) (by decide)) (by decide)) (by decide)) (by decide)) (by decide)) (by decide)) (by decide)) (by decide)) (by decide)) (by decide)) (by decide)) (by decide)) (by decide)) (by decide)) (by decide)) (by decide)) (by decide)) (by decide)) (by decide)) (by decide)) (by decide)) (by decide)) (by decide)) (by decide)) (by decide)) (by decide)) (by decide)) (by decide)) (by decide)) (by decide)) (by decide)) (by decide)) (by decide)) (by decide)) (by decide)) (by decide)) (by decide)) (by decide)) (by decide)) (by decide)) (List.mem_of_getElem? (i := 6) rfl) (by decide) rfl rfl (by decide) (by decide) (by decide) rfl ⟨by decide, by decide⟩ dX12_init_260 (rfl : 260 + 2 = 262) ?_
  refine y_putR (ci := 11) (C := RX12) (T := TX12) (N := 46) h 45 tyX12 tyX12_ok nmX12 rfl rfl (fun _ hq => List.mem_cons_of_mem _ (List.mem_append_right _ hq)) (by decide) (List.mem_of_getElem? (i := 40) rfl) rfl rfl hr.2.2.2 rfl (Or.inr ⟨_, rfl⟩) dX12_init_262 (rfl : 262 + 3 = 265) ?_
  refine y_iconst h 0 dX12_init_265 (by decide) (rfl : 265 + 1 = 266) ?_
  refine y_istore_n h [(1, .int 0), (0, .ref (za B 147))] dX12_init_266 (by decide) rfl (rfl : 266 + 1 = 267) ?_
  refine y_iload_n h 0 dX12_init_267 rfl (rfl : 267 + 1 = 268) ?_
  refine y_bipush h 6 dX12_init_268 (by decide) (rfl : 268 + 2 = 270) ?_
  refine y_icmp_ge (pc' := 273) h 287 dX12_init_270 (by decide) rfl (fun q => absurd q (by decide)) (fun _ => ?_)
  refine y_aload_n h 1 dX12_init_273 rfl (rfl : 273 + 1 = 274) ?_
  refine y_get (ci := 11) (C := RX12) (T := TX12) (N := 46) h 3 (.ref (za B 150)) rfl rfl (fun _ hq => List.mem_cons_of_mem _ (List.mem_append_right _ hq)) (by decide) (List.mem_of_getElem? (i := 8) rfl) (zfs_ref rfl (by rfl)) dX12_init_274 (rfl : 274 + 3 = 277) ?_
  refine y_iload_n h 0 dX12_init_277 rfl (rfl : 277 + 1 = 278) ?_
  refine y_bipush h (-9) dX12_init_278 (by decide) (rfl : 278 + 2 = 280) ?_
  refine y_iast h (by decide) rfl dX12_init_280 (rfl : 280 + 1 = 281) ?_
  refine y_iinc h 0 1 [(1, .int 1), (0, .ref (za B 147))] dX12_init_281 rfl (by decide) (by decide) rfl (rfl : 281 + 3 = 284) ?_
  refine y_goto (pc' := 267) h dX12_init_284 (by decide) ?_
  refine y_iload_n h 0 dX12_init_267 rfl (rfl : 267 + 1 = 268) ?_
  refine y_bipush h 6 dX12_init_268 (by decide) (rfl : 268 + 2 = 270) ?_
  refine y_icmp_ge (pc' := 273) h 287 dX12_init_270 (by decide) rfl (fun q => absurd q (by decide)) (fun _ => ?_)
  refine y_aload_n h 1 dX12_init_273 rfl (rfl : 273 + 1 = 274) ?_
  refine y_get (ci := 11) (C := RX12) (T := TX12) (N := 46) h 3 (.ref (za B 150)) rfl rfl (fun _ hq => List.mem_cons_of_mem _ (List.mem_append_right _ hq)) (by decide) (List.mem_of_getElem? (i := 8) rfl) (zfs_ref rfl (by rfl)) dX12_init_274 (rfl : 274 + 3 = 277) ?_
  refine y_iload_n h 0 dX12_init_277 rfl (rfl : 277 + 1 = 278) ?_
  refine y_bipush h (-9) dX12_init_278 (by decide) (rfl : 278 + 2 = 280) ?_
  refine y_iast h (by decide) rfl dX12_init_280 (rfl : 280 + 1 = 281) ?_
  refine y_iinc h 0 2 [(1, .int 2), (0, .ref (za B 147))] dX12_init_281 rfl (by decide) (by decide) rfl (rfl : 281 + 3 = 284) ?_
  refine y_goto (pc' := 267) h dX12_init_284 (by decide) ?_
  refine y_iload_n h 0 dX12_init_267 rfl (rfl : 267 + 1 = 268) ?_
  refine y_bipush h 6 dX12_init_268 (by decide) (rfl : 268 + 2 = 270) ?_
  refine y_icmp_ge (pc' := 273) h 287 dX12_init_270 (by decide) rfl (fun q => absurd q (by decide)) (fun _ => ?_)
  refine y_aload_n h 1 dX12_init_273 rfl (rfl : 273 + 1 = 274) ?_
  refine y_get (ci := 11) (C := RX12) (T := TX12) (N := 46) h 3 (.ref (za B 150)) rfl rfl (fun _ hq => List.mem_cons_of_mem _ (List.mem_append_right _ hq)) (by decide) (List.mem_of_getElem? (i := 8) rfl) (zfs_ref rfl (by rfl)) dX12_init_274 (rfl : 274 + 3 = 277) ?_
  refine y_iload_n h 0 dX12_init_277 rfl (rfl : 277 + 1 = 278) ?_
  refine y_bipush h (-9) dX12_init_278 (by decide) (rfl : 278 + 2 = 280) ?_
  refine y_iast h (by decide) rfl dX12_init_280 (rfl : 280 + 1 = 281) ?_
  refine y_iinc h 0 3 [(1, .int 3), (0, .ref (za B 147))] dX12_init_281 rfl (by decide) (by decide) rfl (rfl : 281 + 3 = 284) ?_
  refine y_goto (pc' := 267) h dX12_init_284 (by decide) ?_
  refine y_iload_n h 0 dX12_init_267 rfl (rfl : 267 + 1 = 268) ?_
  refine y_bipush h 6 dX12_init_268 (by decide) (rfl : 268 + 2 = 270) ?_
  refine y_icmp_ge (pc' := 273) h 287 dX12_init_270 (by decide) rfl (fun q => absurd q (by decide)) (fun _ => ?_)
  refine y_aload_n h 1 dX12_init_273 rfl (rfl : 273 + 1 = 274) ?_
  refine y_get (ci := 11) (C := RX12) (T := TX12) (N := 46) h 3 (.ref (za B 150)) rfl rfl (fun _ hq => List.mem_cons_of_mem _ (List.mem_append_right _ hq)) (by decide) (List.mem_of_getElem? (i := 8) rfl) (zfs_ref rfl (by rfl)) dX12_init_274 (rfl : 274 + 3 = 277) ?_
  refine y_iload_n h 0 dX12_init_277 rfl (rfl : 277 + 1 = 278) ?_
  refine y_bipush h (-9) dX12_init_278 (by decide) (rfl : 278 + 2 = 280) ?_
  refine y_iast h (by decide) rfl dX12_init_280 (rfl : 280 + 1 = 281) ?_
  refine y_iinc h 0 4 [(1, .int 4), (0, .ref (za B 147))] dX12_init_281 rfl (by decide) (by decide) rfl (rfl : 281 + 3 = 284) ?_
  refine y_goto (pc' := 267) h dX12_init_284 (by decide) ?_
  refine y_iload_n h 0 dX12_init_267 rfl (rfl : 267 + 1 = 268) ?_
  refine y_bipush h 6 dX12_init_268 (by decide) (rfl : 268 + 2 = 270) ?_
  refine y_icmp_ge (pc' := 273) h 287 dX12_init_270 (by decide) rfl (fun q => absurd q (by decide)) (fun _ => ?_)
  refine y_aload_n h 1 dX12_init_273 rfl (rfl : 273 + 1 = 274) ?_
  refine y_get (ci := 11) (C := RX12) (T := TX12) (N := 46) h 3 (.ref (za B 150)) rfl rfl (fun _ hq => List.mem_cons_of_mem _ (List.mem_append_right _ hq)) (by decide) (List.mem_of_getElem? (i := 8) rfl) (zfs_ref rfl (by rfl)) dX12_init_274 (rfl : 274 + 3 = 277) ?_
  refine y_iload_n h 0 dX12_init_277 rfl (rfl : 277 + 1 = 278) ?_
  refine y_bipush h (-9) dX12_init_278 (by decide) (rfl : 278 + 2 = 280) ?_
  refine y_iast h (by decide) rfl dX12_init_280 (rfl : 280 + 1 = 281) ?_
  refine y_iinc h 0 5 [(1, .int 5), (0, .ref (za B 147))] dX12_init_281 rfl (by decide) (by decide) rfl (rfl : 281 + 3 = 284) ?_
  refine y_goto (pc' := 267) h dX12_init_284 (by decide) ?_
  refine y_iload_n h 0 dX12_init_267 rfl (rfl : 267 + 1 = 268) ?_
  refine y_bipush h 6 dX12_init_268 (by decide) (rfl : 268 + 2 = 270) ?_
  refine y_icmp_ge (pc' := 273) h 287 dX12_init_270 (by decide) rfl (fun q => absurd q (by decide)) (fun _ => ?_)
  refine y_aload_n h 1 dX12_init_273 rfl (rfl : 273 + 1 = 274) ?_
  refine y_get (ci := 11) (C := RX12) (T := TX12) (N := 46) h 3 (.ref (za B 150)) rfl rfl (fun _ hq => List.mem_cons_of_mem _ (List.mem_append_right _ hq)) (by decide) (List.mem_of_getElem? (i := 8) rfl) (zfs_ref rfl (by rfl)) dX12_init_274 (rfl : 274 + 3 = 277) ?_
  refine y_iload_n h 0 dX12_init_277 rfl (rfl : 277 + 1 = 278) ?_
  refine y_bipush h (-9) dX12_init_278 (by decide) (rfl : 278 + 2 = 280) ?_
  refine y_iast h (by decide) rfl dX12_init_280 (rfl : 280 + 1 = 281) ?_
  refine y_iinc h 0 6 [(1, .int 6), (0, .ref (za B 147))] dX12_init_281 rfl (by decide) (by decide) rfl (rfl : 281 + 3 = 284) ?_
  refine y_goto (pc' := 267) h dX12_init_284 (by decide) ?_
  refine y_iload_n h 0 dX12_init_267 rfl (rfl : 267 + 1 = 268) ?_
  refine y_bipush h 6 dX12_init_268 (by decide) (rfl : 268 + 2 = 270) ?_
  refine y_icmp_ge (pc' := 273) h 287 dX12_init_270 (by decide) rfl (fun _ => ?_) (fun q => absurd q (by decide))
  refine y_iconst h 0 dX12_init_287 (by decide) (rfl : 287 + 1 = 288) ?_
  refine y_istore_n h [(1, .int 0), (0, .ref (za B 147))] dX12_init_288 (by decide) rfl (rfl : 288 + 1 = 289) ?_
  refine y_iload_n h 0 dX12_init_289 rfl (rfl : 289 + 1 = 290) ?_
  refine y_iconst h 4 dX12_init_290 (by decide) (rfl : 290 + 1 = 291) ?_
  refine y_icmp_ge (pc' := 294) h 331 dX12_init_291 (by decide) rfl (fun q => absurd q (by decide)) (fun _ => ?_)
  refine y_aload_n h 1 dX12_init_294 rfl (rfl : 294 + 1 = 295) ?_
  refine y_get (ci := 11) (C := RX12) (T := TX12) (N := 46) h 18 (.ref (za B 158)) rfl rfl (fun _ hq => List.mem_cons_of_mem _ (List.mem_append_right _ hq)) (by decide) (List.mem_of_getElem? (i := 19) rfl) (zfs_ref rfl (by rfl)) dX12_init_295 (rfl : 295 + 3 = 298) ?_
  refine y_iload_n h 0 dX12_init_298 rfl (rfl : 298 + 1 = 299) ?_
  refine y_iconst h 5 dX12_init_299 (by decide) (rfl : 299 + 1 = 300) ?_
  refine y_iast h (by decide) rfl dX12_init_300 (rfl : 300 + 1 = 301) ?_
  refine y_iconst h 0 dX12_init_301 (by decide) (rfl : 301 + 1 = 302) ?_
  refine y_istore_n h [(2, .int 0), (1, .int 0), (0, .ref (za B 147))] dX12_init_302 (by decide) rfl (rfl : 302 + 1 = 303) ?_
  refine y_iload_n h 0 dX12_init_303 rfl (rfl : 303 + 1 = 304) ?_
  refine y_iconst h 5 dX12_init_304 (by decide) (rfl : 304 + 1 = 305) ?_
  refine y_icmp_ge (pc' := 308) h 325 dX12_init_305 (by decide) rfl (fun q => absurd q (by decide)) (fun _ => ?_)
  refine y_aload_n h 2 dX12_init_308 rfl (rfl : 308 + 1 = 309) ?_
  refine y_get (ci := 11) (C := RX12) (T := TX12) (N := 46) h 17 (.ref (za B 157)) rfl rfl (fun _ hq => List.mem_cons_of_mem _ (List.mem_append_right _ hq)) (by decide) (List.mem_of_getElem? (i := 18) rfl) (zfs_ref rfl (by rfl)) dX12_init_309 (rfl : 309 + 3 = 312) ?_
  refine y_iconst h 5 dX12_init_312 (by decide) (rfl : 312 + 1 = 313) ?_
  refine y_iload_n h 1 dX12_init_313 rfl (rfl : 313 + 1 = 314) ?_
  refine y_imul h dX12_init_314 (rfl : 314 + 1 = 315) ?_
  refine y_top 0 (by decide) ?_
  refine y_iload_n h 0 dX12_init_315 rfl (rfl : 315 + 1 = 316) ?_
  refine y_iadd h dX12_init_316 (rfl : 316 + 1 = 317) ?_
  refine y_top 0 (by decide) ?_
  refine y_iload_n h 0 dX12_init_317 rfl (rfl : 317 + 1 = 318) ?_
  refine y_iast h (by decide) rfl dX12_init_318 (rfl : 318 + 1 = 319) ?_
  refine y_iinc h 0 1 [(2, .int 1), (1, .int 0), (0, .ref (za B 147))] dX12_init_319 rfl (by decide) (by decide) rfl (rfl : 319 + 3 = 322) ?_
  refine y_goto (pc' := 303) h dX12_init_322 (by decide) ?_
  refine y_iload_n h 0 dX12_init_303 rfl (rfl : 303 + 1 = 304) ?_
  refine y_iconst h 5 dX12_init_304 (by decide) (rfl : 304 + 1 = 305) ?_
  refine y_icmp_ge (pc' := 308) h 325 dX12_init_305 (by decide) rfl (fun q => absurd q (by decide)) (fun _ => ?_)
  refine y_aload_n h 2 dX12_init_308 rfl (rfl : 308 + 1 = 309) ?_
  refine y_get (ci := 11) (C := RX12) (T := TX12) (N := 46) h 17 (.ref (za B 157)) rfl rfl (fun _ hq => List.mem_cons_of_mem _ (List.mem_append_right _ hq)) (by decide) (List.mem_of_getElem? (i := 18) rfl) (zfs_ref rfl (by rfl)) dX12_init_309 (rfl : 309 + 3 = 312) ?_
  refine y_iconst h 5 dX12_init_312 (by decide) (rfl : 312 + 1 = 313) ?_
  refine y_iload_n h 1 dX12_init_313 rfl (rfl : 313 + 1 = 314) ?_
  refine y_imul h dX12_init_314 (rfl : 314 + 1 = 315) ?_
  refine y_top 0 (by decide) ?_
  refine y_iload_n h 0 dX12_init_315 rfl (rfl : 315 + 1 = 316) ?_
  refine y_iadd h dX12_init_316 (rfl : 316 + 1 = 317) ?_
  refine y_top 1 (by decide) ?_
  refine y_iload_n h 0 dX12_init_317 rfl (rfl : 317 + 1 = 318) ?_
  refine y_iast h (by decide) rfl dX12_init_318 (rfl : 318 + 1 = 319) ?_
  refine y_iinc h 0 2 [(2, .int 2), (1, .int 0), (0, .ref (za B 147))] dX12_init_319 rfl (by decide) (by decide) rfl (rfl : 319 + 3 = 322) ?_
  refine y_goto (pc' := 303) h dX12_init_322 (by decide) ?_
  refine y_iload_n h 0 dX12_init_303 rfl (rfl : 303 + 1 = 304) ?_
  refine y_iconst h 5 dX12_init_304 (by decide) (rfl : 304 + 1 = 305) ?_
  refine y_icmp_ge (pc' := 308) h 325 dX12_init_305 (by decide) rfl (fun q => absurd q (by decide)) (fun _ => ?_)
  refine y_aload_n h 2 dX12_init_308 rfl (rfl : 308 + 1 = 309) ?_
  refine y_get (ci := 11) (C := RX12) (T := TX12) (N := 46) h 17 (.ref (za B 157)) rfl rfl (fun _ hq => List.mem_cons_of_mem _ (List.mem_append_right _ hq)) (by decide) (List.mem_of_getElem? (i := 18) rfl) (zfs_ref rfl (by rfl)) dX12_init_309 (rfl : 309 + 3 = 312) ?_
  refine y_iconst h 5 dX12_init_312 (by decide) (rfl : 312 + 1 = 313) ?_
  refine y_iload_n h 1 dX12_init_313 rfl (rfl : 313 + 1 = 314) ?_
  refine y_imul h dX12_init_314 (rfl : 314 + 1 = 315) ?_
  refine y_top 0 (by decide) ?_
  refine y_iload_n h 0 dX12_init_315 rfl (rfl : 315 + 1 = 316) ?_
  refine y_iadd h dX12_init_316 (rfl : 316 + 1 = 317) ?_
  refine y_top 2 (by decide) ?_
  refine y_iload_n h 0 dX12_init_317 rfl (rfl : 317 + 1 = 318) ?_
  refine y_iast h (by decide) rfl dX12_init_318 (rfl : 318 + 1 = 319) ?_
  refine y_iinc h 0 3 [(2, .int 3), (1, .int 0), (0, .ref (za B 147))] dX12_init_319 rfl (by decide) (by decide) rfl (rfl : 319 + 3 = 322) ?_
  refine y_goto (pc' := 303) h dX12_init_322 (by decide) ?_
  refine y_iload_n h 0 dX12_init_303 rfl (rfl : 303 + 1 = 304) ?_
  refine y_iconst h 5 dX12_init_304 (by decide) (rfl : 304 + 1 = 305) ?_
  refine y_icmp_ge (pc' := 308) h 325 dX12_init_305 (by decide) rfl (fun q => absurd q (by decide)) (fun _ => ?_)
  refine y_aload_n h 2 dX12_init_308 rfl (rfl : 308 + 1 = 309) ?_
  refine y_get (ci := 11) (C := RX12) (T := TX12) (N := 46) h 17 (.ref (za B 157)) rfl rfl (fun _ hq => List.mem_cons_of_mem _ (List.mem_append_right _ hq)) (by decide) (List.mem_of_getElem? (i := 18) rfl) (zfs_ref rfl (by rfl)) dX12_init_309 (rfl : 309 + 3 = 312) ?_
  refine y_iconst h 5 dX12_init_312 (by decide) (rfl : 312 + 1 = 313) ?_
  refine y_iload_n h 1 dX12_init_313 rfl (rfl : 313 + 1 = 314) ?_
  refine y_imul h dX12_init_314 (rfl : 314 + 1 = 315) ?_
  refine y_top 0 (by decide) ?_
  refine y_iload_n h 0 dX12_init_315 rfl (rfl : 315 + 1 = 316) ?_
  refine y_iadd h dX12_init_316 (rfl : 316 + 1 = 317) ?_
  refine y_top 3 (by decide) ?_
  refine y_iload_n h 0 dX12_init_317 rfl (rfl : 317 + 1 = 318) ?_
  refine y_iast h (by decide) rfl dX12_init_318 (rfl : 318 + 1 = 319) ?_
  refine y_iinc h 0 4 [(2, .int 4), (1, .int 0), (0, .ref (za B 147))] dX12_init_319 rfl (by decide) (by decide) rfl (rfl : 319 + 3 = 322) ?_
  refine y_goto (pc' := 303) h dX12_init_322 (by decide) ?_
  refine y_iload_n h 0 dX12_init_303 rfl (rfl : 303 + 1 = 304) ?_
  refine y_iconst h 5 dX12_init_304 (by decide) (rfl : 304 + 1 = 305) ?_
  refine y_icmp_ge (pc' := 308) h 325 dX12_init_305 (by decide) rfl (fun q => absurd q (by decide)) (fun _ => ?_)
  refine y_aload_n h 2 dX12_init_308 rfl (rfl : 308 + 1 = 309) ?_
  refine y_get (ci := 11) (C := RX12) (T := TX12) (N := 46) h 17 (.ref (za B 157)) rfl rfl (fun _ hq => List.mem_cons_of_mem _ (List.mem_append_right _ hq)) (by decide) (List.mem_of_getElem? (i := 18) rfl) (zfs_ref rfl (by rfl)) dX12_init_309 (rfl : 309 + 3 = 312) ?_
  refine y_iconst h 5 dX12_init_312 (by decide) (rfl : 312 + 1 = 313) ?_
  refine y_iload_n h 1 dX12_init_313 rfl (rfl : 313 + 1 = 314) ?_
  refine y_imul h dX12_init_314 (rfl : 314 + 1 = 315) ?_
  refine y_top 0 (by decide) ?_
  refine y_iload_n h 0 dX12_init_315 rfl (rfl : 315 + 1 = 316) ?_
  refine y_iadd h dX12_init_316 (rfl : 316 + 1 = 317) ?_
  refine y_top 4 (by decide) ?_
  refine y_iload_n h 0 dX12_init_317 rfl (rfl : 317 + 1 = 318) ?_
  refine y_iast h (by decide) rfl dX12_init_318 (rfl : 318 + 1 = 319) ?_
  refine y_iinc h 0 5 [(2, .int 5), (1, .int 0), (0, .ref (za B 147))] dX12_init_319 rfl (by decide) (by decide) rfl (rfl : 319 + 3 = 322) ?_
  refine y_goto (pc' := 303) h dX12_init_322 (by decide) ?_
  refine y_iload_n h 0 dX12_init_303 rfl (rfl : 303 + 1 = 304) ?_
  refine y_iconst h 5 dX12_init_304 (by decide) (rfl : 304 + 1 = 305) ?_
  refine y_icmp_ge (pc' := 308) h 325 dX12_init_305 (by decide) rfl (fun _ => ?_) (fun q => absurd q (by decide))
  refine y_iinc h 1 1 [(1, .int 1), (2, .int 5), (0, .ref (za B 147))] dX12_init_325 rfl (by decide) (by decide) rfl (rfl : 325 + 3 = 328) ?_
  refine y_goto (pc' := 289) h dX12_init_328 (by decide) ?_
  refine y_iload_n h 0 dX12_init_289 rfl (rfl : 289 + 1 = 290) ?_
  refine y_iconst h 4 dX12_init_290 (by decide) (rfl : 290 + 1 = 291) ?_
  refine y_icmp_ge (pc' := 294) h 331 dX12_init_291 (by decide) rfl (fun q => absurd q (by decide)) (fun _ => ?_)
  refine y_aload_n h 2 dX12_init_294 rfl (rfl : 294 + 1 = 295) ?_
  refine y_get (ci := 11) (C := RX12) (T := TX12) (N := 46) h 18 (.ref (za B 158)) rfl rfl (fun _ hq => List.mem_cons_of_mem _ (List.mem_append_right _ hq)) (by decide) (List.mem_of_getElem? (i := 19) rfl) (zfs_ref rfl (by rfl)) dX12_init_295 (rfl : 295 + 3 = 298) ?_
  refine y_iload_n h 0 dX12_init_298 rfl (rfl : 298 + 1 = 299) ?_
  refine y_iconst h 5 dX12_init_299 (by decide) (rfl : 299 + 1 = 300) ?_
  refine y_iast h (by decide) rfl dX12_init_300 (rfl : 300 + 1 = 301) ?_
  refine y_iconst h 0 dX12_init_301 (by decide) (rfl : 301 + 1 = 302) ?_
  refine y_istore_n h [(2, .int 0), (1, .int 1), (0, .ref (za B 147))] dX12_init_302 (by decide) rfl (rfl : 302 + 1 = 303) ?_
  refine y_iload_n h 0 dX12_init_303 rfl (rfl : 303 + 1 = 304) ?_
  refine y_iconst h 5 dX12_init_304 (by decide) (rfl : 304 + 1 = 305) ?_
  refine y_icmp_ge (pc' := 308) h 325 dX12_init_305 (by decide) rfl (fun q => absurd q (by decide)) (fun _ => ?_)
  refine y_aload_n h 2 dX12_init_308 rfl (rfl : 308 + 1 = 309) ?_
  refine y_get (ci := 11) (C := RX12) (T := TX12) (N := 46) h 17 (.ref (za B 157)) rfl rfl (fun _ hq => List.mem_cons_of_mem _ (List.mem_append_right _ hq)) (by decide) (List.mem_of_getElem? (i := 18) rfl) (zfs_ref rfl (by rfl)) dX12_init_309 (rfl : 309 + 3 = 312) ?_
  refine y_iconst h 5 dX12_init_312 (by decide) (rfl : 312 + 1 = 313) ?_
  refine y_iload_n h 1 dX12_init_313 rfl (rfl : 313 + 1 = 314) ?_
  refine y_imul h dX12_init_314 (rfl : 314 + 1 = 315) ?_
  refine y_top 5 (by decide) ?_
  refine y_iload_n h 0 dX12_init_315 rfl (rfl : 315 + 1 = 316) ?_
  refine y_iadd h dX12_init_316 (rfl : 316 + 1 = 317) ?_
  refine y_top 5 (by decide) ?_
  refine y_iload_n h 0 dX12_init_317 rfl (rfl : 317 + 1 = 318) ?_
  refine y_iast h (by decide) rfl dX12_init_318 (rfl : 318 + 1 = 319) ?_
  refine y_iinc h 0 1 [(2, .int 1), (1, .int 1), (0, .ref (za B 147))] dX12_init_319 rfl (by decide) (by decide) rfl (rfl : 319 + 3 = 322) ?_
  refine y_goto (pc' := 303) h dX12_init_322 (by decide) ?_
  refine y_iload_n h 0 dX12_init_303 rfl (rfl : 303 + 1 = 304) ?_
  refine y_iconst h 5 dX12_init_304 (by decide) (rfl : 304 + 1 = 305) ?_
  refine y_icmp_ge (pc' := 308) h 325 dX12_init_305 (by decide) rfl (fun q => absurd q (by decide)) (fun _ => ?_)
  refine y_aload_n h 2 dX12_init_308 rfl (rfl : 308 + 1 = 309) ?_
  refine y_get (ci := 11) (C := RX12) (T := TX12) (N := 46) h 17 (.ref (za B 157)) rfl rfl (fun _ hq => List.mem_cons_of_mem _ (List.mem_append_right _ hq)) (by decide) (List.mem_of_getElem? (i := 18) rfl) (zfs_ref rfl (by rfl)) dX12_init_309 (rfl : 309 + 3 = 312) ?_
  refine y_iconst h 5 dX12_init_312 (by decide) (rfl : 312 + 1 = 313) ?_
  refine y_iload_n h 1 dX12_init_313 rfl (rfl : 313 + 1 = 314) ?_
  refine y_imul h dX12_init_314 (rfl : 314 + 1 = 315) ?_
  refine y_top 5 (by decide) ?_
  refine y_iload_n h 0 dX12_init_315 rfl (rfl : 315 + 1 = 316) ?_
  refine y_iadd h dX12_init_316 (rfl : 316 + 1 = 317) ?_
  refine y_top 6 (by decide) ?_
  refine y_iload_n h 0 dX12_init_317 rfl (rfl : 317 + 1 = 318) ?_
  refine y_iast h (by decide) rfl dX12_init_318 (rfl : 318 + 1 = 319) ?_
  refine y_iinc h 0 2 [(2, .int 2), (1, .int 1), (0, .ref (za B 147))] dX12_init_319 rfl (by decide) (by decide) rfl (rfl : 319 + 3 = 322) ?_
  refine y_goto (pc' := 303) h dX12_init_322 (by decide) ?_
  refine y_iload_n h 0 dX12_init_303 rfl (rfl : 303 + 1 = 304) ?_
  refine y_iconst h 5 dX12_init_304 (by decide) (rfl : 304 + 1 = 305) ?_
  refine y_icmp_ge (pc' := 308) h 325 dX12_init_305 (by decide) rfl (fun q => absurd q (by decide)) (fun _ => ?_)
  refine y_aload_n h 2 dX12_init_308 rfl (rfl : 308 + 1 = 309) ?_
  refine y_get (ci := 11) (C := RX12) (T := TX12) (N := 46) h 17 (.ref (za B 157)) rfl rfl (fun _ hq => List.mem_cons_of_mem _ (List.mem_append_right _ hq)) (by decide) (List.mem_of_getElem? (i := 18) rfl) (zfs_ref rfl (by rfl)) dX12_init_309 (rfl : 309 + 3 = 312) ?_
  refine y_iconst h 5 dX12_init_312 (by decide) (rfl : 312 + 1 = 313) ?_
  refine y_iload_n h 1 dX12_init_313 rfl (rfl : 313 + 1 = 314) ?_
  refine y_imul h dX12_init_314 (rfl : 314 + 1 = 315) ?_
  refine y_top 5 (by decide) ?_
  refine y_iload_n h 0 dX12_init_315 rfl (rfl : 315 + 1 = 316) ?_
  refine y_iadd h dX12_init_316 (rfl : 316 + 1 = 317) ?_
  refine y_top 7 (by decide) ?_
  refine y_iload_n h 0 dX12_init_317 rfl (rfl : 317 + 1 = 318) ?_
  refine y_iast h (by decide) rfl dX12_init_318 (rfl : 318 + 1 = 319) ?_
  refine y_iinc h 0 3 [(2, .int 3), (1, .int 1), (0, .ref (za B 147))] dX12_init_319 rfl (by decide) (by decide) rfl (rfl : 319 + 3 = 322) ?_
  refine y_goto (pc' := 303) h dX12_init_322 (by decide) ?_
  refine y_iload_n h 0 dX12_init_303 rfl (rfl : 303 + 1 = 304) ?_
  refine y_iconst h 5 dX12_init_304 (by decide) (rfl : 304 + 1 = 305) ?_
  refine y_icmp_ge (pc' := 308) h 325 dX12_init_305 (by decide) rfl (fun q => absurd q (by decide)) (fun _ => ?_)
  refine y_aload_n h 2 dX12_init_308 rfl (rfl : 308 + 1 = 309) ?_
  refine y_get (ci := 11) (C := RX12) (T := TX12) (N := 46) h 17 (.ref (za B 157)) rfl rfl (fun _ hq => List.mem_cons_of_mem _ (List.mem_append_right _ hq)) (by decide) (List.mem_of_getElem? (i := 18) rfl) (zfs_ref rfl (by rfl)) dX12_init_309 (rfl : 309 + 3 = 312) ?_
  refine y_iconst h 5 dX12_init_312 (by decide) (rfl : 312 + 1 = 313) ?_
  refine y_iload_n h 1 dX12_init_313 rfl (rfl : 313 + 1 = 314) ?_
  refine y_imul h dX12_init_314 (rfl : 314 + 1 = 315) ?_
  refine y_top 5 (by decide) ?_
  refine y_iload_n h 0 dX12_init_315 rfl (rfl : 315 + 1 = 316) ?_
  refine y_iadd h dX12_init_316 (rfl : 316 + 1 = 317) ?_
  refine y_top 8 (by decide) ?_
  refine y_iload_n h 0 dX12_init_317 rfl (rfl : 317 + 1 = 318) ?_
  refine y_iast h (by decide) rfl dX12_init_318 (rfl : 318 + 1 = 319) ?_
  refine y_iinc h 0 4 [(2, .int 4), (1, .int 1), (0, .ref (za B 147))] dX12_init_319 rfl (by decide) (by decide) rfl (rfl : 319 + 3 = 322) ?_
  refine y_goto (pc' := 303) h dX12_init_322 (by decide) ?_
  refine y_iload_n h 0 dX12_init_303 rfl (rfl : 303 + 1 = 304) ?_
  refine y_iconst h 5 dX12_init_304 (by decide) (rfl : 304 + 1 = 305) ?_
  refine y_icmp_ge (pc' := 308) h 325 dX12_init_305 (by decide) rfl (fun q => absurd q (by decide)) (fun _ => ?_)
  refine y_aload_n h 2 dX12_init_308 rfl (rfl : 308 + 1 = 309) ?_
  refine y_get (ci := 11) (C := RX12) (T := TX12) (N := 46) h 17 (.ref (za B 157)) rfl rfl (fun _ hq => List.mem_cons_of_mem _ (List.mem_append_right _ hq)) (by decide) (List.mem_of_getElem? (i := 18) rfl) (zfs_ref rfl (by rfl)) dX12_init_309 (rfl : 309 + 3 = 312) ?_
  refine y_iconst h 5 dX12_init_312 (by decide) (rfl : 312 + 1 = 313) ?_
  refine y_iload_n h 1 dX12_init_313 rfl (rfl : 313 + 1 = 314) ?_
  refine y_imul h dX12_init_314 (rfl : 314 + 1 = 315) ?_
  refine y_top 5 (by decide) ?_
  refine y_iload_n h 0 dX12_init_315 rfl (rfl : 315 + 1 = 316) ?_
  refine y_iadd h dX12_init_316 (rfl : 316 + 1 = 317) ?_
  refine y_top 9 (by decide) ?_
  refine y_iload_n h 0 dX12_init_317 rfl (rfl : 317 + 1 = 318) ?_
  refine y_iast h (by decide) rfl dX12_init_318 (rfl : 318 + 1 = 319) ?_
  refine y_iinc h 0 5 [(2, .int 5), (1, .int 1), (0, .ref (za B 147))] dX12_init_319 rfl (by decide) (by decide) rfl (rfl : 319 + 3 = 322) ?_
  refine y_goto (pc' := 303) h dX12_init_322 (by decide) ?_
  refine y_iload_n h 0 dX12_init_303 rfl (rfl : 303 + 1 = 304) ?_
  refine y_iconst h 5 dX12_init_304 (by decide) (rfl : 304 + 1 = 305) ?_
  refine y_icmp_ge (pc' := 308) h 325 dX12_init_305 (by decide) rfl (fun _ => ?_) (fun q => absurd q (by decide))
  refine y_iinc h 1 2 [(1, .int 2), (2, .int 5), (0, .ref (za B 147))] dX12_init_325 rfl (by decide) (by decide) rfl (rfl : 325 + 3 = 328) ?_
  refine y_goto (pc' := 289) h dX12_init_328 (by decide) ?_
  refine y_iload_n h 0 dX12_init_289 rfl (rfl : 289 + 1 = 290) ?_
  refine y_iconst h 4 dX12_init_290 (by decide) (rfl : 290 + 1 = 291) ?_
  refine y_icmp_ge (pc' := 294) h 331 dX12_init_291 (by decide) rfl (fun q => absurd q (by decide)) (fun _ => ?_)
  refine y_aload_n h 2 dX12_init_294 rfl (rfl : 294 + 1 = 295) ?_
  refine y_get (ci := 11) (C := RX12) (T := TX12) (N := 46) h 18 (.ref (za B 158)) rfl rfl (fun _ hq => List.mem_cons_of_mem _ (List.mem_append_right _ hq)) (by decide) (List.mem_of_getElem? (i := 19) rfl) (zfs_ref rfl (by rfl)) dX12_init_295 (rfl : 295 + 3 = 298) ?_
  refine y_iload_n h 0 dX12_init_298 rfl (rfl : 298 + 1 = 299) ?_
  refine y_iconst h 5 dX12_init_299 (by decide) (rfl : 299 + 1 = 300) ?_
  refine y_iast h (by decide) rfl dX12_init_300 (rfl : 300 + 1 = 301) ?_
  refine y_iconst h 0 dX12_init_301 (by decide) (rfl : 301 + 1 = 302) ?_
  refine y_istore_n h [(2, .int 0), (1, .int 2), (0, .ref (za B 147))] dX12_init_302 (by decide) rfl (rfl : 302 + 1 = 303) ?_
  refine y_iload_n h 0 dX12_init_303 rfl (rfl : 303 + 1 = 304) ?_
  refine y_iconst h 5 dX12_init_304 (by decide) (rfl : 304 + 1 = 305) ?_
  refine y_icmp_ge (pc' := 308) h 325 dX12_init_305 (by decide) rfl (fun q => absurd q (by decide)) (fun _ => ?_)
  refine y_aload_n h 2 dX12_init_308 rfl (rfl : 308 + 1 = 309) ?_
  refine y_get (ci := 11) (C := RX12) (T := TX12) (N := 46) h 17 (.ref (za B 157)) rfl rfl (fun _ hq => List.mem_cons_of_mem _ (List.mem_append_right _ hq)) (by decide) (List.mem_of_getElem? (i := 18) rfl) (zfs_ref rfl (by rfl)) dX12_init_309 (rfl : 309 + 3 = 312) ?_
  refine y_iconst h 5 dX12_init_312 (by decide) (rfl : 312 + 1 = 313) ?_
  refine y_iload_n h 1 dX12_init_313 rfl (rfl : 313 + 1 = 314) ?_
  refine y_imul h dX12_init_314 (rfl : 314 + 1 = 315) ?_
  refine y_top 10 (by decide) ?_
  refine y_iload_n h 0 dX12_init_315 rfl (rfl : 315 + 1 = 316) ?_
  refine y_iadd h dX12_init_316 (rfl : 316 + 1 = 317) ?_
  refine y_top 10 (by decide) ?_
  refine y_iload_n h 0 dX12_init_317 rfl (rfl : 317 + 1 = 318) ?_
  refine y_iast h (by decide) rfl dX12_init_318 (rfl : 318 + 1 = 319) ?_
  refine y_iinc h 0 1 [(2, .int 1), (1, .int 2), (0, .ref (za B 147))] dX12_init_319 rfl (by decide) (by decide) rfl (rfl : 319 + 3 = 322) ?_
  refine y_goto (pc' := 303) h dX12_init_322 (by decide) ?_
  refine y_iload_n h 0 dX12_init_303 rfl (rfl : 303 + 1 = 304) ?_
  refine y_iconst h 5 dX12_init_304 (by decide) (rfl : 304 + 1 = 305) ?_
  refine y_icmp_ge (pc' := 308) h 325 dX12_init_305 (by decide) rfl (fun q => absurd q (by decide)) (fun _ => ?_)
  refine y_aload_n h 2 dX12_init_308 rfl (rfl : 308 + 1 = 309) ?_
  refine y_get (ci := 11) (C := RX12) (T := TX12) (N := 46) h 17 (.ref (za B 157)) rfl rfl (fun _ hq => List.mem_cons_of_mem _ (List.mem_append_right _ hq)) (by decide) (List.mem_of_getElem? (i := 18) rfl) (zfs_ref rfl (by rfl)) dX12_init_309 (rfl : 309 + 3 = 312) ?_
  refine y_iconst h 5 dX12_init_312 (by decide) (rfl : 312 + 1 = 313) ?_
  refine y_iload_n h 1 dX12_init_313 rfl (rfl : 313 + 1 = 314) ?_
  refine y_imul h dX12_init_314 (rfl : 314 + 1 = 315) ?_
  refine y_top 10 (by decide) ?_
  refine y_iload_n h 0 dX12_init_315 rfl (rfl : 315 + 1 = 316) ?_
  refine y_iadd h dX12_init_316 (rfl : 316 + 1 = 317) ?_
  refine y_top 11 (by decide) ?_
  refine y_iload_n h 0 dX12_init_317 rfl (rfl : 317 + 1 = 318) ?_
  refine y_iast h (by decide) rfl dX12_init_318 (rfl : 318 + 1 = 319) ?_
  refine y_iinc h 0 2 [(2, .int 2), (1, .int 2), (0, .ref (za B 147))] dX12_init_319 rfl (by decide) (by decide) rfl (rfl : 319 + 3 = 322) ?_
  refine y_goto (pc' := 303) h dX12_init_322 (by decide) ?_
  refine y_iload_n h 0 dX12_init_303 rfl (rfl : 303 + 1 = 304) ?_
  refine y_iconst h 5 dX12_init_304 (by decide) (rfl : 304 + 1 = 305) ?_
  refine y_icmp_ge (pc' := 308) h 325 dX12_init_305 (by decide) rfl (fun q => absurd q (by decide)) (fun _ => ?_)
  refine y_aload_n h 2 dX12_init_308 rfl (rfl : 308 + 1 = 309) ?_
  refine y_get (ci := 11) (C := RX12) (T := TX12) (N := 46) h 17 (.ref (za B 157)) rfl rfl (fun _ hq => List.mem_cons_of_mem _ (List.mem_append_right _ hq)) (by decide) (List.mem_of_getElem? (i := 18) rfl) (zfs_ref rfl (by rfl)) dX12_init_309 (rfl : 309 + 3 = 312) ?_
  refine y_iconst h 5 dX12_init_312 (by decide) (rfl : 312 + 1 = 313) ?_
  refine y_iload_n h 1 dX12_init_313 rfl (rfl : 313 + 1 = 314) ?_
  refine y_imul h dX12_init_314 (rfl : 314 + 1 = 315) ?_
  refine y_top 10 (by decide) ?_
  refine y_iload_n h 0 dX12_init_315 rfl (rfl : 315 + 1 = 316) ?_
  refine y_iadd h dX12_init_316 (rfl : 316 + 1 = 317) ?_
  refine y_top 12 (by decide) ?_
  refine y_iload_n h 0 dX12_init_317 rfl (rfl : 317 + 1 = 318) ?_
  refine y_iast h (by decide) rfl dX12_init_318 (rfl : 318 + 1 = 319) ?_
  refine y_iinc h 0 3 [(2, .int 3), (1, .int 2), (0, .ref (za B 147))] dX12_init_319 rfl (by decide) (by decide) rfl (rfl : 319 + 3 = 322) ?_
  refine y_goto (pc' := 303) h dX12_init_322 (by decide) ?_
  refine y_iload_n h 0 dX12_init_303 rfl (rfl : 303 + 1 = 304) ?_
  refine y_iconst h 5 dX12_init_304 (by decide) (rfl : 304 + 1 = 305) ?_
  refine y_icmp_ge (pc' := 308) h 325 dX12_init_305 (by decide) rfl (fun q => absurd q (by decide)) (fun _ => ?_)
  refine y_aload_n h 2 dX12_init_308 rfl (rfl : 308 + 1 = 309) ?_
  refine y_get (ci := 11) (C := RX12) (T := TX12) (N := 46) h 17 (.ref (za B 157)) rfl rfl (fun _ hq => List.mem_cons_of_mem _ (List.mem_append_right _ hq)) (by decide) (List.mem_of_getElem? (i := 18) rfl) (zfs_ref rfl (by rfl)) dX12_init_309 (rfl : 309 + 3 = 312) ?_
  refine y_iconst h 5 dX12_init_312 (by decide) (rfl : 312 + 1 = 313) ?_
  refine y_iload_n h 1 dX12_init_313 rfl (rfl : 313 + 1 = 314) ?_
  refine y_imul h dX12_init_314 (rfl : 314 + 1 = 315) ?_
  refine y_top 10 (by decide) ?_
  refine y_iload_n h 0 dX12_init_315 rfl (rfl : 315 + 1 = 316) ?_
  refine y_iadd h dX12_init_316 (rfl : 316 + 1 = 317) ?_
  refine y_top 13 (by decide) ?_
  refine y_iload_n h 0 dX12_init_317 rfl (rfl : 317 + 1 = 318) ?_
  refine y_iast h (by decide) rfl dX12_init_318 (rfl : 318 + 1 = 319) ?_
  refine y_iinc h 0 4 [(2, .int 4), (1, .int 2), (0, .ref (za B 147))] dX12_init_319 rfl (by decide) (by decide) rfl (rfl : 319 + 3 = 322) ?_
  refine y_goto (pc' := 303) h dX12_init_322 (by decide) ?_
  refine y_iload_n h 0 dX12_init_303 rfl (rfl : 303 + 1 = 304) ?_
  refine y_iconst h 5 dX12_init_304 (by decide) (rfl : 304 + 1 = 305) ?_
  refine y_icmp_ge (pc' := 308) h 325 dX12_init_305 (by decide) rfl (fun q => absurd q (by decide)) (fun _ => ?_)
  refine y_aload_n h 2 dX12_init_308 rfl (rfl : 308 + 1 = 309) ?_
  refine y_get (ci := 11) (C := RX12) (T := TX12) (N := 46) h 17 (.ref (za B 157)) rfl rfl (fun _ hq => List.mem_cons_of_mem _ (List.mem_append_right _ hq)) (by decide) (List.mem_of_getElem? (i := 18) rfl) (zfs_ref rfl (by rfl)) dX12_init_309 (rfl : 309 + 3 = 312) ?_
  refine y_iconst h 5 dX12_init_312 (by decide) (rfl : 312 + 1 = 313) ?_
  refine y_iload_n h 1 dX12_init_313 rfl (rfl : 313 + 1 = 314) ?_
  refine y_imul h dX12_init_314 (rfl : 314 + 1 = 315) ?_
  refine y_top 10 (by decide) ?_
  refine y_iload_n h 0 dX12_init_315 rfl (rfl : 315 + 1 = 316) ?_
  refine y_iadd h dX12_init_316 (rfl : 316 + 1 = 317) ?_
  refine y_top 14 (by decide) ?_
  refine y_iload_n h 0 dX12_init_317 rfl (rfl : 317 + 1 = 318) ?_
  refine y_iast h (by decide) rfl dX12_init_318 (rfl : 318 + 1 = 319) ?_
  refine y_iinc h 0 5 [(2, .int 5), (1, .int 2), (0, .ref (za B 147))] dX12_init_319 rfl (by decide) (by decide) rfl (rfl : 319 + 3 = 322) ?_
  refine y_goto (pc' := 303) h dX12_init_322 (by decide) ?_
  refine y_iload_n h 0 dX12_init_303 rfl (rfl : 303 + 1 = 304) ?_
  refine y_iconst h 5 dX12_init_304 (by decide) (rfl : 304 + 1 = 305) ?_
  refine y_icmp_ge (pc' := 308) h 325 dX12_init_305 (by decide) rfl (fun _ => ?_) (fun q => absurd q (by decide))
  refine y_iinc h 1 3 [(1, .int 3), (2, .int 5), (0, .ref (za B 147))] dX12_init_325 rfl (by decide) (by decide) rfl (rfl : 325 + 3 = 328) ?_
  refine y_goto (pc' := 289) h dX12_init_328 (by decide) ?_
  refine y_iload_n h 0 dX12_init_289 rfl (rfl : 289 + 1 = 290) ?_
  refine y_iconst h 4 dX12_init_290 (by decide) (rfl : 290 + 1 = 291) ?_
  refine y_icmp_ge (pc' := 294) h 331 dX12_init_291 (by decide) rfl (fun q => absurd q (by decide)) (fun _ => ?_)
  refine y_aload_n h 2 dX12_init_294 rfl (rfl : 294 + 1 = 295) ?_
  refine y_get (ci := 11) (C := RX12) (T := TX12) (N := 46) h 18 (.ref (za B 158)) rfl rfl (fun _ hq => List.mem_cons_of_mem _ (List.mem_append_right _ hq)) (by decide) (List.mem_of_getElem? (i := 19) rfl) (zfs_ref rfl (by rfl)) dX12_init_295 (rfl : 295 + 3 = 298) ?_
  refine y_iload_n h 0 dX12_init_298 rfl (rfl : 298 + 1 = 299) ?_
  refine y_iconst h 5 dX12_init_299 (by decide) (rfl : 299 + 1 = 300) ?_
  refine y_iast h (by decide) rfl dX12_init_300 (rfl : 300 + 1 = 301) ?_
  refine y_iconst h 0 dX12_init_301 (by decide) (rfl : 301 + 1 = 302) ?_
  refine y_istore_n h [(2, .int 0), (1, .int 3), (0, .ref (za B 147))] dX12_init_302 (by decide) rfl (rfl : 302 + 1 = 303) ?_
  refine y_iload_n h 0 dX12_init_303 rfl (rfl : 303 + 1 = 304) ?_
  refine y_iconst h 5 dX12_init_304 (by decide) (rfl : 304 + 1 = 305) ?_
  refine y_icmp_ge (pc' := 308) h 325 dX12_init_305 (by decide) rfl (fun q => absurd q (by decide)) (fun _ => ?_)
  refine y_aload_n h 2 dX12_init_308 rfl (rfl : 308 + 1 = 309) ?_
  refine y_get (ci := 11) (C := RX12) (T := TX12) (N := 46) h 17 (.ref (za B 157)) rfl rfl (fun _ hq => List.mem_cons_of_mem _ (List.mem_append_right _ hq)) (by decide) (List.mem_of_getElem? (i := 18) rfl) (zfs_ref rfl (by rfl)) dX12_init_309 (rfl : 309 + 3 = 312) ?_
  refine y_iconst h 5 dX12_init_312 (by decide) (rfl : 312 + 1 = 313) ?_
  refine y_iload_n h 1 dX12_init_313 rfl (rfl : 313 + 1 = 314) ?_
  refine y_imul h dX12_init_314 (rfl : 314 + 1 = 315) ?_
  refine y_top 15 (by decide) ?_
  refine y_iload_n h 0 dX12_init_315 rfl (rfl : 315 + 1 = 316) ?_
  refine y_iadd h dX12_init_316 (rfl : 316 + 1 = 317) ?_
  refine y_top 15 (by decide) ?_
  refine y_iload_n h 0 dX12_init_317 rfl (rfl : 317 + 1 = 318) ?_
  refine y_iast h (by decide) rfl dX12_init_318 (rfl : 318 + 1 = 319) ?_
  refine y_iinc h 0 1 [(2, .int 1), (1, .int 3), (0, .ref (za B 147))] dX12_init_319 rfl (by decide) (by decide) rfl (rfl : 319 + 3 = 322) ?_
  refine y_goto (pc' := 303) h dX12_init_322 (by decide) ?_
  refine y_iload_n h 0 dX12_init_303 rfl (rfl : 303 + 1 = 304) ?_
  refine y_iconst h 5 dX12_init_304 (by decide) (rfl : 304 + 1 = 305) ?_
  refine y_icmp_ge (pc' := 308) h 325 dX12_init_305 (by decide) rfl (fun q => absurd q (by decide)) (fun _ => ?_)
  refine y_aload_n h 2 dX12_init_308 rfl (rfl : 308 + 1 = 309) ?_
  refine y_get (ci := 11) (C := RX12) (T := TX12) (N := 46) h 17 (.ref (za B 157)) rfl rfl (fun _ hq => List.mem_cons_of_mem _ (List.mem_append_right _ hq)) (by decide) (List.mem_of_getElem? (i := 18) rfl) (zfs_ref rfl (by rfl)) dX12_init_309 (rfl : 309 + 3 = 312) ?_
  refine y_iconst h 5 dX12_init_312 (by decide) (rfl : 312 + 1 = 313) ?_
  refine y_iload_n h 1 dX12_init_313 rfl (rfl : 313 + 1 = 314) ?_
  refine y_imul h dX12_init_314 (rfl : 314 + 1 = 315) ?_
  refine y_top 15 (by decide) ?_
  refine y_iload_n h 0 dX12_init_315 rfl (rfl : 315 + 1 = 316) ?_
  refine y_iadd h dX12_init_316 (rfl : 316 + 1 = 317) ?_
  refine y_top 16 (by decide) ?_
  refine y_iload_n h 0 dX12_init_317 rfl (rfl : 317 + 1 = 318) ?_
  refine y_iast h (by decide) rfl dX12_init_318 (rfl : 318 + 1 = 319) ?_
  refine y_iinc h 0 2 [(2, .int 2), (1, .int 3), (0, .ref (za B 147))] dX12_init_319 rfl (by decide) (by decide) rfl (rfl : 319 + 3 = 322) ?_
  refine y_goto (pc' := 303) h dX12_init_322 (by decide) ?_
  refine y_iload_n h 0 dX12_init_303 rfl (rfl : 303 + 1 = 304) ?_
  refine y_iconst h 5 dX12_init_304 (by decide) (rfl : 304 + 1 = 305) ?_
  refine y_icmp_ge (pc' := 308) h 325 dX12_init_305 (by decide) rfl (fun q => absurd q (by decide)) (fun _ => ?_)
  refine y_aload_n h 2 dX12_init_308 rfl (rfl : 308 + 1 = 309) ?_
  refine y_get (ci := 11) (C := RX12) (T := TX12) (N := 46) h 17 (.ref (za B 157)) rfl rfl (fun _ hq => List.mem_cons_of_mem _ (List.mem_append_right _ hq)) (by decide) (List.mem_of_getElem? (i := 18) rfl) (zfs_ref rfl (by rfl)) dX12_init_309 (rfl : 309 + 3 = 312) ?_
  refine y_iconst h 5 dX12_init_312 (by decide) (rfl : 312 + 1 = 313) ?_
  refine y_iload_n h 1 dX12_init_313 rfl (rfl : 313 + 1 = 314) ?_
  refine y_imul h dX12_init_314 (rfl : 314 + 1 = 315) ?_
  refine y_top 15 (by decide) ?_
  refine y_iload_n h 0 dX12_init_315 rfl (rfl : 315 + 1 = 316) ?_
  refine y_iadd h dX12_init_316 (rfl : 316 + 1 = 317) ?_
  refine y_top 17 (by decide) ?_
  refine y_iload_n h 0 dX12_init_317 rfl (rfl : 317 + 1 = 318) ?_
  refine y_iast h (by decide) rfl dX12_init_318 (rfl : 318 + 1 = 319) ?_
  refine y_iinc h 0 3 [(2, .int 3), (1, .int 3), (0, .ref (za B 147))] dX12_init_319 rfl (by decide) (by decide) rfl (rfl : 319 + 3 = 322) ?_
  refine y_goto (pc' := 303) h dX12_init_322 (by decide) ?_
  refine y_iload_n h 0 dX12_init_303 rfl (rfl : 303 + 1 = 304) ?_
  refine y_iconst h 5 dX12_init_304 (by decide) (rfl : 304 + 1 = 305) ?_
  refine y_icmp_ge (pc' := 308) h 325 dX12_init_305 (by decide) rfl (fun q => absurd q (by decide)) (fun _ => ?_)
  refine y_aload_n h 2 dX12_init_308 rfl (rfl : 308 + 1 = 309) ?_
  refine y_get (ci := 11) (C := RX12) (T := TX12) (N := 46) h 17 (.ref (za B 157)) rfl rfl (fun _ hq => List.mem_cons_of_mem _ (List.mem_append_right _ hq)) (by decide) (List.mem_of_getElem? (i := 18) rfl) (zfs_ref rfl (by rfl)) dX12_init_309 (rfl : 309 + 3 = 312) ?_
  refine y_iconst h 5 dX12_init_312 (by decide) (rfl : 312 + 1 = 313) ?_
  refine y_iload_n h 1 dX12_init_313 rfl (rfl : 313 + 1 = 314) ?_
  refine y_imul h dX12_init_314 (rfl : 314 + 1 = 315) ?_
  refine y_top 15 (by decide) ?_
  refine y_iload_n h 0 dX12_init_315 rfl (rfl : 315 + 1 = 316) ?_
  refine y_iadd h dX12_init_316 (rfl : 316 + 1 = 317) ?_
  refine y_top 18 (by decide) ?_
  refine y_iload_n h 0 dX12_init_317 rfl (rfl : 317 + 1 = 318) ?_
  refine y_iast h (by decide) rfl dX12_init_318 (rfl : 318 + 1 = 319) ?_
  refine y_iinc h 0 4 [(2, .int 4), (1, .int 3), (0, .ref (za B 147))] dX12_init_319 rfl (by decide) (by decide) rfl (rfl : 319 + 3 = 322) ?_
  refine y_goto (pc' := 303) h dX12_init_322 (by decide) ?_
  refine y_iload_n h 0 dX12_init_303 rfl (rfl : 303 + 1 = 304) ?_
  refine y_iconst h 5 dX12_init_304 (by decide) (rfl : 304 + 1 = 305) ?_
  refine y_icmp_ge (pc' := 308) h 325 dX12_init_305 (by decide) rfl (fun q => absurd q (by decide)) (fun _ => ?_)
  refine y_aload_n h 2 dX12_init_308 rfl (rfl : 308 + 1 = 309) ?_
  refine y_get (ci := 11) (C := RX12) (T := TX12) (N := 46) h 17 (.ref (za B 157)) rfl rfl (fun _ hq => List.mem_cons_of_mem _ (List.mem_append_right _ hq)) (by decide) (List.mem_of_getElem? (i := 18) rfl) (zfs_ref rfl (by rfl)) dX12_init_309 (rfl : 309 + 3 = 312) ?_
  refine y_iconst h 5 dX12_init_312 (by decide) (rfl : 312 + 1 = 313) ?_
  refine y_iload_n h 1 dX12_init_313 rfl (rfl : 313 + 1 = 314) ?_
  refine y_imul h dX12_init_314 (rfl : 314 + 1 = 315) ?_
  refine y_top 15 (by decide) ?_
  refine y_iload_n h 0 dX12_init_315 rfl (rfl : 315 + 1 = 316) ?_
  refine y_iadd h dX12_init_316 (rfl : 316 + 1 = 317) ?_
  refine y_top 19 (by decide) ?_
  refine y_iload_n h 0 dX12_init_317 rfl (rfl : 317 + 1 = 318) ?_
  refine y_iast h (by decide) rfl dX12_init_318 (rfl : 318 + 1 = 319) ?_
  refine y_iinc h 0 5 [(2, .int 5), (1, .int 3), (0, .ref (za B 147))] dX12_init_319 rfl (by decide) (by decide) rfl (rfl : 319 + 3 = 322) ?_
  refine y_goto (pc' := 303) h dX12_init_322 (by decide) ?_
  refine y_iload_n h 0 dX12_init_303 rfl (rfl : 303 + 1 = 304) ?_
  refine y_iconst h 5 dX12_init_304 (by decide) (rfl : 304 + 1 = 305) ?_
  refine y_icmp_ge (pc' := 308) h 325 dX12_init_305 (by decide) rfl (fun _ => ?_) (fun q => absurd q (by decide))
  refine y_iinc h 1 4 [(1, .int 4), (2, .int 5), (0, .ref (za B 147))] dX12_init_325 rfl (by decide) (by decide) rfl (rfl : 325 + 3 = 328) ?_
  refine y_goto (pc' := 289) h dX12_init_328 (by decide) ?_
  refine y_iload_n h 0 dX12_init_289 rfl (rfl : 289 + 1 = 290) ?_
  refine y_iconst h 4 dX12_init_290 (by decide) (rfl : 290 + 1 = 291) ?_
  refine y_icmp_ge (pc' := 294) h 331 dX12_init_291 (by decide) rfl (fun _ => ?_) (fun q => absurd q (by decide))
  exact y_ret h hr rfl rfl rfl rfl dX12_init_331
