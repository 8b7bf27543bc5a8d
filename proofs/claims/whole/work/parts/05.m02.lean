noncomputable def f_X11_figure (J : zJ) (v0 : Int32) (v1 : Int32) (v2 : Int32) (I : zM) : Option (Int32 × zM) := (if v0 - (48 : Int32) < v1 then some (((-9), I)) else (if v2 < v0 - (48 : Int32) then some (((-9), I)) else some ((v0 - (48 : Int32), I))))
noncomputable abbrev rmX11_figure : Room := { frames := 0, cells := 0, slots := 0, locals := 0 }
theorem zyX11_figure : zY yX11_figure wsX11_figure cX11_figure 4 (some .int) 3 := ⟨⟨_, rfl⟩, by decide +kernel⟩
set_option maxHeartbeats 1000000 in
set_option maxRecDepth 100000 in
theorem c_X11_figure (B : zB) (I : zM) (J : zJ) (hJ : zJok J) (v0 : Int32) (v1 : Int32) (v2 : Int32) (r : Int32) (I' : zM) (hf : f_X11_figure J v0 v1 v2 I = some (r, I')) : zCi B zKW I J yX11_figure wsX11_figure rmX11_figure [.int v0, .int v1, .int v2] (fun r2 I2 J2 => r2 = r ∧ I2 = I' ∧ J2 = J) := by
  refine z_start (own := RX11) (cc := cX11_figure) (nL := 4) (ret := (some .int)) rfl (by decide) rfl (Nat.le_of_ble_eq_true rfl) (L := [(0, .int v0), (1, .int v1), (2, .int v2)]) rfl (fun G h hr => ?_)
  rw [f_X11_figure] at hf
  refine z_iload_n h 0 dX11_figure_0 rfl (rfl : 0 + 1 = 1) ?_
  refine z_bipush h 48 dX11_figure_1 (by decide) (rfl : 1 + 2 = 3) ?_
  refine z_isub h dX11_figure_3 (rfl : 3 + 1 = 4) ?_
  refine z_istore_n h [(3, .int (v0 - (48 : Int32))), (0, .int v0), (1, .int v1), (2, .int v2)] dX11_figure_4 (by decide) rfl (rfl : 4 + 1 = 5) ?_
  refine z_iload_n h 0 dX11_figure_5 rfl (rfl : 5 + 1 = 6) ?_
  refine z_iload_n h 2 dX11_figure_6 rfl (rfl : 6 + 1 = 7) ?_
  refine z_icmp_lt (pc' := 10) h 19 dX11_figure_7 (by decide) rfl (fun c1 => ?_) (fun c1 => ?_)
  · have hf := zitt c1 hf
    refine z_bipush h (-9) dX11_figure_19 (by decide) (rfl : 19 + 2 = 21) ?_
    refine z_iret h hr dX11_figure_21 ?_
    exact ⟨congrArg Prod.fst (zsome hf), congrArg Prod.snd (zsome hf), rfl⟩
  · have hf := zitf c1 hf
    refine z_iload_n h 0 dX11_figure_10 rfl (rfl : 10 + 1 = 11) ?_
    refine z_iload_n h 3 dX11_figure_11 rfl (rfl : 11 + 1 = 12) ?_
    refine z_icmp_gt (pc' := 15) h 19 dX11_figure_12 (by decide) rfl (fun c2 => ?_) (fun c2 => ?_)
    · have hf := zitt c2 hf
      refine z_bipush h (-9) dX11_figure_19 (by decide) (rfl : 19 + 2 = 21) ?_
      refine z_iret h hr dX11_figure_21 ?_
      exact ⟨congrArg Prod.fst (zsome hf), congrArg Prod.snd (zsome hf), rfl⟩
    · have hf := zitf c2 hf
      refine z_iload_n h 0 dX11_figure_15 rfl (rfl : 15 + 1 = 16) ?_
      refine z_goto (pc' := 21) h dX11_figure_16 (by decide) ?_
      refine z_iret h hr dX11_figure_21 ?_
      exact ⟨congrArg Prod.fst (zsome hf), congrArg Prod.snd (zsome hf), rfl⟩
noncomputable def f_X6_acceptBehindIf (J : zJ) (v0 : Int32) (I : zM) : Option (Int32 × zM) := (if v0 = 64 then some ((9, I)) else some (((-9), I)))
noncomputable abbrev rmX6_acceptBehindIf : Room := { frames := 0, cells := 0, slots := 0, locals := 0 }
theorem zyX6_acceptBehindIf : zY yX6_acceptBehindIf wsX6_acceptBehindIf cX6_acceptBehindIf 1 (some .int) 1 := ⟨⟨_, rfl⟩, by decide +kernel⟩
set_option maxHeartbeats 1000000 in
set_option maxRecDepth 100000 in
theorem c_X6_acceptBehindIf (B : zB) (I : zM) (J : zJ) (hJ : zJok J) (v0 : Int32) (r : Int32) (I' : zM) (hf : f_X6_acceptBehindIf J v0 I = some (r, I')) : zCi B zKW I J yX6_acceptBehindIf wsX6_acceptBehindIf rmX6_acceptBehindIf [.int v0] (fun r2 I2 J2 => r2 = r ∧ I2 = I' ∧ J2 = J) := by
  refine z_start (own := RX6) (cc := cX6_acceptBehindIf) (nL := 1) (ret := (some .int)) rfl (by decide) rfl (Nat.le_of_ble_eq_true rfl) (L := [(0, .int v0)]) rfl (fun G h hr => ?_)
  rw [f_X6_acceptBehindIf] at hf
  refine z_iload_n h 0 dX6_acceptBehindIf_0 rfl (rfl : 0 + 1 = 1) ?_
  refine z_bipush h 64 dX6_acceptBehindIf_1 (by decide) (rfl : 1 + 2 = 3) ?_
  refine z_icmp_ne (pc' := 6) h 11 dX6_acceptBehindIf_3 (by decide) rfl (fun c1 => ?_) (fun c1 => ?_)
  · have hf := zitf c1 hf
    refine z_bipush h (-9) dX6_acceptBehindIf_11 (by decide) (rfl : 11 + 2 = 13) ?_
    refine z_iret h hr dX6_acceptBehindIf_13 ?_
    exact ⟨congrArg Prod.fst (zsome hf), congrArg Prod.snd (zsome hf), rfl⟩
  · have hf := zitt c1 hf
    refine z_bipush h 9 dX6_acceptBehindIf_6 (by decide) (rfl : 6 + 2 = 8) ?_
    refine z_goto (pc' := 13) h dX6_acceptBehindIf_8 (by decide) ?_
    refine z_iret h hr dX6_acceptBehindIf_13 ?_
    exact ⟨congrArg Prod.fst (zsome hf), congrArg Prod.snd (zsome hf), rfl⟩
noncomputable def f_X6_isWhole (J : zJ) (p0 : Nat) (v1 : Int32) (I : zM) : Option (Int32 × zM) := (if v1 = 4 then some ((1, I)) else (if v1 = 8 then some ((1, I)) else (if v1 = 10 then some ((1, I)) else some ((0, I)))))
noncomputable abbrev rmX6_isWhole : Room := { frames := 0, cells := 0, slots := 0, locals := 0 }
theorem zyX6_isWhole : zY yX6_isWhole wsX6_isWhole cX6_isWhole 2 (some .boolean) 1 := ⟨⟨_, rfl⟩, by decide +kernel⟩
set_option maxHeartbeats 1000000 in
set_option maxRecDepth 100000 in
theorem c_X6_isWhole (B : zB) (I : zM) (J : zJ) (hJ : zJok J) (p0 : Nat) (k0 : zKW[p0]? = some (.inr 6)) (v1 : Int32) (r : Int32) (I' : zM) (hf : f_X6_isWhole J p0 v1 I = some (r, I')) : zCi B zKW I J yX6_isWhole wsX6_isWhole rmX6_isWhole [.ref (za B p0), .int v1] (fun r2 I2 J2 => r2 = r ∧ I2 = I' ∧ J2 = J) := by
  refine z_start (own := RX6) (cc := cX6_isWhole) (nL := 2) (ret := (some .boolean)) rfl (by decide) rfl (Nat.le_of_ble_eq_true rfl) (L := [(0, .ref (za B p0)), (1, .int v1)]) rfl (fun G h hr => ?_)
  rw [f_X6_isWhole] at hf
  refine z_iload_n h 1 dX6_isWhole_0 rfl (rfl : 0 + 1 = 1) ?_
  refine z_iconst h 4 dX6_isWhole_1 (by decide) (rfl : 1 + 1 = 2) ?_
  refine z_icmp_eq (pc' := 5) h 17 dX6_isWhole_2 (by decide) rfl (fun c1 => ?_) (fun c1 => ?_)
  · have hf := zitt c1 hf
    refine z_iconst h 1 dX6_isWhole_17 (by decide) (rfl : 17 + 1 = 18) ?_
    refine z_goto (pc' := 22) h dX6_isWhole_18 (by decide) ?_
    refine z_zret h hr dX6_isWhole_22 (Or.inr rfl) ?_
    exact ⟨congrArg Prod.fst (zsome hf), congrArg Prod.snd (zsome hf), rfl⟩
  · have hf := zitf c1 hf
    refine z_iload_n h 1 dX6_isWhole_5 rfl (rfl : 5 + 1 = 6) ?_
    refine z_bipush h 8 dX6_isWhole_6 (by decide) (rfl : 6 + 2 = 8) ?_
    refine z_icmp_eq (pc' := 11) h 17 dX6_isWhole_8 (by decide) rfl (fun c2 => ?_) (fun c2 => ?_)
    · have hf := zitt c2 hf
      refine z_iconst h 1 dX6_isWhole_17 (by decide) (rfl : 17 + 1 = 18) ?_
      refine z_goto (pc' := 22) h dX6_isWhole_18 (by decide) ?_
      refine z_zret h hr dX6_isWhole_22 (Or.inr rfl) ?_
      exact ⟨congrArg Prod.fst (zsome hf), congrArg Prod.snd (zsome hf), rfl⟩
    · have hf := zitf c2 hf
      refine z_iload_n h 1 dX6_isWhole_11 rfl (rfl : 11 + 1 = 12) ?_
      refine z_bipush h 10 dX6_isWhole_12 (by decide) (rfl : 12 + 2 = 14) ?_
      refine z_icmp_ne (pc' := 17) h 21 dX6_isWhole_14 (by decide) rfl (fun c3 => ?_) (fun c3 => ?_)
      · have hf := zitf c3 hf
        refine z_iconst h 0 dX6_isWhole_21 (by decide) (rfl : 21 + 1 = 22) ?_
        refine z_zret h hr dX6_isWhole_22 (Or.inl rfl) ?_
        exact ⟨congrArg Prod.fst (zsome hf), congrArg Prod.snd (zsome hf), rfl⟩
      · have hf := zitt c3 hf
        refine z_iconst h 1 dX6_isWhole_17 (by decide) (rfl : 17 + 1 = 18) ?_
        refine z_goto (pc' := 22) h dX6_isWhole_18 (by decide) ?_
        refine z_zret h hr dX6_isWhole_22 (Or.inr rfl) ?_
        exact ⟨congrArg Prod.fst (zsome hf), congrArg Prod.snd (zsome hf), rfl⟩
noncomputable def f_X6_tells (J : zJ) (p0 : Nat) (v1 : Int32) (I : zM) : Option (Int32 × zM) := (if v1 = 0 then some ((I p0 0, I)) else (if v1 = 1 then some ((I p0 1, I)) else (if v1 = 2 then some ((I p0 2, I)) else (if v1 = 3 then some ((I p0 3, I)) else (if v1 = 4 then some ((I p0 4, I)) else (if v1 = 5 then some ((I p0 5, I)) else some (((-2), I))))))))
noncomputable abbrev rmX6_tells : Room := { frames := 0, cells := 0, slots := 0, locals := 0 }
theorem zyX6_tells : zY yX6_tells wsX6_tells cX6_tells 2 (some .int) 1 := ⟨⟨_, rfl⟩, by decide +kernel⟩
set_option maxHeartbeats 1000000 in
set_option maxRecDepth 100000 in
theorem c_X6_tells (B : zB) (I : zM) (J : zJ) (hJ : zJok J) (p0 : Nat) (k0 : zKW[p0]? = some (.inr 6)) (v1 : Int32) (r : Int32) (I' : zM) (hf : f_X6_tells J p0 v1 I = some (r, I')) : zCi B zKW I J yX6_tells wsX6_tells rmX6_tells [.ref (za B p0), .int v1] (fun r2 I2 J2 => r2 = r ∧ I2 = I' ∧ J2 = J) := by
  refine z_start (own := RX6) (cc := cX6_tells) (nL := 2) (ret := (some .int)) rfl (by decide) rfl (Nat.le_of_ble_eq_true rfl) (L := [(0, .ref (za B p0)), (1, .int v1)]) rfl (fun G h hr => ?_)
  rw [f_X6_tells] at hf
  refine z_iload_n h 1 dX6_tells_0 rfl (rfl : 0 + 1 = 1) ?_
  by_cases c1 : v1 = 0
  · have hf := zitt c1 hf
    refine z_tabIn h 40 dX6_tells_1 (by rw [c1]; decide) (by rw [c1]; decide) (by rw [c1]; rfl) (by decide) ?_
    refine z_aload_n h 0 dX6_tells_40 rfl (rfl : 40 + 1 = 41) ?_
    refine z_get (ci := 6) (C := RX6) (T := TX6) (N := 6) h 0 k0 rfl (fun _ hq => List.mem_cons_of_mem _ (List.mem_append_right _ hq)) (by decide) (List.mem_of_getElem? (i := 1) rfl) rfl dX6_tells_41 (rfl : 41 + 3 = 44) ?_
    refine z_iret h hr dX6_tells_44 ?_
    exact ⟨congrArg Prod.fst (zsome hf), congrArg Prod.snd (zsome hf), rfl⟩
  have hf := zitf c1 hf
  by_cases c2 : v1 = 1
  · have hf := zitt c2 hf
    refine z_tabIn h 45 dX6_tells_1 (by rw [c2]; decide) (by rw [c2]; decide) (by rw [c2]; rfl) (by decide) ?_
    refine z_aload_n h 0 dX6_tells_45 rfl (rfl : 45 + 1 = 46) ?_
    refine z_get (ci := 6) (C := RX6) (T := TX6) (N := 6) h 1 k0 rfl (fun _ hq => List.mem_cons_of_mem _ (List.mem_append_right _ hq)) (by decide) (List.mem_of_getElem? (i := 2) rfl) rfl dX6_tells_46 (rfl : 46 + 3 = 49) ?_
    refine z_iret h hr dX6_tells_49 ?_
    exact ⟨congrArg Prod.fst (zsome hf), congrArg Prod.snd (zsome hf), rfl⟩
  have hf := zitf c2 hf
  by_cases c3 : v1 = 2
  · have hf := zitt c3 hf
    refine z_tabIn h 50 dX6_tells_1 (by rw [c3]; decide) (by rw [c3]; decide) (by rw [c3]; rfl) (by decide) ?_
    refine z_aload_n h 0 dX6_tells_50 rfl (rfl : 50 + 1 = 51) ?_
    refine z_get (ci := 6) (C := RX6) (T := TX6) (N := 6) h 2 k0 rfl (fun _ hq => List.mem_cons_of_mem _ (List.mem_append_right _ hq)) (by decide) (List.mem_of_getElem? (i := 3) rfl) rfl dX6_tells_51 (rfl : 51 + 3 = 54) ?_
    refine z_iret h hr dX6_tells_54 ?_
    exact ⟨congrArg Prod.fst (zsome hf), congrArg Prod.snd (zsome hf), rfl⟩
  have hf := zitf c3 hf
  by_cases c4 : v1 = 3
  · have hf := zitt c4 hf
    refine z_tabIn h 55 dX6_tells_1 (by rw [c4]; decide) (by rw [c4]; decide) (by rw [c4]; rfl) (by decide) ?_
    refine z_aload_n h 0 dX6_tells_55 rfl (rfl : 55 + 1 = 56) ?_
    refine z_get (ci := 6) (C := RX6) (T := TX6) (N := 6) h 3 k0 rfl (fun _ hq => List.mem_cons_of_mem _ (List.mem_append_right _ hq)) (by decide) (List.mem_of_getElem? (i := 4) rfl) rfl dX6_tells_56 (rfl : 56 + 3 = 59) ?_
    refine z_iret h hr dX6_tells_59 ?_
    exact ⟨congrArg Prod.fst (zsome hf), congrArg Prod.snd (zsome hf), rfl⟩
  have hf := zitf c4 hf
  by_cases c5 : v1 = 4
  · have hf := zitt c5 hf
    refine z_tabIn h 60 dX6_tells_1 (by rw [c5]; decide) (by rw [c5]; decide) (by rw [c5]; rfl) (by decide) ?_
    refine z_aload_n h 0 dX6_tells_60 rfl (rfl : 60 + 1 = 61) ?_
    refine z_get (ci := 6) (C := RX6) (T := TX6) (N := 6) h 4 k0 rfl (fun _ hq => List.mem_cons_of_mem _ (List.mem_append_right _ hq)) (by decide) (List.mem_of_getElem? (i := 5) rfl) rfl dX6_tells_61 (rfl : 61 + 3 = 64) ?_
    refine z_iret h hr dX6_tells_64 ?_
    exact ⟨congrArg Prod.fst (zsome hf), congrArg Prod.snd (zsome hf), rfl⟩
  have hf := zitf c5 hf
  by_cases c6 : v1 = 5
  · have hf := zitt c6 hf
    refine z_tabIn h 65 dX6_tells_1 (by rw [c6]; decide) (by rw [c6]; decide) (by rw [c6]; rfl) (by decide) ?_
    refine z_aload_n h 0 dX6_tells_65 rfl (rfl : 65 + 1 = 66) ?_
    refine z_get (ci := 6) (C := RX6) (T := TX6) (N := 6) h 5 k0 rfl (fun _ hq => List.mem_cons_of_mem _ (List.mem_append_right _ hq)) (by decide) (List.mem_of_getElem? (i := 6) rfl) rfl dX6_tells_66 (rfl : 66 + 3 = 69) ?_
    refine z_iret h hr dX6_tells_69 ?_
    exact ⟨congrArg Prod.fst (zsome hf), congrArg Prod.snd (zsome hf), rfl⟩
  have hf := zitf c6 hf
  refine z_tabOut h 70 dX6_tells_1 (zt_6 c1 c2 c3 c4 c5 c6) (by decide) ?_
  refine z_bipush h (-2) dX6_tells_70 (by decide) (rfl : 70 + 2 = 72) ?_
  refine z_iret h hr dX6_tells_72 ?_
  exact ⟨congrArg Prod.fst (zsome hf), congrArg Prod.snd (zsome hf), rfl⟩
noncomputable def f_X7_spare (J : zJ)  (I : zM) : Option (Nat × zM) := (if zin (I 18 1) 13 = true then some ((zrp J (Int32.toNatClampNeg (I 18 1)), I)) else none)
noncomputable abbrev rmX7_spare : Room := { frames := 0, cells := 0, slots := 0, locals := 0 }
theorem zyX7_spare : zY yX7_spare wsX7_spare cX7_spare 1 (some (.object "LeftOut$Rule")) 0 := ⟨⟨_, rfl⟩, by decide +kernel⟩
set_option maxHeartbeats 1000000 in
set_option maxRecDepth 100000 in
theorem c_X7_spare (B : zB) (I : zM) (J : zJ) (hJ : zJok J)  (r : Nat) (I' : zM) (hf : f_X7_spare J  I = some (r, I')) : zCr B zKW I J yX7_spare wsX7_spare rmX7_spare [.ref (za B 18)] (fun r2 I2 J2 => r2 = r ∧ I2 = I' ∧ J2 = J) := by
  refine z_start (own := RX7) (cc := cX7_spare) (nL := 1) (ret := (some (.object "LeftOut$Rule"))) rfl (by decide) rfl (Nat.le_of_ble_eq_true rfl) (L := [(0, .ref (za B 18))]) rfl (fun G h hr => ?_)
  rw [f_X7_spare] at hf
  refine z_aload_n h 0 dX7_spare_0 rfl (rfl : 0 + 1 = 1) ?_
  refine z_getr (ci := 7) (C := RX7) (T := TX7) (N := 2) h 0 19 ((hJ.1 18 0 (by decide)).trans rfl) rfl rfl (fun _ hq => List.mem_cons_of_mem _ (List.mem_append_right _ hq)) (by decide) (List.mem_of_getElem? (i := 1) rfl) rfl dX7_spare_1 (rfl : 1 + 3 = 4) ?_
  refine z_aload_n h 0 dX7_spare_4 rfl (rfl : 4 + 1 = 5) ?_
  refine z_get (ci := 7) (C := RX7) (T := TX7) (N := 2) h 1 rfl rfl (fun _ hq => List.mem_cons_of_mem _ (List.mem_append_right _ hq)) (by decide) (List.mem_of_getElem? (i := 2) rfl) rfl dX7_spare_5 (rfl : 5 + 3 = 8) ?_
  obtain ⟨b1, hf⟩ := zchk hf
  refine z_aldq h (zrp J (Int32.toNatClampNeg (I 18 1))) (zf_rows hJ (zin_lt b1)).1 rfl (by decide) rfl b1 dX7_spare_8 (rfl : 8 + 1 = 9) ?_
  refine z_aret h hr dX7_spare_9 ?_
  exact ⟨congrArg Prod.fst (zsome hf), congrArg Prod.snd (zsome hf), rfl⟩
theorem k_X7_spare {J : zJ} {I : zM} {q : Nat × zM} (hJ : zJok J) (e : f_X7_spare J I = some q) : zKW[q.1]? = some (.inr 6) := by
  rw [f_X7_spare] at e
  obtain ⟨b, e⟩ := zchk e
  rw [← zsome e]
  exact (zf_rows hJ (zin_lt b)).2
noncomputable def f_X7_remove_19 (u1 : Int32) (r2 : Nat) : Nat → Int32 → zM → zJ → Option ((zM × zJ) ⊕ (Int32 × zM × zJ))
  | 0, _, _, _ => none
  | n + 1, x3_19, I19, J19 => (if I19 18 1 ≤ x3_19 then some (.inr (x3_19, I19, J19)) else (if zin (x3_19 + (1 : Int32)) 13 = true then (if zin x3_19 13 = true then f_X7_remove_19 u1 r2 n (x3_19 + 1) I19 (zuJ J19 19 (Int32.toNatClampNeg x3_19) (some (zrp J19 (Int32.toNatClampNeg (x3_19 + (1 : Int32)))))) else none) else none))
noncomputable def f_X7_remove (J : zJ) (v1 : Int32) (I : zM) : Option (zM × zJ) := (if zin v1 13 = true then ((f_X7_remove_19 v1 (zrp J (Int32.toNatClampNeg v1)) zF v1 (zu I 18 1 ((I 18 1) - (1 : Int32))) J).bind fun q => Sum.elim (fun a => some a) (fun a4 => (if zin (a4.2.1 18 1) 13 = true then some ((a4.2.1, zuJ a4.2.2 19 (Int32.toNatClampNeg (a4.2.1 18 1)) (some (zrp J (Int32.toNatClampNeg v1))))) else none)) q) else none)
noncomputable abbrev rmX7_remove : Room := { frames := 0, cells := 0, slots := 0, locals := 0 }
theorem zyX7_remove : zY yX7_remove wsX7_remove cX7_remove 4 none 1 := ⟨⟨_, rfl⟩, by decide +kernel⟩
set_option maxHeartbeats 1000000 in
set_option maxRecDepth 100000 in
theorem c_X7_remove (B : zB) (I : zM) (J : zJ) (hJ : zJok J) (v1 : Int32) (I' : zM) (J' : zJ) (hf : f_X7_remove J v1 I = some (I', J')) : zCv B zKW I J yX7_remove wsX7_remove rmX7_remove [.ref (za B 18), .int v1] (fun I2 J2 => I2 = I' ∧ J2 = J') := by
  refine z_start (own := RX7) (cc := cX7_remove) (nL := 4) (ret := none) rfl (by decide) rfl (Nat.le_of_ble_eq_true rfl) (L := [(0, .ref (za B 18)), (1, .int v1)]) rfl (fun G h hr => ?_)
  rw [f_X7_remove] at hf
  refine z_aload_n h 0 dX7_remove_0 rfl (rfl : 0 + 1 = 1) ?_
  refine z_getr (ci := 7) (C := RX7) (T := TX7) (N := 2) h 0 19 ((hJ.1 18 0 (by decide)).trans rfl) rfl rfl (fun _ hq => List.mem_cons_of_mem _ (List.mem_append_right _ hq)) (by decide) (List.mem_of_getElem? (i := 1) rfl) rfl dX7_remove_1 (rfl : 1 + 3 = 4) ?_
  refine z_iload_n h 1 dX7_remove_4 rfl (rfl : 4 + 1 = 5) ?_
  obtain ⟨b1, hf⟩ := zchk hf
  refine z_aldq h (zrp J (Int32.toNatClampNeg v1)) (zf_rows hJ (zin_lt b1)).1 rfl (by decide) rfl b1 dX7_remove_5 (rfl : 5 + 1 = 6) ?_
  refine z_astore_n h [(2, .ref (za B (zrp J (Int32.toNatClampNeg v1)))), (0, .ref (za B 18)), (1, .int v1)] dX7_remove_6 (by decide) rfl (rfl : 6 + 1 = 7) ?_
  refine z_aload_n h 1 dX7_remove_7 rfl (rfl : 7 + 1 = 8) ?_
  refine z_dup h rfl dX7_remove_8 (rfl : 8 + 1 = 9) ?_
  refine z_get (ci := 7) (C := RX7) (T := TX7) (N := 2) h 1 rfl rfl (fun _ hq => List.mem_cons_of_mem _ (List.mem_append_right _ hq)) (by decide) (List.mem_of_getElem? (i := 2) rfl) rfl dX7_remove_9 (rfl : 9 + 3 = 12) ?_
  refine z_iconst h 1 dX7_remove_12 (by decide) (rfl : 12 + 1 = 13) ?_
  refine z_isub h dX7_remove_13 (rfl : 13 + 1 = 14) ?_
  refine z_put (ci := 7) (C := RX7) (T := TX7) (N := 2) h 1 tyX7 tyX7_ok nmX7 rfl rfl (fun _ hq => List.mem_cons_of_mem _ (List.mem_append_right _ hq)) (by decide) (List.mem_of_getElem? (i := 2) rfl) rfl rfl rfl dX7_remove_14 (rfl : 14 + 3 = 17) ?_
  refine z_iload_n h 2 dX7_remove_17 rfl (rfl : 17 + 1 = 18) ?_
  refine z_istore_n h [(3, .int v1), (2, .ref (za B (zrp J (Int32.toNatClampNeg v1)))), (0, .ref (za B 18)), (1, .int v1)] dX7_remove_18 (by decide) rfl (rfl : 18 + 1 = 19) ?_
  have loop_19_3 : ∀ (n : Nat) (x3_19 : Int32) (I19 : zM) (J19 : zJ) (hJn : zJok J19) (q : (zM × zJ) ⊕ (Int32 × zM × zJ)), f_X7_remove_19 v1 (zrp J (Int32.toNatClampNeg v1)) n x3_19 I19 J19 = some q → (∀ a, q = .inl a → a = (I', J')) → (∀ a : Int32 × zM × zJ, q = .inr a → zJok (a.2.2) → Z B G zKW (a.2.1) (a.2.2) (0, 0) 47 [(0, .ref (za B 18)), (1, .int v1), (2, .ref (za B (zrp J (Int32.toNatClampNeg v1)))), (3, .int a.1)] []) → Z B G zKW I19 J19 (0, 0) 19 [(0, .ref (za B 18)), (1, .int v1), (2, .ref (za B (zrp J (Int32.toNatClampNeg v1)))), (3, .int x3_19)] [] := by
    intro n; induction n with
    | zero => intro x3_19 I19 J19 hJn q hf; exact absurd hf (by rw [f_X7_remove_19]; exact fun z => by cases z)
    | succ n ih =>
      intro x3_19 I19 J19 hJn q hf hP hE; rw [f_X7_remove_19] at hf
      refine z_iload_n h 3 dX7_remove_19 rfl (rfl : 19 + 1 = 20) ?_
      refine z_aload_n h 0 dX7_remove_20 rfl (rfl : 20 + 1 = 21) ?_
      refine z_get (ci := 7) (C := RX7) (T := TX7) (N := 2) h 1 rfl rfl (fun _ hq => List.mem_cons_of_mem _ (List.mem_append_right _ hq)) (by decide) (List.mem_of_getElem? (i := 2) rfl) rfl dX7_remove_21 (rfl : 21 + 3 = 24) ?_
      refine z_icmp_ge (pc' := 27) h 47 dX7_remove_24 (by decide) rfl (fun c4 => ?_) (fun c4 => ?_)
      · have hf := zitt c4 hf
        exact hE (x3_19, I19, J19) (zsome hf).symm hJn
      · have hf := zitf c4 hf
        refine z_aload_n h 0 dX7_remove_27 rfl (rfl : 27 + 1 = 28) ?_
        refine z_getr (ci := 7) (C := RX7) (T := TX7) (N := 2) h 0 19 ((hJn.1 18 0 (by decide)).trans rfl) rfl rfl (fun _ hq => List.mem_cons_of_mem _ (List.mem_append_right _ hq)) (by decide) (List.mem_of_getElem? (i := 1) rfl) rfl dX7_remove_28 (rfl : 28 + 3 = 31) ?_
        refine z_iload_n h 3 dX7_remove_31 rfl (rfl : 31 + 1 = 32) ?_
        refine z_aload_n h 0 dX7_remove_32 rfl (rfl : 32 + 1 = 33) ?_
        refine z_getr (ci := 7) (C := RX7) (T := TX7) (N := 2) h 0 19 ((hJn.1 18 0 (by decide)).trans rfl) rfl rfl (fun _ hq => List.mem_cons_of_mem _ (List.mem_append_right _ hq)) (by decide) (List.mem_of_getElem? (i := 1) rfl) rfl dX7_remove_33 (rfl : 33 + 3 = 36) ?_
        refine z_iload_n h 3 dX7_remove_36 rfl (rfl : 36 + 1 = 37) ?_
        refine z_iconst h 1 dX7_remove_37 (by decide) (rfl : 37 + 1 = 38) ?_
        refine z_iadd h dX7_remove_38 (rfl : 38 + 1 = 39) ?_
        obtain ⟨b5, hf⟩ := zchk hf
        refine z_aldq h (zrp J19 (Int32.toNatClampNeg (x3_19 + (1 : Int32)))) (zf_rows hJn (zin_lt b5)).1 rfl (by decide) rfl b5 dX7_remove_39 (rfl : 39 + 1 = 40) ?_
        obtain ⟨b6, hf⟩ := zchk hf
        refine z_astq (ci := 6) h b6 rfl (zf_rows hJn (zin_lt b5)).2 (by decide) rfl rfl dX7_remove_40 (rfl : 40 + 1 = 41) ?_
        refine z_iinc h 3 (x3_19 + 1) [(3, .int (x3_19 + 1)), (0, .ref (za B 18)), (1, .int v1), (2, .ref (za B (zrp J (Int32.toNatClampNeg v1))))] dX7_remove_41 rfl rfl (by decide) rfl (rfl : 41 + 3 = 44) ?_
        refine z_goto (pc' := 19) h dX7_remove_44 (by decide) ?_
        refine z_sub (L' := [(0, .ref (za B 18)), (1, .int v1), (2, .ref (za B (zrp J (Int32.toNatClampNeg v1)))), (3, .int (x3_19 + 1))]) [1, 2, 3, 0] rfl ?_
        exact ih (x3_19 + 1) I19 (zuJ J19 19 (Int32.toNatClampNeg x3_19) (some (zrp J19 (Int32.toNatClampNeg (x3_19 + (1 : Int32)))))) (zJok_set hJn (zf_rows hJn (zin_lt b5)).2) _ hf hP hE
  refine z_sub (L' := [(0, .ref (za B 18)), (1, .int v1), (2, .ref (za B (zrp J (Int32.toNatClampNeg v1)))), (3, .int v1)]) [2, 3, 1, 0] rfl ?_
  obtain ⟨q2, e3, hf⟩ := zbind hf
  refine loop_19_3 _ v1 (zu I 18 1 ((I 18 1) - (1 : Int32))) J hJ q2 e3 (fun a ha => ?_) (fun a7 ha hJa7 => ?_)
  · have hf := zell ha hf
    exact zsome hf
  have hf := zelr ha hf
  clear ha loop_19_3
  refine z_aload_n h 0 dX7_remove_47 rfl (rfl : 47 + 1 = 48) ?_
  refine z_getr (ci := 7) (C := RX7) (T := TX7) (N := 2) h 0 19 ((hJa7.1 18 0 (by decide)).trans rfl) rfl rfl (fun _ hq => List.mem_cons_of_mem _ (List.mem_append_right _ hq)) (by decide) (List.mem_of_getElem? (i := 1) rfl) rfl dX7_remove_48 (rfl : 48 + 3 = 51) ?_
  refine z_aload_n h 0 dX7_remove_51 rfl (rfl : 51 + 1 = 52) ?_
  refine z_get (ci := 7) (C := RX7) (T := TX7) (N := 2) h 1 rfl rfl (fun _ hq => List.mem_cons_of_mem _ (List.mem_append_right _ hq)) (by decide) (List.mem_of_getElem? (i := 2) rfl) rfl dX7_remove_52 (rfl : 52 + 3 = 55) ?_
  refine z_aload_n h 2 dX7_remove_55 rfl (rfl : 55 + 1 = 56) ?_
  obtain ⟨b8, hf⟩ := zchk hf
  refine z_astq (ci := 6) h b8 rfl (zf_rows hJ (zin_lt b1)).2 (by decide) rfl rfl dX7_remove_56 (rfl : 56 + 1 = 57) ?_
  refine z_vret h hr dX7_remove_57 ?_
  exact ⟨congrArg Prod.fst (zsome hf), congrArg Prod.snd (zsome hf)⟩
theorem k_X7_remove_loop (u : Int32) (r : Nat) : ∀ (n : Nat) (x : Int32) (I : zM) (J : zJ) (q : (zM × zJ) ⊕ (Int32 × zM × zJ)), zJok J → f_X7_remove_19 u r n x I J = some q → (∀ a, q = .inl a → False) ∧ ∀ a, q = .inr a → zJok a.2.2 := by
  intro n; induction n with
  | zero => intro x I J q _ h; rw [f_X7_remove_19] at h; cases h
  | succ n ih =>
    intro x I J q hJ h; rw [f_X7_remove_19] at h
    by_cases c : I 18 1 ≤ x
    · have h := zsome (zitt c h)
      subst h
      exact ⟨fun a e => (by cases e), fun a e => (by cases e; exact hJ)⟩
    · have h := zitf c h
      obtain ⟨b1, h⟩ := zchk h
      obtain ⟨b2, h⟩ := zchk h
      exact ih _ _ _ _ (zJok_set hJ (zf_rows hJ (zin_lt b1)).2) h
theorem k_X7_remove {J : zJ} {v : Int32} {I : zM} {q : zM × zJ} (hJ : zJok J) (e : f_X7_remove J v I = some q) : zJok q.2 := by
  rw [f_X7_remove] at e
  obtain ⟨b, e⟩ := zchk e
  obtain ⟨q1, e1, e⟩ := zbind e
  obtain ⟨h1, h2⟩ := k_X7_remove_loop _ _ _ _ _ _ _ hJ e1
  cases q1 with
  | inl a => exact (h1 a rfl).elim
  | inr a =>
    have e := zelr rfl e
    obtain ⟨b2, e⟩ := zchk e
    rw [← zsome e]
    exact zJok_set (h2 a rfl) (zf_rows hJ (zin_lt b)).2
noncomputable def f_X8_clear_2 (J : zJ) (r0 : Nat) : Nat → Int32 → zM → Option ((zM) ⊕ (Int32 × zM))
  | 0, _, _ => none
  | n + 1, x1_2, I2 => (if 6 ≤ x1_2 then some (.inr (x1_2, I2)) else (if zin x1_2 6 = true then f_X8_clear_2 J r0 n (x1_2 + 1) (zu I2 (zR r0 0) (Int32.toNatClampNeg x1_2) 0) else none))
noncomputable def f_X8_clear (J : zJ) (p0 : Nat) (I : zM) : Option (zM) := ((f_X8_clear_2 J p0 zF 0 I).bind fun q => Sum.elim (fun a => some a) (fun a3 => some (zu a3.2 p0 1 0)) q)
noncomputable abbrev rmX8_clear : Room := { frames := 0, cells := 0, slots := 0, locals := 0 }
theorem zyX8_clear : zY yX8_clear wsX8_clear cX8_clear 2 none 0 := ⟨⟨_, rfl⟩, by decide +kernel⟩
set_option maxHeartbeats 1000000 in
set_option maxRecDepth 100000 in
theorem c_X8_clear (B : zB) (I : zM) (J : zJ) (hJ : zJok J) (p0 : Nat) (k0 : zKW[p0]? = some (.inr 8)) (I' : zM) (hf : f_X8_clear J p0 I = some I') : zCv B zKW I J yX8_clear wsX8_clear rmX8_clear [.ref (za B p0)] (fun I2 J2 => I2 = I' ∧ J2 = J) := by
  refine z_start (own := RX8) (cc := cX8_clear) (nL := 2) (ret := none) rfl (by decide) rfl (Nat.le_of_ble_eq_true rfl) (L := [(0, .ref (za B p0))]) rfl (fun G h hr => ?_)
  rw [f_X8_clear] at hf
  refine z_iconst h 0 dX8_clear_0 (by decide) (rfl : 0 + 1 = 1) ?_
  refine z_istore_n h [(1, .int 0), (0, .ref (za B p0))] dX8_clear_1 (by decide) rfl (rfl : 1 + 1 = 2) ?_
  have loop_2_2 : ∀ (n : Nat) (x1_2 : Int32) (I2 : zM) (q : (zM) ⊕ (Int32 × zM)), f_X8_clear_2 J p0 n x1_2 I2 = some q → (∀ a, q = .inl a → a = I') → (∀ a : Int32 × zM, q = .inr a → Z B G zKW (a.2) (J) (0, 0) 21 [(0, .ref (za B p0)), (1, .int a.1)] []) → Z B G zKW I2 J (0, 0) 2 [(0, .ref (za B p0)), (1, .int x1_2)] [] := by
    intro n; induction n with
    | zero => intro x1_2 I2 q hf; exact absurd hf (by rw [f_X8_clear_2]; exact fun z => by cases z)
    | succ n ih =>
      intro x1_2 I2 q hf hP hE; rw [f_X8_clear_2] at hf
      refine z_iload_n h 1 dX8_clear_2 rfl (rfl : 2 + 1 = 3) ?_
      refine z_bipush h 6 dX8_clear_3 (by decide) (rfl : 3 + 2 = 5) ?_
      refine z_icmp_ge (pc' := 8) h 21 dX8_clear_5 (by decide) rfl (fun c3 => ?_) (fun c3 => ?_)
      · have hf := zitt c3 hf
        exact hE (x1_2, I2) (zsome hf).symm
      · have hf := zitf c3 hf
        refine z_aload_n h 0 dX8_clear_8 rfl (rfl : 8 + 1 = 9) ?_
        refine z_getr (ci := 8) (C := RX8) (T := TX8) (N := 3) h 0 (zR p0 0) (zf_8_0 hJ k0).1 k0 rfl (fun _ hq => List.mem_cons_of_mem _ (List.mem_append_right _ hq)) (by decide) (List.mem_of_getElem? (i := 1) rfl) rfl dX8_clear_9 (rfl : 9 + 3 = 12) ?_
        refine z_iload_n h 1 dX8_clear_12 rfl (rfl : 12 + 1 = 13) ?_
        refine z_iconst h 0 dX8_clear_13 (by decide) (rfl : 13 + 1 = 14) ?_
        obtain ⟨b4, hf⟩ := zchk hf
        refine z_iast h b4 (zf_8_0 hJ k0).2 dX8_clear_14 (rfl : 14 + 1 = 15) ?_
        refine z_iinc h 1 (x1_2 + 1) [(1, .int (x1_2 + 1)), (0, .ref (za B p0))] dX8_clear_15 rfl rfl (by decide) rfl (rfl : 15 + 3 = 18) ?_
        refine z_goto (pc' := 2) h dX8_clear_18 (by decide) ?_
        refine z_sub (L' := [(0, .ref (za B p0)), (1, .int (x1_2 + 1))]) [1, 0] rfl ?_
        exact ih (x1_2 + 1) (zu I2 (zR p0 0) (Int32.toNatClampNeg x1_2) 0) _ hf hP hE
  refine z_sub (L' := [(0, .ref (za B p0)), (1, .int 0)]) [1, 0] rfl ?_
  obtain ⟨q1, e2, hf⟩ := zbind hf
  refine loop_2_2 _ 0 I q1 e2 (fun a ha => ?_) (fun a5 ha  => ?_)
  · have hf := zell ha hf
    exact zsome hf
  have hf := zelr ha hf
  clear ha loop_2_2
  refine z_aload_n h 0 dX8_clear_21 rfl (rfl : 21 + 1 = 22) ?_
  refine z_iconst h 0 dX8_clear_22 (by decide) (rfl : 22 + 1 = 23) ?_
  refine z_put (ci := 8) (C := RX8) (T := TX8) (N := 3) h 1 tyX8 tyX8_ok nmX8 k0 rfl (fun _ hq => List.mem_cons_of_mem _ (List.mem_append_right _ hq)) (by decide) (List.mem_of_getElem? (i := 2) rfl) rfl rfl rfl dX8_clear_23 (rfl : 23 + 3 = 26) ?_
  refine z_vret h hr dX8_clear_26 ?_
  exact ⟨(zsome hf), rfl⟩
noncomputable def f_X8_acceptItem (J : zJ) (p0 : Nat) (v1 : Int32) (I : zM) : Option (Int32 × zM) := (if v1 = 88 then (if I p0 1 = 14 then some (((-9), I)) else some ((3, I))) else ((f_X11_figure J v1 0 5 I).bind fun q2 => (if q2.1 = (-9) then some (((-9), q2.2)) else (if zin q2.1 6 = true then (if q2.2 (zR p0 0) (Int32.toNatClampNeg q2.1) = 0 then some ((1, zu q2.2 p0 2 q2.1)) else some (((-9), q2.2))) else none))))
noncomputable abbrev rmX8_acceptItem : Room := { frames := 1, cells := 0, slots := 0, locals := 23 }
theorem zyX8_acceptItem : zY yX8_acceptItem wsX8_acceptItem cX8_acceptItem 3 (some .int) 1 := ⟨⟨_, rfl⟩, by decide +kernel⟩
theorem zrX8_acceptItem_X11_figure : zRm rmX11_figure rmX8_acceptItem 4 := ⟨rfl, rfl, by decide, by decide⟩
set_option maxHeartbeats 1000000 in
set_option maxRecDepth 100000 in
theorem c_X8_acceptItem (B : zB) (I : zM) (J : zJ) (hJ : zJok J) (p0 : Nat) (k0 : zKW[p0]? = some (.inr 8)) (v1 : Int32) (r : Int32) (I' : zM) (hf : f_X8_acceptItem J p0 v1 I = some (r, I')) : zCi B zKW I J yX8_acceptItem wsX8_acceptItem rmX8_acceptItem [.ref (za B p0), .int v1] (fun r2 I2 J2 => r2 = r ∧ I2 = I' ∧ J2 = J) := by
  refine z_start (own := RX8) (cc := cX8_acceptItem) (nL := 3) (ret := (some .int)) rfl (by decide) rfl (Nat.le_of_ble_eq_true rfl) (L := [(0, .ref (za B p0)), (1, .int v1)]) rfl (fun G h hr => ?_)
  rw [f_X8_acceptItem] at hf
  refine z_iload_n h 1 dX8_acceptItem_0 rfl (rfl : 0 + 1 = 1) ?_
  refine z_bipush h 88 dX8_acceptItem_1 (by decide) (rfl : 1 + 2 = 3) ?_
  refine z_icmp_ne (pc' := 6) h 22 dX8_acceptItem_3 (by decide) rfl (fun c1 => ?_) (fun c1 => ?_)
  · have hf := zitf c1 hf
    refine z_iload_n h 1 dX8_acceptItem_22 rfl (rfl : 22 + 1 = 23) ?_
    refine z_iconst h 0 dX8_acceptItem_23 (by decide) (rfl : 23 + 1 = 24) ?_
    refine z_iconst h 5 dX8_acceptItem_24 (by decide) (rfl : 24 + 1 = 25) ?_
    obtain ⟨q2, e3, hf⟩ := zbind hf
    refine z_goF (z_runSN (host := "LeftOut") h [.int v1, .int 0, .int 5] [] zyX11_figure (c_X11_figure B I J hJ v1 0 5 _ _ e3) gX8_acceptItem_X11_figure_n32 (List.mem_of_getElem? (i := 12) rfl) (List.mem_of_getElem? (i := 4) rfl) (List.mem_of_getElem? (i := 5) rfl) zrX8_acceptItem_X11_figure rfl (Nat.le_of_ble_eq_true rfl) ⟨Nat.zero_le _, Nat.zero_le _⟩ rfl dX8_acceptItem_25) rfl ?_
    refine z_istore_n h [(2, .int q2.1), (0, .ref (za B p0)), (1, .int v1)] dX8_acceptItem_28 (by decide) rfl (rfl : 28 + 1 = 29) ?_
    refine z_iload_n h 0 dX8_acceptItem_29 rfl (rfl : 29 + 1 = 30) ?_
    refine z_bipush h (-9) dX8_acceptItem_30 (by decide) (rfl : 30 + 2 = 32) ?_
    refine z_icmp_eq (pc' := 35) h 44 dX8_acceptItem_32 (by decide) rfl (fun c4 => ?_) (fun c4 => ?_)
    · have hf := zitt c4 hf
      refine z_bipush h (-9) dX8_acceptItem_44 (by decide) (rfl : 44 + 2 = 46) ?_
      refine z_iret h hr dX8_acceptItem_46 ?_
      exact ⟨congrArg Prod.fst (zsome hf), congrArg Prod.snd (zsome hf), rfl⟩
    · have hf := zitf c4 hf
      refine z_aload_n h 1 dX8_acceptItem_35 rfl (rfl : 35 + 1 = 36) ?_
      refine z_getr (ci := 8) (C := RX8) (T := TX8) (N := 3) h 0 (zR p0 0) (zf_8_0 hJ k0).1 k0 rfl (fun _ hq => List.mem_cons_of_mem _ (List.mem_append_right _ hq)) (by decide) (List.mem_of_getElem? (i := 2) rfl) rfl dX8_acceptItem_36 (rfl : 36 + 3 = 39) ?_
      refine z_iload_n h 0 dX8_acceptItem_39 rfl (rfl : 39 + 1 = 40) ?_
      obtain ⟨b5, hf⟩ := zchk hf
      refine z_iald h (zf_8_0 hJ k0).2 b5 dX8_acceptItem_40 (rfl : 40 + 1 = 41) ?_
      refine z_if_eq (pc' := 44) h 47 dX8_acceptItem_41 (by decide) rfl (fun c6 => ?_) (fun c6 => ?_)
      · have hf := zitt c6 hf
        refine z_aload_n h 1 dX8_acceptItem_47 rfl (rfl : 47 + 1 = 48) ?_
        refine z_iload_n h 0 dX8_acceptItem_48 rfl (rfl : 48 + 1 = 49) ?_
        refine z_put (ci := 8) (C := RX8) (T := TX8) (N := 3) h 2 tyX8 tyX8_ok nmX8 k0 rfl (fun _ hq => List.mem_cons_of_mem _ (List.mem_append_right _ hq)) (by decide) (List.mem_of_getElem? (i := 3) rfl) rfl rfl rfl dX8_acceptItem_49 (rfl : 49 + 3 = 52) ?_
        refine z_iconst h 1 dX8_acceptItem_52 (by decide) (rfl : 52 + 1 = 53) ?_
        refine z_iret h hr dX8_acceptItem_53 ?_
        exact ⟨congrArg Prod.fst (zsome hf), congrArg Prod.snd (zsome hf), rfl⟩
      · have hf := zitf c6 hf
        refine z_bipush h (-9) dX8_acceptItem_44 (by decide) (rfl : 44 + 2 = 46) ?_
        refine z_iret h hr dX8_acceptItem_46 ?_
        exact ⟨congrArg Prod.fst (zsome hf), congrArg Prod.snd (zsome hf), rfl⟩
  · have hf := zitt c1 hf
    refine z_aload_n h 0 dX8_acceptItem_6 rfl (rfl : 6 + 1 = 7) ?_
    refine z_get (ci := 8) (C := RX8) (T := TX8) (N := 3) h 1 k0 rfl (fun _ hq => List.mem_cons_of_mem _ (List.mem_append_right _ hq)) (by decide) (List.mem_of_getElem? (i := 1) rfl) rfl dX8_acceptItem_7 (rfl : 7 + 3 = 10) ?_
    refine z_bipush h 14 dX8_acceptItem_10 (by decide) (rfl : 10 + 2 = 12) ?_
    refine z_icmp_ne (pc' := 15) h 20 dX8_acceptItem_12 (by decide) rfl (fun c7 => ?_) (fun c7 => ?_)
    · have hf := zitf c7 hf
      refine z_iconst h 3 dX8_acceptItem_20 (by decide) (rfl : 20 + 1 = 21) ?_
      refine z_iret h hr dX8_acceptItem_21 ?_
      exact ⟨congrArg Prod.fst (zsome hf), congrArg Prod.snd (zsome hf), rfl⟩
    · have hf := zitt c7 hf
      refine z_bipush h (-9) dX8_acceptItem_15 (by decide) (rfl : 15 + 2 = 17) ?_
      refine z_goto (pc' := 21) h dX8_acceptItem_17 (by decide) ?_
      refine z_iret h hr dX8_acceptItem_21 ?_
      exact ⟨congrArg Prod.fst (zsome hf), congrArg Prod.snd (zsome hf), rfl⟩
noncomputable def f_X8_acceptValue (J : zJ) (p0 : Nat) (v1 : Int32) (I : zM) : Option (Int32 × zM) := ((f_X11_figure J v1 1 5 I).bind fun q1 => (if q1.1 = (-9) then some (((-9), q1.2)) else (if zin (q1.2 p0 2) 6 = true then some ((0, zu q1.2 (zR p0 0) (Int32.toNatClampNeg (q1.2 p0 2)) q1.1)) else none)))
noncomputable abbrev rmX8_acceptValue : Room := { frames := 1, cells := 0, slots := 0, locals := 23 }
theorem zyX8_acceptValue : zY yX8_acceptValue wsX8_acceptValue cX8_acceptValue 3 (some .int) 1 := ⟨⟨_, rfl⟩, by decide +kernel⟩
theorem zrX8_acceptValue_X11_figure : zRm rmX11_figure rmX8_acceptValue 4 := ⟨rfl, rfl, by decide, by decide⟩
set_option maxHeartbeats 1000000 in
set_option maxRecDepth 100000 in
theorem c_X8_acceptValue (B : zB) (I : zM) (J : zJ) (hJ : zJok J) (p0 : Nat) (k0 : zKW[p0]? = some (.inr 8)) (v1 : Int32) (r : Int32) (I' : zM) (hf : f_X8_acceptValue J p0 v1 I = some (r, I')) : zCi B zKW I J yX8_acceptValue wsX8_acceptValue rmX8_acceptValue [.ref (za B p0), .int v1] (fun r2 I2 J2 => r2 = r ∧ I2 = I' ∧ J2 = J) := by
  refine z_start (own := RX8) (cc := cX8_acceptValue) (nL := 3) (ret := (some .int)) rfl (by decide) rfl (Nat.le_of_ble_eq_true rfl) (L := [(0, .ref (za B p0)), (1, .int v1)]) rfl (fun G h hr => ?_)
  rw [f_X8_acceptValue] at hf
  refine z_iload_n h 1 dX8_acceptValue_0 rfl (rfl : 0 + 1 = 1) ?_
  refine z_iconst h 1 dX8_acceptValue_1 (by decide) (rfl : 1 + 1 = 2) ?_
  refine z_iconst h 5 dX8_acceptValue_2 (by decide) (rfl : 2 + 1 = 3) ?_
  obtain ⟨q1, e2, hf⟩ := zbind hf
  refine z_goF (z_runSN (host := "LeftOut") h [.int v1, .int 1, .int 5] [] zyX11_figure (c_X11_figure B I J hJ v1 1 5 _ _ e2) gX8_acceptValue_X11_figure_n32 (List.mem_of_getElem? (i := 12) rfl) (List.mem_of_getElem? (i := 3) rfl) (List.mem_of_getElem? (i := 4) rfl) zrX8_acceptValue_X11_figure rfl (Nat.le_of_ble_eq_true rfl) ⟨Nat.zero_le _, Nat.zero_le _⟩ rfl dX8_acceptValue_3) rfl ?_
  refine z_istore_n h [(2, .int q1.1), (0, .ref (za B p0)), (1, .int v1)] dX8_acceptValue_6 (by decide) rfl (rfl : 6 + 1 = 7) ?_
  refine z_iload_n h 0 dX8_acceptValue_7 rfl (rfl : 7 + 1 = 8) ?_
  refine z_bipush h (-9) dX8_acceptValue_8 (by decide) (rfl : 8 + 2 = 10) ?_
  refine z_icmp_ne (pc' := 13) h 16 dX8_acceptValue_10 (by decide) rfl (fun c3 => ?_) (fun c3 => ?_)
  · have hf := zitf c3 hf
    refine z_aload_n h 1 dX8_acceptValue_16 rfl (rfl : 16 + 1 = 17) ?_
    refine z_getr (ci := 8) (C := RX8) (T := TX8) (N := 3) h 0 (zR p0 0) (zf_8_0 hJ k0).1 k0 rfl (fun _ hq => List.mem_cons_of_mem _ (List.mem_append_right _ hq)) (by decide) (List.mem_of_getElem? (i := 1) rfl) rfl dX8_acceptValue_17 (rfl : 17 + 3 = 20) ?_
    refine z_aload_n h 1 dX8_acceptValue_20 rfl (rfl : 20 + 1 = 21) ?_
    refine z_get (ci := 8) (C := RX8) (T := TX8) (N := 3) h 2 k0 rfl (fun _ hq => List.mem_cons_of_mem _ (List.mem_append_right _ hq)) (by decide) (List.mem_of_getElem? (i := 2) rfl) rfl dX8_acceptValue_21 (rfl : 21 + 3 = 24) ?_
    refine z_iload_n h 0 dX8_acceptValue_24 rfl (rfl : 24 + 1 = 25) ?_
    obtain ⟨b4, hf⟩ := zchk hf
    refine z_iast h b4 (zf_8_0 hJ k0).2 dX8_acceptValue_25 (rfl : 25 + 1 = 26) ?_
    refine z_iconst h 0 dX8_acceptValue_26 (by decide) (rfl : 26 + 1 = 27) ?_
    refine z_iret h hr dX8_acceptValue_27 ?_
    exact ⟨congrArg Prod.fst (zsome hf), congrArg Prod.snd (zsome hf), rfl⟩
  · have hf := zitt c3 hf
    refine z_bipush h (-9) dX8_acceptValue_13 (by decide) (rfl : 13 + 2 = 15) ?_
    refine z_iret h hr dX8_acceptValue_15 ?_
    exact ⟨congrArg Prod.fst (zsome hf), congrArg Prod.snd (zsome hf), rfl⟩
noncomputable def f_X8_isWhole (J : zJ) (p0 : Nat) (v1 : Int32) (I : zM) : Option (Int32 × zM) := (if v1 = 0 then some ((1, I)) else some ((0, I)))
noncomputable abbrev rmX8_isWhole : Room := { frames := 0, cells := 0, slots := 0, locals := 0 }
theorem zyX8_isWhole : zY yX8_isWhole wsX8_isWhole cX8_isWhole 2 (some .boolean) 1 := ⟨⟨_, rfl⟩, by decide +kernel⟩
set_option maxHeartbeats 1000000 in
set_option maxRecDepth 100000 in
theorem c_X8_isWhole (B : zB) (I : zM) (J : zJ) (hJ : zJok J) (p0 : Nat) (k0 : zKW[p0]? = some (.inr 8)) (v1 : Int32) (r : Int32) (I' : zM) (hf : f_X8_isWhole J p0 v1 I = some (r, I')) : zCi B zKW I J yX8_isWhole wsX8_isWhole rmX8_isWhole [.ref (za B p0), .int v1] (fun r2 I2 J2 => r2 = r ∧ I2 = I' ∧ J2 = J) := by
  refine z_start (own := RX8) (cc := cX8_isWhole) (nL := 2) (ret := (some .boolean)) rfl (by decide) rfl (Nat.le_of_ble_eq_true rfl) (L := [(0, .ref (za B p0)), (1, .int v1)]) rfl (fun G h hr => ?_)
  rw [f_X8_isWhole] at hf
  refine z_iload_n h 1 dX8_isWhole_0 rfl (rfl : 0 + 1 = 1) ?_
  refine z_if_ne (pc' := 4) h 8 dX8_isWhole_1 (by decide) rfl (fun c1 => ?_) (fun c1 => ?_)
  · have hf := zitf c1 hf
    refine z_iconst h 0 dX8_isWhole_8 (by decide) (rfl : 8 + 1 = 9) ?_
    refine z_zret h hr dX8_isWhole_9 (Or.inl rfl) ?_
    exact ⟨congrArg Prod.fst (zsome hf), congrArg Prod.snd (zsome hf), rfl⟩
  · have hf := zitt c1 hf
    refine z_iconst h 1 dX8_isWhole_4 (by decide) (rfl : 4 + 1 = 5) ?_
    refine z_goto (pc' := 9) h dX8_isWhole_5 (by decide) ?_
    refine z_zret h hr dX8_isWhole_9 (Or.inr rfl) ?_
    exact ⟨congrArg Prod.fst (zsome hf), congrArg Prod.snd (zsome hf), rfl⟩
noncomputable def f_X8_gapCount_13 (J : zJ) (r0 : Nat) (r2 : Nat) (u3 : Int32) : Nat → Int32 → Int32 → zM → Option ((Int32 × zM) ⊕ (Int32 × Int32 × zM))
  | 0, _, _, _ => none
  | n + 1, x1_13, x4_13, I13 => (if u3 ≤ x4_13 then some (.inr (x1_13, x4_13, I13)) else (if zin x4_13 6 = true then (if I13 r2 (Int32.toNatClampNeg x4_13) ≤ 0 then f_X8_gapCount_13 J r0 r2 u3 n (x1_13 + (0 : Int32)) (x4_13 + 1) I13 else f_X8_gapCount_13 J r0 r2 u3 n (x1_13 + (1 : Int32)) (x4_13 + 1) I13) else none))
noncomputable def f_X8_gapCount (J : zJ) (p0 : Nat) (I : zM) : Option (Int32 × zM) := ((f_X8_gapCount_13 J p0 (zR p0 0) 6 zF 0 0 I).bind fun q => Sum.elim (fun a => some a) (fun a3 => some ((a3.1, a3.2.2))) q)
noncomputable abbrev rmX8_gapCount : Room := { frames := 0, cells := 0, slots := 0, locals := 0 }
theorem zyX8_gapCount : zY yX8_gapCount wsX8_gapCount cX8_gapCount 6 (some .int) 0 := ⟨⟨_, rfl⟩, by decide +kernel⟩
set_option maxHeartbeats 1000000 in
set_option maxRecDepth 100000 in
theorem c_X8_gapCount (B : zB) (I : zM) (J : zJ) (hJ : zJok J) (p0 : Nat) (k0 : zKW[p0]? = some (.inr 8)) (r : Int32) (I' : zM) (hf : f_X8_gapCount J p0 I = some (r, I')) : zCi B zKW I J yX8_gapCount wsX8_gapCount rmX8_gapCount [.ref (za B p0)] (fun r2 I2 J2 => r2 = r ∧ I2 = I' ∧ J2 = J) := by
  refine z_start (own := RX8) (cc := cX8_gapCount) (nL := 6) (ret := (some .int)) rfl (by decide) rfl (Nat.le_of_ble_eq_true rfl) (L := [(0, .ref (za B p0))]) rfl (fun G h hr => ?_)
  rw [f_X8_gapCount] at hf
  refine z_iconst h 0 dX8_gapCount_0 (by decide) (rfl : 0 + 1 = 1) ?_
  refine z_istore_n h [(1, .int 0), (0, .ref (za B p0))] dX8_gapCount_1 (by decide) rfl (rfl : 1 + 1 = 2) ?_
  refine z_aload_n h 1 dX8_gapCount_2 rfl (rfl : 2 + 1 = 3) ?_
  refine z_getr (ci := 8) (C := RX8) (T := TX8) (N := 3) h 0 (zR p0 0) (zf_8_0 hJ k0).1 k0 rfl (fun _ hq => List.mem_cons_of_mem _ (List.mem_append_right _ hq)) (by decide) (List.mem_of_getElem? (i := 1) rfl) rfl dX8_gapCount_3 (rfl : 3 + 3 = 6) ?_
  refine z_astore_n h [(2, .ref (za B (zR p0 0))), (1, .int 0), (0, .ref (za B p0))] dX8_gapCount_6 (by decide) rfl (rfl : 6 + 1 = 7) ?_
  refine z_aload_n h 0 dX8_gapCount_7 rfl (rfl : 7 + 1 = 8) ?_
  refine z_alen h 6 (zf_8_0 hJ k0).2 (by decide) (by decide) dX8_gapCount_8 (rfl : 8 + 1 = 9) ?_
  refine z_istore_n h [(3, .int 6), (2, .ref (za B (zR p0 0))), (1, .int 0), (0, .ref (za B p0))] dX8_gapCount_9 (by decide) rfl (rfl : 9 + 1 = 10) ?_
  refine z_iconst h 0 dX8_gapCount_10 (by decide) (rfl : 10 + 1 = 11) ?_
  refine z_istore h [(4, .int 0), (3, .int 6), (2, .ref (za B (zR p0 0))), (1, .int 0), (0, .ref (za B p0))] dX8_gapCount_11 (by decide) rfl (rfl : 11 + 2 = 13) ?_
  have loop_13_2 : ∀ (n : Nat) (x1_13 : Int32) (x4_13 : Int32) (I13 : zM) (q : (Int32 × zM) ⊕ (Int32 × Int32 × zM)), f_X8_gapCount_13 J p0 (zR p0 0) 6 n x1_13 x4_13 I13 = some q → (∀ a, q = .inl a → a = (r, I')) → (∀ a : Int32 × Int32 × zM, q = .inr a → Z B G zKW (a.2.2) (J) (0, 0) 44 [(0, .ref (za B p0)), (1, .int a.1), (2, .ref (za B (zR p0 0))), (3, .int 6), (4, .int a.2.1)] []) → Z B G zKW I13 J (0, 0) 13 [(0, .ref (za B p0)), (1, .int x1_13), (2, .ref (za B (zR p0 0))), (3, .int 6), (4, .int x4_13)] [] := by
    intro n; induction n with
    | zero => intro x1_13 x4_13 I13 q hf; exact absurd hf (by rw [f_X8_gapCount_13]; exact fun z => by cases z)
    | succ n ih =>
      intro x1_13 x4_13 I13 q hf hP hE; rw [f_X8_gapCount_13] at hf
      refine z_iload h 4 dX8_gapCount_13 rfl (rfl : 13 + 2 = 15) ?_
      refine z_iload_n h 3 dX8_gapCount_15 rfl (rfl : 15 + 1 = 16) ?_
      refine z_icmp_ge (pc' := 19) h 44 dX8_gapCount_16 (by decide) rfl (fun c3 => ?_) (fun c3 => ?_)
      · have hf := zitt c3 hf
        exact hE (x1_13, x4_13, I13) (zsome hf).symm
      · have hf := zitf c3 hf
        refine z_aload_n h 2 dX8_gapCount_19 rfl (rfl : 19 + 1 = 20) ?_
        refine z_iload h 4 dX8_gapCount_20 rfl (rfl : 20 + 2 = 22) ?_
        obtain ⟨b4, hf⟩ := zchk hf
        refine z_iald h (zf_8_0 hJ k0).2 b4 dX8_gapCount_22 (rfl : 22 + 1 = 23) ?_
        refine z_istore h [(5, .int (I13 (zR p0 0) (Int32.toNatClampNeg x4_13))), (0, .ref (za B p0)), (1, .int x1_13), (2, .ref (za B (zR p0 0))), (3, .int 6), (4, .int x4_13)] dX8_gapCount_23 (by decide) rfl (rfl : 23 + 2 = 25) ?_
        refine z_iload_n h 2 dX8_gapCount_25 rfl (rfl : 25 + 1 = 26) ?_
        refine z_iload h 0 dX8_gapCount_26 rfl (rfl : 26 + 2 = 28) ?_
        refine z_if_le (pc' := 31) h 35 dX8_gapCount_28 (by decide) rfl (fun c5 => ?_) (fun c5 => ?_)
        · have hf := zitt c5 hf
          refine z_iconst h 0 dX8_gapCount_35 (by decide) (rfl : 35 + 1 = 36) ?_
          refine z_iadd h dX8_gapCount_36 (rfl : 36 + 1 = 37) ?_
          refine z_istore_n h [(1, .int (x1_13 + (0 : Int32))), (5, .int (I13 (zR p0 0) (Int32.toNatClampNeg x4_13))), (0, .ref (za B p0)), (2, .ref (za B (zR p0 0))), (3, .int 6), (4, .int x4_13)] dX8_gapCount_37 (by decide) rfl (rfl : 37 + 1 = 38) ?_
          refine z_iinc h 5 (x4_13 + 1) [(4, .int (x4_13 + 1)), (1, .int (x1_13 + (0 : Int32))), (5, .int (I13 (zR p0 0) (Int32.toNatClampNeg x4_13))), (0, .ref (za B p0)), (2, .ref (za B (zR p0 0))), (3, .int 6)] dX8_gapCount_38 rfl rfl (by decide) rfl (rfl : 38 + 3 = 41) ?_
          refine z_goto (pc' := 13) h dX8_gapCount_41 (by decide) ?_
          refine z_sub (L' := [(0, .ref (za B p0)), (1, .int (x1_13 + (0 : Int32))), (2, .ref (za B (zR p0 0))), (3, .int 6), (4, .int (x4_13 + 1))]) [3, 1, 4, 5, 0] rfl ?_
          exact ih (x1_13 + (0 : Int32)) (x4_13 + 1) I13 _ hf hP hE
        · have hf := zitf c5 hf
          refine z_iconst h 1 dX8_gapCount_31 (by decide) (rfl : 31 + 1 = 32) ?_
          refine z_goto (pc' := 36) h dX8_gapCount_32 (by decide) ?_
          refine z_iadd h dX8_gapCount_36 (rfl : 36 + 1 = 37) ?_
          refine z_istore_n h [(1, .int (x1_13 + (1 : Int32))), (5, .int (I13 (zR p0 0) (Int32.toNatClampNeg x4_13))), (0, .ref (za B p0)), (2, .ref (za B (zR p0 0))), (3, .int 6), (4, .int x4_13)] dX8_gapCount_37 (by decide) rfl (rfl : 37 + 1 = 38) ?_
          refine z_iinc h 5 (x4_13 + 1) [(4, .int (x4_13 + 1)), (1, .int (x1_13 + (1 : Int32))), (5, .int (I13 (zR p0 0) (Int32.toNatClampNeg x4_13))), (0, .ref (za B p0)), (2, .ref (za B (zR p0 0))), (3, .int 6)] dX8_gapCount_38 rfl rfl (by decide) rfl (rfl : 38 + 3 = 41) ?_
          refine z_goto (pc' := 13) h dX8_gapCount_41 (by decide) ?_
          refine z_sub (L' := [(0, .ref (za B p0)), (1, .int (x1_13 + (1 : Int32))), (2, .ref (za B (zR p0 0))), (3, .int 6), (4, .int (x4_13 + 1))]) [3, 1, 4, 5, 0] rfl ?_
          exact ih (x1_13 + (1 : Int32)) (x4_13 + 1) I13 _ hf hP hE
  refine z_sub (L' := [(0, .ref (za B p0)), (1, .int 0), (2, .ref (za B (zR p0 0))), (3, .int 6), (4, .int 0)]) [4, 3, 2, 1, 0] rfl ?_
  obtain ⟨q1, e2, hf⟩ := zbind hf
  refine loop_13_2 _ 0 0 I q1 e2 (fun a ha => ?_) (fun a6 ha  => ?_)
  · have hf := zell ha hf
    exact zsome hf
  have hf := zelr ha hf
  clear ha loop_13_2
  refine z_iload_n h 1 dX8_gapCount_44 rfl (rfl : 44 + 1 = 45) ?_
  refine z_iret h hr dX8_gapCount_45 ?_
  exact ⟨congrArg Prod.fst (zsome hf), congrArg Prod.snd (zsome hf), rfl⟩
noncomputable def f_X9_append_5 (J : zJ) (u1 : Int32) (u2 : Int64) : Nat → Int32 → zM → Option ((zM) ⊕ (Int32 × zM))
  | 0, _, _ => none
  | n + 1, x4_5, I5 => (if x4_5 < 0 then some (.inr (x4_5, I5)) else (if 24 ≤ I5 16 1 then some (.inr (x4_5, I5)) else (if zin (I5 16 1) 24 = true then (if vp_nar .char ((Int32.toUInt32 (Int64.toInt32 ((u2 >>> (Int32.toInt64 ((8 : Int32) * x4_5) &&& 63)) &&& (255 : Int64))) % 65536).toInt32) = (Int32.toUInt32 (Int64.toInt32 ((u2 >>> (Int32.toInt64 ((8 : Int32) * x4_5) &&& 63)) &&& (255 : Int64))) % 65536).toInt32 then f_X9_append_5 J u1 u2 n (x4_5 + (-1)) (zu (zu I5 17 (Int32.toNatClampNeg (I5 16 1)) ((Int32.toUInt32 (Int64.toInt32 ((u2 >>> (Int32.toInt64 ((8 : Int32) * x4_5) &&& 63)) &&& (255 : Int64))) % 65536).toInt32)) 16 1 (((zu I5 17 (Int32.toNatClampNeg (I5 16 1)) ((Int32.toUInt32 (Int64.toInt32 ((u2 >>> (Int32.toInt64 ((8 : Int32) * x4_5) &&& 63)) &&& (255 : Int64))) % 65536).toInt32)) 16 1) + (1 : Int32))) else none) else none)))
noncomputable def f_X9_append (J : zJ) (v1 : Int32) (w2 : Int64) (I : zM) : Option (zM) := ((f_X9_append_5 J v1 w2 zF (v1 - (1 : Int32)) I).bind fun q => Sum.elim (fun a => some a) (fun a3 => some (a3.2)) q)
noncomputable abbrev rmX9_append : Room := { frames := 0, cells := 0, slots := 0, locals := 0 }
theorem zyX9_append : zY yX9_append wsX9_append cX9_append 5 none 2 := ⟨⟨_, rfl⟩, by decide +kernel⟩
set_option maxHeartbeats 1000000 in
set_option maxRecDepth 100000 in
theorem c_X9_append (B : zB) (I : zM) (J : zJ) (hJ : zJok J) (v1 : Int32) (w2 : Int64) (I' : zM) (hf : f_X9_append J v1 w2 I = some I') : zCv B zKW I J yX9_append wsX9_append rmX9_append [.ref (za B 16), .int v1, .long w2] (fun I2 J2 => I2 = I' ∧ J2 = J) := by
  refine z_start (own := RX9) (cc := cX9_append) (nL := 5) (ret := none) rfl (by decide) rfl (Nat.le_of_ble_eq_true rfl) (L := [(0, .ref (za B 16)), (1, .int v1), (2, .long w2)]) rfl (fun G h hr => ?_)
  rw [f_X9_append] at hf
  refine z_iload_n h 1 dX9_append_0 rfl (rfl : 0 + 1 = 1) ?_
  refine z_iconst h 1 dX9_append_1 (by decide) (rfl : 1 + 1 = 2) ?_
  refine z_isub h dX9_append_2 (rfl : 2 + 1 = 3) ?_
  refine z_istore h [(4, .int (v1 - (1 : Int32))), (0, .ref (za B 16)), (1, .int v1), (2, .long w2)] dX9_append_3 (by decide) rfl (rfl : 3 + 2 = 5) ?_
  have loop_5_2 : ∀ (n : Nat) (x4_5 : Int32) (I5 : zM) (q : (zM) ⊕ (Int32 × zM)), f_X9_append_5 J v1 w2 n x4_5 I5 = some q → (∀ a, q = .inl a → a = I') → (∀ a : Int32 × zM, q = .inr a → Z B G zKW (a.2) (J) (0, 0) 57 [(0, .ref (za B 16)), (1, .int v1), (2, .long w2), (4, .int a.1)] []) → Z B G zKW I5 J (0, 0) 5 [(0, .ref (za B 16)), (1, .int v1), (2, .long w2), (4, .int x4_5)] [] := by
    intro n; induction n with
    | zero => intro x4_5 I5 q hf; exact absurd hf (by rw [f_X9_append_5]; exact fun z => by cases z)
    | succ n ih =>
      intro x4_5 I5 q hf hP hE; rw [f_X9_append_5] at hf
      refine z_iload h 3 dX9_append_5 rfl (rfl : 5 + 2 = 7) ?_
      refine z_if_lt (pc' := 10) h 57 dX9_append_7 (by decide) rfl (fun c3 => ?_) (fun c3 => ?_)
      · have hf := zitt c3 hf
        exact hE (x4_5, I5) (zsome hf).symm
      · have hf := zitf c3 hf
        refine z_aload_n h 0 dX9_append_10 rfl (rfl : 10 + 1 = 11) ?_
        refine z_get (ci := 9) (C := RX9) (T := TX9) (N := 2) h 1 rfl rfl (fun _ hq => List.mem_cons_of_mem _ (List.mem_append_right _ hq)) (by decide) (List.mem_of_getElem? (i := 1) rfl) rfl dX9_append_11 (rfl : 11 + 3 = 14) ?_
        refine z_bipush h 24 dX9_append_14 (by decide) (rfl : 14 + 2 = 16) ?_
        refine z_icmp_ge (pc' := 19) h 57 dX9_append_16 (by decide) rfl (fun c4 => ?_) (fun c4 => ?_)
        · have hf := zitt c4 hf
          exact hE (x4_5, I5) (zsome hf).symm
        · have hf := zitf c4 hf
          refine z_aload_n h 0 dX9_append_19 rfl (rfl : 19 + 1 = 20) ?_
          refine z_getr (ci := 9) (C := RX9) (T := TX9) (N := 2) h 0 17 ((hJ.1 16 0 (by decide)).trans rfl) rfl rfl (fun _ hq => List.mem_cons_of_mem _ (List.mem_append_right _ hq)) (by decide) (List.mem_of_getElem? (i := 2) rfl) rfl dX9_append_20 (rfl : 20 + 3 = 23) ?_
          refine z_aload_n h 0 dX9_append_23 rfl (rfl : 23 + 1 = 24) ?_
          refine z_get (ci := 9) (C := RX9) (T := TX9) (N := 2) h 1 rfl rfl (fun _ hq => List.mem_cons_of_mem _ (List.mem_append_right _ hq)) (by decide) (List.mem_of_getElem? (i := 1) rfl) rfl dX9_append_24 (rfl : 24 + 3 = 27) ?_
          refine z_lload_n h 2 dX9_append_27 rfl (rfl : 27 + 1 = 28) ?_
          refine z_bipush h 8 dX9_append_28 (by decide) (rfl : 28 + 2 = 30) ?_
          refine z_iload h 3 dX9_append_30 rfl (rfl : 30 + 2 = 32) ?_
          refine z_imul h dX9_append_32 (rfl : 32 + 1 = 33) ?_
          refine z_lshr h dX9_append_33 (rfl : 33 + 1 = 34) ?_
          refine z_ldc2 h 255 (List.mem_of_getElem? (i := 3) rfl) dX9_append_34 (rfl : 34 + 3 = 37) ?_
          refine z_land h dX9_append_37 (rfl : 37 + 1 = 38) ?_
          refine z_l2i h dX9_append_38 (rfl : 38 + 1 = 39) ?_
          refine z_i2c h dX9_append_39 (rfl : 39 + 1 = 40) ?_
          obtain ⟨b5, hf⟩ := zchk hf
          obtain ⟨b6, hf⟩ := zchk hf
          refine z_cast h b5 b6 rfl dX9_append_40 (rfl : 40 + 1 = 41) ?_
          refine z_aload_n h 0 dX9_append_41 rfl (rfl : 41 + 1 = 42) ?_
          refine z_dup h rfl dX9_append_42 (rfl : 42 + 1 = 43) ?_
          refine z_get (ci := 9) (C := RX9) (T := TX9) (N := 2) h 1 rfl rfl (fun _ hq => List.mem_cons_of_mem _ (List.mem_append_right _ hq)) (by decide) (List.mem_of_getElem? (i := 1) rfl) rfl dX9_append_43 (rfl : 43 + 3 = 46) ?_
          refine z_iconst h 1 dX9_append_46 (by decide) (rfl : 46 + 1 = 47) ?_
          refine z_iadd h dX9_append_47 (rfl : 47 + 1 = 48) ?_
          refine z_put (ci := 9) (C := RX9) (T := TX9) (N := 2) h 1 tyX9 tyX9_ok nmX9 rfl rfl (fun _ hq => List.mem_cons_of_mem _ (List.mem_append_right _ hq)) (by decide) (List.mem_of_getElem? (i := 1) rfl) rfl rfl rfl dX9_append_48 (rfl : 48 + 3 = 51) ?_
          refine z_iinc h 3 (x4_5 + (-1)) [(4, .int (x4_5 + (-1))), (0, .ref (za B 16)), (1, .int v1), (2, .long w2)] dX9_append_51 rfl rfl (by decide) rfl (rfl : 51 + 3 = 54) ?_
          refine z_goto (pc' := 5) h dX9_append_54 (by decide) ?_
          refine z_sub (L' := [(0, .ref (za B 16)), (1, .int v1), (2, .long w2), (4, .int (x4_5 + (-1)))]) [1, 2, 3, 0] rfl ?_
          exact ih (x4_5 + (-1)) (zu (zu I5 17 (Int32.toNatClampNeg (I5 16 1)) ((Int32.toUInt32 (Int64.toInt32 ((w2 >>> (Int32.toInt64 ((8 : Int32) * x4_5) &&& 63)) &&& (255 : Int64))) % 65536).toInt32)) 16 1 (((zu I5 17 (Int32.toNatClampNeg (I5 16 1)) ((Int32.toUInt32 (Int64.toInt32 ((w2 >>> (Int32.toInt64 ((8 : Int32) * x4_5) &&& 63)) &&& (255 : Int64))) % 65536).toInt32)) 16 1) + (1 : Int32))) _ hf hP hE
  refine z_sub (L' := [(0, .ref (za B 16)), (1, .int v1), (2, .long w2), (4, .int (v1 - (1 : Int32)))]) [1, 2, 3, 0] rfl ?_
  obtain ⟨q1, e2, hf⟩ := zbind hf
  refine loop_5_2 _ (v1 - (1 : Int32)) I q1 e2 (fun a ha => ?_) (fun a7 ha  => ?_)
  · have hf := zell ha hf
    exact zsome hf
  have hf := zelr ha hf
  clear ha loop_5_2
  refine z_vret h hr dX9_append_57 ?_
  exact ⟨(zsome hf), rfl⟩
noncomputable def f_X11_gap (J : zJ) (v1 : Int32) (v2 : Int32) (I : zM) : Option (Int32 × zM) := ((f_X11_isGap J v1 I).bind fun q1 => (if q1.1 = 0 then some (((-1), q1.2)) else (if v2 < 0 then some (((-2), q1.2)) else (if v2 ≤ 5 then (if zin v1 6 = true then (if zin v1 6 = true then some ((q1.2 2 (Int32.toNatClampNeg v1), zu q1.2 2 (Int32.toNatClampNeg v1) v2)) else none) else none) else some (((-2), q1.2))))))
noncomputable abbrev rmX11_gap : Room := { frames := 1, cells := 0, slots := 0, locals := 20 }
theorem zyX11_gap : zY yX11_gap wsX11_gap cX11_gap 4 (some .int) 2 := ⟨⟨_, rfl⟩, by decide +kernel⟩
theorem zrX11_gap_X11_isGap : zRm rmX11_isGap rmX11_gap 1 := ⟨rfl, rfl, by decide, by decide⟩
set_option maxHeartbeats 1000000 in
set_option maxRecDepth 100000 in
theorem c_X11_gap (B : zB) (I : zM) (J : zJ) (hJ : zJok J) (v1 : Int32) (v2 : Int32) (r : Int32) (I' : zM) (hf : f_X11_gap J v1 v2 I = some (r, I')) : zCi B zKW I J yX11_gap wsX11_gap rmX11_gap [.ref (za B 0), .int v1, .int v2] (fun r2 I2 J2 => r2 = r ∧ I2 = I' ∧ J2 = J) := by
  refine z_start (own := RX11) (cc := cX11_gap) (nL := 4) (ret := (some .int)) rfl (by decide) rfl (Nat.le_of_ble_eq_true rfl) (L := [(0, .ref (za B 0)), (1, .int v1), (2, .int v2)]) rfl (fun G h hr => ?_)
  rw [f_X11_gap] at hf
  refine z_iload_n h 1 dX11_gap_0 rfl (rfl : 0 + 1 = 1) ?_
  obtain ⟨q1, e2, hf⟩ := zbind hf
  refine z_goF (z_runS h [.int v1] [] zyX11_isGap (c_X11_isGap B I J hJ v1 _ _ e2) gX11_gap_X11_isGap zrX11_gap_X11_isGap rfl (Nat.le_of_ble_eq_true rfl) ⟨Nat.zero_le _, Nat.zero_le _⟩ rfl dX11_gap_1) rfl ?_
  refine z_if_ne (pc' := 7) h 9 dX11_gap_4 (by decide) rfl (fun c3 => ?_) (fun c3 => ?_)
  · have hf := zitf c3 hf
    refine z_iload_n h 2 dX11_gap_9 rfl (rfl : 9 + 1 = 10) ?_
    refine z_if_lt (pc' := 13) h 18 dX11_gap_10 (by decide) rfl (fun c4 => ?_) (fun c4 => ?_)
    · have hf := zitt c4 hf
      refine z_bipush h (-2) dX11_gap_18 (by decide) (rfl : 18 + 2 = 20) ?_
      refine z_iret h hr dX11_gap_20 ?_
      exact ⟨congrArg Prod.fst (zsome hf), congrArg Prod.snd (zsome hf), rfl⟩
    · have hf := zitf c4 hf
      refine z_iload_n h 2 dX11_gap_13 rfl (rfl : 13 + 1 = 14) ?_
      refine z_iconst h 5 dX11_gap_14 (by decide) (rfl : 14 + 1 = 15) ?_
      refine z_icmp_le (pc' := 18) h 21 dX11_gap_15 (by decide) rfl (fun c5 => ?_) (fun c5 => ?_)
      · have hf := zitt c5 hf
        refine z_aload_n h 0 dX11_gap_21 rfl (rfl : 21 + 1 = 22) ?_
        refine z_getr (ci := 10) (C := RX11) (T := TX11) (N := 13) h 0 1 ((hJ.1 0 0 (by decide)).trans rfl) rfl rfl (fun _ hq => List.mem_cons_of_mem _ (List.mem_append_left _ (List.mem_append_right _ hq))) (by decide) (List.mem_of_getElem? (i := 1) rfl) rfl dX11_gap_22 (rfl : 22 + 3 = 25) ?_
        refine z_getr (ci := 3) (C := RX3) (T := TX3) (N := 4) h 0 2 ((hJ.1 1 0 (by decide)).trans rfl) rfl rfl (fun _ hq => List.mem_cons_of_mem _ (List.mem_append_right _ hq)) (by decide) (List.mem_of_getElem? (i := 2) rfl) rfl dX11_gap_25 (rfl : 25 + 3 = 28) ?_
        refine z_iload_n h 1 dX11_gap_28 rfl (rfl : 28 + 1 = 29) ?_
        obtain ⟨b6, hf⟩ := zchk hf
        refine z_iald h rfl b6 dX11_gap_29 (rfl : 29 + 1 = 30) ?_
        refine z_istore_n h [(3, .int (q1.2 2 (Int32.toNatClampNeg v1))), (0, .ref (za B 0)), (1, .int v1), (2, .int v2)] dX11_gap_30 (by decide) rfl (rfl : 30 + 1 = 31) ?_
        refine z_aload_n h 1 dX11_gap_31 rfl (rfl : 31 + 1 = 32) ?_
        refine z_getr (ci := 10) (C := RX11) (T := TX11) (N := 13) h 0 1 ((hJ.1 0 0 (by decide)).trans rfl) rfl rfl (fun _ hq => List.mem_cons_of_mem _ (List.mem_append_left _ (List.mem_append_right _ hq))) (by decide) (List.mem_of_getElem? (i := 1) rfl) rfl dX11_gap_32 (rfl : 32 + 3 = 35) ?_
        refine z_getr (ci := 3) (C := RX3) (T := TX3) (N := 4) h 0 2 ((hJ.1 1 0 (by decide)).trans rfl) rfl rfl (fun _ hq => List.mem_cons_of_mem _ (List.mem_append_right _ hq)) (by decide) (List.mem_of_getElem? (i := 2) rfl) rfl dX11_gap_35 (rfl : 35 + 3 = 38) ?_
        refine z_iload_n h 2 dX11_gap_38 rfl (rfl : 38 + 1 = 39) ?_
        refine z_iload_n h 3 dX11_gap_39 rfl (rfl : 39 + 1 = 40) ?_
        obtain ⟨b7, hf⟩ := zchk hf
        refine z_iast h b7 rfl dX11_gap_40 (rfl : 40 + 1 = 41) ?_
        refine z_iload_n h 0 dX11_gap_41 rfl (rfl : 41 + 1 = 42) ?_
        refine z_iret h hr dX11_gap_42 ?_
        exact ⟨congrArg Prod.fst (zsome hf), congrArg Prod.snd (zsome hf), rfl⟩
      · have hf := zitf c5 hf
        refine z_bipush h (-2) dX11_gap_18 (by decide) (rfl : 18 + 2 = 20) ?_
        refine z_iret h hr dX11_gap_20 ?_
        exact ⟨congrArg Prod.fst (zsome hf), congrArg Prod.snd (zsome hf), rfl⟩
  · have hf := zitt c3 hf
    refine z_iconst h (-1) dX11_gap_7 (by decide) (rfl : 7 + 1 = 8) ?_
    refine z_iret h hr dX11_gap_8 ?_
    exact ⟨congrArg Prod.fst (zsome hf), congrArg Prod.snd (zsome hf), rfl⟩
noncomputable def f_X11_withBit (J : zJ) (v0 : Int32) (v1 : Int32) (v2 : Int32) (I : zM) : Option (Int32 × zM) := (if v2 = 0 then some ((v0 &&& (((1 : Int32) <<< (v1 &&& 31)) ^^^ ((-1) : Int32)), I)) else some ((v0 ||| ((1 : Int32) <<< (v1 &&& 31)), I)))
noncomputable abbrev rmX11_withBit : Room := { frames := 0, cells := 0, slots := 0, locals := 0 }
theorem zyX11_withBit : zY yX11_withBit wsX11_withBit cX11_withBit 3 (some .int) 3 := ⟨⟨_, rfl⟩, by decide +kernel⟩
set_option maxHeartbeats 1000000 in
set_option maxRecDepth 100000 in
theorem c_X11_withBit (B : zB) (I : zM) (J : zJ) (hJ : zJok J) (v0 : Int32) (v1 : Int32) (v2 : Int32) (r : Int32) (I' : zM) (hf : f_X11_withBit J v0 v1 v2 I = some (r, I')) : zCi B zKW I J yX11_withBit wsX11_withBit rmX11_withBit [.int v0, .int v1, .int v2] (fun r2 I2 J2 => r2 = r ∧ I2 = I' ∧ J2 = J) := by
  refine z_start (own := RX11) (cc := cX11_withBit) (nL := 3) (ret := (some .int)) rfl (by decide) rfl (Nat.le_of_ble_eq_true rfl) (L := [(0, .int v0), (1, .int v1), (2, .int v2)]) rfl (fun G h hr => ?_)
  rw [f_X11_withBit] at hf
  refine z_iload_n h 2 dX11_withBit_0 rfl (rfl : 0 + 1 = 1) ?_
  refine z_if_eq (pc' := 4) h 12 dX11_withBit_1 (by decide) rfl (fun c1 => ?_) (fun c1 => ?_)
  · have hf := zitt c1 hf
    refine z_iload_n h 0 dX11_withBit_12 rfl (rfl : 12 + 1 = 13) ?_
    refine z_iconst h 1 dX11_withBit_13 (by decide) (rfl : 13 + 1 = 14) ?_
    refine z_iload_n h 1 dX11_withBit_14 rfl (rfl : 14 + 1 = 15) ?_
    refine z_ishl h dX11_withBit_15 (rfl : 15 + 1 = 16) ?_
    refine z_iconst h (-1) dX11_withBit_16 (by decide) (rfl : 16 + 1 = 17) ?_
    refine z_ixor h dX11_withBit_17 (rfl : 17 + 1 = 18) ?_
    refine z_iand h dX11_withBit_18 (rfl : 18 + 1 = 19) ?_
    refine z_iret h hr dX11_withBit_19 ?_
    exact ⟨congrArg Prod.fst (zsome hf), congrArg Prod.snd (zsome hf), rfl⟩
  · have hf := zitf c1 hf
    refine z_iload_n h 0 dX11_withBit_4 rfl (rfl : 4 + 1 = 5) ?_
    refine z_iconst h 1 dX11_withBit_5 (by decide) (rfl : 5 + 1 = 6) ?_
    refine z_iload_n h 1 dX11_withBit_6 rfl (rfl : 6 + 1 = 7) ?_
    refine z_ishl h dX11_withBit_7 (rfl : 7 + 1 = 8) ?_
    refine z_ior h dX11_withBit_8 (rfl : 8 + 1 = 9) ?_
    refine z_goto (pc' := 19) h dX11_withBit_9 (by decide) ?_
    refine z_iret h hr dX11_withBit_19 ?_
    exact ⟨congrArg Prod.fst (zsome hf), congrArg Prod.snd (zsome hf), rfl⟩
noncomputable def f_X11_need (J : zJ) (v1 : Int32) (v2 : Int32) (I : zM) : Option (Int32 × zM) := ((f_X11_isGap J v1 I).bind fun q1 => (if q1.1 = 0 then some (((-1), q1.2)) else ((f_X11_bit J (q1.2 1 1) v1 q1.2).bind fun q4 => ((f_X11_withBit J (q4.2 1 1) v1 v2 q4.2).bind fun q6 => some ((q4.1, zu q6.2 1 1 q6.1))))))
noncomputable abbrev rmX11_need : Room := { frames := 1, cells := 0, slots := 0, locals := 22 }
theorem zyX11_need : zY yX11_need wsX11_need cX11_need 4 (some .int) 2 := ⟨⟨_, rfl⟩, by decide +kernel⟩
theorem zrX11_need_X11_bit : zRm rmX11_bit rmX11_need 2 := ⟨rfl, rfl, by decide, by decide⟩
theorem zrX11_need_X11_isGap : zRm rmX11_isGap rmX11_need 1 := ⟨rfl, rfl, by decide, by decide⟩
theorem zrX11_need_X11_withBit : zRm rmX11_withBit rmX11_need 3 := ⟨rfl, rfl, by decide, by decide⟩
set_option maxHeartbeats 1000000 in
set_option maxRecDepth 100000 in
theorem c_X11_need (B : zB) (I : zM) (J : zJ) (hJ : zJok J) (v1 : Int32) (v2 : Int32) (r : Int32) (I' : zM) (hf : f_X11_need J v1 v2 I = some (r, I')) : zCi B zKW I J yX11_need wsX11_need rmX11_need [.ref (za B 0), .int v1, .int v2] (fun r2 I2 J2 => r2 = r ∧ I2 = I' ∧ J2 = J) := by
  refine z_start (own := RX11) (cc := cX11_need) (nL := 4) (ret := (some .int)) rfl (by decide) rfl (Nat.le_of_ble_eq_true rfl) (L := [(0, .ref (za B 0)), (1, .int v1), (2, .int v2)]) rfl (fun G h hr => ?_)
  rw [f_X11_need] at hf
  refine z_iload_n h 1 dX11_need_0 rfl (rfl : 0 + 1 = 1) ?_
  obtain ⟨q1, e2, hf⟩ := zbind hf
  refine z_goF (z_runS h [.int v1] [] zyX11_isGap (c_X11_isGap B I J hJ v1 _ _ e2) gX11_need_X11_isGap zrX11_need_X11_isGap rfl (Nat.le_of_ble_eq_true rfl) ⟨Nat.zero_le _, Nat.zero_le _⟩ rfl dX11_need_1) rfl ?_
  refine z_if_ne (pc' := 7) h 9 dX11_need_4 (by decide) rfl (fun c3 => ?_) (fun c3 => ?_)
  · have hf := zitf c3 hf
    refine z_aload_n h 0 dX11_need_9 rfl (rfl : 9 + 1 = 10) ?_
    refine z_getr (ci := 10) (C := RX11) (T := TX11) (N := 13) h 0 1 ((hJ.1 0 0 (by decide)).trans rfl) rfl rfl (fun _ hq => List.mem_cons_of_mem _ (List.mem_append_left _ (List.mem_append_right _ hq))) (by decide) (List.mem_of_getElem? (i := 1) rfl) rfl dX11_need_10 (rfl : 10 + 3 = 13) ?_
    refine z_get (ci := 3) (C := RX3) (T := TX3) (N := 4) h 1 rfl rfl (fun _ hq => List.mem_cons_of_mem _ (List.mem_append_right _ hq)) (by decide) (List.mem_of_getElem? (i := 2) rfl) rfl dX11_need_13 (rfl : 13 + 3 = 16) ?_
    refine z_iload_n h 1 dX11_need_16 rfl (rfl : 16 + 1 = 17) ?_
    obtain ⟨q4, e5, hf⟩ := zbind hf
    refine z_goF (z_runS h [.int (q1.2 1 1), .int v1] [] zyX11_bit (c_X11_bit B q1.2 J hJ (q1.2 1 1) v1 _ _ e5) gX11_need_X11_bit zrX11_need_X11_bit rfl (Nat.le_of_ble_eq_true rfl) ⟨Nat.zero_le _, Nat.zero_le _⟩ rfl dX11_need_17) rfl ?_
    refine z_istore_n h [(3, .int q4.1), (0, .ref (za B 0)), (1, .int v1), (2, .int v2)] dX11_need_20 (by decide) rfl (rfl : 20 + 1 = 21) ?_
    refine z_aload_n h 1 dX11_need_21 rfl (rfl : 21 + 1 = 22) ?_
    refine z_getr (ci := 10) (C := RX11) (T := TX11) (N := 13) h 0 1 ((hJ.1 0 0 (by decide)).trans rfl) rfl rfl (fun _ hq => List.mem_cons_of_mem _ (List.mem_append_left _ (List.mem_append_right _ hq))) (by decide) (List.mem_of_getElem? (i := 1) rfl) rfl dX11_need_22 (rfl : 22 + 3 = 25) ?_
    refine z_aload_n h 1 dX11_need_25 rfl (rfl : 25 + 1 = 26) ?_
    refine z_getr (ci := 10) (C := RX11) (T := TX11) (N := 13) h 0 1 ((hJ.1 0 0 (by decide)).trans rfl) rfl rfl (fun _ hq => List.mem_cons_of_mem _ (List.mem_append_left _ (List.mem_append_right _ hq))) (by decide) (List.mem_of_getElem? (i := 1) rfl) rfl dX11_need_26 (rfl : 26 + 3 = 29) ?_
    refine z_get (ci := 3) (C := RX3) (T := TX3) (N := 4) h 1 rfl rfl (fun _ hq => List.mem_cons_of_mem _ (List.mem_append_right _ hq)) (by decide) (List.mem_of_getElem? (i := 2) rfl) rfl dX11_need_29 (rfl : 29 + 3 = 32) ?_
    refine z_iload_n h 2 dX11_need_32 rfl (rfl : 32 + 1 = 33) ?_
    refine z_iload_n h 3 dX11_need_33 rfl (rfl : 33 + 1 = 34) ?_
    obtain ⟨q6, e7, hf⟩ := zbind hf
    refine z_goF (z_runS h [.int (q4.2 1 1), .int v1, .int v2] [.ref (za B 1)] zyX11_withBit (c_X11_withBit B q4.2 J hJ (q4.2 1 1) v1 v2 _ _ e7) gX11_need_X11_withBit zrX11_need_X11_withBit rfl (Nat.le_of_ble_eq_true rfl) ⟨Nat.zero_le _, Nat.zero_le _⟩ rfl dX11_need_34) rfl ?_
    refine z_put (ci := 3) (C := RX3) (T := TX3) (N := 4) h 1 tyX3 tyX3_ok nmX3 rfl rfl (fun _ hq => List.mem_cons_of_mem _ (List.mem_append_right _ hq)) (by decide) (List.mem_of_getElem? (i := 2) rfl) rfl rfl rfl dX11_need_37 (rfl : 37 + 3 = 40) ?_
    refine z_iload_n h 0 dX11_need_40 rfl (rfl : 40 + 1 = 41) ?_
    refine z_iret h hr dX11_need_41 ?_
    exact ⟨congrArg Prod.fst (zsome hf), congrArg Prod.snd (zsome hf), rfl⟩
  · have hf := zitt c3 hf
    refine z_iconst h (-1) dX11_need_7 (by decide) (rfl : 7 + 1 = 8) ?_
    refine z_iret h hr dX11_need_8 ?_
    exact ⟨congrArg Prod.fst (zsome hf), congrArg Prod.snd (zsome hf), rfl⟩
noncomputable def f_X11_isValue (J : zJ) (v0 : Int32) (I : zM) : Option (Int32 × zM) := (if v0 < 1 then some ((0, I)) else (if 5 < v0 then some ((0, I)) else some ((1, I))))
noncomputable abbrev rmX11_isValue : Room := { frames := 0, cells := 0, slots := 0, locals := 0 }
theorem zyX11_isValue : zY yX11_isValue wsX11_isValue cX11_isValue 1 (some .boolean) 1 := ⟨⟨_, rfl⟩, by decide +kernel⟩
set_option maxHeartbeats 1000000 in
set_option maxRecDepth 100000 in
theorem c_X11_isValue (B : zB) (I : zM) (J : zJ) (hJ : zJok J) (v0 : Int32) (r : Int32) (I' : zM) (hf : f_X11_isValue J v0 I = some (r, I')) : zCi B zKW I J yX11_isValue wsX11_isValue rmX11_isValue [.int v0] (fun r2 I2 J2 => r2 = r ∧ I2 = I' ∧ J2 = J) := by
  refine z_start (own := RX11) (cc := cX11_isValue) (nL := 1) (ret := (some .boolean)) rfl (by decide) rfl (Nat.le_of_ble_eq_true rfl) (L := [(0, .int v0)]) rfl (fun G h hr => ?_)
  rw [f_X11_isValue] at hf
  refine z_iload_n h 0 dX11_isValue_0 rfl (rfl : 0 + 1 = 1) ?_
  refine z_iconst h 1 dX11_isValue_1 (by decide) (rfl : 1 + 1 = 2) ?_
  refine z_icmp_lt (pc' := 5) h 14 dX11_isValue_2 (by decide) rfl (fun c1 => ?_) (fun c1 => ?_)
  · have hf := zitt c1 hf
    refine z_iconst h 0 dX11_isValue_14 (by decide) (rfl : 14 + 1 = 15) ?_
    refine z_zret h hr dX11_isValue_15 (Or.inl rfl) ?_
    exact ⟨congrArg Prod.fst (zsome hf), congrArg Prod.snd (zsome hf), rfl⟩
  · have hf := zitf c1 hf
    refine z_iload_n h 0 dX11_isValue_5 rfl (rfl : 5 + 1 = 6) ?_
    refine z_iconst h 5 dX11_isValue_6 (by decide) (rfl : 6 + 1 = 7) ?_
    refine z_icmp_gt (pc' := 10) h 14 dX11_isValue_7 (by decide) rfl (fun c2 => ?_) (fun c2 => ?_)
    · have hf := zitt c2 hf
      refine z_iconst h 0 dX11_isValue_14 (by decide) (rfl : 14 + 1 = 15) ?_
      refine z_zret h hr dX11_isValue_15 (Or.inl rfl) ?_
      exact ⟨congrArg Prod.fst (zsome hf), congrArg Prod.snd (zsome hf), rfl⟩
    · have hf := zitf c2 hf
      refine z_iconst h 1 dX11_isValue_10 (by decide) (rfl : 10 + 1 = 11) ?_
      refine z_goto (pc' := 15) h dX11_isValue_11 (by decide) ?_
      refine z_zret h hr dX11_isValue_15 (Or.inr rfl) ?_
      exact ⟨congrArg Prod.fst (zsome hf), congrArg Prod.snd (zsome hf), rfl⟩
noncomputable def f_X11_hang (J : zJ) (v1 : Int32) (v2 : Int32) (v3 : Int32) (I : zM) : Option (Int32 × zM) := ((f_X11_isGap J v1 I).bind fun q1 => (if q1.1 = 0 then some (((-1), q1.2)) else (if v2 = (-9) then (if v2 = (-9) then (if v2 = v1 then some (((-3), q1.2)) else (if zin v1 6 = true then (if zin v1 6 = true then (if zin v1 6 = true then some ((q1.2 3 (Int32.toNatClampNeg v1), zu (zu q1.2 3 (Int32.toNatClampNeg v1) v2) 4 (Int32.toNatClampNeg v1) v3)) else none) else none) else none)) else ((f_X11_isValue J v3 q1.2).bind fun q10 => (if q10.1 = 0 then some (((-2), q10.2)) else (if v2 = v1 then some (((-3), q10.2)) else (if zin v1 6 = true then (if zin v1 6 = true then (if zin v1 6 = true then some ((q10.2 3 (Int32.toNatClampNeg v1), zu (zu q10.2 3 (Int32.toNatClampNeg v1) v2) 4 (Int32.toNatClampNeg v1) v3)) else none) else none) else none))))) else ((f_X11_isGap J v2 q1.2).bind fun q17 => (if q17.1 = 0 then some (((-1), q17.2)) else (if v2 = (-9) then (if v2 = v1 then some (((-3), q17.2)) else (if zin v1 6 = true then (if zin v1 6 = true then (if zin v1 6 = true then some ((q17.2 3 (Int32.toNatClampNeg v1), zu (zu q17.2 3 (Int32.toNatClampNeg v1) v2) 4 (Int32.toNatClampNeg v1) v3)) else none) else none) else none)) else ((f_X11_isValue J v3 q17.2).bind fun q25 => (if q25.1 = 0 then some (((-2), q25.2)) else (if v2 = v1 then some (((-3), q25.2)) else (if zin v1 6 = true then (if zin v1 6 = true then (if zin v1 6 = true then some ((q25.2 3 (Int32.toNatClampNeg v1), zu (zu q25.2 3 (Int32.toNatClampNeg v1) v2) 4 (Int32.toNatClampNeg v1) v3)) else none) else none) else none))))))))))
noncomputable abbrev rmX11_hang : Room := { frames := 1, cells := 0, slots := 0, locals := 20 }
theorem zyX11_hang : zY yX11_hang wsX11_hang cX11_hang 5 (some .int) 3 := ⟨⟨_, rfl⟩, by decide +kernel⟩
theorem zrX11_hang_X11_isGap : zRm rmX11_isGap rmX11_hang 1 := ⟨rfl, rfl, by decide, by decide⟩
theorem zrX11_hang_X11_isValue : zRm rmX11_isValue rmX11_hang 1 := ⟨rfl, rfl, by decide, by decide⟩
set_option maxHeartbeats 1000000 in
set_option maxRecDepth 100000 in
theorem c_X11_hang (B : zB) (I : zM) (J : zJ) (hJ : zJok J) (v1 : Int32) (v2 : Int32) (v3 : Int32) (r : Int32) (I' : zM) (hf : f_X11_hang J v1 v2 v3 I = some (r, I')) : zCi B zKW I J yX11_hang wsX11_hang rmX11_hang [.ref (za B 0), .int v1, .int v2, .int v3] (fun r2 I2 J2 => r2 = r ∧ I2 = I' ∧ J2 = J) := by
  refine z_start (own := RX11) (cc := cX11_hang) (nL := 5) (ret := (some .int)) rfl (by decide) rfl (Nat.le_of_ble_eq_true rfl) (L := [(0, .ref (za B 0)), (1, .int v1), (2, .int v2), (3, .int v3)]) rfl (fun G h hr => ?_)
  rw [f_X11_hang] at hf
  refine z_iload_n h 1 dX11_hang_0 rfl (rfl : 0 + 1 = 1) ?_
  obtain ⟨q1, e2, hf⟩ := zbind hf
  refine z_goF (z_runS h [.int v1] [] zyX11_isGap (c_X11_isGap B I J hJ v1 _ _ e2) gX11_hang_X11_isGap zrX11_hang_X11_isGap rfl (Nat.le_of_ble_eq_true rfl) ⟨Nat.zero_le _, Nat.zero_le _⟩ rfl dX11_hang_1) rfl ?_
  refine z_if_eq (pc' := 7) h 20 dX11_hang_4 (by decide) rfl (fun c3 => ?_) (fun c3 => ?_)
  · have hf := zitt c3 hf
    refine z_iconst h (-1) dX11_hang_20 (by decide) (rfl : 20 + 1 = 21) ?_
    refine z_iret h hr dX11_hang_21 ?_
    exact ⟨congrArg Prod.fst (zsome hf), congrArg Prod.snd (zsome hf), rfl⟩
  · have hf := zitf c3 hf
    refine z_iload_n h 2 dX11_hang_7 rfl (rfl : 7 + 1 = 8) ?_
    refine z_bipush h (-9) dX11_hang_8 (by decide) (rfl : 8 + 2 = 10) ?_
    refine z_icmp_eq (pc' := 13) h 22 dX11_hang_10 (by decide) rfl (fun c4 => ?_) (fun c4 => ?_)
    · have hf := zitt c4 hf
      refine z_iload_n h 2 dX11_hang_22 rfl (rfl : 22 + 1 = 23) ?_
      refine z_bipush h (-9) dX11_hang_23 (by decide) (rfl : 23 + 2 = 25) ?_
      refine z_icmp_eq (pc' := 28) h 38 dX11_hang_25 (by decide) rfl (fun c5 => ?_) (fun c5 => ?_)
      · have hf := zitt c5 hf
        refine z_iload_n h 2 dX11_hang_38 rfl (rfl : 38 + 1 = 39) ?_
        refine z_iload_n h 1 dX11_hang_39 rfl (rfl : 39 + 1 = 40) ?_
        refine z_icmp_ne (pc' := 43) h 46 dX11_hang_40 (by decide) rfl (fun c6 => ?_) (fun c6 => ?_)
        · have hf := zitf c6 hf
          refine z_aload_n h 0 dX11_hang_46 rfl (rfl : 46 + 1 = 47) ?_
          refine z_getr (ci := 10) (C := RX11) (T := TX11) (N := 13) h 0 1 ((hJ.1 0 0 (by decide)).trans rfl) rfl rfl (fun _ hq => List.mem_cons_of_mem _ (List.mem_append_left _ (List.mem_append_right _ hq))) (by decide) (List.mem_of_getElem? (i := 1) rfl) rfl dX11_hang_47 (rfl : 47 + 3 = 50) ?_
          refine z_getr (ci := 3) (C := RX3) (T := TX3) (N := 4) h 2 3 ((hJ.1 1 2 (by decide)).trans rfl) rfl rfl (fun _ hq => List.mem_cons_of_mem _ (List.mem_append_right _ hq)) (by decide) (List.mem_of_getElem? (i := 2) rfl) rfl dX11_hang_50 (rfl : 50 + 3 = 53) ?_
          refine z_iload_n h 1 dX11_hang_53 rfl (rfl : 53 + 1 = 54) ?_
          obtain ⟨b7, hf⟩ := zchk hf
          refine z_iald h rfl b7 dX11_hang_54 (rfl : 54 + 1 = 55) ?_
          refine z_istore h [(4, .int (q1.2 3 (Int32.toNatClampNeg v1))), (0, .ref (za B 0)), (1, .int v1), (2, .int v2), (3, .int v3)] dX11_hang_55 (by decide) rfl (rfl : 55 + 2 = 57) ?_
          refine z_aload_n h 1 dX11_hang_57 rfl (rfl : 57 + 1 = 58) ?_
          refine z_getr (ci := 10) (C := RX11) (T := TX11) (N := 13) h 0 1 ((hJ.1 0 0 (by decide)).trans rfl) rfl rfl (fun _ hq => List.mem_cons_of_mem _ (List.mem_append_left _ (List.mem_append_right _ hq))) (by decide) (List.mem_of_getElem? (i := 1) rfl) rfl dX11_hang_58 (rfl : 58 + 3 = 61) ?_
          refine z_getr (ci := 3) (C := RX3) (T := TX3) (N := 4) h 2 3 ((hJ.1 1 2 (by decide)).trans rfl) rfl rfl (fun _ hq => List.mem_cons_of_mem _ (List.mem_append_right _ hq)) (by decide) (List.mem_of_getElem? (i := 2) rfl) rfl dX11_hang_61 (rfl : 61 + 3 = 64) ?_
          refine z_iload_n h 2 dX11_hang_64 rfl (rfl : 64 + 1 = 65) ?_
          refine z_iload_n h 3 dX11_hang_65 rfl (rfl : 65 + 1 = 66) ?_
          obtain ⟨b8, hf⟩ := zchk hf
          refine z_iast h b8 rfl dX11_hang_66 (rfl : 66 + 1 = 67) ?_
          refine z_aload_n h 1 dX11_hang_67 rfl (rfl : 67 + 1 = 68) ?_
          refine z_getr (ci := 10) (C := RX11) (T := TX11) (N := 13) h 0 1 ((hJ.1 0 0 (by decide)).trans rfl) rfl rfl (fun _ hq => List.mem_cons_of_mem _ (List.mem_append_left _ (List.mem_append_right _ hq))) (by decide) (List.mem_of_getElem? (i := 1) rfl) rfl dX11_hang_68 (rfl : 68 + 3 = 71) ?_
          refine z_getr (ci := 3) (C := RX3) (T := TX3) (N := 4) h 3 4 ((hJ.1 1 3 (by decide)).trans rfl) rfl rfl (fun _ hq => List.mem_cons_of_mem _ (List.mem_append_right _ hq)) (by decide) (List.mem_of_getElem? (i := 3) rfl) rfl dX11_hang_71 (rfl : 71 + 3 = 74) ?_
          refine z_iload_n h 2 dX11_hang_74 rfl (rfl : 74 + 1 = 75) ?_
          refine z_iload_n h 4 dX11_hang_75 rfl (rfl : 75 + 1 = 76) ?_
          obtain ⟨b9, hf⟩ := zchk hf
          refine z_iast h b9 rfl dX11_hang_76 (rfl : 76 + 1 = 77) ?_
          refine z_iload h 0 dX11_hang_77 rfl (rfl : 77 + 2 = 79) ?_
          refine z_iret h hr dX11_hang_79 ?_
          exact ⟨congrArg Prod.fst (zsome hf), congrArg Prod.snd (zsome hf), rfl⟩
        · have hf := zitt c6 hf
          refine z_bipush h (-3) dX11_hang_43 (by decide) (rfl : 43 + 2 = 45) ?_
          refine z_iret h hr dX11_hang_45 ?_
          exact ⟨congrArg Prod.fst (zsome hf), congrArg Prod.snd (zsome hf), rfl⟩
      · have hf := zitf c5 hf
        refine z_iload_n h 3 dX11_hang_28 rfl (rfl : 28 + 1 = 29) ?_
        obtain ⟨q10, e11, hf⟩ := zbind hf
        refine z_goF (z_runS h [.int v3] [] zyX11_isValue (c_X11_isValue B q1.2 J hJ v3 _ _ e11) gX11_hang_X11_isValue zrX11_hang_X11_isValue rfl (Nat.le_of_ble_eq_true rfl) ⟨Nat.zero_le _, Nat.zero_le _⟩ rfl dX11_hang_29) rfl ?_
        refine z_if_ne (pc' := 35) h 38 dX11_hang_32 (by decide) rfl (fun c12 => ?_) (fun c12 => ?_)
        · have hf := zitf c12 hf
          refine z_iload_n h 2 dX11_hang_38 rfl (rfl : 38 + 1 = 39) ?_
          refine z_iload_n h 1 dX11_hang_39 rfl (rfl : 39 + 1 = 40) ?_
          refine z_icmp_ne (pc' := 43) h 46 dX11_hang_40 (by decide) rfl (fun c13 => ?_) (fun c13 => ?_)
          · have hf := zitf c13 hf
            refine z_aload_n h 0 dX11_hang_46 rfl (rfl : 46 + 1 = 47) ?_
            refine z_getr (ci := 10) (C := RX11) (T := TX11) (N := 13) h 0 1 ((hJ.1 0 0 (by decide)).trans rfl) rfl rfl (fun _ hq => List.mem_cons_of_mem _ (List.mem_append_left _ (List.mem_append_right _ hq))) (by decide) (List.mem_of_getElem? (i := 1) rfl) rfl dX11_hang_47 (rfl : 47 + 3 = 50) ?_
            refine z_getr (ci := 3) (C := RX3) (T := TX3) (N := 4) h 2 3 ((hJ.1 1 2 (by decide)).trans rfl) rfl rfl (fun _ hq => List.mem_cons_of_mem _ (List.mem_append_right _ hq)) (by decide) (List.mem_of_getElem? (i := 2) rfl) rfl dX11_hang_50 (rfl : 50 + 3 = 53) ?_
            refine z_iload_n h 1 dX11_hang_53 rfl (rfl : 53 + 1 = 54) ?_
            obtain ⟨b14, hf⟩ := zchk hf
            refine z_iald h rfl b14 dX11_hang_54 (rfl : 54 + 1 = 55) ?_
            refine z_istore h [(4, .int (q10.2 3 (Int32.toNatClampNeg v1))), (0, .ref (za B 0)), (1, .int v1), (2, .int v2), (3, .int v3)] dX11_hang_55 (by decide) rfl (rfl : 55 + 2 = 57) ?_
            refine z_aload_n h 1 dX11_hang_57 rfl (rfl : 57 + 1 = 58) ?_
            refine z_getr (ci := 10) (C := RX11) (T := TX11) (N := 13) h 0 1 ((hJ.1 0 0 (by decide)).trans rfl) rfl rfl (fun _ hq => List.mem_cons_of_mem _ (List.mem_append_left _ (List.mem_append_right _ hq))) (by decide) (List.mem_of_getElem? (i := 1) rfl) rfl dX11_hang_58 (rfl : 58 + 3 = 61) ?_
            refine z_getr (ci := 3) (C := RX3) (T := TX3) (N := 4) h 2 3 ((hJ.1 1 2 (by decide)).trans rfl) rfl rfl (fun _ hq => List.mem_cons_of_mem _ (List.mem_append_right _ hq)) (by decide) (List.mem_of_getElem? (i := 2) rfl) rfl dX11_hang_61 (rfl : 61 + 3 = 64) ?_
            refine z_iload_n h 2 dX11_hang_64 rfl (rfl : 64 + 1 = 65) ?_
            refine z_iload_n h 3 dX11_hang_65 rfl (rfl : 65 + 1 = 66) ?_
            obtain ⟨b15, hf⟩ := zchk hf
            refine z_iast h b15 rfl dX11_hang_66 (rfl : 66 + 1 = 67) ?_
            refine z_aload_n h 1 dX11_hang_67 rfl (rfl : 67 + 1 = 68) ?_
            refine z_getr (ci := 10) (C := RX11) (T := TX11) (N := 13) h 0 1 ((hJ.1 0 0 (by decide)).trans rfl) rfl rfl (fun _ hq => List.mem_cons_of_mem _ (List.mem_append_left _ (List.mem_append_right _ hq))) (by decide) (List.mem_of_getElem? (i := 1) rfl) rfl dX11_hang_68 (rfl : 68 + 3 = 71) ?_
            refine z_getr (ci := 3) (C := RX3) (T := TX3) (N := 4) h 3 4 ((hJ.1 1 3 (by decide)).trans rfl) rfl rfl (fun _ hq => List.mem_cons_of_mem _ (List.mem_append_right _ hq)) (by decide) (List.mem_of_getElem? (i := 3) rfl) rfl dX11_hang_71 (rfl : 71 + 3 = 74) ?_
            refine z_iload_n h 2 dX11_hang_74 rfl (rfl : 74 + 1 = 75) ?_
            refine z_iload_n h 4 dX11_hang_75 rfl (rfl : 75 + 1 = 76) ?_
            obtain ⟨b16, hf⟩ := zchk hf
            refine z_iast h b16 rfl dX11_hang_76 (rfl : 76 + 1 = 77) ?_
            refine z_iload h 0 dX11_hang_77 rfl (rfl : 77 + 2 = 79) ?_
            refine z_iret h hr dX11_hang_79 ?_
            exact ⟨congrArg Prod.fst (zsome hf), congrArg Prod.snd (zsome hf), rfl⟩
          · have hf := zitt c13 hf
            refine z_bipush h (-3) dX11_hang_43 (by decide) (rfl : 43 + 2 = 45) ?_
            refine z_iret h hr dX11_hang_45 ?_
            exact ⟨congrArg Prod.fst (zsome hf), congrArg Prod.snd (zsome hf), rfl⟩
        · have hf := zitt c12 hf
          refine z_bipush h (-2) dX11_hang_35 (by decide) (rfl : 35 + 2 = 37) ?_
          refine z_iret h hr dX11_hang_37 ?_
          exact ⟨congrArg Prod.fst (zsome hf), congrArg Prod.snd (zsome hf), rfl⟩
    · have hf := zitf c4 hf
      refine z_iload_n h 2 dX11_hang_13 rfl (rfl : 13 + 1 = 14) ?_
      obtain ⟨q17, e18, hf⟩ := zbind hf
      refine z_goF (z_runS h [.int v2] [] zyX11_isGap (c_X11_isGap B q1.2 J hJ v2 _ _ e18) gX11_hang_X11_isGap zrX11_hang_X11_isGap rfl (Nat.le_of_ble_eq_true rfl) ⟨Nat.zero_le _, Nat.zero_le _⟩ rfl dX11_hang_14) rfl ?_
      refine z_if_ne (pc' := 20) h 22 dX11_hang_17 (by decide) rfl (fun c19 => ?_) (fun c19 => ?_)
      · have hf := zitf c19 hf
        refine z_iload_n h 2 dX11_hang_22 rfl (rfl : 22 + 1 = 23) ?_
        refine z_bipush h (-9) dX11_hang_23 (by decide) (rfl : 23 + 2 = 25) ?_
        refine z_icmp_eq (pc' := 28) h 38 dX11_hang_25 (by decide) rfl (fun c20 => ?_) (fun c20 => ?_)
        · have hf := zitt c20 hf
          refine z_iload_n h 2 dX11_hang_38 rfl (rfl : 38 + 1 = 39) ?_
          refine z_iload_n h 1 dX11_hang_39 rfl (rfl : 39 + 1 = 40) ?_
          refine z_icmp_ne (pc' := 43) h 46 dX11_hang_40 (by decide) rfl (fun c21 => ?_) (fun c21 => ?_)
          · have hf := zitf c21 hf
            refine z_aload_n h 0 dX11_hang_46 rfl (rfl : 46 + 1 = 47) ?_
            refine z_getr (ci := 10) (C := RX11) (T := TX11) (N := 13) h 0 1 ((hJ.1 0 0 (by decide)).trans rfl) rfl rfl (fun _ hq => List.mem_cons_of_mem _ (List.mem_append_left _ (List.mem_append_right _ hq))) (by decide) (List.mem_of_getElem? (i := 1) rfl) rfl dX11_hang_47 (rfl : 47 + 3 = 50) ?_
            refine z_getr (ci := 3) (C := RX3) (T := TX3) (N := 4) h 2 3 ((hJ.1 1 2 (by decide)).trans rfl) rfl rfl (fun _ hq => List.mem_cons_of_mem _ (List.mem_append_right _ hq)) (by decide) (List.mem_of_getElem? (i := 2) rfl) rfl dX11_hang_50 (rfl : 50 + 3 = 53) ?_
            refine z_iload_n h 1 dX11_hang_53 rfl (rfl : 53 + 1 = 54) ?_
            obtain ⟨b22, hf⟩ := zchk hf
            refine z_iald h rfl b22 dX11_hang_54 (rfl : 54 + 1 = 55) ?_
            refine z_istore h [(4, .int (q17.2 3 (Int32.toNatClampNeg v1))), (0, .ref (za B 0)), (1, .int v1), (2, .int v2), (3, .int v3)] dX11_hang_55 (by decide) rfl (rfl : 55 + 2 = 57) ?_
            refine z_aload_n h 1 dX11_hang_57 rfl (rfl : 57 + 1 = 58) ?_
            refine z_getr (ci := 10) (C := RX11) (T := TX11) (N := 13) h 0 1 ((hJ.1 0 0 (by decide)).trans rfl) rfl rfl (fun _ hq => List.mem_cons_of_mem _ (List.mem_append_left _ (List.mem_append_right _ hq))) (by decide) (List.mem_of_getElem? (i := 1) rfl) rfl dX11_hang_58 (rfl : 58 + 3 = 61) ?_
            refine z_getr (ci := 3) (C := RX3) (T := TX3) (N := 4) h 2 3 ((hJ.1 1 2 (by decide)).trans rfl) rfl rfl (fun _ hq => List.mem_cons_of_mem _ (List.mem_append_right _ hq)) (by decide) (List.mem_of_getElem? (i := 2) rfl) rfl dX11_hang_61 (rfl : 61 + 3 = 64) ?_
            refine z_iload_n h 2 dX11_hang_64 rfl (rfl : 64 + 1 = 65) ?_
            refine z_iload_n h 3 dX11_hang_65 rfl (rfl : 65 + 1 = 66) ?_
            obtain ⟨b23, hf⟩ := zchk hf
            refine z_iast h b23 rfl dX11_hang_66 (rfl : 66 + 1 = 67) ?_
            refine z_aload_n h 1 dX11_hang_67 rfl (rfl : 67 + 1 = 68) ?_
            refine z_getr (ci := 10) (C := RX11) (T := TX11) (N := 13) h 0 1 ((hJ.1 0 0 (by decide)).trans rfl) rfl rfl (fun _ hq => List.mem_cons_of_mem _ (List.mem_append_left _ (List.mem_append_right _ hq))) (by decide) (List.mem_of_getElem? (i := 1) rfl) rfl dX11_hang_68 (rfl : 68 + 3 = 71) ?_
            refine z_getr (ci := 3) (C := RX3) (T := TX3) (N := 4) h 3 4 ((hJ.1 1 3 (by decide)).trans rfl) rfl rfl (fun _ hq => List.mem_cons_of_mem _ (List.mem_append_right _ hq)) (by decide) (List.mem_of_getElem? (i := 3) rfl) rfl dX11_hang_71 (rfl : 71 + 3 = 74) ?_
            refine z_iload_n h 2 dX11_hang_74 rfl (rfl : 74 + 1 = 75) ?_
            refine z_iload_n h 4 dX11_hang_75 rfl (rfl : 75 + 1 = 76) ?_
            obtain ⟨b24, hf⟩ := zchk hf
            refine z_iast h b24 rfl dX11_hang_76 (rfl : 76 + 1 = 77) ?_
            refine z_iload h 0 dX11_hang_77 rfl (rfl : 77 + 2 = 79) ?_
            refine z_iret h hr dX11_hang_79 ?_
            exact ⟨congrArg Prod.fst (zsome hf), congrArg Prod.snd (zsome hf), rfl⟩
          · have hf := zitt c21 hf
            refine z_bipush h (-3) dX11_hang_43 (by decide) (rfl : 43 + 2 = 45) ?_
            refine z_iret h hr dX11_hang_45 ?_
            exact ⟨congrArg Prod.fst (zsome hf), congrArg Prod.snd (zsome hf), rfl⟩
        · have hf := zitf c20 hf
          refine z_iload_n h 3 dX11_hang_28 rfl (rfl : 28 + 1 = 29) ?_
          obtain ⟨q25, e26, hf⟩ := zbind hf
          refine z_goF (z_runS h [.int v3] [] zyX11_isValue (c_X11_isValue B q17.2 J hJ v3 _ _ e26) gX11_hang_X11_isValue zrX11_hang_X11_isValue rfl (Nat.le_of_ble_eq_true rfl) ⟨Nat.zero_le _, Nat.zero_le _⟩ rfl dX11_hang_29) rfl ?_
          refine z_if_ne (pc' := 35) h 38 dX11_hang_32 (by decide) rfl (fun c27 => ?_) (fun c27 => ?_)
          · have hf := zitf c27 hf
            refine z_iload_n h 2 dX11_hang_38 rfl (rfl : 38 + 1 = 39) ?_
            refine z_iload_n h 1 dX11_hang_39 rfl (rfl : 39 + 1 = 40) ?_
            refine z_icmp_ne (pc' := 43) h 46 dX11_hang_40 (by decide) rfl (fun c28 => ?_) (fun c28 => ?_)
            · have hf := zitf c28 hf
              refine z_aload_n h 0 dX11_hang_46 rfl (rfl : 46 + 1 = 47) ?_
              refine z_getr (ci := 10) (C := RX11) (T := TX11) (N := 13) h 0 1 ((hJ.1 0 0 (by decide)).trans rfl) rfl rfl (fun _ hq => List.mem_cons_of_mem _ (List.mem_append_left _ (List.mem_append_right _ hq))) (by decide) (List.mem_of_getElem? (i := 1) rfl) rfl dX11_hang_47 (rfl : 47 + 3 = 50) ?_
              refine z_getr (ci := 3) (C := RX3) (T := TX3) (N := 4) h 2 3 ((hJ.1 1 2 (by decide)).trans rfl) rfl rfl (fun _ hq => List.mem_cons_of_mem _ (List.mem_append_right _ hq)) (by decide) (List.mem_of_getElem? (i := 2) rfl) rfl dX11_hang_50 (rfl : 50 + 3 = 53) ?_
              refine z_iload_n h 1 dX11_hang_53 rfl (rfl : 53 + 1 = 54) ?_
              obtain ⟨b29, hf⟩ := zchk hf
              refine z_iald h rfl b29 dX11_hang_54 (rfl : 54 + 1 = 55) ?_
              refine z_istore h [(4, .int (q25.2 3 (Int32.toNatClampNeg v1))), (0, .ref (za B 0)), (1, .int v1), (2, .int v2), (3, .int v3)] dX11_hang_55 (by decide) rfl (rfl : 55 + 2 = 57) ?_
              refine z_aload_n h 1 dX11_hang_57 rfl (rfl : 57 + 1 = 58) ?_
              refine z_getr (ci := 10) (C := RX11) (T := TX11) (N := 13) h 0 1 ((hJ.1 0 0 (by decide)).trans rfl) rfl rfl (fun _ hq => List.mem_cons_of_mem _ (List.mem_append_left _ (List.mem_append_right _ hq))) (by decide) (List.mem_of_getElem? (i := 1) rfl) rfl dX11_hang_58 (rfl : 58 + 3 = 61) ?_
              refine z_getr (ci := 3) (C := RX3) (T := TX3) (N := 4) h 2 3 ((hJ.1 1 2 (by decide)).trans rfl) rfl rfl (fun _ hq => List.mem_cons_of_mem _ (List.mem_append_right _ hq)) (by decide) (List.mem_of_getElem? (i := 2) rfl) rfl dX11_hang_61 (rfl : 61 + 3 = 64) ?_
              refine z_iload_n h 2 dX11_hang_64 rfl (rfl : 64 + 1 = 65) ?_
              refine z_iload_n h 3 dX11_hang_65 rfl (rfl : 65 + 1 = 66) ?_
              obtain ⟨b30, hf⟩ := zchk hf
              refine z_iast h b30 rfl dX11_hang_66 (rfl : 66 + 1 = 67) ?_
              refine z_aload_n h 1 dX11_hang_67 rfl (rfl : 67 + 1 = 68) ?_
              refine z_getr (ci := 10) (C := RX11) (T := TX11) (N := 13) h 0 1 ((hJ.1 0 0 (by decide)).trans rfl) rfl rfl (fun _ hq => List.mem_cons_of_mem _ (List.mem_append_left _ (List.mem_append_right _ hq))) (by decide) (List.mem_of_getElem? (i := 1) rfl) rfl dX11_hang_68 (rfl : 68 + 3 = 71) ?_
              refine z_getr (ci := 3) (C := RX3) (T := TX3) (N := 4) h 3 4 ((hJ.1 1 3 (by decide)).trans rfl) rfl rfl (fun _ hq => List.mem_cons_of_mem _ (List.mem_append_right _ hq)) (by decide) (List.mem_of_getElem? (i := 3) rfl) rfl dX11_hang_71 (rfl : 71 + 3 = 74) ?_
              refine z_iload_n h 2 dX11_hang_74 rfl (rfl : 74 + 1 = 75) ?_
              refine z_iload_n h 4 dX11_hang_75 rfl (rfl : 75 + 1 = 76) ?_
              obtain ⟨b31, hf⟩ := zchk hf
              refine z_iast h b31 rfl dX11_hang_76 (rfl : 76 + 1 = 77) ?_
              refine z_iload h 0 dX11_hang_77 rfl (rfl : 77 + 2 = 79) ?_
              refine z_iret h hr dX11_hang_79 ?_
              exact ⟨congrArg Prod.fst (zsome hf), congrArg Prod.snd (zsome hf), rfl⟩
            · have hf := zitt c28 hf
              refine z_bipush h (-3) dX11_hang_43 (by decide) (rfl : 43 + 2 = 45) ?_
              refine z_iret h hr dX11_hang_45 ?_
              exact ⟨congrArg Prod.fst (zsome hf), congrArg Prod.snd (zsome hf), rfl⟩
          · have hf := zitt c27 hf
            refine z_bipush h (-2) dX11_hang_35 (by decide) (rfl : 35 + 2 = 37) ?_
            refine z_iret h hr dX11_hang_37 ?_
            exact ⟨congrArg Prod.fst (zsome hf), congrArg Prod.snd (zsome hf), rfl⟩
      · have hf := zitt c19 hf
        refine z_iconst h (-1) dX11_hang_20 (by decide) (rfl : 20 + 1 = 21) ?_
        refine z_iret h hr dX11_hang_21 ?_
        exact ⟨congrArg Prod.fst (zsome hf), congrArg Prod.snd (zsome hf), rfl⟩
noncomputable def f_X11_isPerson (J : zJ) (v0 : Int32) (I : zM) : Option (Int32 × zM) := (if v0 < 0 then some ((0, I)) else (if 5 ≤ v0 then some ((0, I)) else some ((1, I))))
noncomputable abbrev rmX11_isPerson : Room := { frames := 0, cells := 0, slots := 0, locals := 0 }
theorem zyX11_isPerson : zY yX11_isPerson wsX11_isPerson cX11_isPerson 1 (some .boolean) 1 := ⟨⟨_, rfl⟩, by decide +kernel⟩
set_option maxHeartbeats 1000000 in
set_option maxRecDepth 100000 in
theorem c_X11_isPerson (B : zB) (I : zM) (J : zJ) (hJ : zJok J) (v0 : Int32) (r : Int32) (I' : zM) (hf : f_X11_isPerson J v0 I = some (r, I')) : zCi B zKW I J yX11_isPerson wsX11_isPerson rmX11_isPerson [.int v0] (fun r2 I2 J2 => r2 = r ∧ I2 = I' ∧ J2 = J) := by
  refine z_start (own := RX11) (cc := cX11_isPerson) (nL := 1) (ret := (some .boolean)) rfl (by decide) rfl (Nat.le_of_ble_eq_true rfl) (L := [(0, .int v0)]) rfl (fun G h hr => ?_)
  rw [f_X11_isPerson] at hf
  refine z_iload_n h 0 dX11_isPerson_0 rfl (rfl : 0 + 1 = 1) ?_
  refine z_if_lt (pc' := 4) h 13 dX11_isPerson_1 (by decide) rfl (fun c1 => ?_) (fun c1 => ?_)
  · have hf := zitt c1 hf
    refine z_iconst h 0 dX11_isPerson_13 (by decide) (rfl : 13 + 1 = 14) ?_
    refine z_zret h hr dX11_isPerson_14 (Or.inl rfl) ?_
    exact ⟨congrArg Prod.fst (zsome hf), congrArg Prod.snd (zsome hf), rfl⟩
  · have hf := zitf c1 hf
    refine z_iload_n h 0 dX11_isPerson_4 rfl (rfl : 4 + 1 = 5) ?_
    refine z_iconst h 5 dX11_isPerson_5 (by decide) (rfl : 5 + 1 = 6) ?_
    refine z_icmp_ge (pc' := 9) h 13 dX11_isPerson_6 (by decide) rfl (fun c2 => ?_) (fun c2 => ?_)
    · have hf := zitt c2 hf
      refine z_iconst h 0 dX11_isPerson_13 (by decide) (rfl : 13 + 1 = 14) ?_
      refine z_zret h hr dX11_isPerson_14 (Or.inl rfl) ?_
      exact ⟨congrArg Prod.fst (zsome hf), congrArg Prod.snd (zsome hf), rfl⟩
    · have hf := zitf c2 hf
      refine z_iconst h 1 dX11_isPerson_9 (by decide) (rfl : 9 + 1 = 10) ?_
      refine z_goto (pc' := 14) h dX11_isPerson_10 (by decide) ?_
      refine z_zret h hr dX11_isPerson_14 (Or.inr rfl) ?_
      exact ⟨congrArg Prod.fst (zsome hf), congrArg Prod.snd (zsome hf), rfl⟩
noncomputable def f_X11_isTrade (J : zJ) (v0 : Int32) (I : zM) : Option (Int32 × zM) := (if v0 < 0 then some ((0, I)) else (if 3 ≤ v0 then some ((0, I)) else some ((1, I))))
noncomputable abbrev rmX11_isTrade : Room := { frames := 0, cells := 0, slots := 0, locals := 0 }
theorem zyX11_isTrade : zY yX11_isTrade wsX11_isTrade cX11_isTrade 1 (some .boolean) 1 := ⟨⟨_, rfl⟩, by decide +kernel⟩
set_option maxHeartbeats 1000000 in
set_option maxRecDepth 100000 in
theorem c_X11_isTrade (B : zB) (I : zM) (J : zJ) (hJ : zJok J) (v0 : Int32) (r : Int32) (I' : zM) (hf : f_X11_isTrade J v0 I = some (r, I')) : zCi B zKW I J yX11_isTrade wsX11_isTrade rmX11_isTrade [.int v0] (fun r2 I2 J2 => r2 = r ∧ I2 = I' ∧ J2 = J) := by
  refine z_start (own := RX11) (cc := cX11_isTrade) (nL := 1) (ret := (some .boolean)) rfl (by decide) rfl (Nat.le_of_ble_eq_true rfl) (L := [(0, .int v0)]) rfl (fun G h hr => ?_)
  rw [f_X11_isTrade] at hf
  refine z_iload_n h 0 dX11_isTrade_0 rfl (rfl : 0 + 1 = 1) ?_
  refine z_if_lt (pc' := 4) h 13 dX11_isTrade_1 (by decide) rfl (fun c1 => ?_) (fun c1 => ?_)
  · have hf := zitt c1 hf
    refine z_iconst h 0 dX11_isTrade_13 (by decide) (rfl : 13 + 1 = 14) ?_
    refine z_zret h hr dX11_isTrade_14 (Or.inl rfl) ?_
    exact ⟨congrArg Prod.fst (zsome hf), congrArg Prod.snd (zsome hf), rfl⟩
  · have hf := zitf c1 hf
    refine z_iload_n h 0 dX11_isTrade_4 rfl (rfl : 4 + 1 = 5) ?_
    refine z_iconst h 3 dX11_isTrade_5 (by decide) (rfl : 5 + 1 = 6) ?_
    refine z_icmp_ge (pc' := 9) h 13 dX11_isTrade_6 (by decide) rfl (fun c2 => ?_) (fun c2 => ?_)
    · have hf := zitt c2 hf
      refine z_iconst h 0 dX11_isTrade_13 (by decide) (rfl : 13 + 1 = 14) ?_
      refine z_zret h hr dX11_isTrade_14 (Or.inl rfl) ?_
      exact ⟨congrArg Prod.fst (zsome hf), congrArg Prod.snd (zsome hf), rfl⟩
    · have hf := zitf c2 hf
      refine z_iconst h 1 dX11_isTrade_9 (by decide) (rfl : 9 + 1 = 10) ?_
      refine z_goto (pc' := 14) h dX11_isTrade_10 (by decide) ?_
      refine z_zret h hr dX11_isTrade_14 (Or.inr rfl) ?_
      exact ⟨congrArg Prod.fst (zsome hf), congrArg Prod.snd (zsome hf), rfl⟩
noncomputable def f_X11_doing (J : zJ) (v1 : Int32) (v2 : Int32) (v3 : Int32) (v4 : Int32) (v5 : Int32) (v6 : Int32) (I : zM) : Option (Int32 × zM) := ((f_X11_isPerson J v1 I).bind fun q1 => (if q1.1 = 0 then some (((-1), q1.2)) else ((f_X11_isPerson J v2 q1.2).bind fun q4 => (if q4.1 = 0 then some (((-1), q4.2)) else ((f_X11_isTrade J v3 q4.2).bind fun q7 => (if q7.1 = 0 then some (((-1), q7.2)) else ((f_X11_isGap J v4 q7.2).bind fun q10 => (if q10.1 = 0 then some (((-1), q10.2)) else ((f_X11_isValue J v5 q10.2).bind fun q13 => (if q13.1 = 0 then some (((-2), q13.2)) else (if v1 = v2 then some (((-2), q13.2)) else (if q13.2 6 6 < 24 then ((f_X1_add J 6 v1 v2 v3 v4 v5 v6 q13.2).bind fun q18 => some ((q13.2 6 6, q18))) else some (((-4), q13.2))))))))))))))
noncomputable abbrev rmX11_doing : Room := { frames := 1, cells := 0, slots := 0, locals := 26 }
theorem zyX11_doing : zY yX11_doing wsX11_doing cX11_doing 8 (some .int) 6 := ⟨⟨_, rfl⟩, by decide +kernel⟩
theorem zrX11_doing_X11_isGap : zRm rmX11_isGap rmX11_doing 1 := ⟨rfl, rfl, by decide, by decide⟩
theorem zrX11_doing_X11_isPerson : zRm rmX11_isPerson rmX11_doing 1 := ⟨rfl, rfl, by decide, by decide⟩
theorem zrX11_doing_X11_isTrade : zRm rmX11_isTrade rmX11_doing 1 := ⟨rfl, rfl, by decide, by decide⟩
theorem zrX11_doing_X11_isValue : zRm rmX11_isValue rmX11_doing 1 := ⟨rfl, rfl, by decide, by decide⟩
theorem zrX11_doing_X1_add : zRm rmX1_add rmX11_doing 7 := ⟨rfl, rfl, by decide, by decide⟩
set_option maxHeartbeats 1000000 in
set_option maxRecDepth 100000 in
theorem c_X11_doing (B : zB) (I : zM) (J : zJ) (hJ : zJok J) (v1 : Int32) (v2 : Int32) (v3 : Int32) (v4 : Int32) (v5 : Int32) (v6 : Int32) (r : Int32) (I' : zM) (hf : f_X11_doing J v1 v2 v3 v4 v5 v6 I = some (r, I')) : zCi B zKW I J yX11_doing wsX11_doing rmX11_doing [.ref (za B 0), .int v1, .int v2, .int v3, .int v4, .int v5, .int v6] (fun r2 I2 J2 => r2 = r ∧ I2 = I' ∧ J2 = J) := by
  refine z_start (own := RX11) (cc := cX11_doing) (nL := 8) (ret := (some .int)) rfl (by decide) rfl (Nat.le_of_ble_eq_true rfl) (L := [(0, .ref (za B 0)), (1, .int v1), (2, .int v2), (3, .int v3), (4, .int v4), (5, .int v5), (6, .int v6)]) rfl (fun G h hr => ?_)
  rw [f_X11_doing] at hf
  refine z_iload_n h 1 dX11_doing_0 rfl (rfl : 0 + 1 = 1) ?_
  obtain ⟨q1, e2, hf⟩ := zbind hf
  refine z_goF (z_runS h [.int v1] [] zyX11_isPerson (c_X11_isPerson B I J hJ v1 _ _ e2) gX11_doing_X11_isPerson zrX11_doing_X11_isPerson rfl (Nat.le_of_ble_eq_true rfl) ⟨Nat.zero_le _, Nat.zero_le _⟩ rfl dX11_doing_1) rfl ?_
  refine z_if_eq (pc' := 7) h 29 dX11_doing_4 (by decide) rfl (fun c3 => ?_) (fun c3 => ?_)
  · have hf := zitt c3 hf
    refine z_iconst h (-1) dX11_doing_29 (by decide) (rfl : 29 + 1 = 30) ?_
    refine z_iret h hr dX11_doing_30 ?_
    exact ⟨congrArg Prod.fst (zsome hf), congrArg Prod.snd (zsome hf), rfl⟩
  · have hf := zitf c3 hf
    refine z_iload_n h 2 dX11_doing_7 rfl (rfl : 7 + 1 = 8) ?_
    obtain ⟨q4, e5, hf⟩ := zbind hf
    refine z_goF (z_runS h [.int v2] [] zyX11_isPerson (c_X11_isPerson B q1.2 J hJ v2 _ _ e5) gX11_doing_X11_isPerson zrX11_doing_X11_isPerson rfl (Nat.le_of_ble_eq_true rfl) ⟨Nat.zero_le _, Nat.zero_le _⟩ rfl dX11_doing_8) rfl ?_
    refine z_if_eq (pc' := 14) h 29 dX11_doing_11 (by decide) rfl (fun c6 => ?_) (fun c6 => ?_)
    · have hf := zitt c6 hf
      refine z_iconst h (-1) dX11_doing_29 (by decide) (rfl : 29 + 1 = 30) ?_
      refine z_iret h hr dX11_doing_30 ?_
      exact ⟨congrArg Prod.fst (zsome hf), congrArg Prod.snd (zsome hf), rfl⟩
    · have hf := zitf c6 hf
      refine z_iload_n h 3 dX11_doing_14 rfl (rfl : 14 + 1 = 15) ?_
      obtain ⟨q7, e8, hf⟩ := zbind hf
      refine z_goF (z_runS h [.int v3] [] zyX11_isTrade (c_X11_isTrade B q4.2 J hJ v3 _ _ e8) gX11_doing_X11_isTrade zrX11_doing_X11_isTrade rfl (Nat.le_of_ble_eq_true rfl) ⟨Nat.zero_le _, Nat.zero_le _⟩ rfl dX11_doing_15) rfl ?_
      refine z_if_eq (pc' := 21) h 29 dX11_doing_18 (by decide) rfl (fun c9 => ?_) (fun c9 => ?_)
      · have hf := zitt c9 hf
        refine z_iconst h (-1) dX11_doing_29 (by decide) (rfl : 29 + 1 = 30) ?_
        refine z_iret h hr dX11_doing_30 ?_
        exact ⟨congrArg Prod.fst (zsome hf), congrArg Prod.snd (zsome hf), rfl⟩
      · have hf := zitf c9 hf
        refine z_iload h 4 dX11_doing_21 rfl (rfl : 21 + 2 = 23) ?_
        obtain ⟨q10, e11, hf⟩ := zbind hf
        refine z_goF (z_runS h [.int v4] [] zyX11_isGap (c_X11_isGap B q7.2 J hJ v4 _ _ e11) gX11_doing_X11_isGap zrX11_doing_X11_isGap rfl (Nat.le_of_ble_eq_true rfl) ⟨Nat.zero_le _, Nat.zero_le _⟩ rfl dX11_doing_23) rfl ?_
        refine z_if_ne (pc' := 29) h 31 dX11_doing_26 (by decide) rfl (fun c12 => ?_) (fun c12 => ?_)
        · have hf := zitf c12 hf
          refine z_iload h 5 dX11_doing_31 rfl (rfl : 31 + 2 = 33) ?_
          obtain ⟨q13, e14, hf⟩ := zbind hf
          refine z_goF (z_runS h [.int v5] [] zyX11_isValue (c_X11_isValue B q10.2 J hJ v5 _ _ e14) gX11_doing_X11_isValue zrX11_doing_X11_isValue rfl (Nat.le_of_ble_eq_true rfl) ⟨Nat.zero_le _, Nat.zero_le _⟩ rfl dX11_doing_33) rfl ?_
          refine z_if_eq (pc' := 39) h 44 dX11_doing_36 (by decide) rfl (fun c15 => ?_) (fun c15 => ?_)
          · have hf := zitt c15 hf
            refine z_bipush h (-2) dX11_doing_44 (by decide) (rfl : 44 + 2 = 46) ?_
            refine z_iret h hr dX11_doing_46 ?_
            exact ⟨congrArg Prod.fst (zsome hf), congrArg Prod.snd (zsome hf), rfl⟩
          · have hf := zitf c15 hf
            refine z_iload_n h 1 dX11_doing_39 rfl (rfl : 39 + 1 = 40) ?_
            refine z_iload_n h 2 dX11_doing_40 rfl (rfl : 40 + 1 = 41) ?_
            refine z_icmp_ne (pc' := 44) h 47 dX11_doing_41 (by decide) rfl (fun c16 => ?_) (fun c16 => ?_)
            · have hf := zitf c16 hf
              refine z_aload_n h 0 dX11_doing_47 rfl (rfl : 47 + 1 = 48) ?_
              refine z_getr (ci := 10) (C := RX11) (T := TX11) (N := 13) h 2 6 ((hJ.1 0 2 (by decide)).trans rfl) rfl rfl (fun _ hq => List.mem_cons_of_mem _ (List.mem_append_left _ (List.mem_append_right _ hq))) (by decide) (List.mem_of_getElem? (i := 1) rfl) rfl dX11_doing_48 (rfl : 48 + 3 = 51) ?_
              refine z_get (ci := 1) (C := RX1) (T := TX1) (N := 9) h 6 rfl rfl (fun _ hq => List.mem_cons_of_mem _ (List.mem_append_right _ hq)) (by decide) (List.mem_of_getElem? (i := 2) rfl) rfl dX11_doing_51 (rfl : 51 + 3 = 54) ?_
              refine z_bipush h 24 dX11_doing_54 (by decide) (rfl : 54 + 2 = 56) ?_
              refine z_icmp_lt (pc' := 59) h 62 dX11_doing_56 (by decide) rfl (fun c17 => ?_) (fun c17 => ?_)
              · have hf := zitt c17 hf
                refine z_aload_n h 0 dX11_doing_62 rfl (rfl : 62 + 1 = 63) ?_
                refine z_getr (ci := 10) (C := RX11) (T := TX11) (N := 13) h 2 6 ((hJ.1 0 2 (by decide)).trans rfl) rfl rfl (fun _ hq => List.mem_cons_of_mem _ (List.mem_append_left _ (List.mem_append_right _ hq))) (by decide) (List.mem_of_getElem? (i := 1) rfl) rfl dX11_doing_63 (rfl : 63 + 3 = 66) ?_
                refine z_get (ci := 1) (C := RX1) (T := TX1) (N := 9) h 6 rfl rfl (fun _ hq => List.mem_cons_of_mem _ (List.mem_append_right _ hq)) (by decide) (List.mem_of_getElem? (i := 2) rfl) rfl dX11_doing_66 (rfl : 66 + 3 = 69) ?_
                refine z_istore h [(7, .int (q13.2 6 6)), (0, .ref (za B 0)), (1, .int v1), (2, .int v2), (3, .int v3), (4, .int v4), (5, .int v5), (6, .int v6)] dX11_doing_69 (by decide) rfl (rfl : 69 + 2 = 71) ?_
                refine z_aload_n h 1 dX11_doing_71 rfl (rfl : 71 + 1 = 72) ?_
                refine z_getr (ci := 10) (C := RX11) (T := TX11) (N := 13) h 2 6 ((hJ.1 0 2 (by decide)).trans rfl) rfl rfl (fun _ hq => List.mem_cons_of_mem _ (List.mem_append_left _ (List.mem_append_right _ hq))) (by decide) (List.mem_of_getElem? (i := 1) rfl) rfl dX11_doing_72 (rfl : 72 + 3 = 75) ?_
                refine z_iload_n h 2 dX11_doing_75 rfl (rfl : 75 + 1 = 76) ?_
                refine z_iload_n h 3 dX11_doing_76 rfl (rfl : 76 + 1 = 77) ?_
                refine z_iload_n h 4 dX11_doing_77 rfl (rfl : 77 + 1 = 78) ?_
                refine z_iload h 5 dX11_doing_78 rfl (rfl : 78 + 2 = 80) ?_
                refine z_iload h 6 dX11_doing_80 rfl (rfl : 80 + 2 = 82) ?_
                refine z_iload h 7 dX11_doing_82 rfl (rfl : 82 + 2 = 84) ?_
                obtain ⟨q18, e19, hf⟩ := zbind hf
                refine z_goFv (z_runV (C := RX1) (T := TX1) (N := 9) (ci := 1) h [.int v1, .int v2, .int v3, .int v4, .int v5, .int v6] [] zyX1_add (c_X1_add B q13.2 J hJ 6 rfl v1 v2 v3 v4 v5 v6 _ e19) gX11_doing_X1_add rfl rfl rfl zrX11_doing_X1_add rfl (Nat.le_of_ble_eq_true rfl) ⟨Nat.zero_le _, Nat.zero_le _⟩ rfl dX11_doing_84) rfl ?_
                refine z_iload h 0 dX11_doing_87 rfl (rfl : 87 + 2 = 89) ?_
                refine z_iret h hr dX11_doing_89 ?_
                exact ⟨congrArg Prod.fst (zsome hf), congrArg Prod.snd (zsome hf), rfl⟩
              · have hf := zitf c17 hf
                refine z_bipush h (-4) dX11_doing_59 (by decide) (rfl : 59 + 2 = 61) ?_
                refine z_iret h hr dX11_doing_61 ?_
                exact ⟨congrArg Prod.fst (zsome hf), congrArg Prod.snd (zsome hf), rfl⟩
            · have hf := zitt c16 hf
              refine z_bipush h (-2) dX11_doing_44 (by decide) (rfl : 44 + 2 = 46) ?_
              refine z_iret h hr dX11_doing_46 ?_
              exact ⟨congrArg Prod.fst (zsome hf), congrArg Prod.snd (zsome hf), rfl⟩
        · have hf := zitt c12 hf
          refine z_iconst h (-1) dX11_doing_29 (by decide) (rfl : 29 + 1 = 30) ?_
          refine z_iret h hr dX11_doing_30 ?_
          exact ⟨congrArg Prod.fst (zsome hf), congrArg Prod.snd (zsome hf), rfl⟩
noncomputable def f_X11_undo (J : zJ)  (I : zM) : Option (Int32 × zM) := (if I 6 6 = 0 then some (((-3), I)) else some (((zu I 6 6 ((I 6 6) - (1 : Int32))) 6 6, zu I 6 6 ((I 6 6) - (1 : Int32)))))
noncomputable abbrev rmX11_undo : Room := { frames := 0, cells := 0, slots := 0, locals := 0 }
theorem zyX11_undo : zY yX11_undo wsX11_undo cX11_undo 1 (some .int) 0 := ⟨⟨_, rfl⟩, by decide +kernel⟩
set_option maxHeartbeats 1000000 in
set_option maxRecDepth 100000 in
theorem c_X11_undo (B : zB) (I : zM) (J : zJ) (hJ : zJok J)  (r : Int32) (I' : zM) (hf : f_X11_undo J  I = some (r, I')) : zCi B zKW I J yX11_undo wsX11_undo rmX11_undo [.ref (za B 0)] (fun r2 I2 J2 => r2 = r ∧ I2 = I' ∧ J2 = J) := by
  refine z_start (own := RX11) (cc := cX11_undo) (nL := 1) (ret := (some .int)) rfl (by decide) rfl (Nat.le_of_ble_eq_true rfl) (L := [(0, .ref (za B 0))]) rfl (fun G h hr => ?_)
  rw [f_X11_undo] at hf
  refine z_aload_n h 0 dX11_undo_0 rfl (rfl : 0 + 1 = 1) ?_
  refine z_getr (ci := 10) (C := RX11) (T := TX11) (N := 13) h 2 6 ((hJ.1 0 2 (by decide)).trans rfl) rfl rfl (fun _ hq => List.mem_cons_of_mem _ (List.mem_append_left _ (List.mem_append_right _ hq))) (by decide) (List.mem_of_getElem? (i := 1) rfl) rfl dX11_undo_1 (rfl : 1 + 3 = 4) ?_
  refine z_get (ci := 1) (C := RX1) (T := TX1) (N := 9) h 6 rfl rfl (fun _ hq => List.mem_cons_of_mem _ (List.mem_append_right _ hq)) (by decide) (List.mem_of_getElem? (i := 2) rfl) rfl dX11_undo_4 (rfl : 4 + 3 = 7) ?_
  refine z_if_ne (pc' := 10) h 13 dX11_undo_7 (by decide) rfl (fun c1 => ?_) (fun c1 => ?_)
  · have hf := zitf c1 hf
    refine z_aload_n h 0 dX11_undo_13 rfl (rfl : 13 + 1 = 14) ?_
    refine z_getr (ci := 10) (C := RX11) (T := TX11) (N := 13) h 2 6 ((hJ.1 0 2 (by decide)).trans rfl) rfl rfl (fun _ hq => List.mem_cons_of_mem _ (List.mem_append_left _ (List.mem_append_right _ hq))) (by decide) (List.mem_of_getElem? (i := 1) rfl) rfl dX11_undo_14 (rfl : 14 + 3 = 17) ?_
    refine z_dup h rfl dX11_undo_17 (rfl : 17 + 1 = 18) ?_
    refine z_get (ci := 1) (C := RX1) (T := TX1) (N := 9) h 6 rfl rfl (fun _ hq => List.mem_cons_of_mem _ (List.mem_append_right _ hq)) (by decide) (List.mem_of_getElem? (i := 2) rfl) rfl dX11_undo_18 (rfl : 18 + 3 = 21) ?_
    refine z_iconst h 1 dX11_undo_21 (by decide) (rfl : 21 + 1 = 22) ?_
    refine z_isub h dX11_undo_22 (rfl : 22 + 1 = 23) ?_
    refine z_put (ci := 1) (C := RX1) (T := TX1) (N := 9) h 6 tyX1 tyX1_ok nmX1 rfl rfl (fun _ hq => List.mem_cons_of_mem _ (List.mem_append_right _ hq)) (by decide) (List.mem_of_getElem? (i := 2) rfl) rfl rfl rfl dX11_undo_23 (rfl : 23 + 3 = 26) ?_
    refine z_aload_n h 0 dX11_undo_26 rfl (rfl : 26 + 1 = 27) ?_
    refine z_getr (ci := 10) (C := RX11) (T := TX11) (N := 13) h 2 6 ((hJ.1 0 2 (by decide)).trans rfl) rfl rfl (fun _ hq => List.mem_cons_of_mem _ (List.mem_append_left _ (List.mem_append_right _ hq))) (by decide) (List.mem_of_getElem? (i := 1) rfl) rfl dX11_undo_27 (rfl : 27 + 3 = 30) ?_
    refine z_get (ci := 1) (C := RX1) (T := TX1) (N := 9) h 6 rfl rfl (fun _ hq => List.mem_cons_of_mem _ (List.mem_append_right _ hq)) (by decide) (List.mem_of_getElem? (i := 2) rfl) rfl dX11_undo_30 (rfl : 30 + 3 = 33) ?_
    refine z_iret h hr dX11_undo_33 ?_
    exact ⟨congrArg Prod.fst (zsome hf), congrArg Prod.snd (zsome hf), rfl⟩
  · have hf := zitt c1 hf
    refine z_bipush h (-3) dX11_undo_10 (by decide) (rfl : 10 + 2 = 12) ?_
    refine z_iret h hr dX11_undo_12 ?_
    exact ⟨congrArg Prod.fst (zsome hf), congrArg Prod.snd (zsome hf), rfl⟩
noncomputable def f_X11_tell (J : zJ) (v1 : Int32) (v2 : Int32) (v3 : Int32) (I : zM) : Option (Int32 × zM) := ((f_X11_isPerson J v1 I).bind fun q1 => (if q1.1 = 0 then some (((-1), q1.2)) else ((f_X11_isTrade J v2 q1.2).bind fun q4 => (if q4.1 = 0 then some (((-1), q4.2)) else ((f_X11_bit J (q4.2 6 7) ((v1 * (3 : Int32)) + v2) q4.2).bind fun q7 => ((f_X11_withBit J (q7.2 6 7) ((v1 * (3 : Int32)) + v2) v3 q7.2).bind fun q9 => some ((q7.1, zu q9.2 6 7 q9.1))))))))
noncomputable abbrev rmX11_tell : Room := { frames := 1, cells := 0, slots := 0, locals := 22 }
theorem zyX11_tell : zY yX11_tell wsX11_tell cX11_tell 6 (some .int) 3 := ⟨⟨_, rfl⟩, by decide +kernel⟩
theorem zrX11_tell_X11_bit : zRm rmX11_bit rmX11_tell 2 := ⟨rfl, rfl, by decide, by decide⟩
theorem zrX11_tell_X11_isPerson : zRm rmX11_isPerson rmX11_tell 1 := ⟨rfl, rfl, by decide, by decide⟩
theorem zrX11_tell_X11_isTrade : zRm rmX11_isTrade rmX11_tell 1 := ⟨rfl, rfl, by decide, by decide⟩
theorem zrX11_tell_X11_withBit : zRm rmX11_withBit rmX11_tell 3 := ⟨rfl, rfl, by decide, by decide⟩
set_option maxHeartbeats 1000000 in
set_option maxRecDepth 100000 in
theorem c_X11_tell (B : zB) (I : zM) (J : zJ) (hJ : zJok J) (v1 : Int32) (v2 : Int32) (v3 : Int32) (r : Int32) (I' : zM) (hf : f_X11_tell J v1 v2 v3 I = some (r, I')) : zCi B zKW I J yX11_tell wsX11_tell rmX11_tell [.ref (za B 0), .int v1, .int v2, .int v3] (fun r2 I2 J2 => r2 = r ∧ I2 = I' ∧ J2 = J) := by
  refine z_start (own := RX11) (cc := cX11_tell) (nL := 6) (ret := (some .int)) rfl (by decide) rfl (Nat.le_of_ble_eq_true rfl) (L := [(0, .ref (za B 0)), (1, .int v1), (2, .int v2), (3, .int v3)]) rfl (fun G h hr => ?_)
  rw [f_X11_tell] at hf
  refine z_iload_n h 1 dX11_tell_0 rfl (rfl : 0 + 1 = 1) ?_
  obtain ⟨q1, e2, hf⟩ := zbind hf
  refine z_goF (z_runS h [.int v1] [] zyX11_isPerson (c_X11_isPerson B I J hJ v1 _ _ e2) gX11_tell_X11_isPerson zrX11_tell_X11_isPerson rfl (Nat.le_of_ble_eq_true rfl) ⟨Nat.zero_le _, Nat.zero_le _⟩ rfl dX11_tell_1) rfl ?_
  refine z_if_eq (pc' := 7) h 14 dX11_tell_4 (by decide) rfl (fun c3 => ?_) (fun c3 => ?_)
  · have hf := zitt c3 hf
    refine z_iconst h (-1) dX11_tell_14 (by decide) (rfl : 14 + 1 = 15) ?_
    refine z_iret h hr dX11_tell_15 ?_
    exact ⟨congrArg Prod.fst (zsome hf), congrArg Prod.snd (zsome hf), rfl⟩
  · have hf := zitf c3 hf
    refine z_iload_n h 2 dX11_tell_7 rfl (rfl : 7 + 1 = 8) ?_
    obtain ⟨q4, e5, hf⟩ := zbind hf
    refine z_goF (z_runS h [.int v2] [] zyX11_isTrade (c_X11_isTrade B q1.2 J hJ v2 _ _ e5) gX11_tell_X11_isTrade zrX11_tell_X11_isTrade rfl (Nat.le_of_ble_eq_true rfl) ⟨Nat.zero_le _, Nat.zero_le _⟩ rfl dX11_tell_8) rfl ?_
    refine z_if_ne (pc' := 14) h 16 dX11_tell_11 (by decide) rfl (fun c6 => ?_) (fun c6 => ?_)
    · have hf := zitf c6 hf
      refine z_iload_n h 1 dX11_tell_16 rfl (rfl : 16 + 1 = 17) ?_
      refine z_iconst h 3 dX11_tell_17 (by decide) (rfl : 17 + 1 = 18) ?_
      refine z_imul h dX11_tell_18 (rfl : 18 + 1 = 19) ?_
      refine z_iload_n h 2 dX11_tell_19 rfl (rfl : 19 + 1 = 20) ?_
      refine z_iadd h dX11_tell_20 (rfl : 20 + 1 = 21) ?_
      refine z_istore h [(4, .int ((v1 * (3 : Int32)) + v2)), (0, .ref (za B 0)), (1, .int v1), (2, .int v2), (3, .int v3)] dX11_tell_21 (by decide) rfl (rfl : 21 + 2 = 23) ?_
      refine z_aload_n h 1 dX11_tell_23 rfl (rfl : 23 + 1 = 24) ?_
      refine z_getr (ci := 10) (C := RX11) (T := TX11) (N := 13) h 2 6 ((hJ.1 0 2 (by decide)).trans rfl) rfl rfl (fun _ hq => List.mem_cons_of_mem _ (List.mem_append_left _ (List.mem_append_right _ hq))) (by decide) (List.mem_of_getElem? (i := 1) rfl) rfl dX11_tell_24 (rfl : 24 + 3 = 27) ?_
      refine z_get (ci := 1) (C := RX1) (T := TX1) (N := 9) h 7 rfl rfl (fun _ hq => List.mem_cons_of_mem _ (List.mem_append_right _ hq)) (by decide) (List.mem_of_getElem? (i := 2) rfl) rfl dX11_tell_27 (rfl : 27 + 3 = 30) ?_
      refine z_iload h 0 dX11_tell_30 rfl (rfl : 30 + 2 = 32) ?_
      obtain ⟨q7, e8, hf⟩ := zbind hf
      refine z_goF (z_runS h [.int (q4.2 6 7), .int ((v1 * (3 : Int32)) + v2)] [] zyX11_bit (c_X11_bit B q4.2 J hJ (q4.2 6 7) ((v1 * (3 : Int32)) + v2) _ _ e8) gX11_tell_X11_bit zrX11_tell_X11_bit rfl (Nat.le_of_ble_eq_true rfl) ⟨Nat.zero_le _, Nat.zero_le _⟩ rfl dX11_tell_32) rfl ?_
      refine z_istore h [(5, .int q7.1), (4, .int ((v1 * (3 : Int32)) + v2)), (0, .ref (za B 0)), (1, .int v1), (2, .int v2), (3, .int v3)] dX11_tell_35 (by decide) rfl (rfl : 35 + 2 = 37) ?_
      refine z_aload_n h 2 dX11_tell_37 rfl (rfl : 37 + 1 = 38) ?_
      refine z_getr (ci := 10) (C := RX11) (T := TX11) (N := 13) h 2 6 ((hJ.1 0 2 (by decide)).trans rfl) rfl rfl (fun _ hq => List.mem_cons_of_mem _ (List.mem_append_left _ (List.mem_append_right _ hq))) (by decide) (List.mem_of_getElem? (i := 1) rfl) rfl dX11_tell_38 (rfl : 38 + 3 = 41) ?_
      refine z_aload_n h 2 dX11_tell_41 rfl (rfl : 41 + 1 = 42) ?_
      refine z_getr (ci := 10) (C := RX11) (T := TX11) (N := 13) h 2 6 ((hJ.1 0 2 (by decide)).trans rfl) rfl rfl (fun _ hq => List.mem_cons_of_mem _ (List.mem_append_left _ (List.mem_append_right _ hq))) (by decide) (List.mem_of_getElem? (i := 1) rfl) rfl dX11_tell_42 (rfl : 42 + 3 = 45) ?_
      refine z_get (ci := 1) (C := RX1) (T := TX1) (N := 9) h 7 rfl rfl (fun _ hq => List.mem_cons_of_mem _ (List.mem_append_right _ hq)) (by decide) (List.mem_of_getElem? (i := 2) rfl) rfl dX11_tell_45 (rfl : 45 + 3 = 48) ?_
      refine z_iload h 1 dX11_tell_48 rfl (rfl : 48 + 2 = 50) ?_
      refine z_iload_n h 5 dX11_tell_50 rfl (rfl : 50 + 1 = 51) ?_
      obtain ⟨q9, e10, hf⟩ := zbind hf
      refine z_goF (z_runS h [.int (q7.2 6 7), .int ((v1 * (3 : Int32)) + v2), .int v3] [.ref (za B 6)] zyX11_withBit (c_X11_withBit B q7.2 J hJ (q7.2 6 7) ((v1 * (3 : Int32)) + v2) v3 _ _ e10) gX11_tell_X11_withBit zrX11_tell_X11_withBit rfl (Nat.le_of_ble_eq_true rfl) ⟨Nat.zero_le _, Nat.zero_le _⟩ rfl dX11_tell_51) rfl ?_
      refine z_put (ci := 1) (C := RX1) (T := TX1) (N := 9) h 7 tyX1 tyX1_ok nmX1 rfl rfl (fun _ hq => List.mem_cons_of_mem _ (List.mem_append_right _ hq)) (by decide) (List.mem_of_getElem? (i := 2) rfl) rfl rfl rfl dX11_tell_54 (rfl : 54 + 3 = 57) ?_
      refine z_iload h 0 dX11_tell_57 rfl (rfl : 57 + 2 = 59) ?_
      refine z_iret h hr dX11_tell_59 ?_
      exact ⟨congrArg Prod.fst (zsome hf), congrArg Prod.snd (zsome hf), rfl⟩
    · have hf := zitt c6 hf
      refine z_iconst h (-1) dX11_tell_14 (by decide) (rfl : 14 + 1 = 15) ?_
      refine z_iret h hr dX11_tell_15 ?_
      exact ⟨congrArg Prod.fst (zsome hf), congrArg Prod.snd (zsome hf), rfl⟩
noncomputable def f_X11_term (J : zJ) (v1 : Int32) (v2 : Int32) (I : zM) : Option (Int32 × zM) := (if v1 < 0 then some (((-2), I)) else (if v1 ≤ 2 then (if zin v1 3 = true then (if v2 < zT1 (Int32.toNatClampNeg v1) then some (((-2), I)) else (if zin v1 3 = true then (if v2 ≤ zT2 (Int32.toNatClampNeg v1) then (if zin v1 3 = true then (if zin v1 3 = true then some ((I 5 (Int32.toNatClampNeg v1), zu I 5 (Int32.toNatClampNeg v1) v2)) else none) else none) else some (((-2), I))) else none)) else none) else some (((-2), I))))
noncomputable abbrev rmX11_term : Room := { frames := 0, cells := 0, slots := 0, locals := 0 }
theorem zyX11_term : zY yX11_term wsX11_term cX11_term 4 (some .int) 2 := ⟨⟨_, rfl⟩, by decide +kernel⟩
set_option maxHeartbeats 1000000 in
set_option maxRecDepth 100000 in
theorem c_X11_term (B : zB) (I : zM) (J : zJ) (hJ : zJok J) (v1 : Int32) (v2 : Int32) (r : Int32) (I' : zM) (hf : f_X11_term J v1 v2 I = some (r, I')) : zCi B zKW I J yX11_term wsX11_term rmX11_term [.ref (za B 0), .int v1, .int v2] (fun r2 I2 J2 => r2 = r ∧ I2 = I' ∧ J2 = J) := by
  refine z_start (own := RX11) (cc := cX11_term) (nL := 4) (ret := (some .int)) rfl (by decide) rfl (Nat.le_of_ble_eq_true rfl) (L := [(0, .ref (za B 0)), (1, .int v1), (2, .int v2)]) rfl (fun G h hr => ?_)
  rw [f_X11_term] at hf
  refine z_iload_n h 1 dX11_term_0 rfl (rfl : 0 + 1 = 1) ?_
  refine z_if_lt (pc' := 4) h 9 dX11_term_1 (by decide) rfl (fun c1 => ?_) (fun c1 => ?_)
  · have hf := zitt c1 hf
    refine z_bipush h (-2) dX11_term_9 (by decide) (rfl : 9 + 2 = 11) ?_
    refine z_iret h hr dX11_term_11 ?_
    exact ⟨congrArg Prod.fst (zsome hf), congrArg Prod.snd (zsome hf), rfl⟩
  · have hf := zitf c1 hf
    refine z_iload_n h 1 dX11_term_4 rfl (rfl : 4 + 1 = 5) ?_
    refine z_iconst h 2 dX11_term_5 (by decide) (rfl : 5 + 1 = 6) ?_
    refine z_icmp_le (pc' := 9) h 12 dX11_term_6 (by decide) rfl (fun c2 => ?_) (fun c2 => ?_)
    · have hf := zitt c2 hf
      refine z_iload_n h 2 dX11_term_12 rfl (rfl : 12 + 1 = 13) ?_
      refine z_gets1 h (List.mem_of_getElem? (i := 1) rfl) dX11_term_13 (rfl : 13 + 3 = 16) (fun t3 ht3 => ?_)
      refine z_iload_n h 1 dX11_term_16 rfl (rfl : 16 + 1 = 17) ?_
      obtain ⟨b4, hf⟩ := zchk hf
      refine z_tald h ht3 b4 dX11_term_17 (rfl : 17 + 1 = 18) ?_
      refine z_icmp_lt (pc' := 21) h 30 dX11_term_18 (by decide) rfl (fun c5 => ?_) (fun c5 => ?_)
      · have hf := zitt c5 hf
        refine z_bipush h (-2) dX11_term_30 (by decide) (rfl : 30 + 2 = 32) ?_
        refine z_iret h hr dX11_term_32 ?_
        exact ⟨congrArg Prod.fst (zsome hf), congrArg Prod.snd (zsome hf), rfl⟩
      · have hf := zitf c5 hf
        refine z_iload_n h 2 dX11_term_21 rfl (rfl : 21 + 1 = 22) ?_
        refine z_gets2 h (List.mem_of_getElem? (i := 2) rfl) dX11_term_22 (rfl : 22 + 3 = 25) (fun t6 ht6 => ?_)
        refine z_iload_n h 1 dX11_term_25 rfl (rfl : 25 + 1 = 26) ?_
        obtain ⟨b7, hf⟩ := zchk hf
        refine z_tald h ht6 b7 dX11_term_26 (rfl : 26 + 1 = 27) ?_
        refine z_icmp_le (pc' := 30) h 33 dX11_term_27 (by decide) rfl (fun c8 => ?_) (fun c8 => ?_)
        · have hf := zitt c8 hf
          refine z_aload_n h 0 dX11_term_33 rfl (rfl : 33 + 1 = 34) ?_
          refine z_getr (ci := 10) (C := RX11) (T := TX11) (N := 13) h 1 5 ((hJ.1 0 1 (by decide)).trans rfl) rfl rfl (fun _ hq => List.mem_cons_of_mem _ (List.mem_append_right _ hq)) (by decide) (List.mem_of_getElem? (i := 3) rfl) rfl dX11_term_34 (rfl : 34 + 3 = 37) ?_
          refine z_iload_n h 1 dX11_term_37 rfl (rfl : 37 + 1 = 38) ?_
          obtain ⟨b9, hf⟩ := zchk hf
          refine z_iald h rfl b9 dX11_term_38 (rfl : 38 + 1 = 39) ?_
          refine z_istore_n h [(3, .int (I 5 (Int32.toNatClampNeg v1))), (0, .ref (za B 0)), (1, .int v1), (2, .int v2)] dX11_term_39 (by decide) rfl (rfl : 39 + 1 = 40) ?_
          refine z_aload_n h 1 dX11_term_40 rfl (rfl : 40 + 1 = 41) ?_
          refine z_getr (ci := 10) (C := RX11) (T := TX11) (N := 13) h 1 5 ((hJ.1 0 1 (by decide)).trans rfl) rfl rfl (fun _ hq => List.mem_cons_of_mem _ (List.mem_append_right _ hq)) (by decide) (List.mem_of_getElem? (i := 3) rfl) rfl dX11_term_41 (rfl : 41 + 3 = 44) ?_
          refine z_iload_n h 2 dX11_term_44 rfl (rfl : 44 + 1 = 45) ?_
          refine z_iload_n h 3 dX11_term_45 rfl (rfl : 45 + 1 = 46) ?_
          obtain ⟨b10, hf⟩ := zchk hf
          refine z_iast h b10 rfl dX11_term_46 (rfl : 46 + 1 = 47) ?_
          refine z_iload_n h 0 dX11_term_47 rfl (rfl : 47 + 1 = 48) ?_
          refine z_iret h hr dX11_term_48 ?_
          exact ⟨congrArg Prod.fst (zsome hf), congrArg Prod.snd (zsome hf), rfl⟩
        · have hf := zitf c8 hf
          refine z_bipush h (-2) dX11_term_30 (by decide) (rfl : 30 + 2 = 32) ?_
          refine z_iret h hr dX11_term_32 ?_
          exact ⟨congrArg Prod.fst (zsome hf), congrArg Prod.snd (zsome hf), rfl⟩
    · have hf := zitf c2 hf
      refine z_bipush h (-2) dX11_term_9 (by decide) (rfl : 9 + 2 = 11) ?_
      refine z_iret h hr dX11_term_11 ?_
      exact ⟨congrArg Prod.fst (zsome hf), congrArg Prod.snd (zsome hf), rfl⟩
noncomputable def f_X11_knows (J : zJ) (v1 : Int32) (v2 : Int32) (I : zM) : Option (Int32 × zM) := ((f_X11_isPerson J v1 I).bind fun q1 => (if q1.1 = 0 then some (((-1), q1.2)) else ((f_X11_isTrade J v2 q1.2).bind fun q4 => (if q4.1 = 0 then some (((-1), q4.2)) else ((f_X1_isKnown J 6 v1 v2 q4.2).bind fun q7 => (if q7.1 = 0 then some ((0, q7.2)) else some ((1, q7.2))))))))
noncomputable abbrev rmX11_knows : Room := { frames := 2, cells := 0, slots := 0, locals := 44 }
theorem zyX11_knows : zY yX11_knows wsX11_knows cX11_knows 3 (some .int) 2 := ⟨⟨_, rfl⟩, by decide +kernel⟩
theorem zrX11_knows_X11_isPerson : zRm rmX11_isPerson rmX11_knows 1 := ⟨rfl, rfl, by decide, by decide⟩
theorem zrX11_knows_X11_isTrade : zRm rmX11_isTrade rmX11_knows 1 := ⟨rfl, rfl, by decide, by decide⟩
theorem zrX11_knows_X1_isKnown : zRm rmX1_isKnown rmX11_knows 4 := ⟨rfl, rfl, by decide, by decide⟩
set_option maxHeartbeats 1000000 in
set_option maxRecDepth 100000 in
theorem c_X11_knows (B : zB) (I : zM) (J : zJ) (hJ : zJok J) (v1 : Int32) (v2 : Int32) (r : Int32) (I' : zM) (hf : f_X11_knows J v1 v2 I = some (r, I')) : zCi B zKW I J yX11_knows wsX11_knows rmX11_knows [.ref (za B 0), .int v1, .int v2] (fun r2 I2 J2 => r2 = r ∧ I2 = I' ∧ J2 = J) := by
  refine z_start (own := RX11) (cc := cX11_knows) (nL := 3) (ret := (some .int)) rfl (by decide) rfl (Nat.le_of_ble_eq_true rfl) (L := [(0, .ref (za B 0)), (1, .int v1), (2, .int v2)]) rfl (fun G h hr => ?_)
  rw [f_X11_knows] at hf
  refine z_iload_n h 1 dX11_knows_0 rfl (rfl : 0 + 1 = 1) ?_
  obtain ⟨q1, e2, hf⟩ := zbind hf
  refine z_goF (z_runS h [.int v1] [] zyX11_isPerson (c_X11_isPerson B I J hJ v1 _ _ e2) gX11_knows_X11_isPerson zrX11_knows_X11_isPerson rfl (Nat.le_of_ble_eq_true rfl) ⟨Nat.zero_le _, Nat.zero_le _⟩ rfl dX11_knows_1) rfl ?_
  refine z_if_eq (pc' := 7) h 14 dX11_knows_4 (by decide) rfl (fun c3 => ?_) (fun c3 => ?_)
  · have hf := zitt c3 hf
    refine z_iconst h (-1) dX11_knows_14 (by decide) (rfl : 14 + 1 = 15) ?_
    refine z_iret h hr dX11_knows_15 ?_
    exact ⟨congrArg Prod.fst (zsome hf), congrArg Prod.snd (zsome hf), rfl⟩
  · have hf := zitf c3 hf
    refine z_iload_n h 2 dX11_knows_7 rfl (rfl : 7 + 1 = 8) ?_
    obtain ⟨q4, e5, hf⟩ := zbind hf
    refine z_goF (z_runS h [.int v2] [] zyX11_isTrade (c_X11_isTrade B q1.2 J hJ v2 _ _ e5) gX11_knows_X11_isTrade zrX11_knows_X11_isTrade rfl (Nat.le_of_ble_eq_true rfl) ⟨Nat.zero_le _, Nat.zero_le _⟩ rfl dX11_knows_8) rfl ?_
    refine z_if_ne (pc' := 14) h 16 dX11_knows_11 (by decide) rfl (fun c6 => ?_) (fun c6 => ?_)
    · have hf := zitf c6 hf
      refine z_aload_n h 0 dX11_knows_16 rfl (rfl : 16 + 1 = 17) ?_
      refine z_getr (ci := 10) (C := RX11) (T := TX11) (N := 13) h 2 6 ((hJ.1 0 2 (by decide)).trans rfl) rfl rfl (fun _ hq => List.mem_cons_of_mem _ (List.mem_append_left _ (List.mem_append_right _ hq))) (by decide) (List.mem_of_getElem? (i := 1) rfl) rfl dX11_knows_17 (rfl : 17 + 3 = 20) ?_
      refine z_iload_n h 1 dX11_knows_20 rfl (rfl : 20 + 1 = 21) ?_
      refine z_iload_n h 2 dX11_knows_21 rfl (rfl : 21 + 1 = 22) ?_
      obtain ⟨q7, e8, hf⟩ := zbind hf
      refine z_goF (z_runV (C := RX1) (T := TX1) (N := 9) (ci := 1) h [.int v1, .int v2] [] zyX1_isKnown (c_X1_isKnown B q4.2 J hJ 6 rfl v1 v2 _ _ e8) gX11_knows_X1_isKnown rfl rfl rfl zrX11_knows_X1_isKnown rfl (Nat.le_of_ble_eq_true rfl) ⟨Nat.zero_le _, Nat.zero_le _⟩ rfl dX11_knows_22) rfl ?_
      refine z_if_eq (pc' := 28) h 32 dX11_knows_25 (by decide) rfl (fun c9 => ?_) (fun c9 => ?_)
      · have hf := zitt c9 hf
        refine z_iconst h 0 dX11_knows_32 (by decide) (rfl : 32 + 1 = 33) ?_
        refine z_iret h hr dX11_knows_33 ?_
        exact ⟨congrArg Prod.fst (zsome hf), congrArg Prod.snd (zsome hf), rfl⟩
      · have hf := zitf c9 hf
        refine z_iconst h 1 dX11_knows_28 (by decide) (rfl : 28 + 1 = 29) ?_
        refine z_goto (pc' := 33) h dX11_knows_29 (by decide) ?_
        refine z_iret h hr dX11_knows_33 ?_
        exact ⟨congrArg Prod.fst (zsome hf), congrArg Prod.snd (zsome hf), rfl⟩
    · have hf := zitt c6 hf
      refine z_iconst h (-1) dX11_knows_14 (by decide) (rfl : 14 + 1 = 15) ?_
      refine z_iret h hr dX11_knows_15 ?_
      exact ⟨congrArg Prod.fst (zsome hf), congrArg Prod.snd (zsome hf), rfl⟩
