noncomputable abbrev rmX11_isGap : Room := { frames := 0, cells := 0, slots := 0, locals := 0 }
theorem zyX11_isGap : zY yX11_isGap wsX11_isGap cX11_isGap 1 (some .boolean) 1 := ⟨⟨_, rfl⟩, by decide +kernel⟩
set_option maxHeartbeats 4000000 in
set_option maxRecDepth 100000 in
theorem c_X11_isGap (B : zB) (I : zM) (J : zJ) (g : Int32) : zCi B zKW I J yX11_isGap wsX11_isGap rmX11_isGap [.int g] (fun r I' J' => r = zb (zrg g 0 5) ∧ I' = I ∧ J' = J) := by
  refine z_start (own := RX11) (cc := cX11_isGap) (nL := 1) (ret := (some .boolean)) rfl (by decide) rfl (by decide) (L := [(0, .int g)]) rfl (fun G h hr => ?_)
  refine z_iload_n h 0 dX11_isGap_0 rfl rfl ?_
  refine z_if_lt (pc' := 4) h 14 dX11_isGap_1 (by decide) rfl (fun c1 => ?_) (fun c1 => ?_)
  · skip
    refine z_iconst h 0 dX11_isGap_14 (by decide) rfl ?_
    refine z_zret h hr dX11_isGap_15 (Or.inl rfl) ?_
    exact ⟨zb_f (by (simp only [zrg, Int32.lt_iff_toInt_lt, Int32.le_iff_toInt_le, ztl] at c1 ⊢; omega)), rfl, rfl⟩
  · skip
    refine z_iload_n h 0 dX11_isGap_4 rfl rfl ?_
    refine z_bipush h 6 dX11_isGap_5 (by decide) rfl ?_
    refine z_icmp_ge (pc' := 10) h 14 dX11_isGap_7 (by decide) rfl (fun c2 => ?_) (fun c2 => ?_)
    · skip
      refine z_iconst h 0 dX11_isGap_14 (by decide) rfl ?_
      refine z_zret h hr dX11_isGap_15 (Or.inl rfl) ?_
      exact ⟨zb_f (by (simp only [zrg, Int32.lt_iff_toInt_lt, Int32.le_iff_toInt_le, ztl] at c1 c2 ⊢; omega)), rfl, rfl⟩
    · skip
      refine z_iconst h 1 dX11_isGap_10 (by decide) rfl ?_
      refine z_goto (pc' := 15) h dX11_isGap_11 (by decide) ?_
      refine z_zret h hr dX11_isGap_15 (Or.inr rfl) ?_
      exact ⟨zb_t (by (simp only [zrg, Int32.lt_iff_toInt_lt, Int32.le_iff_toInt_le, ztl] at c1 c2 ⊢; omega)), rfl, rfl⟩
noncomputable abbrev rmX11_isValue : Room := { frames := 0, cells := 0, slots := 0, locals := 0 }
theorem zyX11_isValue : zY yX11_isValue wsX11_isValue cX11_isValue 1 (some .boolean) 1 := ⟨⟨_, rfl⟩, by decide +kernel⟩
set_option maxHeartbeats 4000000 in
set_option maxRecDepth 100000 in
theorem c_X11_isValue (B : zB) (I : zM) (J : zJ) (g : Int32) : zCi B zKW I J yX11_isValue wsX11_isValue rmX11_isValue [.int g] (fun r I' J' => r = zb (zrg g 1 5) ∧ I' = I ∧ J' = J) := by
  refine z_start (own := RX11) (cc := cX11_isValue) (nL := 1) (ret := (some .boolean)) rfl (by decide) rfl (by decide) (L := [(0, .int g)]) rfl (fun G h hr => ?_)
  refine z_iload_n h 0 dX11_isValue_0 rfl rfl ?_
  refine z_iconst h 1 dX11_isValue_1 (by decide) rfl ?_
  refine z_icmp_lt (pc' := 5) h 14 dX11_isValue_2 (by decide) rfl (fun c1 => ?_) (fun c1 => ?_)
  · skip
    refine z_iconst h 0 dX11_isValue_14 (by decide) rfl ?_
    refine z_zret h hr dX11_isValue_15 (Or.inl rfl) ?_
    exact ⟨zb_f (by (simp only [zrg, Int32.lt_iff_toInt_lt, Int32.le_iff_toInt_le, ztl] at c1 ⊢; omega)), rfl, rfl⟩
  · skip
    refine z_iload_n h 0 dX11_isValue_5 rfl rfl ?_
    refine z_iconst h 5 dX11_isValue_6 (by decide) rfl ?_
    refine z_icmp_gt (pc' := 10) h 14 dX11_isValue_7 (by decide) rfl (fun c2 => ?_) (fun c2 => ?_)
    · skip
      refine z_iconst h 0 dX11_isValue_14 (by decide) rfl ?_
      refine z_zret h hr dX11_isValue_15 (Or.inl rfl) ?_
      exact ⟨zb_f (by (simp only [zrg, Int32.lt_iff_toInt_lt, Int32.le_iff_toInt_le, ztl] at c1 c2 ⊢; omega)), rfl, rfl⟩
    · skip
      refine z_iconst h 1 dX11_isValue_10 (by decide) rfl ?_
      refine z_goto (pc' := 15) h dX11_isValue_11 (by decide) ?_
      refine z_zret h hr dX11_isValue_15 (Or.inr rfl) ?_
      exact ⟨zb_t (by (simp only [zrg, Int32.lt_iff_toInt_lt, Int32.le_iff_toInt_le, ztl] at c1 c2 ⊢; omega)), rfl, rfl⟩
noncomputable abbrev rmX11_isPerson : Room := { frames := 0, cells := 0, slots := 0, locals := 0 }
theorem zyX11_isPerson : zY yX11_isPerson wsX11_isPerson cX11_isPerson 1 (some .boolean) 1 := ⟨⟨_, rfl⟩, by decide +kernel⟩
set_option maxHeartbeats 4000000 in
set_option maxRecDepth 100000 in
theorem c_X11_isPerson (B : zB) (I : zM) (J : zJ) (g : Int32) : zCi B zKW I J yX11_isPerson wsX11_isPerson rmX11_isPerson [.int g] (fun r I' J' => r = zb (zrg g 0 4) ∧ I' = I ∧ J' = J) := by
  refine z_start (own := RX11) (cc := cX11_isPerson) (nL := 1) (ret := (some .boolean)) rfl (by decide) rfl (by decide) (L := [(0, .int g)]) rfl (fun G h hr => ?_)
  refine z_iload_n h 0 dX11_isPerson_0 rfl rfl ?_
  refine z_if_lt (pc' := 4) h 13 dX11_isPerson_1 (by decide) rfl (fun c1 => ?_) (fun c1 => ?_)
  · skip
    refine z_iconst h 0 dX11_isPerson_13 (by decide) rfl ?_
    refine z_zret h hr dX11_isPerson_14 (Or.inl rfl) ?_
    exact ⟨zb_f (by (simp only [zrg, Int32.lt_iff_toInt_lt, Int32.le_iff_toInt_le, ztl] at c1 ⊢; omega)), rfl, rfl⟩
  · skip
    refine z_iload_n h 0 dX11_isPerson_4 rfl rfl ?_
    refine z_iconst h 5 dX11_isPerson_5 (by decide) rfl ?_
    refine z_icmp_ge (pc' := 9) h 13 dX11_isPerson_6 (by decide) rfl (fun c2 => ?_) (fun c2 => ?_)
    · skip
      refine z_iconst h 0 dX11_isPerson_13 (by decide) rfl ?_
      refine z_zret h hr dX11_isPerson_14 (Or.inl rfl) ?_
      exact ⟨zb_f (by (simp only [zrg, Int32.lt_iff_toInt_lt, Int32.le_iff_toInt_le, ztl] at c1 c2 ⊢; omega)), rfl, rfl⟩
    · skip
      refine z_iconst h 1 dX11_isPerson_9 (by decide) rfl ?_
      refine z_goto (pc' := 14) h dX11_isPerson_10 (by decide) ?_
      refine z_zret h hr dX11_isPerson_14 (Or.inr rfl) ?_
      exact ⟨zb_t (by (simp only [zrg, Int32.lt_iff_toInt_lt, Int32.le_iff_toInt_le, ztl] at c1 c2 ⊢; omega)), rfl, rfl⟩
noncomputable abbrev rmX11_isTrade : Room := { frames := 0, cells := 0, slots := 0, locals := 0 }
theorem zyX11_isTrade : zY yX11_isTrade wsX11_isTrade cX11_isTrade 1 (some .boolean) 1 := ⟨⟨_, rfl⟩, by decide +kernel⟩
set_option maxHeartbeats 4000000 in
set_option maxRecDepth 100000 in
theorem c_X11_isTrade (B : zB) (I : zM) (J : zJ) (g : Int32) : zCi B zKW I J yX11_isTrade wsX11_isTrade rmX11_isTrade [.int g] (fun r I' J' => r = zb (zrg g 0 2) ∧ I' = I ∧ J' = J) := by
  refine z_start (own := RX11) (cc := cX11_isTrade) (nL := 1) (ret := (some .boolean)) rfl (by decide) rfl (by decide) (L := [(0, .int g)]) rfl (fun G h hr => ?_)
  refine z_iload_n h 0 dX11_isTrade_0 rfl rfl ?_
  refine z_if_lt (pc' := 4) h 13 dX11_isTrade_1 (by decide) rfl (fun c1 => ?_) (fun c1 => ?_)
  · skip
    refine z_iconst h 0 dX11_isTrade_13 (by decide) rfl ?_
    refine z_zret h hr dX11_isTrade_14 (Or.inl rfl) ?_
    exact ⟨zb_f (by (simp only [zrg, Int32.lt_iff_toInt_lt, Int32.le_iff_toInt_le, ztl] at c1 ⊢; omega)), rfl, rfl⟩
  · skip
    refine z_iload_n h 0 dX11_isTrade_4 rfl rfl ?_
    refine z_iconst h 3 dX11_isTrade_5 (by decide) rfl ?_
    refine z_icmp_ge (pc' := 9) h 13 dX11_isTrade_6 (by decide) rfl (fun c2 => ?_) (fun c2 => ?_)
    · skip
      refine z_iconst h 0 dX11_isTrade_13 (by decide) rfl ?_
      refine z_zret h hr dX11_isTrade_14 (Or.inl rfl) ?_
      exact ⟨zb_f (by (simp only [zrg, Int32.lt_iff_toInt_lt, Int32.le_iff_toInt_le, ztl] at c1 c2 ⊢; omega)), rfl, rfl⟩
    · skip
      refine z_iconst h 1 dX11_isTrade_9 (by decide) rfl ?_
      refine z_goto (pc' := 14) h dX11_isTrade_10 (by decide) ?_
      refine z_zret h hr dX11_isTrade_14 (Or.inr rfl) ?_
      exact ⟨zb_t (by (simp only [zrg, Int32.lt_iff_toInt_lt, Int32.le_iff_toInt_le, ztl] at c1 c2 ⊢; omega)), rfl, rfl⟩
noncomputable abbrev rmX11_isOrder : Room := { frames := 0, cells := 0, slots := 0, locals := 0 }
theorem zyX11_isOrder : zY yX11_isOrder wsX11_isOrder cX11_isOrder 1 (some .boolean) 1 := ⟨⟨_, rfl⟩, by decide +kernel⟩
set_option maxHeartbeats 4000000 in
set_option maxRecDepth 100000 in
theorem c_X11_isOrder (B : zB) (I : zM) (J : zJ) (g : Int32) : zCi B zKW I J yX11_isOrder wsX11_isOrder rmX11_isOrder [.int g] (fun r I' J' => r = zb (zrg g 0 3) ∧ I' = I ∧ J' = J) := by
  refine z_start (own := RX11) (cc := cX11_isOrder) (nL := 1) (ret := (some .boolean)) rfl (by decide) rfl (by decide) (L := [(0, .int g)]) rfl (fun G h hr => ?_)
  refine z_iload_n h 0 dX11_isOrder_0 rfl rfl ?_
  refine z_if_lt (pc' := 4) h 13 dX11_isOrder_1 (by decide) rfl (fun c1 => ?_) (fun c1 => ?_)
  · skip
    refine z_iconst h 0 dX11_isOrder_13 (by decide) rfl ?_
    refine z_zret h hr dX11_isOrder_14 (Or.inl rfl) ?_
    exact ⟨zb_f (by (simp only [zrg, Int32.lt_iff_toInt_lt, Int32.le_iff_toInt_le, ztl] at c1 ⊢; omega)), rfl, rfl⟩
  · skip
    refine z_iload_n h 0 dX11_isOrder_4 rfl rfl ?_
    refine z_iconst h 4 dX11_isOrder_5 (by decide) rfl ?_
    refine z_icmp_ge (pc' := 9) h 13 dX11_isOrder_6 (by decide) rfl (fun c2 => ?_) (fun c2 => ?_)
    · skip
      refine z_iconst h 0 dX11_isOrder_13 (by decide) rfl ?_
      refine z_zret h hr dX11_isOrder_14 (Or.inl rfl) ?_
      exact ⟨zb_f (by (simp only [zrg, Int32.lt_iff_toInt_lt, Int32.le_iff_toInt_le, ztl] at c1 c2 ⊢; omega)), rfl, rfl⟩
    · skip
      refine z_iconst h 1 dX11_isOrder_9 (by decide) rfl ?_
      refine z_goto (pc' := 14) h dX11_isOrder_10 (by decide) ?_
      refine z_zret h hr dX11_isOrder_14 (Or.inr rfl) ?_
      exact ⟨zb_t (by (simp only [zrg, Int32.lt_iff_toInt_lt, Int32.le_iff_toInt_le, ztl] at c1 c2 ⊢; omega)), rfl, rfl⟩
noncomputable abbrev rmX11_isSide : Room := { frames := 0, cells := 0, slots := 0, locals := 0 }
theorem zyX11_isSide : zY yX11_isSide wsX11_isSide cX11_isSide 1 (some .boolean) 1 := ⟨⟨_, rfl⟩, by decide +kernel⟩
set_option maxHeartbeats 4000000 in
set_option maxRecDepth 100000 in
theorem c_X11_isSide (B : zB) (I : zM) (J : zJ) (g : Int32) : zCi B zKW I J yX11_isSide wsX11_isSide rmX11_isSide [.int g] (fun r I' J' => r = zb (zrg g 0 1) ∧ I' = I ∧ J' = J) := by
  refine z_start (own := RX11) (cc := cX11_isSide) (nL := 1) (ret := (some .boolean)) rfl (by decide) rfl (by decide) (L := [(0, .int g)]) rfl (fun G h hr => ?_)
  refine z_iload_n h 0 dX11_isSide_0 rfl rfl ?_
  refine z_if_lt (pc' := 4) h 13 dX11_isSide_1 (by decide) rfl (fun c1 => ?_) (fun c1 => ?_)
  · skip
    refine z_iconst h 0 dX11_isSide_13 (by decide) rfl ?_
    refine z_zret h hr dX11_isSide_14 (Or.inl rfl) ?_
    exact ⟨zb_f (by (simp only [zrg, Int32.lt_iff_toInt_lt, Int32.le_iff_toInt_le, ztl] at c1 ⊢; omega)), rfl, rfl⟩
  · skip
    refine z_iload_n h 0 dX11_isSide_4 rfl rfl ?_
    refine z_iconst h 2 dX11_isSide_5 (by decide) rfl ?_
    refine z_icmp_ge (pc' := 9) h 13 dX11_isSide_6 (by decide) rfl (fun c2 => ?_) (fun c2 => ?_)
    · skip
      refine z_iconst h 0 dX11_isSide_13 (by decide) rfl ?_
      refine z_zret h hr dX11_isSide_14 (Or.inl rfl) ?_
      exact ⟨zb_f (by (simp only [zrg, Int32.lt_iff_toInt_lt, Int32.le_iff_toInt_le, ztl] at c1 c2 ⊢; omega)), rfl, rfl⟩
    · skip
      refine z_iconst h 1 dX11_isSide_9 (by decide) rfl ?_
      refine z_goto (pc' := 14) h dX11_isSide_10 (by decide) ?_
      refine z_zret h hr dX11_isSide_14 (Or.inr rfl) ?_
      exact ⟨zb_t (by (simp only [zrg, Int32.lt_iff_toInt_lt, Int32.le_iff_toInt_le, ztl] at c1 c2 ⊢; omega)), rfl, rfl⟩
noncomputable abbrev rmX11_isSlot : Room := { frames := 0, cells := 0, slots := 0, locals := 0 }
theorem zyX11_isSlot : zY yX11_isSlot wsX11_isSlot cX11_isSlot 1 (some .boolean) 1 := ⟨⟨_, rfl⟩, by decide +kernel⟩
set_option maxHeartbeats 4000000 in
set_option maxRecDepth 100000 in
theorem c_X11_isSlot (B : zB) (I : zM) (J : zJ) (g : Int32) : zCi B zKW I J yX11_isSlot wsX11_isSlot rmX11_isSlot [.int g] (fun r I' J' => r = zb (zrg g 0 1) ∧ I' = I ∧ J' = J) := by
  refine z_start (own := RX11) (cc := cX11_isSlot) (nL := 1) (ret := (some .boolean)) rfl (by decide) rfl (by decide) (L := [(0, .int g)]) rfl (fun G h hr => ?_)
  refine z_iload_n h 0 dX11_isSlot_0 rfl rfl ?_
  refine z_if_lt (pc' := 4) h 13 dX11_isSlot_1 (by decide) rfl (fun c1 => ?_) (fun c1 => ?_)
  · skip
    refine z_iconst h 0 dX11_isSlot_13 (by decide) rfl ?_
    refine z_zret h hr dX11_isSlot_14 (Or.inl rfl) ?_
    exact ⟨zb_f (by (simp only [zrg, Int32.lt_iff_toInt_lt, Int32.le_iff_toInt_le, ztl] at c1 ⊢; omega)), rfl, rfl⟩
  · skip
    refine z_iload_n h 0 dX11_isSlot_4 rfl rfl ?_
    refine z_iconst h 2 dX11_isSlot_5 (by decide) rfl ?_
    refine z_icmp_ge (pc' := 9) h 13 dX11_isSlot_6 (by decide) rfl (fun c2 => ?_) (fun c2 => ?_)
    · skip
      refine z_iconst h 0 dX11_isSlot_13 (by decide) rfl ?_
      refine z_zret h hr dX11_isSlot_14 (Or.inl rfl) ?_
      exact ⟨zb_f (by (simp only [zrg, Int32.lt_iff_toInt_lt, Int32.le_iff_toInt_le, ztl] at c1 c2 ⊢; omega)), rfl, rfl⟩
    · skip
      refine z_iconst h 1 dX11_isSlot_9 (by decide) rfl ?_
      refine z_goto (pc' := 14) h dX11_isSlot_10 (by decide) ?_
      refine z_zret h hr dX11_isSlot_14 (Or.inr rfl) ?_
      exact ⟨zb_t (by (simp only [zrg, Int32.lt_iff_toInt_lt, Int32.le_iff_toInt_le, ztl] at c1 c2 ⊢; omega)), rfl, rfl⟩
noncomputable abbrev rmX11_isFilling : Room := { frames := 0, cells := 0, slots := 0, locals := 0 }
theorem zyX11_isFilling : zY yX11_isFilling wsX11_isFilling cX11_isFilling 1 (some .boolean) 1 := ⟨⟨_, rfl⟩, by decide +kernel⟩
set_option maxHeartbeats 4000000 in
set_option maxRecDepth 100000 in
theorem c_X11_isFilling (B : zB) (I : zM) (J : zJ) (g : Int32) : zCi B zKW I J yX11_isFilling wsX11_isFilling rmX11_isFilling [.int g] (fun r I' J' => r = zb (zrg g 0 46655) ∧ I' = I ∧ J' = J) := by
  refine z_start (own := RX11) (cc := cX11_isFilling) (nL := 1) (ret := (some .boolean)) rfl (by decide) rfl (by decide) (L := [(0, .int g)]) rfl (fun G h hr => ?_)
  refine z_iload_n h 0 dX11_isFilling_0 rfl rfl ?_
  refine z_if_lt (pc' := 4) h 15 dX11_isFilling_1 (by decide) rfl (fun c1 => ?_) (fun c1 => ?_)
  · skip
    refine z_iconst h 0 dX11_isFilling_15 (by decide) rfl ?_
    refine z_zret h hr dX11_isFilling_16 (Or.inl rfl) ?_
    exact ⟨zb_f (by (simp only [zrg, Int32.lt_iff_toInt_lt, Int32.le_iff_toInt_le, ztl] at c1 ⊢; omega)), rfl, rfl⟩
  · skip
    refine z_iload_n h 0 dX11_isFilling_4 rfl rfl ?_
    refine z_ldcw h 46656 (List.mem_of_getElem? (i := 1) rfl) dX11_isFilling_5 rfl ?_
    refine z_icmp_ge (pc' := 11) h 15 dX11_isFilling_8 (by decide) rfl (fun c2 => ?_) (fun c2 => ?_)
    · skip
      refine z_iconst h 0 dX11_isFilling_15 (by decide) rfl ?_
      refine z_zret h hr dX11_isFilling_16 (Or.inl rfl) ?_
      exact ⟨zb_f (by (simp only [zrg, Int32.lt_iff_toInt_lt, Int32.le_iff_toInt_le, ztl] at c1 c2 ⊢; omega)), rfl, rfl⟩
    · skip
      refine z_iconst h 1 dX11_isFilling_11 (by decide) rfl ?_
      refine z_goto (pc' := 16) h dX11_isFilling_12 (by decide) ?_
      refine z_zret h hr dX11_isFilling_16 (Or.inr rfl) ?_
      exact ⟨zb_t (by (simp only [zrg, Int32.lt_iff_toInt_lt, Int32.le_iff_toInt_le, ztl] at c1 c2 ⊢; omega)), rfl, rfl⟩
noncomputable abbrev rmX12_in : Room := { frames := 0, cells := 0, slots := 0, locals := 0 }
theorem zyX12_in : zY yX12_in wsX12_in cX12_in 6 (some .boolean) 3 := ⟨⟨_, rfl⟩, by decide +kernel⟩
set_option maxHeartbeats 4000000 in
set_option maxRecDepth 100000 in
theorem c_X12_in (B : zB) (I : zM) (J : zJ) (v least most : Int64) : zCi B zKW I J yX12_in wsX12_in rmX12_in [.long v, .long least, .long most] (fun r I' J' => r = zb (least ≤ v ∧ v ≤ most) ∧ I' = I ∧ J' = J) := by
  refine z_start (own := RX12) (cc := cX12_in) (nL := 6) (ret := (some .boolean)) rfl (by decide) rfl (by decide) (L := [(0, .long v), (2, .long least), (4, .long most)]) rfl (fun G h hr => ?_)
  refine z_lload_n h 0 dX12_in_0 rfl rfl ?_
  refine z_lload_n h 1 dX12_in_1 rfl rfl ?_
  refine z_lcmp h dX12_in_2 rfl ?_
  refine z_if_lt (pc' := 6) h 17 dX12_in_3 (by decide) rfl (fun c1 => ?_) (fun c1 => ?_)
  · skip
    refine z_iconst h 0 dX12_in_17 (by decide) rfl ?_
    refine z_zret h hr dX12_in_18 (Or.inl rfl) ?_
    exact ⟨zb_f (by simp only [lg_cmp_lt, lg_cmp_gt] at c1; first | exact ⟨Int64.not_lt.mp c1, Int64.not_lt.mp c1⟩ | (intro q; first | exact absurd q.1 (Int64.not_le.mpr c1) | exact absurd q.2 (Int64.not_le.mpr c1))), rfl, rfl⟩
  · skip
    refine z_lload_n h 0 dX12_in_6 rfl rfl ?_
    refine z_lload h 2 dX12_in_7 rfl rfl ?_
    refine z_lcmp h dX12_in_9 rfl ?_
    refine z_if_gt (pc' := 13) h 17 dX12_in_10 (by decide) rfl (fun c2 => ?_) (fun c2 => ?_)
    · skip
      refine z_iconst h 0 dX12_in_17 (by decide) rfl ?_
      refine z_zret h hr dX12_in_18 (Or.inl rfl) ?_
      exact ⟨zb_f (by simp only [lg_cmp_lt, lg_cmp_gt] at c1 c2; first | exact ⟨Int64.not_lt.mp c1, Int64.not_lt.mp c2⟩ | (intro q; first | exact absurd q.1 (Int64.not_le.mpr c2) | exact absurd q.2 (Int64.not_le.mpr c2))), rfl, rfl⟩
    · skip
      refine z_iconst h 1 dX12_in_13 (by decide) rfl ?_
      refine z_goto (pc' := 18) h dX12_in_14 (by decide) ?_
      refine z_zret h hr dX12_in_18 (Or.inr rfl) ?_
      exact ⟨zb_t (by simp only [lg_cmp_lt, lg_cmp_gt] at c1 c2; first | exact ⟨Int64.not_lt.mp c1, Int64.not_lt.mp c2⟩ | (intro q; first | exact absurd q.1 (Int64.not_le.mpr c2) | exact absurd q.2 (Int64.not_le.mpr c2))), rfl, rfl⟩
noncomputable abbrev rmX12_noGap : Room := { frames := 1, cells := 0, slots := 0, locals := 25 }
theorem zyX12_noGap : zY yX12_noGap wsX12_noGap cX12_noGap 1 (some .boolean) 1 := ⟨⟨_, rfl⟩, by decide +kernel⟩
theorem zrX12_noGap_X12_in : zRm rmX12_in rmX12_noGap 6 := ⟨rfl, rfl, by decide, by decide⟩
set_option maxHeartbeats 4000000 in
set_option maxRecDepth 100000 in
theorem c_X12_noGap (B : zB) (I : zM) (J : zJ) (g : Int32) : zCi B zKW I J yX12_noGap wsX12_noGap rmX12_noGap [.int g] (fun r I' J' => r = zb (¬ zrg g 0 5) ∧ I' = I ∧ J' = J) := by
  refine z_start (own := RX12) (cc := cX12_noGap) (nL := 1) (ret := (some .boolean)) rfl (by decide) rfl (by decide) (L := [(0, .int g)]) rfl (fun G h hr => ?_)
  refine z_iload_n h 0 dX12_noGap_0 rfl rfl ?_
  refine z_i2l h dX12_noGap_1 rfl ?_
  refine z_lconst h 0 dX12_noGap_2 rfl rfl ?_
  refine z_ldc2 h 5 (List.mem_of_getElem? (i := 1) rfl) dX12_noGap_3 rfl ?_
  refine z_gof (z_runS h [.long (Int32.toInt64 g), .long 0, .long 5] [] zyX12_in (c_X12_in B I J (Int32.toInt64 g) 0 5) gX12_noGap_X12_in zrX12_noGap_X12_in rfl (by decide) ⟨Nat.zero_le _, Nat.zero_le _⟩ rfl dX12_noGap_6) rfl ?_
  refine z_ifb_ne (pc' := 12) h 16 dX12_noGap_9 (by decide) rfl (fun c1 => ?_) (fun c1 => ?_)
  · skip
    refine z_iconst h 0 dX12_noGap_16 (by decide) rfl ?_
    refine z_zret h hr dX12_noGap_17 (Or.inl rfl) ?_
    exact ⟨zb_f (by rw [zl_rg (a := 0) (b := 5) (by decide) (by decide)] at c1; first | exact c1 | exact Classical.not_not.mpr c1 | exact (fun q => q c1)), rfl, rfl⟩
  · skip
    refine z_iconst h 1 dX12_noGap_12 (by decide) rfl ?_
    refine z_goto (pc' := 17) h dX12_noGap_13 (by decide) ?_
    refine z_zret h hr dX12_noGap_17 (Or.inr rfl) ?_
    exact ⟨zb_t (by rw [zl_rg (a := 0) (b := 5) (by decide) (by decide)] at c1; first | exact c1 | exact Classical.not_not.mpr c1 | exact (fun q => q c1)), rfl, rfl⟩
noncomputable abbrev rmX12_noPerson : Room := { frames := 1, cells := 0, slots := 0, locals := 25 }
theorem zyX12_noPerson : zY yX12_noPerson wsX12_noPerson cX12_noPerson 1 (some .boolean) 1 := ⟨⟨_, rfl⟩, by decide +kernel⟩
theorem zrX12_noPerson_X12_in : zRm rmX12_in rmX12_noPerson 6 := ⟨rfl, rfl, by decide, by decide⟩
set_option maxHeartbeats 4000000 in
set_option maxRecDepth 100000 in
theorem c_X12_noPerson (B : zB) (I : zM) (J : zJ) (g : Int32) : zCi B zKW I J yX12_noPerson wsX12_noPerson rmX12_noPerson [.int g] (fun r I' J' => r = zb (¬ zrg g 0 4) ∧ I' = I ∧ J' = J) := by
  refine z_start (own := RX12) (cc := cX12_noPerson) (nL := 1) (ret := (some .boolean)) rfl (by decide) rfl (by decide) (L := [(0, .int g)]) rfl (fun G h hr => ?_)
  refine z_iload_n h 0 dX12_noPerson_0 rfl rfl ?_
  refine z_i2l h dX12_noPerson_1 rfl ?_
  refine z_lconst h 0 dX12_noPerson_2 rfl rfl ?_
  refine z_ldc2 h 4 (List.mem_of_getElem? (i := 1) rfl) dX12_noPerson_3 rfl ?_
  refine z_gof (z_runS h [.long (Int32.toInt64 g), .long 0, .long 4] [] zyX12_in (c_X12_in B I J (Int32.toInt64 g) 0 4) gX12_noPerson_X12_in zrX12_noPerson_X12_in rfl (by decide) ⟨Nat.zero_le _, Nat.zero_le _⟩ rfl dX12_noPerson_6) rfl ?_
  refine z_ifb_ne (pc' := 12) h 16 dX12_noPerson_9 (by decide) rfl (fun c1 => ?_) (fun c1 => ?_)
  · skip
    refine z_iconst h 0 dX12_noPerson_16 (by decide) rfl ?_
    refine z_zret h hr dX12_noPerson_17 (Or.inl rfl) ?_
    exact ⟨zb_f (by rw [zl_rg (a := 0) (b := 4) (by decide) (by decide)] at c1; first | exact c1 | exact Classical.not_not.mpr c1 | exact (fun q => q c1)), rfl, rfl⟩
  · skip
    refine z_iconst h 1 dX12_noPerson_12 (by decide) rfl ?_
    refine z_goto (pc' := 17) h dX12_noPerson_13 (by decide) ?_
    refine z_zret h hr dX12_noPerson_17 (Or.inr rfl) ?_
    exact ⟨zb_t (by rw [zl_rg (a := 0) (b := 4) (by decide) (by decide)] at c1; first | exact c1 | exact Classical.not_not.mpr c1 | exact (fun q => q c1)), rfl, rfl⟩
noncomputable abbrev rmX12_noTrade : Room := { frames := 1, cells := 0, slots := 0, locals := 25 }
theorem zyX12_noTrade : zY yX12_noTrade wsX12_noTrade cX12_noTrade 1 (some .boolean) 1 := ⟨⟨_, rfl⟩, by decide +kernel⟩
theorem zrX12_noTrade_X12_in : zRm rmX12_in rmX12_noTrade 6 := ⟨rfl, rfl, by decide, by decide⟩
set_option maxHeartbeats 4000000 in
set_option maxRecDepth 100000 in
theorem c_X12_noTrade (B : zB) (I : zM) (J : zJ) (g : Int32) : zCi B zKW I J yX12_noTrade wsX12_noTrade rmX12_noTrade [.int g] (fun r I' J' => r = zb (¬ zrg g 0 2) ∧ I' = I ∧ J' = J) := by
  refine z_start (own := RX12) (cc := cX12_noTrade) (nL := 1) (ret := (some .boolean)) rfl (by decide) rfl (by decide) (L := [(0, .int g)]) rfl (fun G h hr => ?_)
  refine z_iload_n h 0 dX12_noTrade_0 rfl rfl ?_
  refine z_i2l h dX12_noTrade_1 rfl ?_
  refine z_lconst h 0 dX12_noTrade_2 rfl rfl ?_
  refine z_ldc2 h 2 (List.mem_of_getElem? (i := 1) rfl) dX12_noTrade_3 rfl ?_
  refine z_gof (z_runS h [.long (Int32.toInt64 g), .long 0, .long 2] [] zyX12_in (c_X12_in B I J (Int32.toInt64 g) 0 2) gX12_noTrade_X12_in zrX12_noTrade_X12_in rfl (by decide) ⟨Nat.zero_le _, Nat.zero_le _⟩ rfl dX12_noTrade_6) rfl ?_
  refine z_ifb_ne (pc' := 12) h 16 dX12_noTrade_9 (by decide) rfl (fun c1 => ?_) (fun c1 => ?_)
  · skip
    refine z_iconst h 0 dX12_noTrade_16 (by decide) rfl ?_
    refine z_zret h hr dX12_noTrade_17 (Or.inl rfl) ?_
    exact ⟨zb_f (by rw [zl_rg (a := 0) (b := 2) (by decide) (by decide)] at c1; first | exact c1 | exact Classical.not_not.mpr c1 | exact (fun q => q c1)), rfl, rfl⟩
  · skip
    refine z_iconst h 1 dX12_noTrade_12 (by decide) rfl ?_
    refine z_goto (pc' := 17) h dX12_noTrade_13 (by decide) ?_
    refine z_zret h hr dX12_noTrade_17 (Or.inr rfl) ?_
    exact ⟨zb_t (by rw [zl_rg (a := 0) (b := 2) (by decide) (by decide)] at c1; first | exact c1 | exact Classical.not_not.mpr c1 | exact (fun q => q c1)), rfl, rfl⟩
noncomputable abbrev rmX12_noOrder : Room := { frames := 1, cells := 0, slots := 0, locals := 25 }
theorem zyX12_noOrder : zY yX12_noOrder wsX12_noOrder cX12_noOrder 1 (some .boolean) 1 := ⟨⟨_, rfl⟩, by decide +kernel⟩
theorem zrX12_noOrder_X12_in : zRm rmX12_in rmX12_noOrder 6 := ⟨rfl, rfl, by decide, by decide⟩
set_option maxHeartbeats 4000000 in
set_option maxRecDepth 100000 in
theorem c_X12_noOrder (B : zB) (I : zM) (J : zJ) (g : Int32) : zCi B zKW I J yX12_noOrder wsX12_noOrder rmX12_noOrder [.int g] (fun r I' J' => r = zb (¬ zrg g 0 3) ∧ I' = I ∧ J' = J) := by
  refine z_start (own := RX12) (cc := cX12_noOrder) (nL := 1) (ret := (some .boolean)) rfl (by decide) rfl (by decide) (L := [(0, .int g)]) rfl (fun G h hr => ?_)
  refine z_iload_n h 0 dX12_noOrder_0 rfl rfl ?_
  refine z_i2l h dX12_noOrder_1 rfl ?_
  refine z_lconst h 0 dX12_noOrder_2 rfl rfl ?_
  refine z_ldc2 h 3 (List.mem_of_getElem? (i := 1) rfl) dX12_noOrder_3 rfl ?_
  refine z_gof (z_runS h [.long (Int32.toInt64 g), .long 0, .long 3] [] zyX12_in (c_X12_in B I J (Int32.toInt64 g) 0 3) gX12_noOrder_X12_in zrX12_noOrder_X12_in rfl (by decide) ⟨Nat.zero_le _, Nat.zero_le _⟩ rfl dX12_noOrder_6) rfl ?_
  refine z_ifb_ne (pc' := 12) h 16 dX12_noOrder_9 (by decide) rfl (fun c1 => ?_) (fun c1 => ?_)
  · skip
    refine z_iconst h 0 dX12_noOrder_16 (by decide) rfl ?_
    refine z_zret h hr dX12_noOrder_17 (Or.inl rfl) ?_
    exact ⟨zb_f (by rw [zl_rg (a := 0) (b := 3) (by decide) (by decide)] at c1; first | exact c1 | exact Classical.not_not.mpr c1 | exact (fun q => q c1)), rfl, rfl⟩
  · skip
    refine z_iconst h 1 dX12_noOrder_12 (by decide) rfl ?_
    refine z_goto (pc' := 17) h dX12_noOrder_13 (by decide) ?_
    refine z_zret h hr dX12_noOrder_17 (Or.inr rfl) ?_
    exact ⟨zb_t (by rw [zl_rg (a := 0) (b := 3) (by decide) (by decide)] at c1; first | exact c1 | exact Classical.not_not.mpr c1 | exact (fun q => q c1)), rfl, rfl⟩
noncomputable abbrev rmX12_noSlot : Room := { frames := 1, cells := 0, slots := 0, locals := 25 }
theorem zyX12_noSlot : zY yX12_noSlot wsX12_noSlot cX12_noSlot 1 (some .boolean) 1 := ⟨⟨_, rfl⟩, by decide +kernel⟩
theorem zrX12_noSlot_X12_in : zRm rmX12_in rmX12_noSlot 6 := ⟨rfl, rfl, by decide, by decide⟩
set_option maxHeartbeats 4000000 in
set_option maxRecDepth 100000 in
theorem c_X12_noSlot (B : zB) (I : zM) (J : zJ) (g : Int32) : zCi B zKW I J yX12_noSlot wsX12_noSlot rmX12_noSlot [.int g] (fun r I' J' => r = zb (¬ zrg g 0 1) ∧ I' = I ∧ J' = J) := by
  refine z_start (own := RX12) (cc := cX12_noSlot) (nL := 1) (ret := (some .boolean)) rfl (by decide) rfl (by decide) (L := [(0, .int g)]) rfl (fun G h hr => ?_)
  refine z_iload_n h 0 dX12_noSlot_0 rfl rfl ?_
  refine z_i2l h dX12_noSlot_1 rfl ?_
  refine z_lconst h 0 dX12_noSlot_2 rfl rfl ?_
  refine z_lconst h 1 dX12_noSlot_3 rfl rfl ?_
  refine z_gof (z_runS h [.long (Int32.toInt64 g), .long 0, .long 1] [] zyX12_in (c_X12_in B I J (Int32.toInt64 g) 0 1) gX12_noSlot_X12_in zrX12_noSlot_X12_in rfl (by decide) ⟨Nat.zero_le _, Nat.zero_le _⟩ rfl dX12_noSlot_4) rfl ?_
  refine z_ifb_ne (pc' := 10) h 14 dX12_noSlot_7 (by decide) rfl (fun c1 => ?_) (fun c1 => ?_)
  · skip
    refine z_iconst h 0 dX12_noSlot_14 (by decide) rfl ?_
    refine z_zret h hr dX12_noSlot_15 (Or.inl rfl) ?_
    exact ⟨zb_f (by rw [zl_rg (a := 0) (b := 1) (by decide) (by decide)] at c1; first | exact c1 | exact Classical.not_not.mpr c1 | exact (fun q => q c1)), rfl, rfl⟩
  · skip
    refine z_iconst h 1 dX12_noSlot_10 (by decide) rfl ?_
    refine z_goto (pc' := 15) h dX12_noSlot_11 (by decide) ?_
    refine z_zret h hr dX12_noSlot_15 (Or.inr rfl) ?_
    exact ⟨zb_t (by rw [zl_rg (a := 0) (b := 1) (by decide) (by decide)] at c1; first | exact c1 | exact Classical.not_not.mpr c1 | exact (fun q => q c1)), rfl, rfl⟩
