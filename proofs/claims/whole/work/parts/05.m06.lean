noncomputable def f_X12_readWords_7 (J : zJ)  : Nat → Int32 → zM → Option ((Int32 × zM) ⊕ (Int32 × zM))
  | 0, _, _ => none
  | n + 1, x1_7, I7 => (if 6 ≤ x1_7 then some (.inr (x1_7, I7)) else (if zin x1_7 6 = true then f_X12_readWords_7 J  n (x1_7 + 1) (zu I7 165 (Int32.toNatClampNeg x1_7) 0) else none))
noncomputable def f_X12_readWords_31 (J : zJ)  : Nat → Int32 → zM → Option ((Int32 × zM) ⊕ (Int32 × zM))
  | 0, _, _ => none
  | n + 1, x1_31, I31 => (if I31 147 12 ≤ I31 147 13 then some (.inr (x1_31, I31)) else (if zin (I31 147 13) 24 = true then (if I31 154 (Int32.toNatClampNeg (I31 147 13)) = 88 then (if I31 147 27 = 14 then some (.inl ((I31 147 13, I31))) else (if (zu I31 147 13 ((I31 147 13) + (1 : Int32))) 147 12 ≤ (zu I31 147 13 ((I31 147 13) + (1 : Int32))) 147 13 then ((f_X12_in J (Int32.toInt64 ((-9) : Int32)) 1 3 (zu I31 147 13 ((I31 147 13) + (1 : Int32)))).bind fun q21 => (if q21.1 = 0 then some (.inl ((q21.2 147 13, q21.2))) else (if ((q21.2 147 27) >>> (((-9) : Int32) &&& 31)) &&& (1 : Int32) = 1 then some (.inl ((q21.2 147 13, q21.2))) else f_X12_readWords_31 J  n (-9) (zu (zu q21.2 147 27 ((q21.2 147 27) ||| ((1 : Int32) <<< (((-9) : Int32) &&& 31)))) 147 13 (((zu q21.2 147 27 ((q21.2 147 27) ||| ((1 : Int32) <<< (((-9) : Int32) &&& 31)))) 147 13) + (1 : Int32)))))) else (if zin ((zu I31 147 13 ((I31 147 13) + (1 : Int32))) 147 13) 24 = true then ((f_X12_letterOf J ((zu I31 147 13 ((I31 147 13) + (1 : Int32))) 154 (Int32.toNatClampNeg ((zu I31 147 13 ((I31 147 13) + (1 : Int32))) 147 13))) (zu I31 147 13 ((I31 147 13) + (1 : Int32)))).bind fun q26 => ((f_X12_in J (Int32.toInt64 q26.1) 1 3 q26.2).bind fun q28 => (if q28.1 = 0 then some (.inl ((q28.2 147 13, q28.2))) else (if ((q28.2 147 27) >>> (q26.1 &&& 31)) &&& (1 : Int32) = 1 then some (.inl ((q28.2 147 13, q28.2))) else f_X12_readWords_31 J  n q26.1 (zu (zu q28.2 147 27 ((q28.2 147 27) ||| ((1 : Int32) <<< (q26.1 &&& 31)))) 147 13 (((zu q28.2 147 27 ((q28.2 147 27) ||| ((1 : Int32) <<< (q26.1 &&& 31)))) 147 13) + (1 : Int32))))))) else none))) else ((f_X12_figure J 0 5 I31).bind fun q7 => (if q7.1 = (-9) then some (.inl ((q7.2 147 13, q7.2))) else (if zin q7.1 6 = true then (if q7.2 165 (Int32.toNatClampNeg q7.1) ≤ 0 then ((f_X12_sign J 61 q7.2).bind fun q12 => (if q12.1 = 0 then some (.inl ((q12.2 147 13, q12.2))) else ((f_X12_figure J 1 5 q12.2).bind fun q15 => (if q15.1 = (-9) then some (.inl ((q15.2 147 13, q15.2))) else (if zin q7.1 6 = true then f_X12_readWords_31 J  n q7.1 (zu q15.2 165 (Int32.toNatClampNeg q7.1) q15.1) else none))))) else some (.inl (((q7.2 147 13) - (1 : Int32), q7.2)))) else none)))) else none))
noncomputable def f_X12_readWords (J : zJ)  (I : zM) : Option (Int32 × zM) := ((f_X12_readWords_7 J  zF 0 (zu I 147 27 0)).bind fun q => Sum.elim (fun a => some a) (fun a3 => ((f_X12_readWords_31 J  zF a3.1 (zu a3.2 147 13 0)).bind fun q => Sum.elim (fun a => some a) (fun a6 => some (((-9), a6.2))) q)) q)
noncomputable abbrev rmX12_readWords : Room := { frames := 2, cells := 0, slots := 0, locals := 47 }
theorem zyX12_readWords : zY yX12_readWords wsX12_readWords cX12_readWords 3 (some .int) 0 := ⟨⟨_, rfl⟩, by decide +kernel⟩
theorem zrX12_readWords_X12_figure : zRm rmX12_figure rmX12_readWords 3 := ⟨rfl, rfl, by decide, by decide⟩
theorem zrX12_readWords_X12_in : zRm rmX12_in rmX12_readWords 6 := ⟨rfl, rfl, by decide, by decide⟩
theorem zrX12_readWords_X12_letterOf : zRm rmX12_letterOf rmX12_readWords 1 := ⟨rfl, rfl, by decide, by decide⟩
theorem zrX12_readWords_X12_sign : zRm rmX12_sign rmX12_readWords 3 := ⟨rfl, rfl, by decide, by decide⟩
set_option maxHeartbeats 1000000 in
set_option maxRecDepth 100000 in
theorem c_X12_readWords (B : zB) (I : zM) (J : zJ) (hJ : zJok J)  (r : Int32) (I' : zM) (hf : f_X12_readWords J  I = some (r, I')) : zCi B zKW I J yX12_readWords wsX12_readWords rmX12_readWords [.ref (za B 147)] (fun r2 I2 J2 => r2 = r ∧ I2 = I' ∧ J2 = J) := by
  refine z_start (own := RX12) (cc := cX12_readWords) (nL := 3) (ret := (some .int)) rfl (by decide) rfl (Nat.le_of_ble_eq_true rfl) (L := [(0, .ref (za B 147))]) rfl (fun G h hr => ?_)
  rw [f_X12_readWords] at hf
  refine z_aload_n h 0 dX12_readWords_0 rfl (rfl : 0 + 1 = 1) ?_
  refine z_iconst h 0 dX12_readWords_1 (by decide) (rfl : 1 + 1 = 2) ?_
  refine z_put (ci := 11) (C := RX12) (T := TX12) (N := 46) h 27 tyX12 tyX12_ok nmX12 rfl rfl (fun _ hq => List.mem_cons_of_mem _ (List.mem_append_right _ hq)) (by decide) (List.mem_of_getElem? (i := 1) rfl) rfl rfl rfl dX12_readWords_2 (rfl : 2 + 3 = 5) ?_
  refine z_iconst h 0 dX12_readWords_5 (by decide) (rfl : 5 + 1 = 6) ?_
  refine z_istore_n h [(1, .int 0), (0, .ref (za B 147))] dX12_readWords_6 (by decide) rfl (rfl : 6 + 1 = 7) ?_
  have loop_7_2 : ∀ (n : Nat) (x1_7 : Int32) (I7 : zM) (q : (Int32 × zM) ⊕ (Int32 × zM)), f_X12_readWords_7 J  n x1_7 I7 = some q → (∀ a, q = .inl a → a = (r, I')) → (∀ a : Int32 × zM, q = .inr a → Z B G zKW (a.2) (J) (0, 0) 26 [(0, .ref (za B 147)), (1, .int a.1)] []) → Z B G zKW I7 J (0, 0) 7 [(0, .ref (za B 147)), (1, .int x1_7)] [] := by
    intro n; induction n with
    | zero => intro x1_7 I7 q hf; exact absurd hf (by rw [f_X12_readWords_7]; exact fun z => by cases z)
    | succ n ih =>
      intro x1_7 I7 q hf hP hE; rw [f_X12_readWords_7] at hf
      refine z_iload_n h 1 dX12_readWords_7 rfl (rfl : 7 + 1 = 8) ?_
      refine z_bipush h 6 dX12_readWords_8 (by decide) (rfl : 8 + 2 = 10) ?_
      refine z_icmp_ge (pc' := 13) h 26 dX12_readWords_10 (by decide) rfl (fun c3 => ?_) (fun c3 => ?_)
      · have hf := zitt c3 hf
        exact hE (x1_7, I7) (zsome hf).symm
      · have hf := zitf c3 hf
        refine z_aload_n h 0 dX12_readWords_13 rfl (rfl : 13 + 1 = 14) ?_
        refine z_getr (ci := 11) (C := RX12) (T := TX12) (N := 46) h 26 165 ((hJ.1 147 26 (by decide)).trans rfl) rfl rfl (fun _ hq => List.mem_cons_of_mem _ (List.mem_append_right _ hq)) (by decide) (List.mem_of_getElem? (i := 2) rfl) rfl dX12_readWords_14 (rfl : 14 + 3 = 17) ?_
        refine z_iload_n h 1 dX12_readWords_17 rfl (rfl : 17 + 1 = 18) ?_
        refine z_iconst h 0 dX12_readWords_18 (by decide) (rfl : 18 + 1 = 19) ?_
        obtain ⟨b4, hf⟩ := zchk hf
        refine z_iast h b4 rfl dX12_readWords_19 (rfl : 19 + 1 = 20) ?_
        refine z_iinc h 1 (x1_7 + 1) [(1, .int (x1_7 + 1)), (0, .ref (za B 147))] dX12_readWords_20 rfl rfl (by decide) rfl (rfl : 20 + 3 = 23) ?_
        refine z_goto (pc' := 7) h dX12_readWords_23 (by decide) ?_
        refine z_sub (L' := [(0, .ref (za B 147)), (1, .int (x1_7 + 1))]) [1, 0] rfl ?_
        exact ih (x1_7 + 1) (zu I7 165 (Int32.toNatClampNeg x1_7) 0) _ hf hP hE
  refine z_sub (L' := [(0, .ref (za B 147)), (1, .int 0)]) [1, 0] rfl ?_
  obtain ⟨q1, e2, hf⟩ := zbind hf
  refine loop_7_2 _ 0 (zu I 147 27 0) q1 e2 (fun a ha => ?_) (fun a5 ha  => ?_)
  · have hf := zell ha hf
    exact zsome hf
  have hf := zelr ha hf
  clear ha loop_7_2
  refine z_aload_n h 0 dX12_readWords_26 rfl (rfl : 26 + 1 = 27) ?_
  refine z_iconst h 0 dX12_readWords_27 (by decide) (rfl : 27 + 1 = 28) ?_
  refine z_put (ci := 11) (C := RX12) (T := TX12) (N := 46) h 13 tyX12 tyX12_ok nmX12 rfl rfl (fun _ hq => List.mem_cons_of_mem _ (List.mem_append_right _ hq)) (by decide) (List.mem_of_getElem? (i := 3) rfl) rfl rfl rfl dX12_readWords_28 (rfl : 28 + 3 = 31) ?_
  have loop_31_7 : ∀ (n : Nat) (x1_31 : Int32) (I31 : zM) (q : (Int32 × zM) ⊕ (Int32 × zM)), f_X12_readWords_31 J  n x1_31 I31 = some q → (∀ a, q = .inl a → a = (r, I')) → (∀ a : Int32 × zM, q = .inr a → Z B G zKW (a.2) (J) (0, 0) 239 [(0, .ref (za B 147)), (1, .int a.1)] []) → Z B G zKW I31 J (0, 0) 31 [(0, .ref (za B 147)), (1, .int x1_31)] [] := by
    intro n; induction n with
    | zero => intro x1_31 I31 q hf; exact absurd hf (by rw [f_X12_readWords_31]; exact fun z => by cases z)
    | succ n ih =>
      intro x1_31 I31 q hf hP hE; rw [f_X12_readWords_31] at hf
      refine z_aload_n h 0 dX12_readWords_31 rfl (rfl : 31 + 1 = 32) ?_
      refine z_get (ci := 11) (C := RX12) (T := TX12) (N := 46) h 13 rfl rfl (fun _ hq => List.mem_cons_of_mem _ (List.mem_append_right _ hq)) (by decide) (List.mem_of_getElem? (i := 3) rfl) rfl dX12_readWords_32 (rfl : 32 + 3 = 35) ?_
      refine z_aload_n h 0 dX12_readWords_35 rfl (rfl : 35 + 1 = 36) ?_
      refine z_get (ci := 11) (C := RX12) (T := TX12) (N := 46) h 12 rfl rfl (fun _ hq => List.mem_cons_of_mem _ (List.mem_append_right _ hq)) (by decide) (List.mem_of_getElem? (i := 4) rfl) rfl dX12_readWords_36 (rfl : 36 + 3 = 39) ?_
      refine z_icmp_ge (pc' := 42) h 239 dX12_readWords_39 (by decide) rfl (fun c8 => ?_) (fun c8 => ?_)
      · have hf := zitt c8 hf
        exact hE (x1_31, I31) (zsome hf).symm
      · have hf := zitf c8 hf
        refine z_aload_n h 0 dX12_readWords_42 rfl (rfl : 42 + 1 = 43) ?_
        refine z_getr (ci := 11) (C := RX12) (T := TX12) (N := 46) h 11 154 ((hJ.1 147 11 (by decide)).trans rfl) rfl rfl (fun _ hq => List.mem_cons_of_mem _ (List.mem_append_right _ hq)) (by decide) (List.mem_of_getElem? (i := 5) rfl) rfl dX12_readWords_43 (rfl : 43 + 3 = 46) ?_
        refine z_aload_n h 0 dX12_readWords_46 rfl (rfl : 46 + 1 = 47) ?_
        refine z_get (ci := 11) (C := RX12) (T := TX12) (N := 46) h 13 rfl rfl (fun _ hq => List.mem_cons_of_mem _ (List.mem_append_right _ hq)) (by decide) (List.mem_of_getElem? (i := 3) rfl) rfl dX12_readWords_47 (rfl : 47 + 3 = 50) ?_
        obtain ⟨b9, hf⟩ := zchk hf
        refine z_iald h rfl b9 dX12_readWords_50 (rfl : 50 + 1 = 51) ?_
        refine z_bipush h 88 dX12_readWords_51 (by decide) (rfl : 51 + 2 = 53) ?_
        refine z_icmp_ne (pc' := 56) h 163 dX12_readWords_53 (by decide) rfl (fun c10 => ?_) (fun c10 => ?_)
        · have hf := zitf c10 hf
          refine z_aload_n h 0 dX12_readWords_163 rfl (rfl : 163 + 1 = 164) ?_
          refine z_iconst h 0 dX12_readWords_164 (by decide) (rfl : 164 + 1 = 165) ?_
          refine z_iconst h 5 dX12_readWords_165 (by decide) (rfl : 165 + 1 = 166) ?_
          obtain ⟨q11, e12, hf⟩ := zbind hf
          refine z_goF (z_runV (C := RX12) (T := TX12) (N := 46) (ci := 11) h [.int 0, .int 5] [] zyX12_figure (c_X12_figure B I31 J hJ 0 5 _ _ e12) gX12_readWords_X12_figure rfl rfl rfl zrX12_readWords_X12_figure rfl (Nat.le_of_ble_eq_true rfl) ⟨Nat.zero_le _, Nat.zero_le _⟩ rfl dX12_readWords_166) rfl ?_
          refine z_istore_n h [(1, .int q11.1), (0, .ref (za B 147))] dX12_readWords_169 (by decide) rfl (rfl : 169 + 1 = 170) ?_
          refine z_iload_n h 0 dX12_readWords_170 rfl (rfl : 170 + 1 = 171) ?_
          refine z_bipush h (-9) dX12_readWords_171 (by decide) (rfl : 171 + 2 = 173) ?_
          refine z_icmp_ne (pc' := 176) h 181 dX12_readWords_173 (by decide) rfl (fun c13 => ?_) (fun c13 => ?_)
          · have hf := zitf c13 hf
            refine z_aload_n h 1 dX12_readWords_181 rfl (rfl : 181 + 1 = 182) ?_
            refine z_getr (ci := 11) (C := RX12) (T := TX12) (N := 46) h 26 165 ((hJ.1 147 26 (by decide)).trans rfl) rfl rfl (fun _ hq => List.mem_cons_of_mem _ (List.mem_append_right _ hq)) (by decide) (List.mem_of_getElem? (i := 2) rfl) rfl dX12_readWords_182 (rfl : 182 + 3 = 185) ?_
            refine z_iload_n h 0 dX12_readWords_185 rfl (rfl : 185 + 1 = 186) ?_
            obtain ⟨b14, hf⟩ := zchk hf
            refine z_iald h rfl b14 dX12_readWords_186 (rfl : 186 + 1 = 187) ?_
            refine z_if_le (pc' := 190) h 197 dX12_readWords_187 (by decide) rfl (fun c15 => ?_) (fun c15 => ?_)
            · have hf := zitt c15 hf
              refine z_aload_n h 1 dX12_readWords_197 rfl (rfl : 197 + 1 = 198) ?_
              refine z_bipush h 61 dX12_readWords_198 (by decide) (rfl : 198 + 2 = 200) ?_
              obtain ⟨q16, e17, hf⟩ := zbind hf
              refine z_goF (z_runV (C := RX12) (T := TX12) (N := 46) (ci := 11) h [.int 61] [] zyX12_sign (c_X12_sign B q11.2 J hJ 61 _ _ e17) gX12_readWords_X12_sign rfl rfl rfl zrX12_readWords_X12_sign rfl (Nat.le_of_ble_eq_true rfl) ⟨Nat.zero_le _, Nat.zero_le _⟩ rfl dX12_readWords_200) rfl ?_
              refine z_if_ne (pc' := 206) h 211 dX12_readWords_203 (by decide) rfl (fun c18 => ?_) (fun c18 => ?_)
              · have hf := zitf c18 hf
                refine z_aload_n h 1 dX12_readWords_211 rfl (rfl : 211 + 1 = 212) ?_
                refine z_iconst h 1 dX12_readWords_212 (by decide) (rfl : 212 + 1 = 213) ?_
                refine z_iconst h 5 dX12_readWords_213 (by decide) (rfl : 213 + 1 = 214) ?_
                obtain ⟨q19, e20, hf⟩ := zbind hf
                refine z_goF (z_runV (C := RX12) (T := TX12) (N := 46) (ci := 11) h [.int 1, .int 5] [] zyX12_figure (c_X12_figure B q16.2 J hJ 1 5 _ _ e20) gX12_readWords_X12_figure rfl rfl rfl zrX12_readWords_X12_figure rfl (Nat.le_of_ble_eq_true rfl) ⟨Nat.zero_le _, Nat.zero_le _⟩ rfl dX12_readWords_214) rfl ?_
                refine z_istore_n h [(2, .int q19.1), (1, .int q11.1), (0, .ref (za B 147))] dX12_readWords_217 (by decide) rfl (rfl : 217 + 1 = 218) ?_
                refine z_iload_n h 0 dX12_readWords_218 rfl (rfl : 218 + 1 = 219) ?_
                refine z_bipush h (-9) dX12_readWords_219 (by decide) (rfl : 219 + 2 = 221) ?_
                refine z_icmp_ne (pc' := 224) h 229 dX12_readWords_221 (by decide) rfl (fun c21 => ?_) (fun c21 => ?_)
                · have hf := zitf c21 hf
                  refine z_aload_n h 2 dX12_readWords_229 rfl (rfl : 229 + 1 = 230) ?_
                  refine z_getr (ci := 11) (C := RX12) (T := TX12) (N := 46) h 26 165 ((hJ.1 147 26 (by decide)).trans rfl) rfl rfl (fun _ hq => List.mem_cons_of_mem _ (List.mem_append_right _ hq)) (by decide) (List.mem_of_getElem? (i := 2) rfl) rfl dX12_readWords_230 (rfl : 230 + 3 = 233) ?_
                  refine z_iload_n h 1 dX12_readWords_233 rfl (rfl : 233 + 1 = 234) ?_
                  refine z_iload_n h 0 dX12_readWords_234 rfl (rfl : 234 + 1 = 235) ?_
                  obtain ⟨b22, hf⟩ := zchk hf
                  refine z_iast h b22 rfl dX12_readWords_235 (rfl : 235 + 1 = 236) ?_
                  refine z_goto (pc' := 31) h dX12_readWords_236 (by decide) ?_
                  refine z_sub (L' := [(0, .ref (za B 147)), (1, .int q11.1)]) [2, 1] rfl ?_
                  exact ih q11.1 (zu q19.2 165 (Int32.toNatClampNeg q11.1) q19.1) _ hf hP hE
                · have hf := zitt c21 hf
                  refine z_aload_n h 2 dX12_readWords_224 rfl (rfl : 224 + 1 = 225) ?_
                  refine z_get (ci := 11) (C := RX12) (T := TX12) (N := 46) h 13 rfl rfl (fun _ hq => List.mem_cons_of_mem _ (List.mem_append_right _ hq)) (by decide) (List.mem_of_getElem? (i := 3) rfl) rfl dX12_readWords_225 (rfl : 225 + 3 = 228) ?_
                  refine z_iret h hr dX12_readWords_228 ?_
                  exact ⟨congrArg Prod.fst (hP _ (zsome hf).symm), congrArg Prod.snd (hP _ (zsome hf).symm), rfl⟩
              · have hf := zitt c18 hf
                refine z_aload_n h 1 dX12_readWords_206 rfl (rfl : 206 + 1 = 207) ?_
                refine z_get (ci := 11) (C := RX12) (T := TX12) (N := 46) h 13 rfl rfl (fun _ hq => List.mem_cons_of_mem _ (List.mem_append_right _ hq)) (by decide) (List.mem_of_getElem? (i := 3) rfl) rfl dX12_readWords_207 (rfl : 207 + 3 = 210) ?_
                refine z_iret h hr dX12_readWords_210 ?_
                exact ⟨congrArg Prod.fst (hP _ (zsome hf).symm), congrArg Prod.snd (hP _ (zsome hf).symm), rfl⟩
            · have hf := zitf c15 hf
              refine z_aload_n h 1 dX12_readWords_190 rfl (rfl : 190 + 1 = 191) ?_
              refine z_get (ci := 11) (C := RX12) (T := TX12) (N := 46) h 13 rfl rfl (fun _ hq => List.mem_cons_of_mem _ (List.mem_append_right _ hq)) (by decide) (List.mem_of_getElem? (i := 3) rfl) rfl dX12_readWords_191 (rfl : 191 + 3 = 194) ?_
              refine z_iconst h 1 dX12_readWords_194 (by decide) (rfl : 194 + 1 = 195) ?_
              refine z_isub h dX12_readWords_195 (rfl : 195 + 1 = 196) ?_
              refine z_iret h hr dX12_readWords_196 ?_
              exact ⟨congrArg Prod.fst (hP _ (zsome hf).symm), congrArg Prod.snd (hP _ (zsome hf).symm), rfl⟩
          · have hf := zitt c13 hf
            refine z_aload_n h 1 dX12_readWords_176 rfl (rfl : 176 + 1 = 177) ?_
            refine z_get (ci := 11) (C := RX12) (T := TX12) (N := 46) h 13 rfl rfl (fun _ hq => List.mem_cons_of_mem _ (List.mem_append_right _ hq)) (by decide) (List.mem_of_getElem? (i := 3) rfl) rfl dX12_readWords_177 (rfl : 177 + 3 = 180) ?_
            refine z_iret h hr dX12_readWords_180 ?_
            exact ⟨congrArg Prod.fst (hP _ (zsome hf).symm), congrArg Prod.snd (hP _ (zsome hf).symm), rfl⟩
        · have hf := zitt c10 hf
          refine z_aload_n h 0 dX12_readWords_56 rfl (rfl : 56 + 1 = 57) ?_
          refine z_get (ci := 11) (C := RX12) (T := TX12) (N := 46) h 27 rfl rfl (fun _ hq => List.mem_cons_of_mem _ (List.mem_append_right _ hq)) (by decide) (List.mem_of_getElem? (i := 1) rfl) rfl dX12_readWords_57 (rfl : 57 + 3 = 60) ?_
          refine z_bipush h 14 dX12_readWords_60 (by decide) (rfl : 60 + 2 = 62) ?_
          refine z_icmp_ne (pc' := 65) h 70 dX12_readWords_62 (by decide) rfl (fun c23 => ?_) (fun c23 => ?_)
          · have hf := zitf c23 hf
            refine z_aload_n h 0 dX12_readWords_70 rfl (rfl : 70 + 1 = 71) ?_
            refine z_dup h rfl dX12_readWords_71 (rfl : 71 + 1 = 72) ?_
            refine z_get (ci := 11) (C := RX12) (T := TX12) (N := 46) h 13 rfl rfl (fun _ hq => List.mem_cons_of_mem _ (List.mem_append_right _ hq)) (by decide) (List.mem_of_getElem? (i := 3) rfl) rfl dX12_readWords_72 (rfl : 72 + 3 = 75) ?_
            refine z_iconst h 1 dX12_readWords_75 (by decide) (rfl : 75 + 1 = 76) ?_
            refine z_iadd h dX12_readWords_76 (rfl : 76 + 1 = 77) ?_
            refine z_put (ci := 11) (C := RX12) (T := TX12) (N := 46) h 13 tyX12 tyX12_ok nmX12 rfl rfl (fun _ hq => List.mem_cons_of_mem _ (List.mem_append_right _ hq)) (by decide) (List.mem_of_getElem? (i := 3) rfl) rfl rfl rfl dX12_readWords_77 (rfl : 77 + 3 = 80) ?_
            refine z_aload_n h 0 dX12_readWords_80 rfl (rfl : 80 + 1 = 81) ?_
            refine z_get (ci := 11) (C := RX12) (T := TX12) (N := 46) h 13 rfl rfl (fun _ hq => List.mem_cons_of_mem _ (List.mem_append_right _ hq)) (by decide) (List.mem_of_getElem? (i := 3) rfl) rfl dX12_readWords_81 (rfl : 81 + 3 = 84) ?_
            refine z_aload_n h 0 dX12_readWords_84 rfl (rfl : 84 + 1 = 85) ?_
            refine z_get (ci := 11) (C := RX12) (T := TX12) (N := 46) h 12 rfl rfl (fun _ hq => List.mem_cons_of_mem _ (List.mem_append_right _ hq)) (by decide) (List.mem_of_getElem? (i := 4) rfl) rfl dX12_readWords_85 (rfl : 85 + 3 = 88) ?_
            refine z_icmp_ge (pc' := 91) h 106 dX12_readWords_88 (by decide) rfl (fun c24 => ?_) (fun c24 => ?_)
            · have hf := zitt c24 hf
              refine z_bipush h (-9) dX12_readWords_106 (by decide) (rfl : 106 + 2 = 108) ?_
              refine z_istore_n h [(1, .int (-9)), (0, .ref (za B 147))] dX12_readWords_108 (by decide) rfl (rfl : 108 + 1 = 109) ?_
              refine z_iload_n h 0 dX12_readWords_109 rfl (rfl : 109 + 1 = 110) ?_
              refine z_i2l h dX12_readWords_110 (rfl : 110 + 1 = 111) ?_
              refine z_lconst h 1 dX12_readWords_111 rfl (rfl : 111 + 1 = 112) ?_
              refine z_ldc2 h 3 (List.mem_of_getElem? (i := 6) rfl) dX12_readWords_112 (rfl : 112 + 3 = 115) ?_
              obtain ⟨q25, e26, hf⟩ := zbind hf
              refine z_goF (z_runS h [.long (Int32.toInt64 ((-9) : Int32)), .long 1, .long 3] [] zyX12_in (c_X12_in B (zu I31 147 13 ((I31 147 13) + (1 : Int32))) J hJ (Int32.toInt64 ((-9) : Int32)) 1 3 _ _ e26) gX12_readWords_X12_in zrX12_readWords_X12_in rfl (Nat.le_of_ble_eq_true rfl) ⟨Nat.zero_le _, Nat.zero_le _⟩ rfl dX12_readWords_115) rfl ?_
              refine z_if_eq (pc' := 121) h 133 dX12_readWords_118 (by decide) rfl (fun c27 => ?_) (fun c27 => ?_)
              · have hf := zitt c27 hf
                refine z_aload_n h 1 dX12_readWords_133 rfl (rfl : 133 + 1 = 134) ?_
                refine z_get (ci := 11) (C := RX12) (T := TX12) (N := 46) h 13 rfl rfl (fun _ hq => List.mem_cons_of_mem _ (List.mem_append_right _ hq)) (by decide) (List.mem_of_getElem? (i := 3) rfl) rfl dX12_readWords_134 (rfl : 134 + 3 = 137) ?_
                refine z_iret h hr dX12_readWords_137 ?_
                exact ⟨congrArg Prod.fst (hP _ (zsome hf).symm), congrArg Prod.snd (hP _ (zsome hf).symm), rfl⟩
              · have hf := zitf c27 hf
                refine z_aload_n h 1 dX12_readWords_121 rfl (rfl : 121 + 1 = 122) ?_
                refine z_get (ci := 11) (C := RX12) (T := TX12) (N := 46) h 27 rfl rfl (fun _ hq => List.mem_cons_of_mem _ (List.mem_append_right _ hq)) (by decide) (List.mem_of_getElem? (i := 1) rfl) rfl dX12_readWords_122 (rfl : 122 + 3 = 125) ?_
                refine z_iload_n h 0 dX12_readWords_125 rfl (rfl : 125 + 1 = 126) ?_
                refine z_ishr h dX12_readWords_126 (rfl : 126 + 1 = 127) ?_
                refine z_iconst h 1 dX12_readWords_127 (by decide) (rfl : 127 + 1 = 128) ?_
                refine z_iand h dX12_readWords_128 (rfl : 128 + 1 = 129) ?_
                refine z_iconst h 1 dX12_readWords_129 (by decide) (rfl : 129 + 1 = 130) ?_
                refine z_icmp_ne (pc' := 133) h 138 dX12_readWords_130 (by decide) rfl (fun c28 => ?_) (fun c28 => ?_)
                · have hf := zitf c28 hf
                  refine z_aload_n h 1 dX12_readWords_138 rfl (rfl : 138 + 1 = 139) ?_
                  refine z_dup h rfl dX12_readWords_139 (rfl : 139 + 1 = 140) ?_
                  refine z_get (ci := 11) (C := RX12) (T := TX12) (N := 46) h 27 rfl rfl (fun _ hq => List.mem_cons_of_mem _ (List.mem_append_right _ hq)) (by decide) (List.mem_of_getElem? (i := 1) rfl) rfl dX12_readWords_140 (rfl : 140 + 3 = 143) ?_
                  refine z_iconst h 1 dX12_readWords_143 (by decide) (rfl : 143 + 1 = 144) ?_
                  refine z_iload_n h 0 dX12_readWords_144 rfl (rfl : 144 + 1 = 145) ?_
                  refine z_ishl h dX12_readWords_145 (rfl : 145 + 1 = 146) ?_
                  refine z_ior h dX12_readWords_146 (rfl : 146 + 1 = 147) ?_
                  refine z_put (ci := 11) (C := RX12) (T := TX12) (N := 46) h 27 tyX12 tyX12_ok nmX12 rfl rfl (fun _ hq => List.mem_cons_of_mem _ (List.mem_append_right _ hq)) (by decide) (List.mem_of_getElem? (i := 1) rfl) rfl rfl rfl dX12_readWords_147 (rfl : 147 + 3 = 150) ?_
                  refine z_aload_n h 1 dX12_readWords_150 rfl (rfl : 150 + 1 = 151) ?_
                  refine z_dup h rfl dX12_readWords_151 (rfl : 151 + 1 = 152) ?_
                  refine z_get (ci := 11) (C := RX12) (T := TX12) (N := 46) h 13 rfl rfl (fun _ hq => List.mem_cons_of_mem _ (List.mem_append_right _ hq)) (by decide) (List.mem_of_getElem? (i := 3) rfl) rfl dX12_readWords_152 (rfl : 152 + 3 = 155) ?_
                  refine z_iconst h 1 dX12_readWords_155 (by decide) (rfl : 155 + 1 = 156) ?_
                  refine z_iadd h dX12_readWords_156 (rfl : 156 + 1 = 157) ?_
                  refine z_put (ci := 11) (C := RX12) (T := TX12) (N := 46) h 13 tyX12 tyX12_ok nmX12 rfl rfl (fun _ hq => List.mem_cons_of_mem _ (List.mem_append_right _ hq)) (by decide) (List.mem_of_getElem? (i := 3) rfl) rfl rfl rfl dX12_readWords_157 (rfl : 157 + 3 = 160) ?_
                  refine z_goto (pc' := 31) h dX12_readWords_160 (by decide) ?_
                  refine z_sub (L' := [(0, .ref (za B 147)), (1, .int (-9))]) [1, 0] rfl ?_
                  exact ih (-9) (zu (zu q25.2 147 27 ((q25.2 147 27) ||| ((1 : Int32) <<< (((-9) : Int32) &&& 31)))) 147 13 (((zu q25.2 147 27 ((q25.2 147 27) ||| ((1 : Int32) <<< (((-9) : Int32) &&& 31)))) 147 13) + (1 : Int32))) _ hf hP hE
                · have hf := zitt c28 hf
                  refine z_aload_n h 1 dX12_readWords_133 rfl (rfl : 133 + 1 = 134) ?_
                  refine z_get (ci := 11) (C := RX12) (T := TX12) (N := 46) h 13 rfl rfl (fun _ hq => List.mem_cons_of_mem _ (List.mem_append_right _ hq)) (by decide) (List.mem_of_getElem? (i := 3) rfl) rfl dX12_readWords_134 (rfl : 134 + 3 = 137) ?_
                  refine z_iret h hr dX12_readWords_137 ?_
                  exact ⟨congrArg Prod.fst (hP _ (zsome hf).symm), congrArg Prod.snd (hP _ (zsome hf).symm), rfl⟩
            · have hf := zitf c24 hf
              refine z_aload_n h 0 dX12_readWords_91 rfl (rfl : 91 + 1 = 92) ?_
              refine z_getr (ci := 11) (C := RX12) (T := TX12) (N := 46) h 11 154 ((hJ.1 147 11 (by decide)).trans rfl) rfl rfl (fun _ hq => List.mem_cons_of_mem _ (List.mem_append_right _ hq)) (by decide) (List.mem_of_getElem? (i := 5) rfl) rfl dX12_readWords_92 (rfl : 92 + 3 = 95) ?_
              refine z_aload_n h 0 dX12_readWords_95 rfl (rfl : 95 + 1 = 96) ?_
              refine z_get (ci := 11) (C := RX12) (T := TX12) (N := 46) h 13 rfl rfl (fun _ hq => List.mem_cons_of_mem _ (List.mem_append_right _ hq)) (by decide) (List.mem_of_getElem? (i := 3) rfl) rfl dX12_readWords_96 (rfl : 96 + 3 = 99) ?_
              obtain ⟨b29, hf⟩ := zchk hf
              refine z_iald h rfl b29 dX12_readWords_99 (rfl : 99 + 1 = 100) ?_
              obtain ⟨q30, e31, hf⟩ := zbind hf
              refine z_goF (z_runS h [.int ((zu I31 147 13 ((I31 147 13) + (1 : Int32))) 154 (Int32.toNatClampNeg ((zu I31 147 13 ((I31 147 13) + (1 : Int32))) 147 13)))] [] zyX12_letterOf (c_X12_letterOf B (zu I31 147 13 ((I31 147 13) + (1 : Int32))) J hJ ((zu I31 147 13 ((I31 147 13) + (1 : Int32))) 154 (Int32.toNatClampNeg ((zu I31 147 13 ((I31 147 13) + (1 : Int32))) 147 13))) _ _ e31) gX12_readWords_X12_letterOf zrX12_readWords_X12_letterOf rfl (Nat.le_of_ble_eq_true rfl) ⟨Nat.zero_le _, Nat.zero_le _⟩ rfl dX12_readWords_100) rfl ?_
              refine z_goto (pc' := 108) h dX12_readWords_103 (by decide) ?_
              refine z_istore_n h [(1, .int q30.1), (0, .ref (za B 147))] dX12_readWords_108 (by decide) rfl (rfl : 108 + 1 = 109) ?_
              refine z_iload_n h 0 dX12_readWords_109 rfl (rfl : 109 + 1 = 110) ?_
              refine z_i2l h dX12_readWords_110 (rfl : 110 + 1 = 111) ?_
              refine z_lconst h 1 dX12_readWords_111 rfl (rfl : 111 + 1 = 112) ?_
              refine z_ldc2 h 3 (List.mem_of_getElem? (i := 6) rfl) dX12_readWords_112 (rfl : 112 + 3 = 115) ?_
              obtain ⟨q32, e33, hf⟩ := zbind hf
              refine z_goF (z_runS h [.long (Int32.toInt64 q30.1), .long 1, .long 3] [] zyX12_in (c_X12_in B q30.2 J hJ (Int32.toInt64 q30.1) 1 3 _ _ e33) gX12_readWords_X12_in zrX12_readWords_X12_in rfl (Nat.le_of_ble_eq_true rfl) ⟨Nat.zero_le _, Nat.zero_le _⟩ rfl dX12_readWords_115) rfl ?_
              refine z_if_eq (pc' := 121) h 133 dX12_readWords_118 (by decide) rfl (fun c34 => ?_) (fun c34 => ?_)
              · have hf := zitt c34 hf
                refine z_aload_n h 1 dX12_readWords_133 rfl (rfl : 133 + 1 = 134) ?_
                refine z_get (ci := 11) (C := RX12) (T := TX12) (N := 46) h 13 rfl rfl (fun _ hq => List.mem_cons_of_mem _ (List.mem_append_right _ hq)) (by decide) (List.mem_of_getElem? (i := 3) rfl) rfl dX12_readWords_134 (rfl : 134 + 3 = 137) ?_
                refine z_iret h hr dX12_readWords_137 ?_
                exact ⟨congrArg Prod.fst (hP _ (zsome hf).symm), congrArg Prod.snd (hP _ (zsome hf).symm), rfl⟩
              · have hf := zitf c34 hf
                refine z_aload_n h 1 dX12_readWords_121 rfl (rfl : 121 + 1 = 122) ?_
                refine z_get (ci := 11) (C := RX12) (T := TX12) (N := 46) h 27 rfl rfl (fun _ hq => List.mem_cons_of_mem _ (List.mem_append_right _ hq)) (by decide) (List.mem_of_getElem? (i := 1) rfl) rfl dX12_readWords_122 (rfl : 122 + 3 = 125) ?_
                refine z_iload_n h 0 dX12_readWords_125 rfl (rfl : 125 + 1 = 126) ?_
                refine z_ishr h dX12_readWords_126 (rfl : 126 + 1 = 127) ?_
                refine z_iconst h 1 dX12_readWords_127 (by decide) (rfl : 127 + 1 = 128) ?_
                refine z_iand h dX12_readWords_128 (rfl : 128 + 1 = 129) ?_
                refine z_iconst h 1 dX12_readWords_129 (by decide) (rfl : 129 + 1 = 130) ?_
                refine z_icmp_ne (pc' := 133) h 138 dX12_readWords_130 (by decide) rfl (fun c35 => ?_) (fun c35 => ?_)
                · have hf := zitf c35 hf
                  refine z_aload_n h 1 dX12_readWords_138 rfl (rfl : 138 + 1 = 139) ?_
                  refine z_dup h rfl dX12_readWords_139 (rfl : 139 + 1 = 140) ?_
                  refine z_get (ci := 11) (C := RX12) (T := TX12) (N := 46) h 27 rfl rfl (fun _ hq => List.mem_cons_of_mem _ (List.mem_append_right _ hq)) (by decide) (List.mem_of_getElem? (i := 1) rfl) rfl dX12_readWords_140 (rfl : 140 + 3 = 143) ?_
                  refine z_iconst h 1 dX12_readWords_143 (by decide) (rfl : 143 + 1 = 144) ?_
                  refine z_iload_n h 0 dX12_readWords_144 rfl (rfl : 144 + 1 = 145) ?_
                  refine z_ishl h dX12_readWords_145 (rfl : 145 + 1 = 146) ?_
                  refine z_ior h dX12_readWords_146 (rfl : 146 + 1 = 147) ?_
                  refine z_put (ci := 11) (C := RX12) (T := TX12) (N := 46) h 27 tyX12 tyX12_ok nmX12 rfl rfl (fun _ hq => List.mem_cons_of_mem _ (List.mem_append_right _ hq)) (by decide) (List.mem_of_getElem? (i := 1) rfl) rfl rfl rfl dX12_readWords_147 (rfl : 147 + 3 = 150) ?_
                  refine z_aload_n h 1 dX12_readWords_150 rfl (rfl : 150 + 1 = 151) ?_
                  refine z_dup h rfl dX12_readWords_151 (rfl : 151 + 1 = 152) ?_
                  refine z_get (ci := 11) (C := RX12) (T := TX12) (N := 46) h 13 rfl rfl (fun _ hq => List.mem_cons_of_mem _ (List.mem_append_right _ hq)) (by decide) (List.mem_of_getElem? (i := 3) rfl) rfl dX12_readWords_152 (rfl : 152 + 3 = 155) ?_
                  refine z_iconst h 1 dX12_readWords_155 (by decide) (rfl : 155 + 1 = 156) ?_
                  refine z_iadd h dX12_readWords_156 (rfl : 156 + 1 = 157) ?_
                  refine z_put (ci := 11) (C := RX12) (T := TX12) (N := 46) h 13 tyX12 tyX12_ok nmX12 rfl rfl (fun _ hq => List.mem_cons_of_mem _ (List.mem_append_right _ hq)) (by decide) (List.mem_of_getElem? (i := 3) rfl) rfl rfl rfl dX12_readWords_157 (rfl : 157 + 3 = 160) ?_
                  refine z_goto (pc' := 31) h dX12_readWords_160 (by decide) ?_
                  refine z_sub (L' := [(0, .ref (za B 147)), (1, .int q30.1)]) [1, 0] rfl ?_
                  exact ih q30.1 (zu (zu q32.2 147 27 ((q32.2 147 27) ||| ((1 : Int32) <<< (q30.1 &&& 31)))) 147 13 (((zu q32.2 147 27 ((q32.2 147 27) ||| ((1 : Int32) <<< (q30.1 &&& 31)))) 147 13) + (1 : Int32))) _ hf hP hE
                · have hf := zitt c35 hf
                  refine z_aload_n h 1 dX12_readWords_133 rfl (rfl : 133 + 1 = 134) ?_
                  refine z_get (ci := 11) (C := RX12) (T := TX12) (N := 46) h 13 rfl rfl (fun _ hq => List.mem_cons_of_mem _ (List.mem_append_right _ hq)) (by decide) (List.mem_of_getElem? (i := 3) rfl) rfl dX12_readWords_134 (rfl : 134 + 3 = 137) ?_
                  refine z_iret h hr dX12_readWords_137 ?_
                  exact ⟨congrArg Prod.fst (hP _ (zsome hf).symm), congrArg Prod.snd (hP _ (zsome hf).symm), rfl⟩
          · have hf := zitt c23 hf
            refine z_aload_n h 0 dX12_readWords_65 rfl (rfl : 65 + 1 = 66) ?_
            refine z_get (ci := 11) (C := RX12) (T := TX12) (N := 46) h 13 rfl rfl (fun _ hq => List.mem_cons_of_mem _ (List.mem_append_right _ hq)) (by decide) (List.mem_of_getElem? (i := 3) rfl) rfl dX12_readWords_66 (rfl : 66 + 3 = 69) ?_
            refine z_iret h hr dX12_readWords_69 ?_
            exact ⟨congrArg Prod.fst (hP _ (zsome hf).symm), congrArg Prod.snd (hP _ (zsome hf).symm), rfl⟩
  obtain ⟨q6, e7, hf⟩ := zbind hf
  refine loop_31_7 _ a5.1 (zu a5.2 147 13 0) q6 e7 (fun a ha => ?_) (fun a36 ha  => ?_)
  · have hf := zell ha hf
    exact zsome hf
  have hf := zelr ha hf
  clear ha loop_31_7
  refine z_bipush h (-9) dX12_readWords_239 (by decide) (rfl : 239 + 2 = 241) ?_
  refine z_iret h hr dX12_readWords_241 ?_
  exact ⟨congrArg Prod.fst (zsome hf), congrArg Prod.snd (zsome hf), rfl⟩
noncomputable def f_X12_fault (J : zJ) (v1 : Int32) (I : zM) : Option (Int32 × zM) := (if v1 = 0 then ((f_X12_readRule J  (zu I 147 0 0)).bind fun q8 => some ((q8.1, q8.2))) else (if v1 = 1 then ((f_X12_readOrder J  (zu I 147 0 0)).bind fun q6 => some ((q6.1, q6.2))) else (if v1 = 2 then ((f_X12_readWords J  (zu I 147 0 0)).bind fun q4 => some ((q4.1, q4.2))) else some (((-1), zu I 147 0 0)))))
noncomputable abbrev rmX12_fault : Room := { frames := 4, cells := 0, slots := 0, locals := 89 }
theorem zyX12_fault : zY yX12_fault wsX12_fault cX12_fault 2 (some .int) 1 := ⟨⟨_, rfl⟩, by decide +kernel⟩
theorem zrX12_fault_X12_readOrder : zRm rmX12_readOrder rmX12_fault 3 := ⟨rfl, rfl, by decide, by decide⟩
theorem zrX12_fault_X12_readRule : zRm rmX12_readRule rmX12_fault 1 := ⟨rfl, rfl, by decide, by decide⟩
theorem zrX12_fault_X12_readWords : zRm rmX12_readWords rmX12_fault 3 := ⟨rfl, rfl, by decide, by decide⟩
set_option maxHeartbeats 1000000 in
set_option maxRecDepth 100000 in
theorem c_X12_fault (B : zB) (I : zM) (J : zJ) (hJ : zJok J) (v1 : Int32) (r : Int32) (I' : zM) (hf : f_X12_fault J v1 I = some (r, I')) : zCi B zKW I J yX12_fault wsX12_fault rmX12_fault [.ref (za B 147), .int v1] (fun r2 I2 J2 => r2 = r ∧ I2 = I' ∧ J2 = J) := by
  refine z_start (own := RX12) (cc := cX12_fault) (nL := 2) (ret := (some .int)) rfl (by decide) rfl (Nat.le_of_ble_eq_true rfl) (L := [(0, .ref (za B 147)), (1, .int v1)]) rfl (fun G h hr => ?_)
  rw [f_X12_fault] at hf
  refine z_aload_n h 0 dX12_fault_0 rfl (rfl : 0 + 1 = 1) ?_
  refine z_iconst h 0 dX12_fault_1 (by decide) (rfl : 1 + 1 = 2) ?_
  refine z_put (ci := 11) (C := RX12) (T := TX12) (N := 46) h 0 tyX12 tyX12_ok nmX12 rfl rfl (fun _ hq => List.mem_cons_of_mem _ (List.mem_append_right _ hq)) (by decide) (List.mem_of_getElem? (i := 1) rfl) rfl rfl rfl dX12_fault_2 (rfl : 2 + 3 = 5) ?_
  refine z_iload_n h 1 dX12_fault_5 rfl (rfl : 5 + 1 = 6) ?_
  refine z_if_ne (pc' := 9) h 16 dX12_fault_6 (by decide) rfl (fun c1 => ?_) (fun c1 => ?_)
  · have hf := zitf c1 hf
    refine z_iload_n h 1 dX12_fault_16 rfl (rfl : 16 + 1 = 17) ?_
    refine z_iconst h 1 dX12_fault_17 (by decide) (rfl : 17 + 1 = 18) ?_
    refine z_icmp_ne (pc' := 21) h 28 dX12_fault_18 (by decide) rfl (fun c2 => ?_) (fun c2 => ?_)
    · have hf := zitf c2 hf
      refine z_iload_n h 1 dX12_fault_28 rfl (rfl : 28 + 1 = 29) ?_
      refine z_iconst h 2 dX12_fault_29 (by decide) (rfl : 29 + 1 = 30) ?_
      refine z_icmp_ne (pc' := 33) h 40 dX12_fault_30 (by decide) rfl (fun c3 => ?_) (fun c3 => ?_)
      · have hf := zitf c3 hf
        refine z_iconst h (-1) dX12_fault_40 (by decide) (rfl : 40 + 1 = 41) ?_
        refine z_iret h hr dX12_fault_41 ?_
        exact ⟨congrArg Prod.fst (zsome hf), congrArg Prod.snd (zsome hf), rfl⟩
      · have hf := zitt c3 hf
        refine z_aload_n h 0 dX12_fault_33 rfl (rfl : 33 + 1 = 34) ?_
        obtain ⟨q4, e5, hf⟩ := zbind hf
        refine z_goF (z_runV (C := RX12) (T := TX12) (N := 46) (ci := 11) h [] [] zyX12_readWords (c_X12_readWords B (zu I 147 0 0) J hJ  _ _ e5) gX12_fault_X12_readWords rfl rfl rfl zrX12_fault_X12_readWords rfl (Nat.le_of_ble_eq_true rfl) ⟨Nat.zero_le _, Nat.zero_le _⟩ rfl dX12_fault_34) rfl ?_
        refine z_goto (pc' := 41) h dX12_fault_37 (by decide) ?_
        refine z_iret h hr dX12_fault_41 ?_
        exact ⟨congrArg Prod.fst (zsome hf), congrArg Prod.snd (zsome hf), rfl⟩
    · have hf := zitt c2 hf
      refine z_aload_n h 0 dX12_fault_21 rfl (rfl : 21 + 1 = 22) ?_
      obtain ⟨q6, e7, hf⟩ := zbind hf
      refine z_goF (z_runV (C := RX12) (T := TX12) (N := 46) (ci := 11) h [] [] zyX12_readOrder (c_X12_readOrder B (zu I 147 0 0) J hJ  _ _ e7) gX12_fault_X12_readOrder rfl rfl rfl zrX12_fault_X12_readOrder rfl (Nat.le_of_ble_eq_true rfl) ⟨Nat.zero_le _, Nat.zero_le _⟩ rfl dX12_fault_22) rfl ?_
      refine z_goto (pc' := 41) h dX12_fault_25 (by decide) ?_
      refine z_iret h hr dX12_fault_41 ?_
      exact ⟨congrArg Prod.fst (zsome hf), congrArg Prod.snd (zsome hf), rfl⟩
  · have hf := zitt c1 hf
    refine z_aload_n h 0 dX12_fault_9 rfl (rfl : 9 + 1 = 10) ?_
    obtain ⟨q8, e9, hf⟩ := zbind hf
    refine z_goF (z_runV (C := RX12) (T := TX12) (N := 46) (ci := 11) h [] [] zyX12_readRule (c_X12_readRule B (zu I 147 0 0) J hJ  _ _ e9) gX12_fault_X12_readRule rfl rfl rfl zrX12_fault_X12_readRule rfl (Nat.le_of_ble_eq_true rfl) ⟨Nat.zero_le _, Nat.zero_le _⟩ rfl dX12_fault_10) rfl ?_
    refine z_goto (pc' := 41) h dX12_fault_13 (by decide) ?_
    refine z_iret h hr dX12_fault_41 ?_
    exact ⟨congrArg Prod.fst (zsome hf), congrArg Prod.snd (zsome hf), rfl⟩
noncomputable def f_X12_rule_31 (J : zJ)  : Nat → Int32 → zM → Option ((Int32 × zM) ⊕ (Int32 × zM))
  | 0, _, _ => none
  | n + 1, x1_31, I31 => (if 6 ≤ x1_31 then some (.inr (x1_31, I31)) else (if zin x1_31 6 = true then (if zin (((6 : Int32) * (I31 147 15)) + x1_31) 72 = true then f_X12_rule_31 J  n (x1_31 + 1) (zu I31 155 (Int32.toNatClampNeg (((6 : Int32) * (I31 147 15)) + x1_31)) (I31 156 (Int32.toNatClampNeg x1_31))) else none) else none))
noncomputable def f_X12_rule (J : zJ)  (I : zM) : Option (Int32 × zM) := ((f_X12_readRule J  (zu I 147 0 0)).bind fun q1 => (if q1.1 = (-9) then (if q1.2 147 15 = 12 then some (((-4), q1.2)) else ((f_X12_rule_31 J  zF 0 q1.2).bind fun q => Sum.elim (fun a => some a) (fun a7 => some ((((zu a7.2 147 15 ((a7.2 147 15) + (1 : Int32))) 147 15) - (1 : Int32), zu a7.2 147 15 ((a7.2 147 15) + (1 : Int32))))) q)) else some (((-3), q1.2))))
noncomputable abbrev rmX12_rule : Room := { frames := 4, cells := 0, slots := 0, locals := 89 }
theorem zyX12_rule : zY yX12_rule wsX12_rule cX12_rule 2 (some .int) 0 := ⟨⟨_, rfl⟩, by decide +kernel⟩
theorem zrX12_rule_X12_readRule : zRm rmX12_readRule rmX12_rule 1 := ⟨rfl, rfl, by decide, by decide⟩
set_option maxHeartbeats 1000000 in
set_option maxRecDepth 100000 in
theorem c_X12_rule (B : zB) (I : zM) (J : zJ) (hJ : zJok J)  (r : Int32) (I' : zM) (hf : f_X12_rule J  I = some (r, I')) : zCi B zKW I J yX12_rule wsX12_rule rmX12_rule [.ref (za B 147)] (fun r2 I2 J2 => r2 = r ∧ I2 = I' ∧ J2 = J) := by
  refine z_start (own := RX12) (cc := cX12_rule) (nL := 2) (ret := (some .int)) rfl (by decide) rfl (Nat.le_of_ble_eq_true rfl) (L := [(0, .ref (za B 147))]) rfl (fun G h hr => ?_)
  rw [f_X12_rule] at hf
  refine z_aload_n h 0 dX12_rule_0 rfl (rfl : 0 + 1 = 1) ?_
  refine z_iconst h 0 dX12_rule_1 (by decide) (rfl : 1 + 1 = 2) ?_
  refine z_put (ci := 11) (C := RX12) (T := TX12) (N := 46) h 0 tyX12 tyX12_ok nmX12 rfl rfl (fun _ hq => List.mem_cons_of_mem _ (List.mem_append_right _ hq)) (by decide) (List.mem_of_getElem? (i := 1) rfl) rfl rfl rfl dX12_rule_2 (rfl : 2 + 3 = 5) ?_
  refine z_aload_n h 0 dX12_rule_5 rfl (rfl : 5 + 1 = 6) ?_
  obtain ⟨q1, e2, hf⟩ := zbind hf
  refine z_goF (z_runV (C := RX12) (T := TX12) (N := 46) (ci := 11) h [] [] zyX12_readRule (c_X12_readRule B (zu I 147 0 0) J hJ  _ _ e2) gX12_rule_X12_readRule rfl rfl rfl zrX12_rule_X12_readRule rfl (Nat.le_of_ble_eq_true rfl) ⟨Nat.zero_le _, Nat.zero_le _⟩ rfl dX12_rule_6) rfl ?_
  refine z_bipush h (-9) dX12_rule_9 (by decide) (rfl : 9 + 2 = 11) ?_
  refine z_icmp_eq (pc' := 14) h 17 dX12_rule_11 (by decide) rfl (fun c3 => ?_) (fun c3 => ?_)
  · have hf := zitt c3 hf
    refine z_aload_n h 0 dX12_rule_17 rfl (rfl : 17 + 1 = 18) ?_
    refine z_get (ci := 11) (C := RX12) (T := TX12) (N := 46) h 15 rfl rfl (fun _ hq => List.mem_cons_of_mem _ (List.mem_append_right _ hq)) (by decide) (List.mem_of_getElem? (i := 2) rfl) rfl dX12_rule_18 (rfl : 18 + 3 = 21) ?_
    refine z_bipush h 12 dX12_rule_21 (by decide) (rfl : 21 + 2 = 23) ?_
    refine z_icmp_ne (pc' := 26) h 29 dX12_rule_23 (by decide) rfl (fun c4 => ?_) (fun c4 => ?_)
    · have hf := zitf c4 hf
      refine z_iconst h 0 dX12_rule_29 (by decide) (rfl : 29 + 1 = 30) ?_
      refine z_istore_n h [(1, .int 0), (0, .ref (za B 147))] dX12_rule_30 (by decide) rfl (rfl : 30 + 1 = 31) ?_
      have loop_31_6 : ∀ (n : Nat) (x1_31 : Int32) (I31 : zM) (q : (Int32 × zM) ⊕ (Int32 × zM)), f_X12_rule_31 J  n x1_31 I31 = some q → (∀ a, q = .inl a → a = (r, I')) → (∀ a : Int32 × zM, q = .inr a → Z B G zKW (a.2) (J) (0, 0) 63 [(0, .ref (za B 147)), (1, .int a.1)] []) → Z B G zKW I31 J (0, 0) 31 [(0, .ref (za B 147)), (1, .int x1_31)] [] := by
        intro n; induction n with
        | zero => intro x1_31 I31 q hf; exact absurd hf (by rw [f_X12_rule_31]; exact fun z => by cases z)
        | succ n ih =>
          intro x1_31 I31 q hf hP hE; rw [f_X12_rule_31] at hf
          refine z_iload_n h 1 dX12_rule_31 rfl (rfl : 31 + 1 = 32) ?_
          refine z_bipush h 6 dX12_rule_32 (by decide) (rfl : 32 + 2 = 34) ?_
          refine z_icmp_ge (pc' := 37) h 63 dX12_rule_34 (by decide) rfl (fun c7 => ?_) (fun c7 => ?_)
          · have hf := zitt c7 hf
            exact hE (x1_31, I31) (zsome hf).symm
          · have hf := zitf c7 hf
            refine z_aload_n h 0 dX12_rule_37 rfl (rfl : 37 + 1 = 38) ?_
            refine z_getr (ci := 11) (C := RX12) (T := TX12) (N := 46) h 14 155 ((hJ.1 147 14 (by decide)).trans rfl) rfl rfl (fun _ hq => List.mem_cons_of_mem _ (List.mem_append_right _ hq)) (by decide) (List.mem_of_getElem? (i := 3) rfl) rfl dX12_rule_38 (rfl : 38 + 3 = 41) ?_
            refine z_bipush h 6 dX12_rule_41 (by decide) (rfl : 41 + 2 = 43) ?_
            refine z_aload_n h 0 dX12_rule_43 rfl (rfl : 43 + 1 = 44) ?_
            refine z_get (ci := 11) (C := RX12) (T := TX12) (N := 46) h 15 rfl rfl (fun _ hq => List.mem_cons_of_mem _ (List.mem_append_right _ hq)) (by decide) (List.mem_of_getElem? (i := 2) rfl) rfl dX12_rule_44 (rfl : 44 + 3 = 47) ?_
            refine z_imul h dX12_rule_47 (rfl : 47 + 1 = 48) ?_
            refine z_iload_n h 1 dX12_rule_48 rfl (rfl : 48 + 1 = 49) ?_
            refine z_iadd h dX12_rule_49 (rfl : 49 + 1 = 50) ?_
            refine z_aload_n h 0 dX12_rule_50 rfl (rfl : 50 + 1 = 51) ?_
            refine z_getr (ci := 11) (C := RX12) (T := TX12) (N := 46) h 16 156 ((hJ.1 147 16 (by decide)).trans rfl) rfl rfl (fun _ hq => List.mem_cons_of_mem _ (List.mem_append_right _ hq)) (by decide) (List.mem_of_getElem? (i := 4) rfl) rfl dX12_rule_51 (rfl : 51 + 3 = 54) ?_
            refine z_iload_n h 1 dX12_rule_54 rfl (rfl : 54 + 1 = 55) ?_
            obtain ⟨b8, hf⟩ := zchk hf
            refine z_iald h rfl b8 dX12_rule_55 (rfl : 55 + 1 = 56) ?_
            obtain ⟨b9, hf⟩ := zchk hf
            refine z_iast h b9 rfl dX12_rule_56 (rfl : 56 + 1 = 57) ?_
            refine z_iinc h 1 (x1_31 + 1) [(1, .int (x1_31 + 1)), (0, .ref (za B 147))] dX12_rule_57 rfl rfl (by decide) rfl (rfl : 57 + 3 = 60) ?_
            refine z_goto (pc' := 31) h dX12_rule_60 (by decide) ?_
            refine z_sub (L' := [(0, .ref (za B 147)), (1, .int (x1_31 + 1))]) [1, 0] rfl ?_
            exact ih (x1_31 + 1) (zu I31 155 (Int32.toNatClampNeg (((6 : Int32) * (I31 147 15)) + x1_31)) (I31 156 (Int32.toNatClampNeg x1_31))) _ hf hP hE
      refine z_sub (L' := [(0, .ref (za B 147)), (1, .int 0)]) [1, 0] rfl ?_
      obtain ⟨q5, e6, hf⟩ := zbind hf
      refine loop_31_6 _ 0 q1.2 q5 e6 (fun a ha => ?_) (fun a10 ha  => ?_)
      · have hf := zell ha hf
        exact zsome hf
      have hf := zelr ha hf
      clear ha loop_31_6
      refine z_aload_n h 0 dX12_rule_63 rfl (rfl : 63 + 1 = 64) ?_
      refine z_dup h rfl dX12_rule_64 (rfl : 64 + 1 = 65) ?_
      refine z_get (ci := 11) (C := RX12) (T := TX12) (N := 46) h 15 rfl rfl (fun _ hq => List.mem_cons_of_mem _ (List.mem_append_right _ hq)) (by decide) (List.mem_of_getElem? (i := 2) rfl) rfl dX12_rule_65 (rfl : 65 + 3 = 68) ?_
      refine z_iconst h 1 dX12_rule_68 (by decide) (rfl : 68 + 1 = 69) ?_
      refine z_iadd h dX12_rule_69 (rfl : 69 + 1 = 70) ?_
      refine z_put (ci := 11) (C := RX12) (T := TX12) (N := 46) h 15 tyX12 tyX12_ok nmX12 rfl rfl (fun _ hq => List.mem_cons_of_mem _ (List.mem_append_right _ hq)) (by decide) (List.mem_of_getElem? (i := 2) rfl) rfl rfl rfl dX12_rule_70 (rfl : 70 + 3 = 73) ?_
      refine z_aload_n h 0 dX12_rule_73 rfl (rfl : 73 + 1 = 74) ?_
      refine z_get (ci := 11) (C := RX12) (T := TX12) (N := 46) h 15 rfl rfl (fun _ hq => List.mem_cons_of_mem _ (List.mem_append_right _ hq)) (by decide) (List.mem_of_getElem? (i := 2) rfl) rfl dX12_rule_74 (rfl : 74 + 3 = 77) ?_
      refine z_iconst h 1 dX12_rule_77 (by decide) (rfl : 77 + 1 = 78) ?_
      refine z_isub h dX12_rule_78 (rfl : 78 + 1 = 79) ?_
      refine z_iret h hr dX12_rule_79 ?_
      exact ⟨congrArg Prod.fst (zsome hf), congrArg Prod.snd (zsome hf), rfl⟩
    · have hf := zitt c4 hf
      refine z_bipush h (-4) dX12_rule_26 (by decide) (rfl : 26 + 2 = 28) ?_
      refine z_iret h hr dX12_rule_28 ?_
      exact ⟨congrArg Prod.fst (zsome hf), congrArg Prod.snd (zsome hf), rfl⟩
  · have hf := zitf c3 hf
    refine z_bipush h (-3) dX12_rule_14 (by decide) (rfl : 14 + 2 = 16) ?_
    refine z_iret h hr dX12_rule_16 ?_
    exact ⟨congrArg Prod.fst (zsome hf), congrArg Prod.snd (zsome hf), rfl⟩
noncomputable def f_X12_unrule_28 (J : zJ) (u1 : Int32) : Nat → Int32 → zM → Option ((Int32 × zM) ⊕ (Int32 × zM))
  | 0, _, _ => none
  | n + 1, x2_28, I28 => (if (6 : Int32) * ((I28 147 15) - (1 : Int32)) ≤ x2_28 then some (.inr (x2_28, I28)) else (if zin (x2_28 + (6 : Int32)) 72 = true then (if zin x2_28 72 = true then f_X12_unrule_28 J u1 n (x2_28 + 1) (zu I28 155 (Int32.toNatClampNeg x2_28) (I28 155 (Int32.toNatClampNeg (x2_28 + (6 : Int32))))) else none) else none))
noncomputable def f_X12_unrule (J : zJ) (v1 : Int32) (I : zM) : Option (Int32 × zM) := ((f_X12_in J (Int32.toInt64 v1) 0 (Int32.toInt64 (((zu I 147 0 0) 147 15) - (1 : Int32))) (zu I 147 0 0)).bind fun q1 => (if q1.1 = 0 then some (((-1), q1.2)) else ((f_X12_unrule_28 J v1 zF ((6 : Int32) * v1) q1.2).bind fun q => Sum.elim (fun a => some a) (fun a6 => some (((zu a6.2 147 15 ((a6.2 147 15) - (1 : Int32))) 147 15, zu a6.2 147 15 ((a6.2 147 15) - (1 : Int32))))) q)))
noncomputable abbrev rmX12_unrule : Room := { frames := 1, cells := 0, slots := 0, locals := 25 }
theorem zyX12_unrule : zY yX12_unrule wsX12_unrule cX12_unrule 3 (some .int) 1 := ⟨⟨_, rfl⟩, by decide +kernel⟩
theorem zrX12_unrule_X12_in : zRm rmX12_in rmX12_unrule 6 := ⟨rfl, rfl, by decide, by decide⟩
set_option maxHeartbeats 1000000 in
set_option maxRecDepth 100000 in
theorem c_X12_unrule (B : zB) (I : zM) (J : zJ) (hJ : zJok J) (v1 : Int32) (r : Int32) (I' : zM) (hf : f_X12_unrule J v1 I = some (r, I')) : zCi B zKW I J yX12_unrule wsX12_unrule rmX12_unrule [.ref (za B 147), .int v1] (fun r2 I2 J2 => r2 = r ∧ I2 = I' ∧ J2 = J) := by
  refine z_start (own := RX12) (cc := cX12_unrule) (nL := 3) (ret := (some .int)) rfl (by decide) rfl (Nat.le_of_ble_eq_true rfl) (L := [(0, .ref (za B 147)), (1, .int v1)]) rfl (fun G h hr => ?_)
  rw [f_X12_unrule] at hf
  refine z_aload_n h 0 dX12_unrule_0 rfl (rfl : 0 + 1 = 1) ?_
  refine z_iconst h 0 dX12_unrule_1 (by decide) (rfl : 1 + 1 = 2) ?_
  refine z_put (ci := 11) (C := RX12) (T := TX12) (N := 46) h 0 tyX12 tyX12_ok nmX12 rfl rfl (fun _ hq => List.mem_cons_of_mem _ (List.mem_append_right _ hq)) (by decide) (List.mem_of_getElem? (i := 1) rfl) rfl rfl rfl dX12_unrule_2 (rfl : 2 + 3 = 5) ?_
  refine z_iload_n h 1 dX12_unrule_5 rfl (rfl : 5 + 1 = 6) ?_
  refine z_i2l h dX12_unrule_6 (rfl : 6 + 1 = 7) ?_
  refine z_lconst h 0 dX12_unrule_7 rfl (rfl : 7 + 1 = 8) ?_
  refine z_aload_n h 0 dX12_unrule_8 rfl (rfl : 8 + 1 = 9) ?_
  refine z_get (ci := 11) (C := RX12) (T := TX12) (N := 46) h 15 rfl rfl (fun _ hq => List.mem_cons_of_mem _ (List.mem_append_right _ hq)) (by decide) (List.mem_of_getElem? (i := 2) rfl) rfl dX12_unrule_9 (rfl : 9 + 3 = 12) ?_
  refine z_iconst h 1 dX12_unrule_12 (by decide) (rfl : 12 + 1 = 13) ?_
  refine z_isub h dX12_unrule_13 (rfl : 13 + 1 = 14) ?_
  refine z_i2l h dX12_unrule_14 (rfl : 14 + 1 = 15) ?_
  obtain ⟨q1, e2, hf⟩ := zbind hf
  refine z_goF (z_runS h [.long (Int32.toInt64 v1), .long 0, .long (Int32.toInt64 (((zu I 147 0 0) 147 15) - (1 : Int32)))] [] zyX12_in (c_X12_in B (zu I 147 0 0) J hJ (Int32.toInt64 v1) 0 (Int32.toInt64 (((zu I 147 0 0) 147 15) - (1 : Int32))) _ _ e2) gX12_unrule_X12_in zrX12_unrule_X12_in rfl (Nat.le_of_ble_eq_true rfl) ⟨Nat.zero_le _, Nat.zero_le _⟩ rfl dX12_unrule_15) rfl ?_
  refine z_if_ne (pc' := 21) h 23 dX12_unrule_18 (by decide) rfl (fun c3 => ?_) (fun c3 => ?_)
  · have hf := zitf c3 hf
    refine z_bipush h 6 dX12_unrule_23 (by decide) (rfl : 23 + 2 = 25) ?_
    refine z_iload_n h 1 dX12_unrule_25 rfl (rfl : 25 + 1 = 26) ?_
    refine z_imul h dX12_unrule_26 (rfl : 26 + 1 = 27) ?_
    refine z_istore_n h [(2, .int ((6 : Int32) * v1)), (0, .ref (za B 147)), (1, .int v1)] dX12_unrule_27 (by decide) rfl (rfl : 27 + 1 = 28) ?_
    have loop_28_5 : ∀ (n : Nat) (x2_28 : Int32) (I28 : zM) (q : (Int32 × zM) ⊕ (Int32 × zM)), f_X12_unrule_28 J v1 n x2_28 I28 = some q → (∀ a, q = .inl a → a = (r, I')) → (∀ a : Int32 × zM, q = .inr a → Z B G zKW (a.2) (J) (0, 0) 62 [(0, .ref (za B 147)), (1, .int v1), (2, .int a.1)] []) → Z B G zKW I28 J (0, 0) 28 [(0, .ref (za B 147)), (1, .int v1), (2, .int x2_28)] [] := by
      intro n; induction n with
      | zero => intro x2_28 I28 q hf; exact absurd hf (by rw [f_X12_unrule_28]; exact fun z => by cases z)
      | succ n ih =>
        intro x2_28 I28 q hf hP hE; rw [f_X12_unrule_28] at hf
        refine z_iload_n h 2 dX12_unrule_28 rfl (rfl : 28 + 1 = 29) ?_
        refine z_bipush h 6 dX12_unrule_29 (by decide) (rfl : 29 + 2 = 31) ?_
        refine z_aload_n h 0 dX12_unrule_31 rfl (rfl : 31 + 1 = 32) ?_
        refine z_get (ci := 11) (C := RX12) (T := TX12) (N := 46) h 15 rfl rfl (fun _ hq => List.mem_cons_of_mem _ (List.mem_append_right _ hq)) (by decide) (List.mem_of_getElem? (i := 2) rfl) rfl dX12_unrule_32 (rfl : 32 + 3 = 35) ?_
        refine z_iconst h 1 dX12_unrule_35 (by decide) (rfl : 35 + 1 = 36) ?_
        refine z_isub h dX12_unrule_36 (rfl : 36 + 1 = 37) ?_
        refine z_imul h dX12_unrule_37 (rfl : 37 + 1 = 38) ?_
        refine z_icmp_ge (pc' := 41) h 62 dX12_unrule_38 (by decide) rfl (fun c6 => ?_) (fun c6 => ?_)
        · have hf := zitt c6 hf
          exact hE (x2_28, I28) (zsome hf).symm
        · have hf := zitf c6 hf
          refine z_aload_n h 0 dX12_unrule_41 rfl (rfl : 41 + 1 = 42) ?_
          refine z_getr (ci := 11) (C := RX12) (T := TX12) (N := 46) h 14 155 ((hJ.1 147 14 (by decide)).trans rfl) rfl rfl (fun _ hq => List.mem_cons_of_mem _ (List.mem_append_right _ hq)) (by decide) (List.mem_of_getElem? (i := 3) rfl) rfl dX12_unrule_42 (rfl : 42 + 3 = 45) ?_
          refine z_iload_n h 2 dX12_unrule_45 rfl (rfl : 45 + 1 = 46) ?_
          refine z_aload_n h 0 dX12_unrule_46 rfl (rfl : 46 + 1 = 47) ?_
          refine z_getr (ci := 11) (C := RX12) (T := TX12) (N := 46) h 14 155 ((hJ.1 147 14 (by decide)).trans rfl) rfl rfl (fun _ hq => List.mem_cons_of_mem _ (List.mem_append_right _ hq)) (by decide) (List.mem_of_getElem? (i := 3) rfl) rfl dX12_unrule_47 (rfl : 47 + 3 = 50) ?_
          refine z_iload_n h 2 dX12_unrule_50 rfl (rfl : 50 + 1 = 51) ?_
          refine z_bipush h 6 dX12_unrule_51 (by decide) (rfl : 51 + 2 = 53) ?_
          refine z_iadd h dX12_unrule_53 (rfl : 53 + 1 = 54) ?_
          obtain ⟨b7, hf⟩ := zchk hf
          refine z_iald h rfl b7 dX12_unrule_54 (rfl : 54 + 1 = 55) ?_
          obtain ⟨b8, hf⟩ := zchk hf
          refine z_iast h b8 rfl dX12_unrule_55 (rfl : 55 + 1 = 56) ?_
          refine z_iinc h 2 (x2_28 + 1) [(2, .int (x2_28 + 1)), (0, .ref (za B 147)), (1, .int v1)] dX12_unrule_56 rfl rfl (by decide) rfl (rfl : 56 + 3 = 59) ?_
          refine z_goto (pc' := 28) h dX12_unrule_59 (by decide) ?_
          refine z_sub (L' := [(0, .ref (za B 147)), (1, .int v1), (2, .int (x2_28 + 1))]) [1, 2, 0] rfl ?_
          exact ih (x2_28 + 1) (zu I28 155 (Int32.toNatClampNeg x2_28) (I28 155 (Int32.toNatClampNeg (x2_28 + (6 : Int32))))) _ hf hP hE
    refine z_sub (L' := [(0, .ref (za B 147)), (1, .int v1), (2, .int ((6 : Int32) * v1))]) [1, 2, 0] rfl ?_
    obtain ⟨q4, e5, hf⟩ := zbind hf
    refine loop_28_5 _ ((6 : Int32) * v1) q1.2 q4 e5 (fun a ha => ?_) (fun a9 ha  => ?_)
    · have hf := zell ha hf
      exact zsome hf
    have hf := zelr ha hf
    clear ha loop_28_5
    refine z_aload_n h 0 dX12_unrule_62 rfl (rfl : 62 + 1 = 63) ?_
    refine z_dup h rfl dX12_unrule_63 (rfl : 63 + 1 = 64) ?_
    refine z_get (ci := 11) (C := RX12) (T := TX12) (N := 46) h 15 rfl rfl (fun _ hq => List.mem_cons_of_mem _ (List.mem_append_right _ hq)) (by decide) (List.mem_of_getElem? (i := 2) rfl) rfl dX12_unrule_64 (rfl : 64 + 3 = 67) ?_
    refine z_iconst h 1 dX12_unrule_67 (by decide) (rfl : 67 + 1 = 68) ?_
    refine z_isub h dX12_unrule_68 (rfl : 68 + 1 = 69) ?_
    refine z_put (ci := 11) (C := RX12) (T := TX12) (N := 46) h 15 tyX12 tyX12_ok nmX12 rfl rfl (fun _ hq => List.mem_cons_of_mem _ (List.mem_append_right _ hq)) (by decide) (List.mem_of_getElem? (i := 2) rfl) rfl rfl rfl dX12_unrule_69 (rfl : 69 + 3 = 72) ?_
    refine z_aload_n h 0 dX12_unrule_72 rfl (rfl : 72 + 1 = 73) ?_
    refine z_get (ci := 11) (C := RX12) (T := TX12) (N := 46) h 15 rfl rfl (fun _ hq => List.mem_cons_of_mem _ (List.mem_append_right _ hq)) (by decide) (List.mem_of_getElem? (i := 2) rfl) rfl dX12_unrule_73 (rfl : 73 + 3 = 76) ?_
    refine z_iret h hr dX12_unrule_76 ?_
    exact ⟨congrArg Prod.fst (zsome hf), congrArg Prod.snd (zsome hf), rfl⟩
  · have hf := zitt c3 hf
    refine z_iconst h (-1) dX12_unrule_21 (by decide) (rfl : 21 + 1 = 22) ?_
    refine z_iret h hr dX12_unrule_22 ?_
    exact ⟨congrArg Prod.fst (zsome hf), congrArg Prod.snd (zsome hf), rfl⟩
noncomputable def f_X12_ruled (J : zJ) (v1 : Int32) (v2 : Int32) (I : zM) : Option (Int32 × zM) := ((f_X12_in J (Int32.toInt64 v1) 0 (Int32.toInt64 (((zu I 147 0 0) 147 15) - (1 : Int32))) (zu I 147 0 0)).bind fun q1 => (if q1.1 = 0 then some (((-1), q1.2)) else ((f_X12_in J (Int32.toInt64 v2) 0 5 q1.2).bind fun q4 => (if q4.1 = 0 then some (((-2), q4.2)) else (if zin (((6 : Int32) * v1) + v2) 72 = true then some ((q4.2 155 (Int32.toNatClampNeg (((6 : Int32) * v1) + v2)), q4.2)) else none)))))
noncomputable abbrev rmX12_ruled : Room := { frames := 1, cells := 0, slots := 0, locals := 25 }
theorem zyX12_ruled : zY yX12_ruled wsX12_ruled cX12_ruled 3 (some .int) 2 := ⟨⟨_, rfl⟩, by decide +kernel⟩
theorem zrX12_ruled_X12_in : zRm rmX12_in rmX12_ruled 6 := ⟨rfl, rfl, by decide, by decide⟩
set_option maxHeartbeats 1000000 in
set_option maxRecDepth 100000 in
theorem c_X12_ruled (B : zB) (I : zM) (J : zJ) (hJ : zJok J) (v1 : Int32) (v2 : Int32) (r : Int32) (I' : zM) (hf : f_X12_ruled J v1 v2 I = some (r, I')) : zCi B zKW I J yX12_ruled wsX12_ruled rmX12_ruled [.ref (za B 147), .int v1, .int v2] (fun r2 I2 J2 => r2 = r ∧ I2 = I' ∧ J2 = J) := by
  refine z_start (own := RX12) (cc := cX12_ruled) (nL := 3) (ret := (some .int)) rfl (by decide) rfl (Nat.le_of_ble_eq_true rfl) (L := [(0, .ref (za B 147)), (1, .int v1), (2, .int v2)]) rfl (fun G h hr => ?_)
  rw [f_X12_ruled] at hf
  refine z_aload_n h 0 dX12_ruled_0 rfl (rfl : 0 + 1 = 1) ?_
  refine z_iconst h 0 dX12_ruled_1 (by decide) (rfl : 1 + 1 = 2) ?_
  refine z_put (ci := 11) (C := RX12) (T := TX12) (N := 46) h 0 tyX12 tyX12_ok nmX12 rfl rfl (fun _ hq => List.mem_cons_of_mem _ (List.mem_append_right _ hq)) (by decide) (List.mem_of_getElem? (i := 1) rfl) rfl rfl rfl dX12_ruled_2 (rfl : 2 + 3 = 5) ?_
  refine z_iload_n h 1 dX12_ruled_5 rfl (rfl : 5 + 1 = 6) ?_
  refine z_i2l h dX12_ruled_6 (rfl : 6 + 1 = 7) ?_
  refine z_lconst h 0 dX12_ruled_7 rfl (rfl : 7 + 1 = 8) ?_
  refine z_aload_n h 0 dX12_ruled_8 rfl (rfl : 8 + 1 = 9) ?_
  refine z_get (ci := 11) (C := RX12) (T := TX12) (N := 46) h 15 rfl rfl (fun _ hq => List.mem_cons_of_mem _ (List.mem_append_right _ hq)) (by decide) (List.mem_of_getElem? (i := 2) rfl) rfl dX12_ruled_9 (rfl : 9 + 3 = 12) ?_
  refine z_iconst h 1 dX12_ruled_12 (by decide) (rfl : 12 + 1 = 13) ?_
  refine z_isub h dX12_ruled_13 (rfl : 13 + 1 = 14) ?_
  refine z_i2l h dX12_ruled_14 (rfl : 14 + 1 = 15) ?_
  obtain ⟨q1, e2, hf⟩ := zbind hf
  refine z_goF (z_runS h [.long (Int32.toInt64 v1), .long 0, .long (Int32.toInt64 (((zu I 147 0 0) 147 15) - (1 : Int32)))] [] zyX12_in (c_X12_in B (zu I 147 0 0) J hJ (Int32.toInt64 v1) 0 (Int32.toInt64 (((zu I 147 0 0) 147 15) - (1 : Int32))) _ _ e2) gX12_ruled_X12_in zrX12_ruled_X12_in rfl (Nat.le_of_ble_eq_true rfl) ⟨Nat.zero_le _, Nat.zero_le _⟩ rfl dX12_ruled_15) rfl ?_
  refine z_if_ne (pc' := 21) h 23 dX12_ruled_18 (by decide) rfl (fun c3 => ?_) (fun c3 => ?_)
  · have hf := zitf c3 hf
    refine z_iload_n h 2 dX12_ruled_23 rfl (rfl : 23 + 1 = 24) ?_
    refine z_i2l h dX12_ruled_24 (rfl : 24 + 1 = 25) ?_
    refine z_lconst h 0 dX12_ruled_25 rfl (rfl : 25 + 1 = 26) ?_
    refine z_ldc2 h 5 (List.mem_of_getElem? (i := 3) rfl) dX12_ruled_26 (rfl : 26 + 3 = 29) ?_
    obtain ⟨q4, e5, hf⟩ := zbind hf
    refine z_goF (z_runS h [.long (Int32.toInt64 v2), .long 0, .long 5] [] zyX12_in (c_X12_in B q1.2 J hJ (Int32.toInt64 v2) 0 5 _ _ e5) gX12_ruled_X12_in zrX12_ruled_X12_in rfl (Nat.le_of_ble_eq_true rfl) ⟨Nat.zero_le _, Nat.zero_le _⟩ rfl dX12_ruled_29) rfl ?_
    refine z_if_eq (pc' := 35) h 49 dX12_ruled_32 (by decide) rfl (fun c6 => ?_) (fun c6 => ?_)
    · have hf := zitt c6 hf
      refine z_bipush h (-2) dX12_ruled_49 (by decide) (rfl : 49 + 2 = 51) ?_
      refine z_iret h hr dX12_ruled_51 ?_
      exact ⟨congrArg Prod.fst (zsome hf), congrArg Prod.snd (zsome hf), rfl⟩
    · have hf := zitf c6 hf
      refine z_aload_n h 0 dX12_ruled_35 rfl (rfl : 35 + 1 = 36) ?_
      refine z_getr (ci := 11) (C := RX12) (T := TX12) (N := 46) h 14 155 ((hJ.1 147 14 (by decide)).trans rfl) rfl rfl (fun _ hq => List.mem_cons_of_mem _ (List.mem_append_right _ hq)) (by decide) (List.mem_of_getElem? (i := 4) rfl) rfl dX12_ruled_36 (rfl : 36 + 3 = 39) ?_
      refine z_bipush h 6 dX12_ruled_39 (by decide) (rfl : 39 + 2 = 41) ?_
      refine z_iload_n h 1 dX12_ruled_41 rfl (rfl : 41 + 1 = 42) ?_
      refine z_imul h dX12_ruled_42 (rfl : 42 + 1 = 43) ?_
      refine z_iload_n h 2 dX12_ruled_43 rfl (rfl : 43 + 1 = 44) ?_
      refine z_iadd h dX12_ruled_44 (rfl : 44 + 1 = 45) ?_
      obtain ⟨b7, hf⟩ := zchk hf
      refine z_iald h rfl b7 dX12_ruled_45 (rfl : 45 + 1 = 46) ?_
      refine z_goto (pc' := 51) h dX12_ruled_46 (by decide) ?_
      refine z_iret h hr dX12_ruled_51 ?_
      exact ⟨congrArg Prod.fst (zsome hf), congrArg Prod.snd (zsome hf), rfl⟩
  · have hf := zitt c3 hf
    refine z_iconst h (-1) dX12_ruled_21 (by decide) (rfl : 21 + 1 = 22) ?_
    refine z_iret h hr dX12_ruled_22 ?_
    exact ⟨congrArg Prod.fst (zsome hf), congrArg Prod.snd (zsome hf), rfl⟩
noncomputable def f_X12_order_28 (J : zJ) (u1 : Int32) : Nat → Int32 → zM → Option ((Int32 × zM) ⊕ (Int32 × zM))
  | 0, _, _ => none
  | n + 1, x2_28, I28 => (if I28 147 12 ≤ x2_28 then some (.inr (x2_28, I28)) else (if zin x2_28 24 = true then ((f_X12_letterOf J (I28 154 (Int32.toNatClampNeg x2_28)) I28).bind fun q9 => (if zin (((5 : Int32) * u1) + x2_28) 25 = true then f_X12_order_28 J u1 n (x2_28 + 1) (zu q9.2 157 (Int32.toNatClampNeg (((5 : Int32) * u1) + x2_28)) q9.1) else none)) else none))
noncomputable def f_X12_order (J : zJ) (v1 : Int32) (I : zM) : Option (Int32 × zM) := ((f_X12_noOrder J v1 (zu I 147 0 0)).bind fun q1 => (if q1.1 = 0 then ((f_X12_readOrder J  q1.2).bind fun q4 => (if q4.1 = (-9) then ((f_X12_order_28 J v1 zF 0 q4.2).bind fun q => Sum.elim (fun a => some a) (fun a9 => (if zin v1 5 = true then some (((zu a9.2 158 (Int32.toNatClampNeg v1) (a9.2 147 12)) 147 12, zu a9.2 158 (Int32.toNatClampNeg v1) (a9.2 147 12))) else none)) q) else some (((-3), q4.2)))) else some (((-1), q1.2))))
noncomputable abbrev rmX12_order : Room := { frames := 2, cells := 0, slots := 0, locals := 45 }
theorem zyX12_order : zY yX12_order wsX12_order cX12_order 3 (some .int) 1 := ⟨⟨_, rfl⟩, by decide +kernel⟩
theorem zrX12_order_X12_letterOf : zRm rmX12_letterOf rmX12_order 1 := ⟨rfl, rfl, by decide, by decide⟩
theorem zrX12_order_X12_noOrder : zRm rmX12_noOrder rmX12_order 1 := ⟨rfl, rfl, by decide, by decide⟩
theorem zrX12_order_X12_readOrder : zRm rmX12_readOrder rmX12_order 3 := ⟨rfl, rfl, by decide, by decide⟩
set_option maxHeartbeats 1000000 in
set_option maxRecDepth 100000 in
theorem c_X12_order (B : zB) (I : zM) (J : zJ) (hJ : zJok J) (v1 : Int32) (r : Int32) (I' : zM) (hf : f_X12_order J v1 I = some (r, I')) : zCi B zKW I J yX12_order wsX12_order rmX12_order [.ref (za B 147), .int v1] (fun r2 I2 J2 => r2 = r ∧ I2 = I' ∧ J2 = J) := by
  refine z_start (own := RX12) (cc := cX12_order) (nL := 3) (ret := (some .int)) rfl (by decide) rfl (Nat.le_of_ble_eq_true rfl) (L := [(0, .ref (za B 147)), (1, .int v1)]) rfl (fun G h hr => ?_)
  rw [f_X12_order] at hf
  refine z_aload_n h 0 dX12_order_0 rfl (rfl : 0 + 1 = 1) ?_
  refine z_iconst h 0 dX12_order_1 (by decide) (rfl : 1 + 1 = 2) ?_
  refine z_put (ci := 11) (C := RX12) (T := TX12) (N := 46) h 0 tyX12 tyX12_ok nmX12 rfl rfl (fun _ hq => List.mem_cons_of_mem _ (List.mem_append_right _ hq)) (by decide) (List.mem_of_getElem? (i := 1) rfl) rfl rfl rfl dX12_order_2 (rfl : 2 + 3 = 5) ?_
  refine z_iload_n h 1 dX12_order_5 rfl (rfl : 5 + 1 = 6) ?_
  obtain ⟨q1, e2, hf⟩ := zbind hf
  refine z_goF (z_runS h [.int v1] [] zyX12_noOrder (c_X12_noOrder B (zu I 147 0 0) J hJ v1 _ _ e2) gX12_order_X12_noOrder zrX12_order_X12_noOrder rfl (Nat.le_of_ble_eq_true rfl) ⟨Nat.zero_le _, Nat.zero_le _⟩ rfl dX12_order_6) rfl ?_
  refine z_if_eq (pc' := 12) h 14 dX12_order_9 (by decide) rfl (fun c3 => ?_) (fun c3 => ?_)
  · have hf := zitt c3 hf
    refine z_aload_n h 0 dX12_order_14 rfl (rfl : 14 + 1 = 15) ?_
    obtain ⟨q4, e5, hf⟩ := zbind hf
    refine z_goF (z_runV (C := RX12) (T := TX12) (N := 46) (ci := 11) h [] [] zyX12_readOrder (c_X12_readOrder B q1.2 J hJ  _ _ e5) gX12_order_X12_readOrder rfl rfl rfl zrX12_order_X12_readOrder rfl (Nat.le_of_ble_eq_true rfl) ⟨Nat.zero_le _, Nat.zero_le _⟩ rfl dX12_order_15) rfl ?_
    refine z_bipush h (-9) dX12_order_18 (by decide) (rfl : 18 + 2 = 20) ?_
    refine z_icmp_eq (pc' := 23) h 26 dX12_order_20 (by decide) rfl (fun c6 => ?_) (fun c6 => ?_)
    · have hf := zitt c6 hf
      refine z_iconst h 0 dX12_order_26 (by decide) (rfl : 26 + 1 = 27) ?_
      refine z_istore_n h [(2, .int 0), (0, .ref (za B 147)), (1, .int v1)] dX12_order_27 (by decide) rfl (rfl : 27 + 1 = 28) ?_
      have loop_28_8 : ∀ (n : Nat) (x2_28 : Int32) (I28 : zM) (q : (Int32 × zM) ⊕ (Int32 × zM)), f_X12_order_28 J v1 n x2_28 I28 = some q → (∀ a, q = .inl a → a = (r, I')) → (∀ a : Int32 × zM, q = .inr a → Z B G zKW (a.2) (J) (0, 0) 61 [(0, .ref (za B 147)), (1, .int v1), (2, .int a.1)] []) → Z B G zKW I28 J (0, 0) 28 [(0, .ref (za B 147)), (1, .int v1), (2, .int x2_28)] [] := by
        intro n; induction n with
        | zero => intro x2_28 I28 q hf; exact absurd hf (by rw [f_X12_order_28]; exact fun z => by cases z)
        | succ n ih =>
          intro x2_28 I28 q hf hP hE; rw [f_X12_order_28] at hf
          refine z_iload_n h 2 dX12_order_28 rfl (rfl : 28 + 1 = 29) ?_
          refine z_aload_n h 0 dX12_order_29 rfl (rfl : 29 + 1 = 30) ?_
          refine z_get (ci := 11) (C := RX12) (T := TX12) (N := 46) h 12 rfl rfl (fun _ hq => List.mem_cons_of_mem _ (List.mem_append_right _ hq)) (by decide) (List.mem_of_getElem? (i := 2) rfl) rfl dX12_order_30 (rfl : 30 + 3 = 33) ?_
          refine z_icmp_ge (pc' := 36) h 61 dX12_order_33 (by decide) rfl (fun c9 => ?_) (fun c9 => ?_)
          · have hf := zitt c9 hf
            exact hE (x2_28, I28) (zsome hf).symm
          · have hf := zitf c9 hf
            refine z_aload_n h 0 dX12_order_36 rfl (rfl : 36 + 1 = 37) ?_
            refine z_getr (ci := 11) (C := RX12) (T := TX12) (N := 46) h 17 157 ((hJ.1 147 17 (by decide)).trans rfl) rfl rfl (fun _ hq => List.mem_cons_of_mem _ (List.mem_append_right _ hq)) (by decide) (List.mem_of_getElem? (i := 3) rfl) rfl dX12_order_37 (rfl : 37 + 3 = 40) ?_
            refine z_iconst h 5 dX12_order_40 (by decide) (rfl : 40 + 1 = 41) ?_
            refine z_iload_n h 1 dX12_order_41 rfl (rfl : 41 + 1 = 42) ?_
            refine z_imul h dX12_order_42 (rfl : 42 + 1 = 43) ?_
            refine z_iload_n h 2 dX12_order_43 rfl (rfl : 43 + 1 = 44) ?_
            refine z_iadd h dX12_order_44 (rfl : 44 + 1 = 45) ?_
            refine z_aload_n h 0 dX12_order_45 rfl (rfl : 45 + 1 = 46) ?_
            refine z_getr (ci := 11) (C := RX12) (T := TX12) (N := 46) h 11 154 ((hJ.1 147 11 (by decide)).trans rfl) rfl rfl (fun _ hq => List.mem_cons_of_mem _ (List.mem_append_right _ hq)) (by decide) (List.mem_of_getElem? (i := 4) rfl) rfl dX12_order_46 (rfl : 46 + 3 = 49) ?_
            refine z_iload_n h 2 dX12_order_49 rfl (rfl : 49 + 1 = 50) ?_
            obtain ⟨b10, hf⟩ := zchk hf
            refine z_iald h rfl b10 dX12_order_50 (rfl : 50 + 1 = 51) ?_
            obtain ⟨q11, e12, hf⟩ := zbind hf
            refine z_goF (z_runS h [.int (I28 154 (Int32.toNatClampNeg x2_28))] [.int (((5 : Int32) * v1) + x2_28), .ref (za B 157)] zyX12_letterOf (c_X12_letterOf B I28 J hJ (I28 154 (Int32.toNatClampNeg x2_28)) _ _ e12) gX12_order_X12_letterOf zrX12_order_X12_letterOf rfl (Nat.le_of_ble_eq_true rfl) ⟨Nat.zero_le _, Nat.zero_le _⟩ rfl dX12_order_51) rfl ?_
            obtain ⟨b13, hf⟩ := zchk hf
            refine z_iast h b13 rfl dX12_order_54 (rfl : 54 + 1 = 55) ?_
            refine z_iinc h 2 (x2_28 + 1) [(2, .int (x2_28 + 1)), (0, .ref (za B 147)), (1, .int v1)] dX12_order_55 rfl rfl (by decide) rfl (rfl : 55 + 3 = 58) ?_
            refine z_goto (pc' := 28) h dX12_order_58 (by decide) ?_
            refine z_sub (L' := [(0, .ref (za B 147)), (1, .int v1), (2, .int (x2_28 + 1))]) [1, 2, 0] rfl ?_
            exact ih (x2_28 + 1) (zu q11.2 157 (Int32.toNatClampNeg (((5 : Int32) * v1) + x2_28)) q11.1) _ hf hP hE
      refine z_sub (L' := [(0, .ref (za B 147)), (1, .int v1), (2, .int 0)]) [1, 2, 0] rfl ?_
      obtain ⟨q7, e8, hf⟩ := zbind hf
      refine loop_28_8 _ 0 q4.2 q7 e8 (fun a ha => ?_) (fun a14 ha  => ?_)
      · have hf := zell ha hf
        exact zsome hf
      have hf := zelr ha hf
      clear ha loop_28_8
      refine z_aload_n h 0 dX12_order_61 rfl (rfl : 61 + 1 = 62) ?_
      refine z_getr (ci := 11) (C := RX12) (T := TX12) (N := 46) h 18 158 ((hJ.1 147 18 (by decide)).trans rfl) rfl rfl (fun _ hq => List.mem_cons_of_mem _ (List.mem_append_right _ hq)) (by decide) (List.mem_of_getElem? (i := 5) rfl) rfl dX12_order_62 (rfl : 62 + 3 = 65) ?_
      refine z_iload_n h 1 dX12_order_65 rfl (rfl : 65 + 1 = 66) ?_
      refine z_aload_n h 0 dX12_order_66 rfl (rfl : 66 + 1 = 67) ?_
      refine z_get (ci := 11) (C := RX12) (T := TX12) (N := 46) h 12 rfl rfl (fun _ hq => List.mem_cons_of_mem _ (List.mem_append_right _ hq)) (by decide) (List.mem_of_getElem? (i := 2) rfl) rfl dX12_order_67 (rfl : 67 + 3 = 70) ?_
      obtain ⟨b15, hf⟩ := zchk hf
      refine z_iast h b15 rfl dX12_order_70 (rfl : 70 + 1 = 71) ?_
      refine z_aload_n h 0 dX12_order_71 rfl (rfl : 71 + 1 = 72) ?_
      refine z_get (ci := 11) (C := RX12) (T := TX12) (N := 46) h 12 rfl rfl (fun _ hq => List.mem_cons_of_mem _ (List.mem_append_right _ hq)) (by decide) (List.mem_of_getElem? (i := 2) rfl) rfl dX12_order_72 (rfl : 72 + 3 = 75) ?_
      refine z_iret h hr dX12_order_75 ?_
      exact ⟨congrArg Prod.fst (zsome hf), congrArg Prod.snd (zsome hf), rfl⟩
    · have hf := zitf c6 hf
      refine z_bipush h (-3) dX12_order_23 (by decide) (rfl : 23 + 2 = 25) ?_
      refine z_iret h hr dX12_order_25 ?_
      exact ⟨congrArg Prod.fst (zsome hf), congrArg Prod.snd (zsome hf), rfl⟩
  · have hf := zitf c3 hf
    refine z_iconst h (-1) dX12_order_12 (by decide) (rfl : 12 + 1 = 13) ?_
    refine z_iret h hr dX12_order_13 ?_
    exact ⟨congrArg Prod.fst (zsome hf), congrArg Prod.snd (zsome hf), rfl⟩
noncomputable def f_X12_ordered (J : zJ) (v1 : Int32) (v2 : Int32) (I : zM) : Option (Int32 × zM) := ((f_X12_noOrder J v1 (zu I 147 0 0)).bind fun q1 => (if q1.1 = 0 then (if zin v1 5 = true then ((f_X12_in J (Int32.toInt64 v2) 0 (Int32.toInt64 ((q1.2 158 (Int32.toNatClampNeg v1)) - (1 : Int32))) q1.2).bind fun q5 => (if q5.1 = 0 then some (((-9), q5.2)) else (if zin (((5 : Int32) * v1) + v2) 25 = true then some ((q5.2 157 (Int32.toNatClampNeg (((5 : Int32) * v1) + v2)), q5.2)) else none))) else none) else some (((-1), q1.2))))
noncomputable abbrev rmX12_ordered : Room := { frames := 2, cells := 0, slots := 0, locals := 45 }
theorem zyX12_ordered : zY yX12_ordered wsX12_ordered cX12_ordered 3 (some .int) 2 := ⟨⟨_, rfl⟩, by decide +kernel⟩
theorem zrX12_ordered_X12_in : zRm rmX12_in rmX12_ordered 6 := ⟨rfl, rfl, by decide, by decide⟩
theorem zrX12_ordered_X12_noOrder : zRm rmX12_noOrder rmX12_ordered 1 := ⟨rfl, rfl, by decide, by decide⟩
set_option maxHeartbeats 1000000 in
set_option maxRecDepth 100000 in
theorem c_X12_ordered (B : zB) (I : zM) (J : zJ) (hJ : zJok J) (v1 : Int32) (v2 : Int32) (r : Int32) (I' : zM) (hf : f_X12_ordered J v1 v2 I = some (r, I')) : zCi B zKW I J yX12_ordered wsX12_ordered rmX12_ordered [.ref (za B 147), .int v1, .int v2] (fun r2 I2 J2 => r2 = r ∧ I2 = I' ∧ J2 = J) := by
  refine z_start (own := RX12) (cc := cX12_ordered) (nL := 3) (ret := (some .int)) rfl (by decide) rfl (Nat.le_of_ble_eq_true rfl) (L := [(0, .ref (za B 147)), (1, .int v1), (2, .int v2)]) rfl (fun G h hr => ?_)
  rw [f_X12_ordered] at hf
  refine z_aload_n h 0 dX12_ordered_0 rfl (rfl : 0 + 1 = 1) ?_
  refine z_iconst h 0 dX12_ordered_1 (by decide) (rfl : 1 + 1 = 2) ?_
  refine z_put (ci := 11) (C := RX12) (T := TX12) (N := 46) h 0 tyX12 tyX12_ok nmX12 rfl rfl (fun _ hq => List.mem_cons_of_mem _ (List.mem_append_right _ hq)) (by decide) (List.mem_of_getElem? (i := 1) rfl) rfl rfl rfl dX12_ordered_2 (rfl : 2 + 3 = 5) ?_
  refine z_iload_n h 1 dX12_ordered_5 rfl (rfl : 5 + 1 = 6) ?_
  obtain ⟨q1, e2, hf⟩ := zbind hf
  refine z_goF (z_runS h [.int v1] [] zyX12_noOrder (c_X12_noOrder B (zu I 147 0 0) J hJ v1 _ _ e2) gX12_ordered_X12_noOrder zrX12_ordered_X12_noOrder rfl (Nat.le_of_ble_eq_true rfl) ⟨Nat.zero_le _, Nat.zero_le _⟩ rfl dX12_ordered_6) rfl ?_
  refine z_if_eq (pc' := 12) h 14 dX12_ordered_9 (by decide) rfl (fun c3 => ?_) (fun c3 => ?_)
  · have hf := zitt c3 hf
    refine z_iload_n h 2 dX12_ordered_14 rfl (rfl : 14 + 1 = 15) ?_
    refine z_i2l h dX12_ordered_15 (rfl : 15 + 1 = 16) ?_
    refine z_lconst h 0 dX12_ordered_16 rfl (rfl : 16 + 1 = 17) ?_
    refine z_aload_n h 0 dX12_ordered_17 rfl (rfl : 17 + 1 = 18) ?_
    refine z_getr (ci := 11) (C := RX12) (T := TX12) (N := 46) h 18 158 ((hJ.1 147 18 (by decide)).trans rfl) rfl rfl (fun _ hq => List.mem_cons_of_mem _ (List.mem_append_right _ hq)) (by decide) (List.mem_of_getElem? (i := 2) rfl) rfl dX12_ordered_18 (rfl : 18 + 3 = 21) ?_
    refine z_iload_n h 1 dX12_ordered_21 rfl (rfl : 21 + 1 = 22) ?_
    obtain ⟨b4, hf⟩ := zchk hf
    refine z_iald h rfl b4 dX12_ordered_22 (rfl : 22 + 1 = 23) ?_
    refine z_iconst h 1 dX12_ordered_23 (by decide) (rfl : 23 + 1 = 24) ?_
    refine z_isub h dX12_ordered_24 (rfl : 24 + 1 = 25) ?_
    refine z_i2l h dX12_ordered_25 (rfl : 25 + 1 = 26) ?_
    obtain ⟨q5, e6, hf⟩ := zbind hf
    refine z_goF (z_runS h [.long (Int32.toInt64 v2), .long 0, .long (Int32.toInt64 ((q1.2 158 (Int32.toNatClampNeg v1)) - (1 : Int32)))] [] zyX12_in (c_X12_in B q1.2 J hJ (Int32.toInt64 v2) 0 (Int32.toInt64 ((q1.2 158 (Int32.toNatClampNeg v1)) - (1 : Int32))) _ _ e6) gX12_ordered_X12_in zrX12_ordered_X12_in rfl (Nat.le_of_ble_eq_true rfl) ⟨Nat.zero_le _, Nat.zero_le _⟩ rfl dX12_ordered_26) rfl ?_
    refine z_if_eq (pc' := 32) h 45 dX12_ordered_29 (by decide) rfl (fun c7 => ?_) (fun c7 => ?_)
    · have hf := zitt c7 hf
      refine z_bipush h (-9) dX12_ordered_45 (by decide) (rfl : 45 + 2 = 47) ?_
      refine z_iret h hr dX12_ordered_47 ?_
      exact ⟨congrArg Prod.fst (zsome hf), congrArg Prod.snd (zsome hf), rfl⟩
    · have hf := zitf c7 hf
      refine z_aload_n h 0 dX12_ordered_32 rfl (rfl : 32 + 1 = 33) ?_
      refine z_getr (ci := 11) (C := RX12) (T := TX12) (N := 46) h 17 157 ((hJ.1 147 17 (by decide)).trans rfl) rfl rfl (fun _ hq => List.mem_cons_of_mem _ (List.mem_append_right _ hq)) (by decide) (List.mem_of_getElem? (i := 3) rfl) rfl dX12_ordered_33 (rfl : 33 + 3 = 36) ?_
      refine z_iconst h 5 dX12_ordered_36 (by decide) (rfl : 36 + 1 = 37) ?_
      refine z_iload_n h 1 dX12_ordered_37 rfl (rfl : 37 + 1 = 38) ?_
      refine z_imul h dX12_ordered_38 (rfl : 38 + 1 = 39) ?_
      refine z_iload_n h 2 dX12_ordered_39 rfl (rfl : 39 + 1 = 40) ?_
      refine z_iadd h dX12_ordered_40 (rfl : 40 + 1 = 41) ?_
      obtain ⟨b8, hf⟩ := zchk hf
      refine z_iald h rfl b8 dX12_ordered_41 (rfl : 41 + 1 = 42) ?_
      refine z_goto (pc' := 47) h dX12_ordered_42 (by decide) ?_
      refine z_iret h hr dX12_ordered_47 ?_
      exact ⟨congrArg Prod.fst (zsome hf), congrArg Prod.snd (zsome hf), rfl⟩
  · have hf := zitf c3 hf
    refine z_iconst h (-1) dX12_ordered_12 (by decide) (rfl : 12 + 1 = 13) ?_
    refine z_iret h hr dX12_ordered_13 ?_
    exact ⟨congrArg Prod.fst (zsome hf), congrArg Prod.snd (zsome hf), rfl⟩
noncomputable def f_X12_putWords_4 (J : zJ) (u1 : Int32) : Nat → Int32 → Int32 → zM → Option ((Int32 × zM) ⊕ (Int32 × Int32 × zM))
  | 0, _, _, _ => none
  | n + 1, x2_4, x3_4, I4 => (if 6 ≤ x3_4 then some (.inr (x2_4, x3_4, I4)) else (if zin x3_4 6 = true then (if zin (((6 : Int32) * u1) + x3_4) 48 = true then (if zin x3_4 6 = true then (if (zu I4 162 (Int32.toNatClampNeg (((6 : Int32) * u1) + x3_4)) (I4 165 (Int32.toNatClampNeg x3_4))) 165 (Int32.toNatClampNeg x3_4) ≤ 0 then f_X12_putWords_4 J u1 n (x2_4 + (0 : Int32)) (x3_4 + 1) (zu I4 162 (Int32.toNatClampNeg (((6 : Int32) * u1) + x3_4)) (I4 165 (Int32.toNatClampNeg x3_4))) else f_X12_putWords_4 J u1 n (x2_4 + (1 : Int32)) (x3_4 + 1) (zu I4 162 (Int32.toNatClampNeg (((6 : Int32) * u1) + x3_4)) (I4 165 (Int32.toNatClampNeg x3_4)))) else none) else none) else none))
noncomputable def f_X12_putWords (J : zJ) (v1 : Int32) (I : zM) : Option (Int32 × zM) := ((f_X12_putWords_4 J v1 zF 0 0 I).bind fun q => Sum.elim (fun a => some a) (fun a3 => (if zin v1 8 = true then some ((a3.1, zu a3.2.2 163 (Int32.toNatClampNeg v1) (a3.2.2 147 27))) else none)) q)
noncomputable abbrev rmX12_putWords : Room := { frames := 0, cells := 0, slots := 0, locals := 0 }
theorem zyX12_putWords : zY yX12_putWords wsX12_putWords cX12_putWords 4 (some .int) 1 := ⟨⟨_, rfl⟩, by decide +kernel⟩
set_option maxHeartbeats 1000000 in
set_option maxRecDepth 100000 in
theorem c_X12_putWords (B : zB) (I : zM) (J : zJ) (hJ : zJok J) (v1 : Int32) (r : Int32) (I' : zM) (hf : f_X12_putWords J v1 I = some (r, I')) : zCi B zKW I J yX12_putWords wsX12_putWords rmX12_putWords [.ref (za B 147), .int v1] (fun r2 I2 J2 => r2 = r ∧ I2 = I' ∧ J2 = J) := by
  refine z_start (own := RX12) (cc := cX12_putWords) (nL := 4) (ret := (some .int)) rfl (by decide) rfl (Nat.le_of_ble_eq_true rfl) (L := [(0, .ref (za B 147)), (1, .int v1)]) rfl (fun G h hr => ?_)
  rw [f_X12_putWords] at hf
  refine z_iconst h 0 dX12_putWords_0 (by decide) (rfl : 0 + 1 = 1) ?_
  refine z_istore_n h [(2, .int 0), (0, .ref (za B 147)), (1, .int v1)] dX12_putWords_1 (by decide) rfl (rfl : 1 + 1 = 2) ?_
  refine z_iconst h 0 dX12_putWords_2 (by decide) (rfl : 2 + 1 = 3) ?_
  refine z_istore_n h [(3, .int 0), (2, .int 0), (0, .ref (za B 147)), (1, .int v1)] dX12_putWords_3 (by decide) rfl (rfl : 3 + 1 = 4) ?_
  have loop_4_2 : ∀ (n : Nat) (x2_4 : Int32) (x3_4 : Int32) (I4 : zM) (q : (Int32 × zM) ⊕ (Int32 × Int32 × zM)), f_X12_putWords_4 J v1 n x2_4 x3_4 I4 = some q → (∀ a, q = .inl a → a = (r, I')) → (∀ a : Int32 × Int32 × zM, q = .inr a → Z B G zKW (a.2.2) (J) (0, 0) 50 [(0, .ref (za B 147)), (1, .int v1), (2, .int a.1), (3, .int a.2.1)] []) → Z B G zKW I4 J (0, 0) 4 [(0, .ref (za B 147)), (1, .int v1), (2, .int x2_4), (3, .int x3_4)] [] := by
    intro n; induction n with
    | zero => intro x2_4 x3_4 I4 q hf; exact absurd hf (by rw [f_X12_putWords_4]; exact fun z => by cases z)
    | succ n ih =>
      intro x2_4 x3_4 I4 q hf hP hE; rw [f_X12_putWords_4] at hf
      refine z_iload_n h 3 dX12_putWords_4 rfl (rfl : 4 + 1 = 5) ?_
      refine z_bipush h 6 dX12_putWords_5 (by decide) (rfl : 5 + 2 = 7) ?_
      refine z_icmp_ge (pc' := 10) h 50 dX12_putWords_7 (by decide) rfl (fun c3 => ?_) (fun c3 => ?_)
      · have hf := zitt c3 hf
        exact hE (x2_4, x3_4, I4) (zsome hf).symm
      · have hf := zitf c3 hf
        refine z_aload_n h 0 dX12_putWords_10 rfl (rfl : 10 + 1 = 11) ?_
        refine z_getr (ci := 11) (C := RX12) (T := TX12) (N := 46) h 22 162 ((hJ.1 147 22 (by decide)).trans rfl) rfl rfl (fun _ hq => List.mem_cons_of_mem _ (List.mem_append_right _ hq)) (by decide) (List.mem_of_getElem? (i := 1) rfl) rfl dX12_putWords_11 (rfl : 11 + 3 = 14) ?_
        refine z_bipush h 6 dX12_putWords_14 (by decide) (rfl : 14 + 2 = 16) ?_
        refine z_iload_n h 1 dX12_putWords_16 rfl (rfl : 16 + 1 = 17) ?_
        refine z_imul h dX12_putWords_17 (rfl : 17 + 1 = 18) ?_
        refine z_iload_n h 3 dX12_putWords_18 rfl (rfl : 18 + 1 = 19) ?_
        refine z_iadd h dX12_putWords_19 (rfl : 19 + 1 = 20) ?_
        refine z_aload_n h 0 dX12_putWords_20 rfl (rfl : 20 + 1 = 21) ?_
        refine z_getr (ci := 11) (C := RX12) (T := TX12) (N := 46) h 26 165 ((hJ.1 147 26 (by decide)).trans rfl) rfl rfl (fun _ hq => List.mem_cons_of_mem _ (List.mem_append_right _ hq)) (by decide) (List.mem_of_getElem? (i := 2) rfl) rfl dX12_putWords_21 (rfl : 21 + 3 = 24) ?_
        refine z_iload_n h 3 dX12_putWords_24 rfl (rfl : 24 + 1 = 25) ?_
        obtain ⟨b4, hf⟩ := zchk hf
        refine z_iald h rfl b4 dX12_putWords_25 (rfl : 25 + 1 = 26) ?_
        obtain ⟨b5, hf⟩ := zchk hf
        refine z_iast h b5 rfl dX12_putWords_26 (rfl : 26 + 1 = 27) ?_
        refine z_iload_n h 2 dX12_putWords_27 rfl (rfl : 27 + 1 = 28) ?_
        refine z_aload_n h 0 dX12_putWords_28 rfl (rfl : 28 + 1 = 29) ?_
        refine z_getr (ci := 11) (C := RX12) (T := TX12) (N := 46) h 26 165 ((hJ.1 147 26 (by decide)).trans rfl) rfl rfl (fun _ hq => List.mem_cons_of_mem _ (List.mem_append_right _ hq)) (by decide) (List.mem_of_getElem? (i := 2) rfl) rfl dX12_putWords_29 (rfl : 29 + 3 = 32) ?_
        refine z_iload_n h 3 dX12_putWords_32 rfl (rfl : 32 + 1 = 33) ?_
        obtain ⟨b6, hf⟩ := zchk hf
        refine z_iald h rfl b6 dX12_putWords_33 (rfl : 33 + 1 = 34) ?_
        refine z_if_le (pc' := 37) h 41 dX12_putWords_34 (by decide) rfl (fun c7 => ?_) (fun c7 => ?_)
        · have hf := zitt c7 hf
          refine z_iconst h 0 dX12_putWords_41 (by decide) (rfl : 41 + 1 = 42) ?_
          refine z_iadd h dX12_putWords_42 (rfl : 42 + 1 = 43) ?_
          refine z_istore_n h [(2, .int (x2_4 + (0 : Int32))), (0, .ref (za B 147)), (1, .int v1), (3, .int x3_4)] dX12_putWords_43 (by decide) rfl (rfl : 43 + 1 = 44) ?_
          refine z_iinc h 3 (x3_4 + 1) [(3, .int (x3_4 + 1)), (2, .int (x2_4 + (0 : Int32))), (0, .ref (za B 147)), (1, .int v1)] dX12_putWords_44 rfl rfl (by decide) rfl (rfl : 44 + 3 = 47) ?_
          refine z_goto (pc' := 4) h dX12_putWords_47 (by decide) ?_
          refine z_sub (L' := [(0, .ref (za B 147)), (1, .int v1), (2, .int (x2_4 + (0 : Int32))), (3, .int (x3_4 + 1))]) [2, 3, 1, 0] rfl ?_
          exact ih (x2_4 + (0 : Int32)) (x3_4 + 1) (zu I4 162 (Int32.toNatClampNeg (((6 : Int32) * v1) + x3_4)) (I4 165 (Int32.toNatClampNeg x3_4))) _ hf hP hE
        · have hf := zitf c7 hf
          refine z_iconst h 1 dX12_putWords_37 (by decide) (rfl : 37 + 1 = 38) ?_
          refine z_goto (pc' := 42) h dX12_putWords_38 (by decide) ?_
          refine z_iadd h dX12_putWords_42 (rfl : 42 + 1 = 43) ?_
          refine z_istore_n h [(2, .int (x2_4 + (1 : Int32))), (0, .ref (za B 147)), (1, .int v1), (3, .int x3_4)] dX12_putWords_43 (by decide) rfl (rfl : 43 + 1 = 44) ?_
          refine z_iinc h 3 (x3_4 + 1) [(3, .int (x3_4 + 1)), (2, .int (x2_4 + (1 : Int32))), (0, .ref (za B 147)), (1, .int v1)] dX12_putWords_44 rfl rfl (by decide) rfl (rfl : 44 + 3 = 47) ?_
          refine z_goto (pc' := 4) h dX12_putWords_47 (by decide) ?_
          refine z_sub (L' := [(0, .ref (za B 147)), (1, .int v1), (2, .int (x2_4 + (1 : Int32))), (3, .int (x3_4 + 1))]) [2, 3, 1, 0] rfl ?_
          exact ih (x2_4 + (1 : Int32)) (x3_4 + 1) (zu I4 162 (Int32.toNatClampNeg (((6 : Int32) * v1) + x3_4)) (I4 165 (Int32.toNatClampNeg x3_4))) _ hf hP hE
  refine z_sub (L' := [(0, .ref (za B 147)), (1, .int v1), (2, .int 0), (3, .int 0)]) [2, 3, 1, 0] rfl ?_
  obtain ⟨q1, e2, hf⟩ := zbind hf
  refine loop_4_2 _ 0 0 I q1 e2 (fun a ha => ?_) (fun a8 ha  => ?_)
  · have hf := zell ha hf
    exact zsome hf
  have hf := zelr ha hf
  clear ha loop_4_2
  refine z_aload_n h 0 dX12_putWords_50 rfl (rfl : 50 + 1 = 51) ?_
  refine z_getr (ci := 11) (C := RX12) (T := TX12) (N := 46) h 23 163 ((hJ.1 147 23 (by decide)).trans rfl) rfl rfl (fun _ hq => List.mem_cons_of_mem _ (List.mem_append_right _ hq)) (by decide) (List.mem_of_getElem? (i := 3) rfl) rfl dX12_putWords_51 (rfl : 51 + 3 = 54) ?_
  refine z_iload_n h 1 dX12_putWords_54 rfl (rfl : 54 + 1 = 55) ?_
  refine z_aload_n h 0 dX12_putWords_55 rfl (rfl : 55 + 1 = 56) ?_
  refine z_get (ci := 11) (C := RX12) (T := TX12) (N := 46) h 27 rfl rfl (fun _ hq => List.mem_cons_of_mem _ (List.mem_append_right _ hq)) (by decide) (List.mem_of_getElem? (i := 4) rfl) rfl dX12_putWords_56 (rfl : 56 + 3 = 59) ?_
  obtain ⟨b9, hf⟩ := zchk hf
  refine z_iast h b9 rfl dX12_putWords_59 (rfl : 59 + 1 = 60) ?_
  refine z_iload_n h 2 dX12_putWords_60 rfl (rfl : 60 + 1 = 61) ?_
  refine z_iret h hr dX12_putWords_61 ?_
  exact ⟨congrArg Prod.fst (zsome hf), congrArg Prod.snd (zsome hf), rfl⟩
noncomputable def f_X12_bargain (J : zJ) (v1 : Int32) (v2 : Int32) (v3 : Int32) (I : zM) : Option (Int32 × zM) := ((f_X12_noPerson J v1 (zu I 147 0 0)).bind fun q1 => (if q1.1 = 0 then ((f_X12_noPerson J v2 q1.2).bind fun q4 => (if q4.1 = 0 then ((f_X12_noTrade J v3 q4.2).bind fun q7 => (if q7.1 = 0 then (if v1 = v2 then some (((-2), q7.2)) else ((f_X12_readWords J  q7.2).bind fun q11 => (if q11.1 = (-9) then (if q11.2 147 25 = 8 then some (((-4), q11.2)) else (if zin (q11.2 147 25) 8 = true then (if zin ((zu q11.2 159 (Int32.toNatClampNeg (q11.2 147 25)) v1) 147 25) 8 = true then (if zin ((zu (zu q11.2 159 (Int32.toNatClampNeg (q11.2 147 25)) v1) 160 (Int32.toNatClampNeg ((zu q11.2 159 (Int32.toNatClampNeg (q11.2 147 25)) v1) 147 25)) v2) 147 25) 8 = true then ((f_X12_putWords J ((zu (zu (zu q11.2 159 (Int32.toNatClampNeg (q11.2 147 25)) v1) 160 (Int32.toNatClampNeg ((zu q11.2 159 (Int32.toNatClampNeg (q11.2 147 25)) v1) 147 25)) v2) 161 (Int32.toNatClampNeg ((zu (zu q11.2 159 (Int32.toNatClampNeg (q11.2 147 25)) v1) 160 (Int32.toNatClampNeg ((zu q11.2 159 (Int32.toNatClampNeg (q11.2 147 25)) v1) 147 25)) v2) 147 25)) v3) 147 25) (zu (zu (zu q11.2 159 (Int32.toNatClampNeg (q11.2 147 25)) v1) 160 (Int32.toNatClampNeg ((zu q11.2 159 (Int32.toNatClampNeg (q11.2 147 25)) v1) 147 25)) v2) 161 (Int32.toNatClampNeg ((zu (zu q11.2 159 (Int32.toNatClampNeg (q11.2 147 25)) v1) 160 (Int32.toNatClampNeg ((zu q11.2 159 (Int32.toNatClampNeg (q11.2 147 25)) v1) 147 25)) v2) 147 25)) v3)).bind fun q18 => some ((((zu q18.2 147 25 ((q18.2 147 25) + (1 : Int32))) 147 25) - (1 : Int32), zu q18.2 147 25 ((q18.2 147 25) + (1 : Int32))))) else none) else none) else none)) else some (((-3), q11.2))))) else some (((-1), q7.2)))) else some (((-1), q4.2)))) else some (((-1), q1.2))))
noncomputable abbrev rmX12_bargain : Room := { frames := 3, cells := 0, slots := 0, locals := 69 }
theorem zyX12_bargain : zY yX12_bargain wsX12_bargain cX12_bargain 4 (some .int) 3 := ⟨⟨_, rfl⟩, by decide +kernel⟩
theorem zrX12_bargain_X12_noPerson : zRm rmX12_noPerson rmX12_bargain 1 := ⟨rfl, rfl, by decide, by decide⟩
theorem zrX12_bargain_X12_noTrade : zRm rmX12_noTrade rmX12_bargain 1 := ⟨rfl, rfl, by decide, by decide⟩
theorem zrX12_bargain_X12_putWords : zRm rmX12_putWords rmX12_bargain 4 := ⟨rfl, rfl, by decide, by decide⟩
theorem zrX12_bargain_X12_readWords : zRm rmX12_readWords rmX12_bargain 3 := ⟨rfl, rfl, by decide, by decide⟩
set_option maxHeartbeats 1000000 in
set_option maxRecDepth 100000 in
theorem c_X12_bargain (B : zB) (I : zM) (J : zJ) (hJ : zJok J) (v1 : Int32) (v2 : Int32) (v3 : Int32) (r : Int32) (I' : zM) (hf : f_X12_bargain J v1 v2 v3 I = some (r, I')) : zCi B zKW I J yX12_bargain wsX12_bargain rmX12_bargain [.ref (za B 147), .int v1, .int v2, .int v3] (fun r2 I2 J2 => r2 = r ∧ I2 = I' ∧ J2 = J) := by
  refine z_start (own := RX12) (cc := cX12_bargain) (nL := 4) (ret := (some .int)) rfl (by decide) rfl (Nat.le_of_ble_eq_true rfl) (L := [(0, .ref (za B 147)), (1, .int v1), (2, .int v2), (3, .int v3)]) rfl (fun G h hr => ?_)
  rw [f_X12_bargain] at hf
  refine z_aload_n h 0 dX12_bargain_0 rfl (rfl : 0 + 1 = 1) ?_
  refine z_iconst h 0 dX12_bargain_1 (by decide) (rfl : 1 + 1 = 2) ?_
  refine z_put (ci := 11) (C := RX12) (T := TX12) (N := 46) h 0 tyX12 tyX12_ok nmX12 rfl rfl (fun _ hq => List.mem_cons_of_mem _ (List.mem_append_right _ hq)) (by decide) (List.mem_of_getElem? (i := 1) rfl) rfl rfl rfl dX12_bargain_2 (rfl : 2 + 3 = 5) ?_
  refine z_iload_n h 1 dX12_bargain_5 rfl (rfl : 5 + 1 = 6) ?_
  obtain ⟨q1, e2, hf⟩ := zbind hf
  refine z_goF (z_runS h [.int v1] [] zyX12_noPerson (c_X12_noPerson B (zu I 147 0 0) J hJ v1 _ _ e2) gX12_bargain_X12_noPerson zrX12_bargain_X12_noPerson rfl (Nat.le_of_ble_eq_true rfl) ⟨Nat.zero_le _, Nat.zero_le _⟩ rfl dX12_bargain_6) rfl ?_
  refine z_if_ne (pc' := 12) h 26 dX12_bargain_9 (by decide) rfl (fun c3 => ?_) (fun c3 => ?_)
  · have hf := zitf c3 hf
    refine z_iconst h (-1) dX12_bargain_26 (by decide) (rfl : 26 + 1 = 27) ?_
    refine z_iret h hr dX12_bargain_27 ?_
    exact ⟨congrArg Prod.fst (zsome hf), congrArg Prod.snd (zsome hf), rfl⟩
  · have hf := zitt c3 hf
    refine z_iload_n h 2 dX12_bargain_12 rfl (rfl : 12 + 1 = 13) ?_
    obtain ⟨q4, e5, hf⟩ := zbind hf
    refine z_goF (z_runS h [.int v2] [] zyX12_noPerson (c_X12_noPerson B q1.2 J hJ v2 _ _ e5) gX12_bargain_X12_noPerson zrX12_bargain_X12_noPerson rfl (Nat.le_of_ble_eq_true rfl) ⟨Nat.zero_le _, Nat.zero_le _⟩ rfl dX12_bargain_13) rfl ?_
    refine z_if_ne (pc' := 19) h 26 dX12_bargain_16 (by decide) rfl (fun c6 => ?_) (fun c6 => ?_)
    · have hf := zitf c6 hf
      refine z_iconst h (-1) dX12_bargain_26 (by decide) (rfl : 26 + 1 = 27) ?_
      refine z_iret h hr dX12_bargain_27 ?_
      exact ⟨congrArg Prod.fst (zsome hf), congrArg Prod.snd (zsome hf), rfl⟩
    · have hf := zitt c6 hf
      refine z_iload_n h 3 dX12_bargain_19 rfl (rfl : 19 + 1 = 20) ?_
      obtain ⟨q7, e8, hf⟩ := zbind hf
      refine z_goF (z_runS h [.int v3] [] zyX12_noTrade (c_X12_noTrade B q4.2 J hJ v3 _ _ e8) gX12_bargain_X12_noTrade zrX12_bargain_X12_noTrade rfl (Nat.le_of_ble_eq_true rfl) ⟨Nat.zero_le _, Nat.zero_le _⟩ rfl dX12_bargain_20) rfl ?_
      refine z_if_eq (pc' := 26) h 28 dX12_bargain_23 (by decide) rfl (fun c9 => ?_) (fun c9 => ?_)
      · have hf := zitt c9 hf
        refine z_iload_n h 1 dX12_bargain_28 rfl (rfl : 28 + 1 = 29) ?_
        refine z_iload_n h 2 dX12_bargain_29 rfl (rfl : 29 + 1 = 30) ?_
        refine z_icmp_ne (pc' := 33) h 36 dX12_bargain_30 (by decide) rfl (fun c10 => ?_) (fun c10 => ?_)
        · have hf := zitf c10 hf
          refine z_aload_n h 0 dX12_bargain_36 rfl (rfl : 36 + 1 = 37) ?_
          obtain ⟨q11, e12, hf⟩ := zbind hf
          refine z_goF (z_runV (C := RX12) (T := TX12) (N := 46) (ci := 11) h [] [] zyX12_readWords (c_X12_readWords B q7.2 J hJ  _ _ e12) gX12_bargain_X12_readWords rfl rfl rfl zrX12_bargain_X12_readWords rfl (Nat.le_of_ble_eq_true rfl) ⟨Nat.zero_le _, Nat.zero_le _⟩ rfl dX12_bargain_37) rfl ?_
          refine z_bipush h (-9) dX12_bargain_40 (by decide) (rfl : 40 + 2 = 42) ?_
          refine z_icmp_eq (pc' := 45) h 48 dX12_bargain_42 (by decide) rfl (fun c13 => ?_) (fun c13 => ?_)
          · have hf := zitt c13 hf
            refine z_aload_n h 0 dX12_bargain_48 rfl (rfl : 48 + 1 = 49) ?_
            refine z_get (ci := 11) (C := RX12) (T := TX12) (N := 46) h 25 rfl rfl (fun _ hq => List.mem_cons_of_mem _ (List.mem_append_right _ hq)) (by decide) (List.mem_of_getElem? (i := 2) rfl) rfl dX12_bargain_49 (rfl : 49 + 3 = 52) ?_
            refine z_bipush h 8 dX12_bargain_52 (by decide) (rfl : 52 + 2 = 54) ?_
            refine z_icmp_ne (pc' := 57) h 60 dX12_bargain_54 (by decide) rfl (fun c14 => ?_) (fun c14 => ?_)
            · have hf := zitf c14 hf
              refine z_aload_n h 0 dX12_bargain_60 rfl (rfl : 60 + 1 = 61) ?_
              refine z_getr (ci := 11) (C := RX12) (T := TX12) (N := 46) h 19 159 ((hJ.1 147 19 (by decide)).trans rfl) rfl rfl (fun _ hq => List.mem_cons_of_mem _ (List.mem_append_right _ hq)) (by decide) (List.mem_of_getElem? (i := 3) rfl) rfl dX12_bargain_61 (rfl : 61 + 3 = 64) ?_
              refine z_aload_n h 0 dX12_bargain_64 rfl (rfl : 64 + 1 = 65) ?_
              refine z_get (ci := 11) (C := RX12) (T := TX12) (N := 46) h 25 rfl rfl (fun _ hq => List.mem_cons_of_mem _ (List.mem_append_right _ hq)) (by decide) (List.mem_of_getElem? (i := 2) rfl) rfl dX12_bargain_65 (rfl : 65 + 3 = 68) ?_
              refine z_iload_n h 1 dX12_bargain_68 rfl (rfl : 68 + 1 = 69) ?_
              obtain ⟨b15, hf⟩ := zchk hf
              refine z_iast h b15 rfl dX12_bargain_69 (rfl : 69 + 1 = 70) ?_
              refine z_aload_n h 0 dX12_bargain_70 rfl (rfl : 70 + 1 = 71) ?_
              refine z_getr (ci := 11) (C := RX12) (T := TX12) (N := 46) h 20 160 ((hJ.1 147 20 (by decide)).trans rfl) rfl rfl (fun _ hq => List.mem_cons_of_mem _ (List.mem_append_right _ hq)) (by decide) (List.mem_of_getElem? (i := 4) rfl) rfl dX12_bargain_71 (rfl : 71 + 3 = 74) ?_
              refine z_aload_n h 0 dX12_bargain_74 rfl (rfl : 74 + 1 = 75) ?_
              refine z_get (ci := 11) (C := RX12) (T := TX12) (N := 46) h 25 rfl rfl (fun _ hq => List.mem_cons_of_mem _ (List.mem_append_right _ hq)) (by decide) (List.mem_of_getElem? (i := 2) rfl) rfl dX12_bargain_75 (rfl : 75 + 3 = 78) ?_
              refine z_iload_n h 2 dX12_bargain_78 rfl (rfl : 78 + 1 = 79) ?_
              obtain ⟨b16, hf⟩ := zchk hf
              refine z_iast h b16 rfl dX12_bargain_79 (rfl : 79 + 1 = 80) ?_
              refine z_aload_n h 0 dX12_bargain_80 rfl (rfl : 80 + 1 = 81) ?_
              refine z_getr (ci := 11) (C := RX12) (T := TX12) (N := 46) h 21 161 ((hJ.1 147 21 (by decide)).trans rfl) rfl rfl (fun _ hq => List.mem_cons_of_mem _ (List.mem_append_right _ hq)) (by decide) (List.mem_of_getElem? (i := 5) rfl) rfl dX12_bargain_81 (rfl : 81 + 3 = 84) ?_
              refine z_aload_n h 0 dX12_bargain_84 rfl (rfl : 84 + 1 = 85) ?_
              refine z_get (ci := 11) (C := RX12) (T := TX12) (N := 46) h 25 rfl rfl (fun _ hq => List.mem_cons_of_mem _ (List.mem_append_right _ hq)) (by decide) (List.mem_of_getElem? (i := 2) rfl) rfl dX12_bargain_85 (rfl : 85 + 3 = 88) ?_
              refine z_iload_n h 3 dX12_bargain_88 rfl (rfl : 88 + 1 = 89) ?_
              obtain ⟨b17, hf⟩ := zchk hf
              refine z_iast h b17 rfl dX12_bargain_89 (rfl : 89 + 1 = 90) ?_
              refine z_aload_n h 0 dX12_bargain_90 rfl (rfl : 90 + 1 = 91) ?_
              refine z_aload_n h 0 dX12_bargain_91 rfl (rfl : 91 + 1 = 92) ?_
              refine z_get (ci := 11) (C := RX12) (T := TX12) (N := 46) h 25 rfl rfl (fun _ hq => List.mem_cons_of_mem _ (List.mem_append_right _ hq)) (by decide) (List.mem_of_getElem? (i := 2) rfl) rfl dX12_bargain_92 (rfl : 92 + 3 = 95) ?_
              obtain ⟨q18, e19, hf⟩ := zbind hf
              refine z_goF (z_runV (C := RX12) (T := TX12) (N := 46) (ci := 11) h [.int ((zu (zu (zu q11.2 159 (Int32.toNatClampNeg (q11.2 147 25)) v1) 160 (Int32.toNatClampNeg ((zu q11.2 159 (Int32.toNatClampNeg (q11.2 147 25)) v1) 147 25)) v2) 161 (Int32.toNatClampNeg ((zu (zu q11.2 159 (Int32.toNatClampNeg (q11.2 147 25)) v1) 160 (Int32.toNatClampNeg ((zu q11.2 159 (Int32.toNatClampNeg (q11.2 147 25)) v1) 147 25)) v2) 147 25)) v3) 147 25)] [] zyX12_putWords (c_X12_putWords B (zu (zu (zu q11.2 159 (Int32.toNatClampNeg (q11.2 147 25)) v1) 160 (Int32.toNatClampNeg ((zu q11.2 159 (Int32.toNatClampNeg (q11.2 147 25)) v1) 147 25)) v2) 161 (Int32.toNatClampNeg ((zu (zu q11.2 159 (Int32.toNatClampNeg (q11.2 147 25)) v1) 160 (Int32.toNatClampNeg ((zu q11.2 159 (Int32.toNatClampNeg (q11.2 147 25)) v1) 147 25)) v2) 147 25)) v3) J hJ ((zu (zu (zu q11.2 159 (Int32.toNatClampNeg (q11.2 147 25)) v1) 160 (Int32.toNatClampNeg ((zu q11.2 159 (Int32.toNatClampNeg (q11.2 147 25)) v1) 147 25)) v2) 161 (Int32.toNatClampNeg ((zu (zu q11.2 159 (Int32.toNatClampNeg (q11.2 147 25)) v1) 160 (Int32.toNatClampNeg ((zu q11.2 159 (Int32.toNatClampNeg (q11.2 147 25)) v1) 147 25)) v2) 147 25)) v3) 147 25) _ _ e19) gX12_bargain_X12_putWords rfl rfl rfl zrX12_bargain_X12_putWords rfl (Nat.le_of_ble_eq_true rfl) ⟨Nat.zero_le _, Nat.zero_le _⟩ rfl dX12_bargain_95) rfl ?_
              refine z_pop h rfl dX12_bargain_98 (rfl : 98 + 1 = 99) ?_
              refine z_aload_n h 0 dX12_bargain_99 rfl (rfl : 99 + 1 = 100) ?_
              refine z_dup h rfl dX12_bargain_100 (rfl : 100 + 1 = 101) ?_
              refine z_get (ci := 11) (C := RX12) (T := TX12) (N := 46) h 25 rfl rfl (fun _ hq => List.mem_cons_of_mem _ (List.mem_append_right _ hq)) (by decide) (List.mem_of_getElem? (i := 2) rfl) rfl dX12_bargain_101 (rfl : 101 + 3 = 104) ?_
              refine z_iconst h 1 dX12_bargain_104 (by decide) (rfl : 104 + 1 = 105) ?_
              refine z_iadd h dX12_bargain_105 (rfl : 105 + 1 = 106) ?_
              refine z_put (ci := 11) (C := RX12) (T := TX12) (N := 46) h 25 tyX12 tyX12_ok nmX12 rfl rfl (fun _ hq => List.mem_cons_of_mem _ (List.mem_append_right _ hq)) (by decide) (List.mem_of_getElem? (i := 2) rfl) rfl rfl rfl dX12_bargain_106 (rfl : 106 + 3 = 109) ?_
              refine z_aload_n h 0 dX12_bargain_109 rfl (rfl : 109 + 1 = 110) ?_
              refine z_get (ci := 11) (C := RX12) (T := TX12) (N := 46) h 25 rfl rfl (fun _ hq => List.mem_cons_of_mem _ (List.mem_append_right _ hq)) (by decide) (List.mem_of_getElem? (i := 2) rfl) rfl dX12_bargain_110 (rfl : 110 + 3 = 113) ?_
              refine z_iconst h 1 dX12_bargain_113 (by decide) (rfl : 113 + 1 = 114) ?_
              refine z_isub h dX12_bargain_114 (rfl : 114 + 1 = 115) ?_
              refine z_iret h hr dX12_bargain_115 ?_
              exact ⟨congrArg Prod.fst (zsome hf), congrArg Prod.snd (zsome hf), rfl⟩
            · have hf := zitt c14 hf
              refine z_bipush h (-4) dX12_bargain_57 (by decide) (rfl : 57 + 2 = 59) ?_
              refine z_iret h hr dX12_bargain_59 ?_
              exact ⟨congrArg Prod.fst (zsome hf), congrArg Prod.snd (zsome hf), rfl⟩
          · have hf := zitf c13 hf
            refine z_bipush h (-3) dX12_bargain_45 (by decide) (rfl : 45 + 2 = 47) ?_
            refine z_iret h hr dX12_bargain_47 ?_
            exact ⟨congrArg Prod.fst (zsome hf), congrArg Prod.snd (zsome hf), rfl⟩
        · have hf := zitt c10 hf
          refine z_bipush h (-2) dX12_bargain_33 (by decide) (rfl : 33 + 2 = 35) ?_
          refine z_iret h hr dX12_bargain_35 ?_
          exact ⟨congrArg Prod.fst (zsome hf), congrArg Prod.snd (zsome hf), rfl⟩
      · have hf := zitf c9 hf
        refine z_iconst h (-1) dX12_bargain_26 (by decide) (rfl : 26 + 1 = 27) ?_
        refine z_iret h hr dX12_bargain_27 ?_
        exact ⟨congrArg Prod.fst (zsome hf), congrArg Prod.snd (zsome hf), rfl⟩
noncomputable def f_X12_reword (J : zJ) (v1 : Int32) (I : zM) : Option (Int32 × zM) := ((f_X12_noBargain J v1 (zu I 147 0 0)).bind fun q1 => (if q1.1 = 0 then ((f_X12_readWords J  q1.2).bind fun q4 => (if q4.1 = (-9) then ((f_X12_putWords J v1 q4.2).bind fun q7 => some ((q7.1, q7.2))) else some (((-3), q4.2)))) else some (((-1), q1.2))))
noncomputable abbrev rmX12_reword : Room := { frames := 3, cells := 0, slots := 0, locals := 69 }
theorem zyX12_reword : zY yX12_reword wsX12_reword cX12_reword 2 (some .int) 1 := ⟨⟨_, rfl⟩, by decide +kernel⟩
theorem zrX12_reword_X12_noBargain : zRm rmX12_noBargain rmX12_reword 2 := ⟨rfl, rfl, by decide, by decide⟩
theorem zrX12_reword_X12_putWords : zRm rmX12_putWords rmX12_reword 4 := ⟨rfl, rfl, by decide, by decide⟩
theorem zrX12_reword_X12_readWords : zRm rmX12_readWords rmX12_reword 3 := ⟨rfl, rfl, by decide, by decide⟩
set_option maxHeartbeats 1000000 in
set_option maxRecDepth 100000 in
theorem c_X12_reword (B : zB) (I : zM) (J : zJ) (hJ : zJok J) (v1 : Int32) (r : Int32) (I' : zM) (hf : f_X12_reword J v1 I = some (r, I')) : zCi B zKW I J yX12_reword wsX12_reword rmX12_reword [.ref (za B 147), .int v1] (fun r2 I2 J2 => r2 = r ∧ I2 = I' ∧ J2 = J) := by
  refine z_start (own := RX12) (cc := cX12_reword) (nL := 2) (ret := (some .int)) rfl (by decide) rfl (Nat.le_of_ble_eq_true rfl) (L := [(0, .ref (za B 147)), (1, .int v1)]) rfl (fun G h hr => ?_)
  rw [f_X12_reword] at hf
  refine z_aload_n h 0 dX12_reword_0 rfl (rfl : 0 + 1 = 1) ?_
  refine z_iconst h 0 dX12_reword_1 (by decide) (rfl : 1 + 1 = 2) ?_
  refine z_put (ci := 11) (C := RX12) (T := TX12) (N := 46) h 0 tyX12 tyX12_ok nmX12 rfl rfl (fun _ hq => List.mem_cons_of_mem _ (List.mem_append_right _ hq)) (by decide) (List.mem_of_getElem? (i := 1) rfl) rfl rfl rfl dX12_reword_2 (rfl : 2 + 3 = 5) ?_
  refine z_aload_n h 0 dX12_reword_5 rfl (rfl : 5 + 1 = 6) ?_
  refine z_iload_n h 1 dX12_reword_6 rfl (rfl : 6 + 1 = 7) ?_
  obtain ⟨q1, e2, hf⟩ := zbind hf
  refine z_goF (z_runV (C := RX12) (T := TX12) (N := 46) (ci := 11) h [.int v1] [] zyX12_noBargain (c_X12_noBargain B (zu I 147 0 0) J hJ v1 _ _ e2) gX12_reword_X12_noBargain rfl rfl rfl zrX12_reword_X12_noBargain rfl (Nat.le_of_ble_eq_true rfl) ⟨Nat.zero_le _, Nat.zero_le _⟩ rfl dX12_reword_7) rfl ?_
  refine z_if_eq (pc' := 13) h 15 dX12_reword_10 (by decide) rfl (fun c3 => ?_) (fun c3 => ?_)
  · have hf := zitt c3 hf
    refine z_aload_n h 0 dX12_reword_15 rfl (rfl : 15 + 1 = 16) ?_
    obtain ⟨q4, e5, hf⟩ := zbind hf
    refine z_goF (z_runV (C := RX12) (T := TX12) (N := 46) (ci := 11) h [] [] zyX12_readWords (c_X12_readWords B q1.2 J hJ  _ _ e5) gX12_reword_X12_readWords rfl rfl rfl zrX12_reword_X12_readWords rfl (Nat.le_of_ble_eq_true rfl) ⟨Nat.zero_le _, Nat.zero_le _⟩ rfl dX12_reword_16) rfl ?_
    refine z_bipush h (-9) dX12_reword_19 (by decide) (rfl : 19 + 2 = 21) ?_
    refine z_icmp_eq (pc' := 24) h 29 dX12_reword_21 (by decide) rfl (fun c6 => ?_) (fun c6 => ?_)
    · have hf := zitt c6 hf
      refine z_aload_n h 0 dX12_reword_29 rfl (rfl : 29 + 1 = 30) ?_
      refine z_iload_n h 1 dX12_reword_30 rfl (rfl : 30 + 1 = 31) ?_
      obtain ⟨q7, e8, hf⟩ := zbind hf
      refine z_goF (z_runV (C := RX12) (T := TX12) (N := 46) (ci := 11) h [.int v1] [] zyX12_putWords (c_X12_putWords B q4.2 J hJ v1 _ _ e8) gX12_reword_X12_putWords rfl rfl rfl zrX12_reword_X12_putWords rfl (Nat.le_of_ble_eq_true rfl) ⟨Nat.zero_le _, Nat.zero_le _⟩ rfl dX12_reword_31) rfl ?_
      refine z_iret h hr dX12_reword_34 ?_
      exact ⟨congrArg Prod.fst (zsome hf), congrArg Prod.snd (zsome hf), rfl⟩
    · have hf := zitf c6 hf
      refine z_bipush h (-3) dX12_reword_24 (by decide) (rfl : 24 + 2 = 26) ?_
      refine z_goto (pc' := 34) h dX12_reword_26 (by decide) ?_
      refine z_iret h hr dX12_reword_34 ?_
      exact ⟨congrArg Prod.fst (zsome hf), congrArg Prod.snd (zsome hf), rfl⟩
  · have hf := zitf c3 hf
    refine z_iconst h (-1) dX12_reword_13 (by decide) (rfl : 13 + 1 = 14) ?_
    refine z_iret h hr dX12_reword_14 ?_
    exact ⟨congrArg Prod.fst (zsome hf), congrArg Prod.snd (zsome hf), rfl⟩
noncomputable def f_X12_said (J : zJ) (v1 : Int32) (v2 : Int32) (I : zM) : Option (Int32 × zM) := ((f_X12_noBargain J v1 (zu I 147 0 0)).bind fun q1 => (if q1.1 = 0 then ((f_X12_noGap J v2 q1.2).bind fun q4 => (if q4.1 = 0 then (if zin (((6 : Int32) * v1) + v2) 48 = true then some ((q4.2 162 (Int32.toNatClampNeg (((6 : Int32) * v1) + v2)), q4.2)) else none) else some (((-1), q4.2)))) else some (((-1), q1.2))))
noncomputable abbrev rmX12_said : Room := { frames := 2, cells := 0, slots := 0, locals := 46 }
theorem zyX12_said : zY yX12_said wsX12_said cX12_said 3 (some .int) 2 := ⟨⟨_, rfl⟩, by decide +kernel⟩
theorem zrX12_said_X12_noBargain : zRm rmX12_noBargain rmX12_said 2 := ⟨rfl, rfl, by decide, by decide⟩
theorem zrX12_said_X12_noGap : zRm rmX12_noGap rmX12_said 1 := ⟨rfl, rfl, by decide, by decide⟩
set_option maxHeartbeats 1000000 in
set_option maxRecDepth 100000 in
theorem c_X12_said (B : zB) (I : zM) (J : zJ) (hJ : zJok J) (v1 : Int32) (v2 : Int32) (r : Int32) (I' : zM) (hf : f_X12_said J v1 v2 I = some (r, I')) : zCi B zKW I J yX12_said wsX12_said rmX12_said [.ref (za B 147), .int v1, .int v2] (fun r2 I2 J2 => r2 = r ∧ I2 = I' ∧ J2 = J) := by
  refine z_start (own := RX12) (cc := cX12_said) (nL := 3) (ret := (some .int)) rfl (by decide) rfl (Nat.le_of_ble_eq_true rfl) (L := [(0, .ref (za B 147)), (1, .int v1), (2, .int v2)]) rfl (fun G h hr => ?_)
  rw [f_X12_said] at hf
  refine z_aload_n h 0 dX12_said_0 rfl (rfl : 0 + 1 = 1) ?_
  refine z_iconst h 0 dX12_said_1 (by decide) (rfl : 1 + 1 = 2) ?_
  refine z_put (ci := 11) (C := RX12) (T := TX12) (N := 46) h 0 tyX12 tyX12_ok nmX12 rfl rfl (fun _ hq => List.mem_cons_of_mem _ (List.mem_append_right _ hq)) (by decide) (List.mem_of_getElem? (i := 1) rfl) rfl rfl rfl dX12_said_2 (rfl : 2 + 3 = 5) ?_
  refine z_aload_n h 0 dX12_said_5 rfl (rfl : 5 + 1 = 6) ?_
  refine z_iload_n h 1 dX12_said_6 rfl (rfl : 6 + 1 = 7) ?_
  obtain ⟨q1, e2, hf⟩ := zbind hf
  refine z_goF (z_runV (C := RX12) (T := TX12) (N := 46) (ci := 11) h [.int v1] [] zyX12_noBargain (c_X12_noBargain B (zu I 147 0 0) J hJ v1 _ _ e2) gX12_said_X12_noBargain rfl rfl rfl zrX12_said_X12_noBargain rfl (Nat.le_of_ble_eq_true rfl) ⟨Nat.zero_le _, Nat.zero_le _⟩ rfl dX12_said_7) rfl ?_
  refine z_if_ne (pc' := 13) h 20 dX12_said_10 (by decide) rfl (fun c3 => ?_) (fun c3 => ?_)
  · have hf := zitf c3 hf
    refine z_iconst h (-1) dX12_said_20 (by decide) (rfl : 20 + 1 = 21) ?_
    refine z_goto (pc' := 35) h dX12_said_21 (by decide) ?_
    refine z_iret h hr dX12_said_35 ?_
    exact ⟨congrArg Prod.fst (zsome hf), congrArg Prod.snd (zsome hf), rfl⟩
  · have hf := zitt c3 hf
    refine z_iload_n h 2 dX12_said_13 rfl (rfl : 13 + 1 = 14) ?_
    obtain ⟨q4, e5, hf⟩ := zbind hf
    refine z_goF (z_runS h [.int v2] [] zyX12_noGap (c_X12_noGap B q1.2 J hJ v2 _ _ e5) gX12_said_X12_noGap zrX12_said_X12_noGap rfl (Nat.le_of_ble_eq_true rfl) ⟨Nat.zero_le _, Nat.zero_le _⟩ rfl dX12_said_14) rfl ?_
    refine z_if_eq (pc' := 20) h 24 dX12_said_17 (by decide) rfl (fun c6 => ?_) (fun c6 => ?_)
    · have hf := zitt c6 hf
      refine z_aload_n h 0 dX12_said_24 rfl (rfl : 24 + 1 = 25) ?_
      refine z_getr (ci := 11) (C := RX12) (T := TX12) (N := 46) h 22 162 ((hJ.1 147 22 (by decide)).trans rfl) rfl rfl (fun _ hq => List.mem_cons_of_mem _ (List.mem_append_right _ hq)) (by decide) (List.mem_of_getElem? (i := 2) rfl) rfl dX12_said_25 (rfl : 25 + 3 = 28) ?_
      refine z_bipush h 6 dX12_said_28 (by decide) (rfl : 28 + 2 = 30) ?_
      refine z_iload_n h 1 dX12_said_30 rfl (rfl : 30 + 1 = 31) ?_
      refine z_imul h dX12_said_31 (rfl : 31 + 1 = 32) ?_
      refine z_iload_n h 2 dX12_said_32 rfl (rfl : 32 + 1 = 33) ?_
      refine z_iadd h dX12_said_33 (rfl : 33 + 1 = 34) ?_
      obtain ⟨b7, hf⟩ := zchk hf
      refine z_iald h rfl b7 dX12_said_34 (rfl : 34 + 1 = 35) ?_
      refine z_iret h hr dX12_said_35 ?_
      exact ⟨congrArg Prod.fst (zsome hf), congrArg Prod.snd (zsome hf), rfl⟩
    · have hf := zitf c6 hf
      refine z_iconst h (-1) dX12_said_20 (by decide) (rfl : 20 + 1 = 21) ?_
      refine z_goto (pc' := 35) h dX12_said_21 (by decide) ?_
      refine z_iret h hr dX12_said_35 ?_
      exact ⟨congrArg Prod.fst (zsome hf), congrArg Prod.snd (zsome hf), rfl⟩
noncomputable def f_X12_lay_4 (J : zJ) (u1 : Int32) : Nat → Int32 → Int32 → zM → Option ((zM) ⊕ (Int32 × Int32 × zM))
  | 0, _, _, _ => none
  | n + 1, x2_4, x3_4, I4 => (if x3_4 < 0 then some (.inr (x2_4, x3_4, I4)) else (if zin x3_4 6 = true then f_X12_lay_4 J u1 n (x2_4 / (6 : Int32)) (x3_4 + (-1)) (zu I4 170 (Int32.toNatClampNeg x3_4) (x2_4 - x2_4 / (6 : Int32) * (6 : Int32))) else none))
noncomputable def f_X12_lay (J : zJ) (v1 : Int32) (I : zM) : Option (zM) := ((f_X12_lay_4 J v1 zF v1 5 I).bind fun q => Sum.elim (fun a => some a) (fun a3 => some (a3.2.2)) q)
noncomputable abbrev rmX12_lay : Room := { frames := 0, cells := 0, slots := 0, locals := 0 }
theorem zyX12_lay : zY yX12_lay wsX12_lay cX12_lay 4 none 1 := ⟨⟨_, rfl⟩, by decide +kernel⟩
set_option maxHeartbeats 1000000 in
set_option maxRecDepth 100000 in
theorem c_X12_lay (B : zB) (I : zM) (J : zJ) (hJ : zJok J) (v1 : Int32) (I' : zM) (hf : f_X12_lay J v1 I = some I') : zCv B zKW I J yX12_lay wsX12_lay rmX12_lay [.ref (za B 147), .int v1] (fun I2 J2 => I2 = I' ∧ J2 = J) := by
  refine z_start (own := RX12) (cc := cX12_lay) (nL := 4) (ret := none) rfl (by decide) rfl (Nat.le_of_ble_eq_true rfl) (L := [(0, .ref (za B 147)), (1, .int v1)]) rfl (fun G h hr => ?_)
  rw [f_X12_lay] at hf
  refine z_iload_n h 1 dX12_lay_0 rfl (rfl : 0 + 1 = 1) ?_
  refine z_istore_n h [(2, .int v1), (0, .ref (za B 147)), (1, .int v1)] dX12_lay_1 (by decide) rfl (rfl : 1 + 1 = 2) ?_
  refine z_iconst h 5 dX12_lay_2 (by decide) (rfl : 2 + 1 = 3) ?_
  refine z_istore_n h [(3, .int 5), (2, .int v1), (0, .ref (za B 147)), (1, .int v1)] dX12_lay_3 (by decide) rfl (rfl : 3 + 1 = 4) ?_
  have loop_4_2 : ∀ (n : Nat) (x2_4 : Int32) (x3_4 : Int32) (I4 : zM) (q : (zM) ⊕ (Int32 × Int32 × zM)), f_X12_lay_4 J v1 n x2_4 x3_4 I4 = some q → (∀ a, q = .inl a → a = I') → (∀ a : Int32 × Int32 × zM, q = .inr a → Z B G zKW (a.2.2) (J) (0, 0) 29 [(0, .ref (za B 147)), (1, .int v1), (2, .int a.1), (3, .int a.2.1)] []) → Z B G zKW I4 J (0, 0) 4 [(0, .ref (za B 147)), (1, .int v1), (2, .int x2_4), (3, .int x3_4)] [] := by
    intro n; induction n with
    | zero => intro x2_4 x3_4 I4 q hf; exact absurd hf (by rw [f_X12_lay_4]; exact fun z => by cases z)
    | succ n ih =>
      intro x2_4 x3_4 I4 q hf hP hE; rw [f_X12_lay_4] at hf
      refine z_iload_n h 3 dX12_lay_4 rfl (rfl : 4 + 1 = 5) ?_
      refine z_if_lt (pc' := 8) h 29 dX12_lay_5 (by decide) rfl (fun c3 => ?_) (fun c3 => ?_)
      · have hf := zitt c3 hf
        exact hE (x2_4, x3_4, I4) (zsome hf).symm
      · have hf := zitf c3 hf
        refine z_aload_n h 0 dX12_lay_8 rfl (rfl : 8 + 1 = 9) ?_
        refine z_getr (ci := 11) (C := RX12) (T := TX12) (N := 46) h 34 170 ((hJ.1 147 34 (by decide)).trans rfl) rfl rfl (fun _ hq => List.mem_cons_of_mem _ (List.mem_append_right _ hq)) (by decide) (List.mem_of_getElem? (i := 1) rfl) rfl dX12_lay_9 (rfl : 9 + 3 = 12) ?_
        refine z_iload_n h 3 dX12_lay_12 rfl (rfl : 12 + 1 = 13) ?_
        refine z_iload_n h 2 dX12_lay_13 rfl (rfl : 13 + 1 = 14) ?_
        refine z_bipush h 6 dX12_lay_14 (by decide) (rfl : 14 + 2 = 16) ?_
        refine z_irem h dX12_lay_16 (by decide) (rfl : 16 + 1 = 17) ?_
        obtain ⟨b4, hf⟩ := zchk hf
        refine z_iast h b4 rfl dX12_lay_17 (rfl : 17 + 1 = 18) ?_
        refine z_iload_n h 2 dX12_lay_18 rfl (rfl : 18 + 1 = 19) ?_
        refine z_bipush h 6 dX12_lay_19 (by decide) (rfl : 19 + 2 = 21) ?_
        refine z_idiv h dX12_lay_21 (by decide) (rfl : 21 + 1 = 22) ?_
        refine z_istore_n h [(2, .int (x2_4 / (6 : Int32))), (0, .ref (za B 147)), (1, .int v1), (3, .int x3_4)] dX12_lay_22 (by decide) rfl (rfl : 22 + 1 = 23) ?_
        refine z_iinc h 3 (x3_4 + (-1)) [(3, .int (x3_4 + (-1))), (2, .int (x2_4 / (6 : Int32))), (0, .ref (za B 147)), (1, .int v1)] dX12_lay_23 rfl rfl (by decide) rfl (rfl : 23 + 3 = 26) ?_
        refine z_goto (pc' := 4) h dX12_lay_26 (by decide) ?_
        refine z_sub (L' := [(0, .ref (za B 147)), (1, .int v1), (2, .int (x2_4 / (6 : Int32))), (3, .int (x3_4 + (-1)))]) [2, 3, 1, 0] rfl ?_
        exact ih (x2_4 / (6 : Int32)) (x3_4 + (-1)) (zu I4 170 (Int32.toNatClampNeg x3_4) (x2_4 - x2_4 / (6 : Int32) * (6 : Int32))) _ hf hP hE
  refine z_sub (L' := [(0, .ref (za B 147)), (1, .int v1), (2, .int v1), (3, .int 5)]) [2, 3, 1, 0] rfl ?_
  obtain ⟨q1, e2, hf⟩ := zbind hf
  refine loop_4_2 _ v1 5 I q1 e2 (fun a ha => ?_) (fun a5 ha  => ?_)
  · have hf := zell ha hf
    exact zsome hf
  have hf := zelr ha hf
  clear ha loop_4_2
  refine z_vret h hr dX12_lay_29 ?_
  exact ⟨(zsome hf), rfl⟩
noncomputable def f_X12_isThere (J : zJ) (v1 : Int32) (v2 : Int32) (I : zM) : Option (Int32 × zM) := (if zin v1 6 = true then ((f_X12_in J (Int32.toInt64 v2) 1 (Int32.toInt64 (I 148 (Int32.toNatClampNeg v1))) I).bind fun q2 => (if q2.1 = 0 ∨ q2.1 = 1 then some ((q2.1, q2.2)) else none)) else none)
noncomputable abbrev rmX12_isThere : Room := { frames := 1, cells := 0, slots := 0, locals := 25 }
theorem zyX12_isThere : zY yX12_isThere wsX12_isThere cX12_isThere 3 (some .boolean) 2 := ⟨⟨_, rfl⟩, by decide +kernel⟩
theorem zrX12_isThere_X12_in : zRm rmX12_in rmX12_isThere 6 := ⟨rfl, rfl, by decide, by decide⟩
set_option maxHeartbeats 1000000 in
set_option maxRecDepth 100000 in
theorem c_X12_isThere (B : zB) (I : zM) (J : zJ) (hJ : zJok J) (v1 : Int32) (v2 : Int32) (r : Int32) (I' : zM) (hf : f_X12_isThere J v1 v2 I = some (r, I')) : zCi B zKW I J yX12_isThere wsX12_isThere rmX12_isThere [.ref (za B 147), .int v1, .int v2] (fun r2 I2 J2 => r2 = r ∧ I2 = I' ∧ J2 = J) := by
  refine z_start (own := RX12) (cc := cX12_isThere) (nL := 3) (ret := (some .boolean)) rfl (by decide) rfl (Nat.le_of_ble_eq_true rfl) (L := [(0, .ref (za B 147)), (1, .int v1), (2, .int v2)]) rfl (fun G h hr => ?_)
  rw [f_X12_isThere] at hf
  refine z_iload_n h 2 dX12_isThere_0 rfl (rfl : 0 + 1 = 1) ?_
  refine z_i2l h dX12_isThere_1 (rfl : 1 + 1 = 2) ?_
  refine z_lconst h 1 dX12_isThere_2 rfl (rfl : 2 + 1 = 3) ?_
  refine z_aload_n h 0 dX12_isThere_3 rfl (rfl : 3 + 1 = 4) ?_
  refine z_getr (ci := 11) (C := RX12) (T := TX12) (N := 46) h 1 148 ((hJ.1 147 1 (by decide)).trans rfl) rfl rfl (fun _ hq => List.mem_cons_of_mem _ (List.mem_append_right _ hq)) (by decide) (List.mem_of_getElem? (i := 1) rfl) rfl dX12_isThere_4 (rfl : 4 + 3 = 7) ?_
  refine z_iload_n h 1 dX12_isThere_7 rfl (rfl : 7 + 1 = 8) ?_
  obtain ⟨b1, hf⟩ := zchk hf
  refine z_iald h rfl b1 dX12_isThere_8 (rfl : 8 + 1 = 9) ?_
  refine z_i2l h dX12_isThere_9 (rfl : 9 + 1 = 10) ?_
  obtain ⟨q2, e3, hf⟩ := zbind hf
  refine z_goF (z_runS h [.long (Int32.toInt64 v2), .long 1, .long (Int32.toInt64 (I 148 (Int32.toNatClampNeg v1)))] [] zyX12_in (c_X12_in B I J hJ (Int32.toInt64 v2) 1 (Int32.toInt64 (I 148 (Int32.toNatClampNeg v1))) _ _ e3) gX12_isThere_X12_in zrX12_isThere_X12_in rfl (Nat.le_of_ble_eq_true rfl) ⟨Nat.zero_le _, Nat.zero_le _⟩ rfl dX12_isThere_10) rfl ?_
  obtain ⟨b4, hf⟩ := zchk hf
  refine z_zret h hr dX12_isThere_13 b4 ?_
  exact ⟨congrArg Prod.fst (zsome hf), congrArg Prod.snd (zsome hf), rfl⟩
noncomputable def f_X12_isAsked (J : zJ) (v1 : Int32) (I : zM) : Option (Int32 × zM) := (if zin v1 6 = true then (if I 148 (Int32.toNatClampNeg v1) ≤ 0 then some ((0, I)) else (if zin v1 6 = true then (if I 150 (Int32.toNatClampNeg v1) = (-9) then some ((1, I)) else (if zin v1 6 = true then (if zin (I 150 (Int32.toNatClampNeg v1)) 6 = true then (if zin v1 6 = true then (if I 170 (Int32.toNatClampNeg (I 150 (Int32.toNatClampNeg v1))) = I 151 (Int32.toNatClampNeg v1) then some ((1, I)) else some ((0, I))) else none) else none) else none)) else none)) else none)
noncomputable abbrev rmX12_isAsked : Room := { frames := 0, cells := 0, slots := 0, locals := 0 }
theorem zyX12_isAsked : zY yX12_isAsked wsX12_isAsked cX12_isAsked 2 (some .boolean) 1 := ⟨⟨_, rfl⟩, by decide +kernel⟩
set_option maxHeartbeats 1000000 in
set_option maxRecDepth 100000 in
theorem c_X12_isAsked (B : zB) (I : zM) (J : zJ) (hJ : zJok J) (v1 : Int32) (r : Int32) (I' : zM) (hf : f_X12_isAsked J v1 I = some (r, I')) : zCi B zKW I J yX12_isAsked wsX12_isAsked rmX12_isAsked [.ref (za B 147), .int v1] (fun r2 I2 J2 => r2 = r ∧ I2 = I' ∧ J2 = J) := by
  refine z_start (own := RX12) (cc := cX12_isAsked) (nL := 2) (ret := (some .boolean)) rfl (by decide) rfl (Nat.le_of_ble_eq_true rfl) (L := [(0, .ref (za B 147)), (1, .int v1)]) rfl (fun G h hr => ?_)
  rw [f_X12_isAsked] at hf
  refine z_aload_n h 0 dX12_isAsked_0 rfl (rfl : 0 + 1 = 1) ?_
  refine z_getr (ci := 11) (C := RX12) (T := TX12) (N := 46) h 1 148 ((hJ.1 147 1 (by decide)).trans rfl) rfl rfl (fun _ hq => List.mem_cons_of_mem _ (List.mem_append_right _ hq)) (by decide) (List.mem_of_getElem? (i := 1) rfl) rfl dX12_isAsked_1 (rfl : 1 + 3 = 4) ?_
  refine z_iload_n h 1 dX12_isAsked_4 rfl (rfl : 4 + 1 = 5) ?_
  obtain ⟨b1, hf⟩ := zchk hf
  refine z_iald h rfl b1 dX12_isAsked_5 (rfl : 5 + 1 = 6) ?_
  refine z_if_le (pc' := 9) h 44 dX12_isAsked_6 (by decide) rfl (fun c2 => ?_) (fun c2 => ?_)
  · have hf := zitt c2 hf
    refine z_iconst h 0 dX12_isAsked_44 (by decide) (rfl : 44 + 1 = 45) ?_
    refine z_zret h hr dX12_isAsked_45 (Or.inl rfl) ?_
    exact ⟨congrArg Prod.fst (zsome hf), congrArg Prod.snd (zsome hf), rfl⟩
  · have hf := zitf c2 hf
    refine z_aload_n h 0 dX12_isAsked_9 rfl (rfl : 9 + 1 = 10) ?_
    refine z_getr (ci := 11) (C := RX12) (T := TX12) (N := 46) h 3 150 ((hJ.1 147 3 (by decide)).trans rfl) rfl rfl (fun _ hq => List.mem_cons_of_mem _ (List.mem_append_right _ hq)) (by decide) (List.mem_of_getElem? (i := 2) rfl) rfl dX12_isAsked_10 (rfl : 10 + 3 = 13) ?_
    refine z_iload_n h 1 dX12_isAsked_13 rfl (rfl : 13 + 1 = 14) ?_
    obtain ⟨b3, hf⟩ := zchk hf
    refine z_iald h rfl b3 dX12_isAsked_14 (rfl : 14 + 1 = 15) ?_
    refine z_bipush h (-9) dX12_isAsked_15 (by decide) (rfl : 15 + 2 = 17) ?_
    refine z_icmp_eq (pc' := 20) h 40 dX12_isAsked_17 (by decide) rfl (fun c4 => ?_) (fun c4 => ?_)
    · have hf := zitt c4 hf
      refine z_iconst h 1 dX12_isAsked_40 (by decide) (rfl : 40 + 1 = 41) ?_
      refine z_goto (pc' := 45) h dX12_isAsked_41 (by decide) ?_
      refine z_zret h hr dX12_isAsked_45 (Or.inr rfl) ?_
      exact ⟨congrArg Prod.fst (zsome hf), congrArg Prod.snd (zsome hf), rfl⟩
    · have hf := zitf c4 hf
      refine z_aload_n h 0 dX12_isAsked_20 rfl (rfl : 20 + 1 = 21) ?_
      refine z_getr (ci := 11) (C := RX12) (T := TX12) (N := 46) h 34 170 ((hJ.1 147 34 (by decide)).trans rfl) rfl rfl (fun _ hq => List.mem_cons_of_mem _ (List.mem_append_right _ hq)) (by decide) (List.mem_of_getElem? (i := 3) rfl) rfl dX12_isAsked_21 (rfl : 21 + 3 = 24) ?_
      refine z_aload_n h 0 dX12_isAsked_24 rfl (rfl : 24 + 1 = 25) ?_
      refine z_getr (ci := 11) (C := RX12) (T := TX12) (N := 46) h 3 150 ((hJ.1 147 3 (by decide)).trans rfl) rfl rfl (fun _ hq => List.mem_cons_of_mem _ (List.mem_append_right _ hq)) (by decide) (List.mem_of_getElem? (i := 2) rfl) rfl dX12_isAsked_25 (rfl : 25 + 3 = 28) ?_
      refine z_iload_n h 1 dX12_isAsked_28 rfl (rfl : 28 + 1 = 29) ?_
      obtain ⟨b5, hf⟩ := zchk hf
      refine z_iald h rfl b5 dX12_isAsked_29 (rfl : 29 + 1 = 30) ?_
      obtain ⟨b6, hf⟩ := zchk hf
      refine z_iald h rfl b6 dX12_isAsked_30 (rfl : 30 + 1 = 31) ?_
      refine z_aload_n h 0 dX12_isAsked_31 rfl (rfl : 31 + 1 = 32) ?_
      refine z_getr (ci := 11) (C := RX12) (T := TX12) (N := 46) h 4 151 ((hJ.1 147 4 (by decide)).trans rfl) rfl rfl (fun _ hq => List.mem_cons_of_mem _ (List.mem_append_right _ hq)) (by decide) (List.mem_of_getElem? (i := 4) rfl) rfl dX12_isAsked_32 (rfl : 32 + 3 = 35) ?_
      refine z_iload_n h 1 dX12_isAsked_35 rfl (rfl : 35 + 1 = 36) ?_
      obtain ⟨b7, hf⟩ := zchk hf
      refine z_iald h rfl b7 dX12_isAsked_36 (rfl : 36 + 1 = 37) ?_
      refine z_icmp_ne (pc' := 40) h 44 dX12_isAsked_37 (by decide) rfl (fun c8 => ?_) (fun c8 => ?_)
      · have hf := zitf c8 hf
        refine z_iconst h 0 dX12_isAsked_44 (by decide) (rfl : 44 + 1 = 45) ?_
        refine z_zret h hr dX12_isAsked_45 (Or.inl rfl) ?_
        exact ⟨congrArg Prod.fst (zsome hf), congrArg Prod.snd (zsome hf), rfl⟩
      · have hf := zitt c8 hf
        refine z_iconst h 1 dX12_isAsked_40 (by decide) (rfl : 40 + 1 = 41) ?_
        refine z_goto (pc' := 45) h dX12_isAsked_41 (by decide) ?_
        refine z_zret h hr dX12_isAsked_45 (Or.inr rfl) ?_
        exact ⟨congrArg Prod.fst (zsome hf), congrArg Prod.snd (zsome hf), rfl⟩
noncomputable def f_X12_ruleFor_3 (J : zJ) (u1 : Int32) (u2 : Int32) (u3 : Int32) : Nat → Int32 → zM → Option ((Int32 × zM) ⊕ (Int32 × zM))
  | 0, _, _ => none
  | n + 1, x4_3, I3 => (if I3 147 15 ≤ x4_3 then some (.inr (x4_3, I3)) else (if zin ((6 : Int32) * x4_3) 72 = true then (if I3 155 (Int32.toNatClampNeg ((6 : Int32) * x4_3)) = u1 then (if zin (((6 : Int32) * x4_3) + (1 : Int32)) 72 = true then (if I3 155 (Int32.toNatClampNeg (((6 : Int32) * x4_3) + (1 : Int32))) = u3 then (if zin (((6 : Int32) * x4_3) + (2 : Int32)) 72 = true then ((f_X12_isThere J u3 (I3 155 (Int32.toNatClampNeg (((6 : Int32) * x4_3) + (2 : Int32)))) I3).bind fun q7 => (if q7.1 = 0 then f_X12_ruleFor_3 J u1 u2 u3 n (x4_3 + 1) q7.2 else (if zin (((6 : Int32) * x4_3) + (5 : Int32)) 72 = true then (if q7.2 155 (Int32.toNatClampNeg (((6 : Int32) * x4_3) + (5 : Int32))) = (-9) then (if zin (((6 : Int32) * x4_3) + (3 : Int32)) 72 = true then (if q7.2 155 (Int32.toNatClampNeg (((6 : Int32) * x4_3) + (3 : Int32))) = (-9) then some (.inl ((x4_3, q7.2))) else (if zin (((6 : Int32) * x4_3) + (3 : Int32)) 72 = true then (if zin (q7.2 155 (Int32.toNatClampNeg (((6 : Int32) * x4_3) + (3 : Int32)))) 6 = true then (if zin (((6 : Int32) * x4_3) + (4 : Int32)) 72 = true then (if q7.2 170 (Int32.toNatClampNeg (q7.2 155 (Int32.toNatClampNeg (((6 : Int32) * x4_3) + (3 : Int32))))) = q7.2 155 (Int32.toNatClampNeg (((6 : Int32) * x4_3) + (4 : Int32))) then some (.inl ((x4_3, q7.2))) else f_X12_ruleFor_3 J u1 u2 u3 n (x4_3 + 1) q7.2) else none) else none) else none)) else none) else (if zin (((6 : Int32) * x4_3) + (5 : Int32)) 72 = true then (if zin u2 8 = true then (if q7.2 155 (Int32.toNatClampNeg (((6 : Int32) * x4_3) + (5 : Int32))) = q7.2 161 (Int32.toNatClampNeg u2) then (if zin (((6 : Int32) * x4_3) + (3 : Int32)) 72 = true then (if q7.2 155 (Int32.toNatClampNeg (((6 : Int32) * x4_3) + (3 : Int32))) = (-9) then some (.inl ((x4_3, q7.2))) else (if zin (((6 : Int32) * x4_3) + (3 : Int32)) 72 = true then (if zin (q7.2 155 (Int32.toNatClampNeg (((6 : Int32) * x4_3) + (3 : Int32)))) 6 = true then (if zin (((6 : Int32) * x4_3) + (4 : Int32)) 72 = true then (if q7.2 170 (Int32.toNatClampNeg (q7.2 155 (Int32.toNatClampNeg (((6 : Int32) * x4_3) + (3 : Int32))))) = q7.2 155 (Int32.toNatClampNeg (((6 : Int32) * x4_3) + (4 : Int32))) then some (.inl ((x4_3, q7.2))) else f_X12_ruleFor_3 J u1 u2 u3 n (x4_3 + 1) q7.2) else none) else none) else none)) else none) else f_X12_ruleFor_3 J u1 u2 u3 n (x4_3 + 1) q7.2) else none) else none)) else none))) else none) else f_X12_ruleFor_3 J u1 u2 u3 n (x4_3 + 1) I3) else none) else f_X12_ruleFor_3 J u1 u2 u3 n (x4_3 + 1) I3) else none))
noncomputable def f_X12_ruleFor (J : zJ) (v1 : Int32) (v2 : Int32) (v3 : Int32) (I : zM) : Option (Int32 × zM) := ((f_X12_ruleFor_3 J v1 v2 v3 zF 0 I).bind fun q => Sum.elim (fun a => some a) (fun a3 => some (((-9), a3.2))) q)
noncomputable abbrev rmX12_ruleFor : Room := { frames := 2, cells := 0, slots := 0, locals := 47 }
theorem zyX12_ruleFor : zY yX12_ruleFor wsX12_ruleFor cX12_ruleFor 7 (some .int) 3 := ⟨⟨_, rfl⟩, by decide +kernel⟩
theorem zrX12_ruleFor_X12_isThere : zRm rmX12_isThere rmX12_ruleFor 3 := ⟨rfl, rfl, by decide, by decide⟩
set_option maxHeartbeats 1000000 in
set_option maxRecDepth 100000 in
theorem c_X12_ruleFor (B : zB) (I : zM) (J : zJ) (hJ : zJok J) (v1 : Int32) (v2 : Int32) (v3 : Int32) (r : Int32) (I' : zM) (hf : f_X12_ruleFor J v1 v2 v3 I = some (r, I')) : zCi B zKW I J yX12_ruleFor wsX12_ruleFor rmX12_ruleFor [.ref (za B 147), .int v1, .int v2, .int v3] (fun r2 I2 J2 => r2 = r ∧ I2 = I' ∧ J2 = J) := by
  refine z_start (own := RX12) (cc := cX12_ruleFor) (nL := 7) (ret := (some .int)) rfl (by decide) rfl (Nat.le_of_ble_eq_true rfl) (L := [(0, .ref (za B 147)), (1, .int v1), (2, .int v2), (3, .int v3)]) rfl (fun G h hr => ?_)
  rw [f_X12_ruleFor] at hf
  refine z_iconst h 0 dX12_ruleFor_0 (by decide) (rfl : 0 + 1 = 1) ?_
  refine z_istore h [(4, .int 0), (0, .ref (za B 147)), (1, .int v1), (2, .int v2), (3, .int v3)] dX12_ruleFor_1 (by decide) rfl (rfl : 1 + 2 = 3) ?_
  have loop_3_2 : ∀ (n : Nat) (x4_3 : Int32) (I3 : zM) (q : (Int32 × zM) ⊕ (Int32 × zM)), f_X12_ruleFor_3 J v1 v2 v3 n x4_3 I3 = some q → (∀ a, q = .inl a → a = (r, I')) → (∀ a : Int32 × zM, q = .inr a → Z B G zKW (a.2) (J) (0, 0) 165 [(0, .ref (za B 147)), (1, .int v1), (2, .int v2), (3, .int v3), (4, .int a.1)] []) → Z B G zKW I3 J (0, 0) 3 [(0, .ref (za B 147)), (1, .int v1), (2, .int v2), (3, .int v3), (4, .int x4_3)] [] := by
    intro n; induction n with
    | zero => intro x4_3 I3 q hf; exact absurd hf (by rw [f_X12_ruleFor_3]; exact fun z => by cases z)
    | succ n ih =>
      intro x4_3 I3 q hf hP hE; rw [f_X12_ruleFor_3] at hf
      refine z_iload h 4 dX12_ruleFor_3 rfl (rfl : 3 + 2 = 5) ?_
      refine z_aload_n h 0 dX12_ruleFor_5 rfl (rfl : 5 + 1 = 6) ?_
      refine z_get (ci := 11) (C := RX12) (T := TX12) (N := 46) h 15 rfl rfl (fun _ hq => List.mem_cons_of_mem _ (List.mem_append_right _ hq)) (by decide) (List.mem_of_getElem? (i := 1) rfl) rfl dX12_ruleFor_6 (rfl : 6 + 3 = 9) ?_
      refine z_icmp_ge (pc' := 12) h 165 dX12_ruleFor_9 (by decide) rfl (fun c3 => ?_) (fun c3 => ?_)
      · have hf := zitt c3 hf
        exact hE (x4_3, I3) (zsome hf).symm
      · have hf := zitf c3 hf
        refine z_bipush h 6 dX12_ruleFor_12 (by decide) (rfl : 12 + 2 = 14) ?_
        refine z_iload h 4 dX12_ruleFor_14 rfl (rfl : 14 + 2 = 16) ?_
        refine z_imul h dX12_ruleFor_16 (rfl : 16 + 1 = 17) ?_
        refine z_istore h [(5, .int ((6 : Int32) * x4_3)), (0, .ref (za B 147)), (1, .int v1), (2, .int v2), (3, .int v3), (4, .int x4_3)] dX12_ruleFor_17 (by decide) rfl (rfl : 17 + 2 = 19) ?_
        refine z_aload_n h 1 dX12_ruleFor_19 rfl (rfl : 19 + 1 = 20) ?_
        refine z_getr (ci := 11) (C := RX12) (T := TX12) (N := 46) h 14 155 ((hJ.1 147 14 (by decide)).trans rfl) rfl rfl (fun _ hq => List.mem_cons_of_mem _ (List.mem_append_right _ hq)) (by decide) (List.mem_of_getElem? (i := 2) rfl) rfl dX12_ruleFor_20 (rfl : 20 + 3 = 23) ?_
        refine z_iload h 0 dX12_ruleFor_23 rfl (rfl : 23 + 2 = 25) ?_
        obtain ⟨b4, hf⟩ := zchk hf
        refine z_iald h rfl b4 dX12_ruleFor_25 (rfl : 25 + 1 = 26) ?_
        refine z_iload_n h 2 dX12_ruleFor_26 rfl (rfl : 26 + 1 = 27) ?_
        refine z_icmp_ne (pc' := 30) h 64 dX12_ruleFor_27 (by decide) rfl (fun c5 => ?_) (fun c5 => ?_)
        · have hf := zitf c5 hf
          refine z_iconst h 0 dX12_ruleFor_64 (by decide) (rfl : 64 + 1 = 65) ?_
          refine z_istore h [(6, .int 0), (5, .int ((6 : Int32) * x4_3)), (0, .ref (za B 147)), (1, .int v1), (2, .int v2), (3, .int v3), (4, .int x4_3)] dX12_ruleFor_65 (by decide) rfl (rfl : 65 + 2 = 67) ?_
          refine z_iload h 0 dX12_ruleFor_67 rfl (rfl : 67 + 2 = 69) ?_
          refine z_if_eq (pc' := 72) h 108 dX12_ruleFor_69 (by decide) rfl (fun _ => ?_) (fun q => absurd q (by decide))
          refine z_iconst h 0 dX12_ruleFor_108 (by decide) (rfl : 108 + 1 = 109) ?_
          refine z_istore h [(6, .int 0), (5, .int ((6 : Int32) * x4_3)), (0, .ref (za B 147)), (1, .int v1), (2, .int v2), (3, .int v3), (4, .int x4_3)] dX12_ruleFor_109 (by decide) rfl (rfl : 109 + 2 = 111) ?_
          refine z_iload h 0 dX12_ruleFor_111 rfl (rfl : 111 + 2 = 113) ?_
          refine z_if_eq (pc' := 116) h 159 dX12_ruleFor_113 (by decide) rfl (fun _ => ?_) (fun q => absurd q (by decide))
          refine z_iinc h 6 (x4_3 + 1) [(4, .int (x4_3 + 1)), (6, .int 0), (5, .int ((6 : Int32) * x4_3)), (0, .ref (za B 147)), (1, .int v1), (2, .int v2), (3, .int v3)] dX12_ruleFor_159 rfl rfl (by decide) rfl (rfl : 159 + 3 = 162) ?_
          refine z_goto (pc' := 3) h dX12_ruleFor_162 (by decide) ?_
          refine z_sub (L' := [(0, .ref (za B 147)), (1, .int v1), (2, .int v2), (3, .int v3), (4, .int (x4_3 + 1))]) [3, 4, 5, 6, 0] rfl ?_
          exact ih (x4_3 + 1) I3 _ hf hP hE
        · have hf := zitt c5 hf
          refine z_aload_n h 1 dX12_ruleFor_30 rfl (rfl : 30 + 1 = 31) ?_
          refine z_getr (ci := 11) (C := RX12) (T := TX12) (N := 46) h 14 155 ((hJ.1 147 14 (by decide)).trans rfl) rfl rfl (fun _ hq => List.mem_cons_of_mem _ (List.mem_append_right _ hq)) (by decide) (List.mem_of_getElem? (i := 2) rfl) rfl dX12_ruleFor_31 (rfl : 31 + 3 = 34) ?_
          refine z_iload h 0 dX12_ruleFor_34 rfl (rfl : 34 + 2 = 36) ?_
          refine z_iconst h 1 dX12_ruleFor_36 (by decide) (rfl : 36 + 1 = 37) ?_
          refine z_iadd h dX12_ruleFor_37 (rfl : 37 + 1 = 38) ?_
          obtain ⟨b6, hf⟩ := zchk hf
          refine z_iald h rfl b6 dX12_ruleFor_38 (rfl : 38 + 1 = 39) ?_
          refine z_iload_n h 4 dX12_ruleFor_39 rfl (rfl : 39 + 1 = 40) ?_
          refine z_icmp_ne (pc' := 43) h 64 dX12_ruleFor_40 (by decide) rfl (fun c7 => ?_) (fun c7 => ?_)
          · have hf := zitf c7 hf
            refine z_iconst h 0 dX12_ruleFor_64 (by decide) (rfl : 64 + 1 = 65) ?_
            refine z_istore h [(6, .int 0), (5, .int ((6 : Int32) * x4_3)), (0, .ref (za B 147)), (1, .int v1), (2, .int v2), (3, .int v3), (4, .int x4_3)] dX12_ruleFor_65 (by decide) rfl (rfl : 65 + 2 = 67) ?_
            refine z_iload h 0 dX12_ruleFor_67 rfl (rfl : 67 + 2 = 69) ?_
            refine z_if_eq (pc' := 72) h 108 dX12_ruleFor_69 (by decide) rfl (fun _ => ?_) (fun q => absurd q (by decide))
            refine z_iconst h 0 dX12_ruleFor_108 (by decide) (rfl : 108 + 1 = 109) ?_
            refine z_istore h [(6, .int 0), (5, .int ((6 : Int32) * x4_3)), (0, .ref (za B 147)), (1, .int v1), (2, .int v2), (3, .int v3), (4, .int x4_3)] dX12_ruleFor_109 (by decide) rfl (rfl : 109 + 2 = 111) ?_
            refine z_iload h 0 dX12_ruleFor_111 rfl (rfl : 111 + 2 = 113) ?_
            refine z_if_eq (pc' := 116) h 159 dX12_ruleFor_113 (by decide) rfl (fun _ => ?_) (fun q => absurd q (by decide))
            refine z_iinc h 6 (x4_3 + 1) [(4, .int (x4_3 + 1)), (6, .int 0), (5, .int ((6 : Int32) * x4_3)), (0, .ref (za B 147)), (1, .int v1), (2, .int v2), (3, .int v3)] dX12_ruleFor_159 rfl rfl (by decide) rfl (rfl : 159 + 3 = 162) ?_
            refine z_goto (pc' := 3) h dX12_ruleFor_162 (by decide) ?_
            refine z_sub (L' := [(0, .ref (za B 147)), (1, .int v1), (2, .int v2), (3, .int v3), (4, .int (x4_3 + 1))]) [3, 4, 5, 6, 0] rfl ?_
            exact ih (x4_3 + 1) I3 _ hf hP hE
          · have hf := zitt c7 hf
            refine z_aload_n h 1 dX12_ruleFor_43 rfl (rfl : 43 + 1 = 44) ?_
            refine z_iload_n h 4 dX12_ruleFor_44 rfl (rfl : 44 + 1 = 45) ?_
            refine z_aload_n h 1 dX12_ruleFor_45 rfl (rfl : 45 + 1 = 46) ?_
            refine z_getr (ci := 11) (C := RX12) (T := TX12) (N := 46) h 14 155 ((hJ.1 147 14 (by decide)).trans rfl) rfl rfl (fun _ hq => List.mem_cons_of_mem _ (List.mem_append_right _ hq)) (by decide) (List.mem_of_getElem? (i := 2) rfl) rfl dX12_ruleFor_46 (rfl : 46 + 3 = 49) ?_
            refine z_iload h 0 dX12_ruleFor_49 rfl (rfl : 49 + 2 = 51) ?_
            refine z_iconst h 2 dX12_ruleFor_51 (by decide) (rfl : 51 + 1 = 52) ?_
            refine z_iadd h dX12_ruleFor_52 (rfl : 52 + 1 = 53) ?_
            obtain ⟨b8, hf⟩ := zchk hf
            refine z_iald h rfl b8 dX12_ruleFor_53 (rfl : 53 + 1 = 54) ?_
            obtain ⟨q9, e10, hf⟩ := zbind hf
            refine z_goF (z_runV (C := RX12) (T := TX12) (N := 46) (ci := 11) h [.int v3, .int (I3 155 (Int32.toNatClampNeg (((6 : Int32) * x4_3) + (2 : Int32))))] [] zyX12_isThere (c_X12_isThere B I3 J hJ v3 (I3 155 (Int32.toNatClampNeg (((6 : Int32) * x4_3) + (2 : Int32)))) _ _ e10) gX12_ruleFor_X12_isThere rfl rfl rfl zrX12_ruleFor_X12_isThere rfl (Nat.le_of_ble_eq_true rfl) ⟨Nat.zero_le _, Nat.zero_le _⟩ rfl dX12_ruleFor_54) rfl ?_
            refine z_if_eq (pc' := 60) h 64 dX12_ruleFor_57 (by decide) rfl (fun c11 => ?_) (fun c11 => ?_)
            · have hf := zitt c11 hf
              refine z_iconst h 0 dX12_ruleFor_64 (by decide) (rfl : 64 + 1 = 65) ?_
              refine z_istore h [(6, .int 0), (5, .int ((6 : Int32) * x4_3)), (0, .ref (za B 147)), (1, .int v1), (2, .int v2), (3, .int v3), (4, .int x4_3)] dX12_ruleFor_65 (by decide) rfl (rfl : 65 + 2 = 67) ?_
              refine z_iload h 0 dX12_ruleFor_67 rfl (rfl : 67 + 2 = 69) ?_
              refine z_if_eq (pc' := 72) h 108 dX12_ruleFor_69 (by decide) rfl (fun _ => ?_) (fun q => absurd q (by decide))
              refine z_iconst h 0 dX12_ruleFor_108 (by decide) (rfl : 108 + 1 = 109) ?_
              refine z_istore h [(6, .int 0), (5, .int ((6 : Int32) * x4_3)), (0, .ref (za B 147)), (1, .int v1), (2, .int v2), (3, .int v3), (4, .int x4_3)] dX12_ruleFor_109 (by decide) rfl (rfl : 109 + 2 = 111) ?_
              refine z_iload h 0 dX12_ruleFor_111 rfl (rfl : 111 + 2 = 113) ?_
              refine z_if_eq (pc' := 116) h 159 dX12_ruleFor_113 (by decide) rfl (fun _ => ?_) (fun q => absurd q (by decide))
              refine z_iinc h 6 (x4_3 + 1) [(4, .int (x4_3 + 1)), (6, .int 0), (5, .int ((6 : Int32) * x4_3)), (0, .ref (za B 147)), (1, .int v1), (2, .int v2), (3, .int v3)] dX12_ruleFor_159 rfl rfl (by decide) rfl (rfl : 159 + 3 = 162) ?_
              refine z_goto (pc' := 3) h dX12_ruleFor_162 (by decide) ?_
              refine z_sub (L' := [(0, .ref (za B 147)), (1, .int v1), (2, .int v2), (3, .int v3), (4, .int (x4_3 + 1))]) [3, 4, 5, 6, 0] rfl ?_
              exact ih (x4_3 + 1) q9.2 _ hf hP hE
            · have hf := zitf c11 hf
              refine z_iconst h 1 dX12_ruleFor_60 (by decide) (rfl : 60 + 1 = 61) ?_
              refine z_goto (pc' := 65) h dX12_ruleFor_61 (by decide) ?_
              refine z_istore h [(6, .int 1), (5, .int ((6 : Int32) * x4_3)), (0, .ref (za B 147)), (1, .int v1), (2, .int v2), (3, .int v3), (4, .int x4_3)] dX12_ruleFor_65 (by decide) rfl (rfl : 65 + 2 = 67) ?_
              refine z_iload h 0 dX12_ruleFor_67 rfl (rfl : 67 + 2 = 69) ?_
              refine z_if_eq (pc' := 72) h 108 dX12_ruleFor_69 (by decide) rfl (fun q => absurd q (by decide)) (fun _ => ?_)
              refine z_aload_n h 2 dX12_ruleFor_72 rfl (rfl : 72 + 1 = 73) ?_
              refine z_getr (ci := 11) (C := RX12) (T := TX12) (N := 46) h 14 155 ((hJ.1 147 14 (by decide)).trans rfl) rfl rfl (fun _ hq => List.mem_cons_of_mem _ (List.mem_append_right _ hq)) (by decide) (List.mem_of_getElem? (i := 2) rfl) rfl dX12_ruleFor_73 (rfl : 73 + 3 = 76) ?_
              refine z_iload h 1 dX12_ruleFor_76 rfl (rfl : 76 + 2 = 78) ?_
              refine z_iconst h 5 dX12_ruleFor_78 (by decide) (rfl : 78 + 1 = 79) ?_
              refine z_iadd h dX12_ruleFor_79 (rfl : 79 + 1 = 80) ?_
              obtain ⟨b12, hf⟩ := zchk hf
              refine z_iald h rfl b12 dX12_ruleFor_80 (rfl : 80 + 1 = 81) ?_
              refine z_bipush h (-9) dX12_ruleFor_81 (by decide) (rfl : 81 + 2 = 83) ?_
              refine z_icmp_eq (pc' := 86) h 104 dX12_ruleFor_83 (by decide) rfl (fun c13 => ?_) (fun c13 => ?_)
              · have hf := zitt c13 hf
                refine z_iconst h 1 dX12_ruleFor_104 (by decide) (rfl : 104 + 1 = 105) ?_
                refine z_goto (pc' := 109) h dX12_ruleFor_105 (by decide) ?_
                refine z_istore h [(6, .int 1), (5, .int ((6 : Int32) * x4_3)), (0, .ref (za B 147)), (1, .int v1), (2, .int v2), (3, .int v3), (4, .int x4_3)] dX12_ruleFor_109 (by decide) rfl (rfl : 109 + 2 = 111) ?_
                refine z_iload h 0 dX12_ruleFor_111 rfl (rfl : 111 + 2 = 113) ?_
                refine z_if_eq (pc' := 116) h 159 dX12_ruleFor_113 (by decide) rfl (fun q => absurd q (by decide)) (fun _ => ?_)
                refine z_aload_n h 2 dX12_ruleFor_116 rfl (rfl : 116 + 1 = 117) ?_
                refine z_getr (ci := 11) (C := RX12) (T := TX12) (N := 46) h 14 155 ((hJ.1 147 14 (by decide)).trans rfl) rfl rfl (fun _ hq => List.mem_cons_of_mem _ (List.mem_append_right _ hq)) (by decide) (List.mem_of_getElem? (i := 2) rfl) rfl dX12_ruleFor_117 (rfl : 117 + 3 = 120) ?_
                refine z_iload h 1 dX12_ruleFor_120 rfl (rfl : 120 + 2 = 122) ?_
                refine z_iconst h 3 dX12_ruleFor_122 (by decide) (rfl : 122 + 1 = 123) ?_
                refine z_iadd h dX12_ruleFor_123 (rfl : 123 + 1 = 124) ?_
                obtain ⟨b14, hf⟩ := zchk hf
                refine z_iald h rfl b14 dX12_ruleFor_124 (rfl : 124 + 1 = 125) ?_
                refine z_bipush h (-9) dX12_ruleFor_125 (by decide) (rfl : 125 + 2 = 127) ?_
                refine z_icmp_eq (pc' := 130) h 156 dX12_ruleFor_127 (by decide) rfl (fun c15 => ?_) (fun c15 => ?_)
                · have hf := zitt c15 hf
                  refine z_iload h 6 dX12_ruleFor_156 rfl (rfl : 156 + 2 = 158) ?_
                  refine z_iret h hr dX12_ruleFor_158 ?_
                  exact ⟨congrArg Prod.fst (hP _ (zsome hf).symm), congrArg Prod.snd (hP _ (zsome hf).symm), rfl⟩
                · have hf := zitf c15 hf
                  refine z_aload_n h 2 dX12_ruleFor_130 rfl (rfl : 130 + 1 = 131) ?_
                  refine z_getr (ci := 11) (C := RX12) (T := TX12) (N := 46) h 34 170 ((hJ.1 147 34 (by decide)).trans rfl) rfl rfl (fun _ hq => List.mem_cons_of_mem _ (List.mem_append_right _ hq)) (by decide) (List.mem_of_getElem? (i := 4) rfl) rfl dX12_ruleFor_131 (rfl : 131 + 3 = 134) ?_
                  refine z_aload_n h 2 dX12_ruleFor_134 rfl (rfl : 134 + 1 = 135) ?_
                  refine z_getr (ci := 11) (C := RX12) (T := TX12) (N := 46) h 14 155 ((hJ.1 147 14 (by decide)).trans rfl) rfl rfl (fun _ hq => List.mem_cons_of_mem _ (List.mem_append_right _ hq)) (by decide) (List.mem_of_getElem? (i := 2) rfl) rfl dX12_ruleFor_135 (rfl : 135 + 3 = 138) ?_
                  refine z_iload h 1 dX12_ruleFor_138 rfl (rfl : 138 + 2 = 140) ?_
                  refine z_iconst h 3 dX12_ruleFor_140 (by decide) (rfl : 140 + 1 = 141) ?_
                  refine z_iadd h dX12_ruleFor_141 (rfl : 141 + 1 = 142) ?_
                  obtain ⟨b16, hf⟩ := zchk hf
                  refine z_iald h rfl b16 dX12_ruleFor_142 (rfl : 142 + 1 = 143) ?_
                  obtain ⟨b17, hf⟩ := zchk hf
                  refine z_iald h rfl b17 dX12_ruleFor_143 (rfl : 143 + 1 = 144) ?_
                  refine z_aload_n h 2 dX12_ruleFor_144 rfl (rfl : 144 + 1 = 145) ?_
                  refine z_getr (ci := 11) (C := RX12) (T := TX12) (N := 46) h 14 155 ((hJ.1 147 14 (by decide)).trans rfl) rfl rfl (fun _ hq => List.mem_cons_of_mem _ (List.mem_append_right _ hq)) (by decide) (List.mem_of_getElem? (i := 2) rfl) rfl dX12_ruleFor_145 (rfl : 145 + 3 = 148) ?_
                  refine z_iload h 1 dX12_ruleFor_148 rfl (rfl : 148 + 2 = 150) ?_
                  refine z_iconst h 4 dX12_ruleFor_150 (by decide) (rfl : 150 + 1 = 151) ?_
                  refine z_iadd h dX12_ruleFor_151 (rfl : 151 + 1 = 152) ?_
                  obtain ⟨b18, hf⟩ := zchk hf
                  refine z_iald h rfl b18 dX12_ruleFor_152 (rfl : 152 + 1 = 153) ?_
                  refine z_icmp_ne (pc' := 156) h 159 dX12_ruleFor_153 (by decide) rfl (fun c19 => ?_) (fun c19 => ?_)
                  · have hf := zitf c19 hf
                    refine z_iinc h 6 (x4_3 + 1) [(4, .int (x4_3 + 1)), (6, .int 1), (5, .int ((6 : Int32) * x4_3)), (0, .ref (za B 147)), (1, .int v1), (2, .int v2), (3, .int v3)] dX12_ruleFor_159 rfl rfl (by decide) rfl (rfl : 159 + 3 = 162) ?_
                    refine z_goto (pc' := 3) h dX12_ruleFor_162 (by decide) ?_
                    refine z_sub (L' := [(0, .ref (za B 147)), (1, .int v1), (2, .int v2), (3, .int v3), (4, .int (x4_3 + 1))]) [3, 4, 5, 6, 0] rfl ?_
                    exact ih (x4_3 + 1) q9.2 _ hf hP hE
                  · have hf := zitt c19 hf
                    refine z_iload h 6 dX12_ruleFor_156 rfl (rfl : 156 + 2 = 158) ?_
                    refine z_iret h hr dX12_ruleFor_158 ?_
                    exact ⟨congrArg Prod.fst (hP _ (zsome hf).symm), congrArg Prod.snd (hP _ (zsome hf).symm), rfl⟩
              · have hf := zitf c13 hf
                refine z_aload_n h 2 dX12_ruleFor_86 rfl (rfl : 86 + 1 = 87) ?_
                refine z_getr (ci := 11) (C := RX12) (T := TX12) (N := 46) h 14 155 ((hJ.1 147 14 (by decide)).trans rfl) rfl rfl (fun _ hq => List.mem_cons_of_mem _ (List.mem_append_right _ hq)) (by decide) (List.mem_of_getElem? (i := 2) rfl) rfl dX12_ruleFor_87 (rfl : 87 + 3 = 90) ?_
                refine z_iload h 1 dX12_ruleFor_90 rfl (rfl : 90 + 2 = 92) ?_
                refine z_iconst h 5 dX12_ruleFor_92 (by decide) (rfl : 92 + 1 = 93) ?_
                refine z_iadd h dX12_ruleFor_93 (rfl : 93 + 1 = 94) ?_
                obtain ⟨b20, hf⟩ := zchk hf
                refine z_iald h rfl b20 dX12_ruleFor_94 (rfl : 94 + 1 = 95) ?_
                refine z_aload_n h 2 dX12_ruleFor_95 rfl (rfl : 95 + 1 = 96) ?_
                refine z_getr (ci := 11) (C := RX12) (T := TX12) (N := 46) h 21 161 ((hJ.1 147 21 (by decide)).trans rfl) rfl rfl (fun _ hq => List.mem_cons_of_mem _ (List.mem_append_right _ hq)) (by decide) (List.mem_of_getElem? (i := 3) rfl) rfl dX12_ruleFor_96 (rfl : 96 + 3 = 99) ?_
                refine z_iload_n h 4 dX12_ruleFor_99 rfl (rfl : 99 + 1 = 100) ?_
                obtain ⟨b21, hf⟩ := zchk hf
                refine z_iald h rfl b21 dX12_ruleFor_100 (rfl : 100 + 1 = 101) ?_
                refine z_icmp_ne (pc' := 104) h 108 dX12_ruleFor_101 (by decide) rfl (fun c22 => ?_) (fun c22 => ?_)
                · have hf := zitf c22 hf
                  refine z_iconst h 0 dX12_ruleFor_108 (by decide) (rfl : 108 + 1 = 109) ?_
                  refine z_istore h [(6, .int 0), (5, .int ((6 : Int32) * x4_3)), (0, .ref (za B 147)), (1, .int v1), (2, .int v2), (3, .int v3), (4, .int x4_3)] dX12_ruleFor_109 (by decide) rfl (rfl : 109 + 2 = 111) ?_
                  refine z_iload h 0 dX12_ruleFor_111 rfl (rfl : 111 + 2 = 113) ?_
                  refine z_if_eq (pc' := 116) h 159 dX12_ruleFor_113 (by decide) rfl (fun _ => ?_) (fun q => absurd q (by decide))
                  refine z_iinc h 6 (x4_3 + 1) [(4, .int (x4_3 + 1)), (6, .int 0), (5, .int ((6 : Int32) * x4_3)), (0, .ref (za B 147)), (1, .int v1), (2, .int v2), (3, .int v3)] dX12_ruleFor_159 rfl rfl (by decide) rfl (rfl : 159 + 3 = 162) ?_
                  refine z_goto (pc' := 3) h dX12_ruleFor_162 (by decide) ?_
                  refine z_sub (L' := [(0, .ref (za B 147)), (1, .int v1), (2, .int v2), (3, .int v3), (4, .int (x4_3 + 1))]) [3, 4, 5, 6, 0] rfl ?_
                  exact ih (x4_3 + 1) q9.2 _ hf hP hE
                · have hf := zitt c22 hf
                  refine z_iconst h 1 dX12_ruleFor_104 (by decide) (rfl : 104 + 1 = 105) ?_
                  refine z_goto (pc' := 109) h dX12_ruleFor_105 (by decide) ?_
                  refine z_istore h [(6, .int 1), (5, .int ((6 : Int32) * x4_3)), (0, .ref (za B 147)), (1, .int v1), (2, .int v2), (3, .int v3), (4, .int x4_3)] dX12_ruleFor_109 (by decide) rfl (rfl : 109 + 2 = 111) ?_
                  refine z_iload h 0 dX12_ruleFor_111 rfl (rfl : 111 + 2 = 113) ?_
                  refine z_if_eq (pc' := 116) h 159 dX12_ruleFor_113 (by decide) rfl (fun q => absurd q (by decide)) (fun _ => ?_)
                  refine z_aload_n h 2 dX12_ruleFor_116 rfl (rfl : 116 + 1 = 117) ?_
                  refine z_getr (ci := 11) (C := RX12) (T := TX12) (N := 46) h 14 155 ((hJ.1 147 14 (by decide)).trans rfl) rfl rfl (fun _ hq => List.mem_cons_of_mem _ (List.mem_append_right _ hq)) (by decide) (List.mem_of_getElem? (i := 2) rfl) rfl dX12_ruleFor_117 (rfl : 117 + 3 = 120) ?_
                  refine z_iload h 1 dX12_ruleFor_120 rfl (rfl : 120 + 2 = 122) ?_
                  refine z_iconst h 3 dX12_ruleFor_122 (by decide) (rfl : 122 + 1 = 123) ?_
                  refine z_iadd h dX12_ruleFor_123 (rfl : 123 + 1 = 124) ?_
                  obtain ⟨b23, hf⟩ := zchk hf
                  refine z_iald h rfl b23 dX12_ruleFor_124 (rfl : 124 + 1 = 125) ?_
                  refine z_bipush h (-9) dX12_ruleFor_125 (by decide) (rfl : 125 + 2 = 127) ?_
                  refine z_icmp_eq (pc' := 130) h 156 dX12_ruleFor_127 (by decide) rfl (fun c24 => ?_) (fun c24 => ?_)
                  · have hf := zitt c24 hf
                    refine z_iload h 6 dX12_ruleFor_156 rfl (rfl : 156 + 2 = 158) ?_
                    refine z_iret h hr dX12_ruleFor_158 ?_
                    exact ⟨congrArg Prod.fst (hP _ (zsome hf).symm), congrArg Prod.snd (hP _ (zsome hf).symm), rfl⟩
                  · have hf := zitf c24 hf
                    refine z_aload_n h 2 dX12_ruleFor_130 rfl (rfl : 130 + 1 = 131) ?_
                    refine z_getr (ci := 11) (C := RX12) (T := TX12) (N := 46) h 34 170 ((hJ.1 147 34 (by decide)).trans rfl) rfl rfl (fun _ hq => List.mem_cons_of_mem _ (List.mem_append_right _ hq)) (by decide) (List.mem_of_getElem? (i := 4) rfl) rfl dX12_ruleFor_131 (rfl : 131 + 3 = 134) ?_
                    refine z_aload_n h 2 dX12_ruleFor_134 rfl (rfl : 134 + 1 = 135) ?_
                    refine z_getr (ci := 11) (C := RX12) (T := TX12) (N := 46) h 14 155 ((hJ.1 147 14 (by decide)).trans rfl) rfl rfl (fun _ hq => List.mem_cons_of_mem _ (List.mem_append_right _ hq)) (by decide) (List.mem_of_getElem? (i := 2) rfl) rfl dX12_ruleFor_135 (rfl : 135 + 3 = 138) ?_
                    refine z_iload h 1 dX12_ruleFor_138 rfl (rfl : 138 + 2 = 140) ?_
                    refine z_iconst h 3 dX12_ruleFor_140 (by decide) (rfl : 140 + 1 = 141) ?_
                    refine z_iadd h dX12_ruleFor_141 (rfl : 141 + 1 = 142) ?_
                    obtain ⟨b25, hf⟩ := zchk hf
                    refine z_iald h rfl b25 dX12_ruleFor_142 (rfl : 142 + 1 = 143) ?_
                    obtain ⟨b26, hf⟩ := zchk hf
                    refine z_iald h rfl b26 dX12_ruleFor_143 (rfl : 143 + 1 = 144) ?_
                    refine z_aload_n h 2 dX12_ruleFor_144 rfl (rfl : 144 + 1 = 145) ?_
                    refine z_getr (ci := 11) (C := RX12) (T := TX12) (N := 46) h 14 155 ((hJ.1 147 14 (by decide)).trans rfl) rfl rfl (fun _ hq => List.mem_cons_of_mem _ (List.mem_append_right _ hq)) (by decide) (List.mem_of_getElem? (i := 2) rfl) rfl dX12_ruleFor_145 (rfl : 145 + 3 = 148) ?_
                    refine z_iload h 1 dX12_ruleFor_148 rfl (rfl : 148 + 2 = 150) ?_
                    refine z_iconst h 4 dX12_ruleFor_150 (by decide) (rfl : 150 + 1 = 151) ?_
                    refine z_iadd h dX12_ruleFor_151 (rfl : 151 + 1 = 152) ?_
                    obtain ⟨b27, hf⟩ := zchk hf
                    refine z_iald h rfl b27 dX12_ruleFor_152 (rfl : 152 + 1 = 153) ?_
                    refine z_icmp_ne (pc' := 156) h 159 dX12_ruleFor_153 (by decide) rfl (fun c28 => ?_) (fun c28 => ?_)
                    · have hf := zitf c28 hf
                      refine z_iinc h 6 (x4_3 + 1) [(4, .int (x4_3 + 1)), (6, .int 1), (5, .int ((6 : Int32) * x4_3)), (0, .ref (za B 147)), (1, .int v1), (2, .int v2), (3, .int v3)] dX12_ruleFor_159 rfl rfl (by decide) rfl (rfl : 159 + 3 = 162) ?_
                      refine z_goto (pc' := 3) h dX12_ruleFor_162 (by decide) ?_
                      refine z_sub (L' := [(0, .ref (za B 147)), (1, .int v1), (2, .int v2), (3, .int v3), (4, .int (x4_3 + 1))]) [3, 4, 5, 6, 0] rfl ?_
                      exact ih (x4_3 + 1) q9.2 _ hf hP hE
                    · have hf := zitt c28 hf
                      refine z_iload h 6 dX12_ruleFor_156 rfl (rfl : 156 + 2 = 158) ?_
                      refine z_iret h hr dX12_ruleFor_158 ?_
                      exact ⟨congrArg Prod.fst (hP _ (zsome hf).symm), congrArg Prod.snd (hP _ (zsome hf).symm), rfl⟩
  refine z_sub (L' := [(0, .ref (za B 147)), (1, .int v1), (2, .int v2), (3, .int v3), (4, .int 0)]) [1, 2, 3, 4, 0] rfl ?_
  obtain ⟨q1, e2, hf⟩ := zbind hf
  refine loop_3_2 _ 0 I q1 e2 (fun a ha => ?_) (fun a29 ha  => ?_)
  · have hf := zell ha hf
    exact zsome hf
  have hf := zelr ha hf
  clear ha loop_3_2
  refine z_bipush h (-9) dX12_ruleFor_165 (by decide) (rfl : 165 + 2 = 167) ?_
  refine z_iret h hr dX12_ruleFor_167 ?_
  exact ⟨congrArg Prod.fst (zsome hf), congrArg Prod.snd (zsome hf), rfl⟩
noncomputable def f_X12_filledBy (J : zJ) (v1 : Int32) (v2 : Int32) (v3 : Int32) (I : zM) : Option (Int32 × zM) := (if v1 = 0 then (if zin v3 6 = true then (if zin (((6 : Int32) * v2) + v3) 48 = true then ((f_X12_isThere J v3 ((zu I 172 (Int32.toNatClampNeg v3) 1) 162 (Int32.toNatClampNeg (((6 : Int32) * v2) + v3))) (zu I 172 (Int32.toNatClampNeg v3) 1)).bind fun q293 => (if q293.1 = 0 then some ((0, q293.2)) else (if zin (((6 : Int32) * v2) + v3) 48 = true then some ((q293.2 162 (Int32.toNatClampNeg (((6 : Int32) * v2) + v3)), q293.2)) else none))) else none) else none) else (if 4 ≤ v1 then (if v1 = 1 then (if v1 = 1 then (if v1 = 1 then (if zin v2 8 = true then (if zin v2 8 = true then ((f_X12_beforeOf J (I 159 (Int32.toNatClampNeg v2)) (I 160 (Int32.toNatClampNeg v2)) v3 I).bind fun q15 => (if zin v3 6 = true then ((f_X12_isThere J v3 q15.1 (zu q15.2 172 (Int32.toNatClampNeg v3) (v1 + (1 : Int32)))).bind fun q18 => (if q18.1 = 0 then some ((0, q18.2)) else some ((q15.1, q18.2)))) else none)) else none) else none) else (if zin v2 8 = true then ((f_X12_customOf J (I 161 (Int32.toNatClampNeg v2)) v3 I).bind fun q7 => (if zin v3 6 = true then ((f_X12_isThere J v3 q7.1 (zu q7.2 172 (Int32.toNatClampNeg v3) (v1 + (1 : Int32)))).bind fun q10 => (if q10.1 = 0 then some ((0, q10.2)) else some ((q7.1, q10.2)))) else none)) else none)) else (if zin v2 8 = true then (if zin v2 8 = true then ((f_X12_isKnowing J (I 159 (Int32.toNatClampNeg v2)) (I 161 (Int32.toNatClampNeg v2)) I).bind fun q23 => (if q23.1 = 0 then (if zin v3 6 = true then ((f_X12_isThere J v3 0 (zu q23.2 172 (Int32.toNatClampNeg v3) (v1 + (1 : Int32)))).bind fun q27 => (if q27.1 = 0 then some ((0, q27.2)) else some ((0, q27.2)))) else none) else (if zin v2 8 = true then (if zin v2 8 = true then ((f_X12_isKnowing J (q23.2 160 (Int32.toNatClampNeg v2)) (q23.2 161 (Int32.toNatClampNeg v2)) q23.2).bind fun q32 => (if q32.1 = 0 then (if zin v3 6 = true then ((f_X12_isThere J v3 0 (zu q32.2 172 (Int32.toNatClampNeg v3) (v1 + (1 : Int32)))).bind fun q36 => (if q36.1 = 0 then some ((0, q36.2)) else some ((0, q36.2)))) else none) else (if v1 = 1 then (if zin v2 8 = true then (if zin v2 8 = true then ((f_X12_beforeOf J (q32.2 159 (Int32.toNatClampNeg v2)) (q32.2 160 (Int32.toNatClampNeg v2)) v3 q32.2).bind fun q49 => (if zin v3 6 = true then ((f_X12_isThere J v3 q49.1 (zu q49.2 172 (Int32.toNatClampNeg v3) (v1 + (1 : Int32)))).bind fun q52 => (if q52.1 = 0 then some ((0, q52.2)) else some ((q49.1, q52.2)))) else none)) else none) else none) else (if zin v2 8 = true then ((f_X12_customOf J (q32.2 161 (Int32.toNatClampNeg v2)) v3 q32.2).bind fun q41 => (if zin v3 6 = true then ((f_X12_isThere J v3 q41.1 (zu q41.2 172 (Int32.toNatClampNeg v3) (v1 + (1 : Int32)))).bind fun q44 => (if q44.1 = 0 then some ((0, q44.2)) else some ((q41.1, q44.2)))) else none)) else none)))) else none) else none))) else none) else none)) else (if v1 = 2 then (if v1 = 1 then (if v1 = 1 then (if zin v2 8 = true then (if zin v2 8 = true then ((f_X12_beforeOf J (I 159 (Int32.toNatClampNeg v2)) (I 160 (Int32.toNatClampNeg v2)) v3 I).bind fun q106 => (if zin v3 6 = true then ((f_X12_isThere J v3 q106.1 (zu q106.2 172 (Int32.toNatClampNeg v3) (v1 + (1 : Int32)))).bind fun q109 => (if q109.1 = 0 then some ((0, q109.2)) else some ((q106.1, q109.2)))) else none)) else none) else none) else (if zin v2 8 = true then ((f_X12_customOf J (I 161 (Int32.toNatClampNeg v2)) v3 I).bind fun q98 => (if zin v3 6 = true then ((f_X12_isThere J v3 q98.1 (zu q98.2 172 (Int32.toNatClampNeg v3) (v1 + (1 : Int32)))).bind fun q101 => (if q101.1 = 0 then some ((0, q101.2)) else some ((q98.1, q101.2)))) else none)) else none)) else (if zin v2 8 = true then (if zin v2 8 = true then ((f_X12_isKnowing J (I 159 (Int32.toNatClampNeg v2)) (I 161 (Int32.toNatClampNeg v2)) I).bind fun q114 => (if q114.1 = 0 then (if zin v3 6 = true then ((f_X12_isThere J v3 0 (zu q114.2 172 (Int32.toNatClampNeg v3) (v1 + (1 : Int32)))).bind fun q118 => (if q118.1 = 0 then some ((0, q118.2)) else some ((0, q118.2)))) else none) else (if zin v2 8 = true then (if zin v2 8 = true then ((f_X12_isKnowing J (q114.2 160 (Int32.toNatClampNeg v2)) (q114.2 161 (Int32.toNatClampNeg v2)) q114.2).bind fun q123 => (if q123.1 = 0 then (if zin v3 6 = true then ((f_X12_isThere J v3 0 (zu q123.2 172 (Int32.toNatClampNeg v3) (v1 + (1 : Int32)))).bind fun q127 => (if q127.1 = 0 then some ((0, q127.2)) else some ((0, q127.2)))) else none) else (if v1 = 1 then (if zin v2 8 = true then (if zin v2 8 = true then ((f_X12_beforeOf J (q123.2 159 (Int32.toNatClampNeg v2)) (q123.2 160 (Int32.toNatClampNeg v2)) v3 q123.2).bind fun q140 => (if zin v3 6 = true then ((f_X12_isThere J v3 q140.1 (zu q140.2 172 (Int32.toNatClampNeg v3) (v1 + (1 : Int32)))).bind fun q143 => (if q143.1 = 0 then some ((0, q143.2)) else some ((q140.1, q143.2)))) else none)) else none) else none) else (if zin v2 8 = true then ((f_X12_customOf J (q123.2 161 (Int32.toNatClampNeg v2)) v3 q123.2).bind fun q132 => (if zin v3 6 = true then ((f_X12_isThere J v3 q132.1 (zu q132.2 172 (Int32.toNatClampNeg v3) (v1 + (1 : Int32)))).bind fun q135 => (if q135.1 = 0 then some ((0, q135.2)) else some ((q132.1, q135.2)))) else none)) else none)))) else none) else none))) else none) else none)) else (if v1 = 3 then (if I 147 32 = v3 then ((f_X12_isThere J v3 (I 147 33) I).bind fun q80 => (if q80.1 = 0 then (if v1 = 3 then ((f_X12_ruleFor J 0 v2 v3 q80.2).bind fun q89 => (if zin v3 6 = true then (if q89.1 = (-9) then some ((0, zu q89.2 172 (Int32.toNatClampNeg v3) ((10 : Int32) + q89.1))) else (if zin (((6 : Int32) * q89.1) + (2 : Int32)) 72 = true then some (((zu q89.2 172 (Int32.toNatClampNeg v3) ((10 : Int32) + q89.1)) 155 (Int32.toNatClampNeg (((6 : Int32) * q89.1) + (2 : Int32))), zu q89.2 172 (Int32.toNatClampNeg v3) ((10 : Int32) + q89.1))) else none)) else none)) else ((f_X12_ruleFor J 2 v2 v3 q80.2).bind fun q84 => (if zin v3 6 = true then (if q84.1 = (-9) then some ((0, zu q84.2 172 (Int32.toNatClampNeg v3) ((10 : Int32) + q84.1))) else (if zin (((6 : Int32) * q84.1) + (2 : Int32)) 72 = true then some (((zu q84.2 172 (Int32.toNatClampNeg v3) ((10 : Int32) + q84.1)) 155 (Int32.toNatClampNeg (((6 : Int32) * q84.1) + (2 : Int32))), zu q84.2 172 (Int32.toNatClampNeg v3) ((10 : Int32) + q84.1))) else none)) else none))) else (if zin v3 6 = true then some (((zu q80.2 172 (Int32.toNatClampNeg v3) 9) 147 33, zu q80.2 172 (Int32.toNatClampNeg v3) 9)) else none))) else (if v1 = 3 then ((f_X12_ruleFor J 0 v2 v3 I).bind fun q75 => (if zin v3 6 = true then (if q75.1 = (-9) then some ((0, zu q75.2 172 (Int32.toNatClampNeg v3) ((10 : Int32) + q75.1))) else (if zin (((6 : Int32) * q75.1) + (2 : Int32)) 72 = true then some (((zu q75.2 172 (Int32.toNatClampNeg v3) ((10 : Int32) + q75.1)) 155 (Int32.toNatClampNeg (((6 : Int32) * q75.1) + (2 : Int32))), zu q75.2 172 (Int32.toNatClampNeg v3) ((10 : Int32) + q75.1))) else none)) else none)) else ((f_X12_ruleFor J 2 v2 v3 I).bind fun q70 => (if zin v3 6 = true then (if q70.1 = (-9) then some ((0, zu q70.2 172 (Int32.toNatClampNeg v3) ((10 : Int32) + q70.1))) else (if zin (((6 : Int32) * q70.1) + (2 : Int32)) 72 = true then some (((zu q70.2 172 (Int32.toNatClampNeg v3) ((10 : Int32) + q70.1)) 155 (Int32.toNatClampNeg (((6 : Int32) * q70.1) + (2 : Int32))), zu q70.2 172 (Int32.toNatClampNeg v3) ((10 : Int32) + q70.1))) else none)) else none)))) else (if v1 = 3 then ((f_X12_ruleFor J 0 v2 v3 I).bind fun q63 => (if zin v3 6 = true then (if q63.1 = (-9) then some ((0, zu q63.2 172 (Int32.toNatClampNeg v3) ((10 : Int32) + q63.1))) else (if zin (((6 : Int32) * q63.1) + (2 : Int32)) 72 = true then some (((zu q63.2 172 (Int32.toNatClampNeg v3) ((10 : Int32) + q63.1)) 155 (Int32.toNatClampNeg (((6 : Int32) * q63.1) + (2 : Int32))), zu q63.2 172 (Int32.toNatClampNeg v3) ((10 : Int32) + q63.1))) else none)) else none)) else ((f_X12_ruleFor J 2 v2 v3 I).bind fun q58 => (if zin v3 6 = true then (if q58.1 = (-9) then some ((0, zu q58.2 172 (Int32.toNatClampNeg v3) ((10 : Int32) + q58.1))) else (if zin (((6 : Int32) * q58.1) + (2 : Int32)) 72 = true then some (((zu q58.2 172 (Int32.toNatClampNeg v3) ((10 : Int32) + q58.1)) 155 (Int32.toNatClampNeg (((6 : Int32) * q58.1) + (2 : Int32))), zu q58.2 172 (Int32.toNatClampNeg v3) ((10 : Int32) + q58.1))) else none)) else none)))))) else (if zin v2 8 = true then (if ((I 163 (Int32.toNatClampNeg v2)) >>> (v1 &&& 31)) &&& (1 : Int32) = 1 then some ((0, I)) else (if v1 = 1 then (if v1 = 1 then (if v1 = 1 then (if zin v2 8 = true then (if zin v2 8 = true then ((f_X12_beforeOf J (I 159 (Int32.toNatClampNeg v2)) (I 160 (Int32.toNatClampNeg v2)) v3 I).bind fun q160 => (if zin v3 6 = true then ((f_X12_isThere J v3 q160.1 (zu q160.2 172 (Int32.toNatClampNeg v3) (v1 + (1 : Int32)))).bind fun q163 => (if q163.1 = 0 then some ((0, q163.2)) else some ((q160.1, q163.2)))) else none)) else none) else none) else (if zin v2 8 = true then ((f_X12_customOf J (I 161 (Int32.toNatClampNeg v2)) v3 I).bind fun q152 => (if zin v3 6 = true then ((f_X12_isThere J v3 q152.1 (zu q152.2 172 (Int32.toNatClampNeg v3) (v1 + (1 : Int32)))).bind fun q155 => (if q155.1 = 0 then some ((0, q155.2)) else some ((q152.1, q155.2)))) else none)) else none)) else (if zin v2 8 = true then (if zin v2 8 = true then ((f_X12_isKnowing J (I 159 (Int32.toNatClampNeg v2)) (I 161 (Int32.toNatClampNeg v2)) I).bind fun q168 => (if q168.1 = 0 then (if zin v3 6 = true then ((f_X12_isThere J v3 0 (zu q168.2 172 (Int32.toNatClampNeg v3) (v1 + (1 : Int32)))).bind fun q172 => (if q172.1 = 0 then some ((0, q172.2)) else some ((0, q172.2)))) else none) else (if zin v2 8 = true then (if zin v2 8 = true then ((f_X12_isKnowing J (q168.2 160 (Int32.toNatClampNeg v2)) (q168.2 161 (Int32.toNatClampNeg v2)) q168.2).bind fun q177 => (if q177.1 = 0 then (if zin v3 6 = true then ((f_X12_isThere J v3 0 (zu q177.2 172 (Int32.toNatClampNeg v3) (v1 + (1 : Int32)))).bind fun q181 => (if q181.1 = 0 then some ((0, q181.2)) else some ((0, q181.2)))) else none) else (if v1 = 1 then (if zin v2 8 = true then (if zin v2 8 = true then ((f_X12_beforeOf J (q177.2 159 (Int32.toNatClampNeg v2)) (q177.2 160 (Int32.toNatClampNeg v2)) v3 q177.2).bind fun q194 => (if zin v3 6 = true then ((f_X12_isThere J v3 q194.1 (zu q194.2 172 (Int32.toNatClampNeg v3) (v1 + (1 : Int32)))).bind fun q197 => (if q197.1 = 0 then some ((0, q197.2)) else some ((q194.1, q197.2)))) else none)) else none) else none) else (if zin v2 8 = true then ((f_X12_customOf J (q177.2 161 (Int32.toNatClampNeg v2)) v3 q177.2).bind fun q186 => (if zin v3 6 = true then ((f_X12_isThere J v3 q186.1 (zu q186.2 172 (Int32.toNatClampNeg v3) (v1 + (1 : Int32)))).bind fun q189 => (if q189.1 = 0 then some ((0, q189.2)) else some ((q186.1, q189.2)))) else none)) else none)))) else none) else none))) else none) else none)) else (if v1 = 2 then (if v1 = 1 then (if v1 = 1 then (if zin v2 8 = true then (if zin v2 8 = true then ((f_X12_beforeOf J (I 159 (Int32.toNatClampNeg v2)) (I 160 (Int32.toNatClampNeg v2)) v3 I).bind fun q251 => (if zin v3 6 = true then ((f_X12_isThere J v3 q251.1 (zu q251.2 172 (Int32.toNatClampNeg v3) (v1 + (1 : Int32)))).bind fun q254 => (if q254.1 = 0 then some ((0, q254.2)) else some ((q251.1, q254.2)))) else none)) else none) else none) else (if zin v2 8 = true then ((f_X12_customOf J (I 161 (Int32.toNatClampNeg v2)) v3 I).bind fun q243 => (if zin v3 6 = true then ((f_X12_isThere J v3 q243.1 (zu q243.2 172 (Int32.toNatClampNeg v3) (v1 + (1 : Int32)))).bind fun q246 => (if q246.1 = 0 then some ((0, q246.2)) else some ((q243.1, q246.2)))) else none)) else none)) else (if zin v2 8 = true then (if zin v2 8 = true then ((f_X12_isKnowing J (I 159 (Int32.toNatClampNeg v2)) (I 161 (Int32.toNatClampNeg v2)) I).bind fun q259 => (if q259.1 = 0 then (if zin v3 6 = true then ((f_X12_isThere J v3 0 (zu q259.2 172 (Int32.toNatClampNeg v3) (v1 + (1 : Int32)))).bind fun q263 => (if q263.1 = 0 then some ((0, q263.2)) else some ((0, q263.2)))) else none) else (if zin v2 8 = true then (if zin v2 8 = true then ((f_X12_isKnowing J (q259.2 160 (Int32.toNatClampNeg v2)) (q259.2 161 (Int32.toNatClampNeg v2)) q259.2).bind fun q268 => (if q268.1 = 0 then (if zin v3 6 = true then ((f_X12_isThere J v3 0 (zu q268.2 172 (Int32.toNatClampNeg v3) (v1 + (1 : Int32)))).bind fun q272 => (if q272.1 = 0 then some ((0, q272.2)) else some ((0, q272.2)))) else none) else (if v1 = 1 then (if zin v2 8 = true then (if zin v2 8 = true then ((f_X12_beforeOf J (q268.2 159 (Int32.toNatClampNeg v2)) (q268.2 160 (Int32.toNatClampNeg v2)) v3 q268.2).bind fun q285 => (if zin v3 6 = true then ((f_X12_isThere J v3 q285.1 (zu q285.2 172 (Int32.toNatClampNeg v3) (v1 + (1 : Int32)))).bind fun q288 => (if q288.1 = 0 then some ((0, q288.2)) else some ((q285.1, q288.2)))) else none)) else none) else none) else (if zin v2 8 = true then ((f_X12_customOf J (q268.2 161 (Int32.toNatClampNeg v2)) v3 q268.2).bind fun q277 => (if zin v3 6 = true then ((f_X12_isThere J v3 q277.1 (zu q277.2 172 (Int32.toNatClampNeg v3) (v1 + (1 : Int32)))).bind fun q280 => (if q280.1 = 0 then some ((0, q280.2)) else some ((q277.1, q280.2)))) else none)) else none)))) else none) else none))) else none) else none)) else (if v1 = 3 then (if I 147 32 = v3 then ((f_X12_isThere J v3 (I 147 33) I).bind fun q225 => (if q225.1 = 0 then (if v1 = 3 then ((f_X12_ruleFor J 0 v2 v3 q225.2).bind fun q234 => (if zin v3 6 = true then (if q234.1 = (-9) then some ((0, zu q234.2 172 (Int32.toNatClampNeg v3) ((10 : Int32) + q234.1))) else (if zin (((6 : Int32) * q234.1) + (2 : Int32)) 72 = true then some (((zu q234.2 172 (Int32.toNatClampNeg v3) ((10 : Int32) + q234.1)) 155 (Int32.toNatClampNeg (((6 : Int32) * q234.1) + (2 : Int32))), zu q234.2 172 (Int32.toNatClampNeg v3) ((10 : Int32) + q234.1))) else none)) else none)) else ((f_X12_ruleFor J 2 v2 v3 q225.2).bind fun q229 => (if zin v3 6 = true then (if q229.1 = (-9) then some ((0, zu q229.2 172 (Int32.toNatClampNeg v3) ((10 : Int32) + q229.1))) else (if zin (((6 : Int32) * q229.1) + (2 : Int32)) 72 = true then some (((zu q229.2 172 (Int32.toNatClampNeg v3) ((10 : Int32) + q229.1)) 155 (Int32.toNatClampNeg (((6 : Int32) * q229.1) + (2 : Int32))), zu q229.2 172 (Int32.toNatClampNeg v3) ((10 : Int32) + q229.1))) else none)) else none))) else (if zin v3 6 = true then some (((zu q225.2 172 (Int32.toNatClampNeg v3) 9) 147 33, zu q225.2 172 (Int32.toNatClampNeg v3) 9)) else none))) else (if v1 = 3 then ((f_X12_ruleFor J 0 v2 v3 I).bind fun q220 => (if zin v3 6 = true then (if q220.1 = (-9) then some ((0, zu q220.2 172 (Int32.toNatClampNeg v3) ((10 : Int32) + q220.1))) else (if zin (((6 : Int32) * q220.1) + (2 : Int32)) 72 = true then some (((zu q220.2 172 (Int32.toNatClampNeg v3) ((10 : Int32) + q220.1)) 155 (Int32.toNatClampNeg (((6 : Int32) * q220.1) + (2 : Int32))), zu q220.2 172 (Int32.toNatClampNeg v3) ((10 : Int32) + q220.1))) else none)) else none)) else ((f_X12_ruleFor J 2 v2 v3 I).bind fun q215 => (if zin v3 6 = true then (if q215.1 = (-9) then some ((0, zu q215.2 172 (Int32.toNatClampNeg v3) ((10 : Int32) + q215.1))) else (if zin (((6 : Int32) * q215.1) + (2 : Int32)) 72 = true then some (((zu q215.2 172 (Int32.toNatClampNeg v3) ((10 : Int32) + q215.1)) 155 (Int32.toNatClampNeg (((6 : Int32) * q215.1) + (2 : Int32))), zu q215.2 172 (Int32.toNatClampNeg v3) ((10 : Int32) + q215.1))) else none)) else none)))) else (if v1 = 3 then ((f_X12_ruleFor J 0 v2 v3 I).bind fun q208 => (if zin v3 6 = true then (if q208.1 = (-9) then some ((0, zu q208.2 172 (Int32.toNatClampNeg v3) ((10 : Int32) + q208.1))) else (if zin (((6 : Int32) * q208.1) + (2 : Int32)) 72 = true then some (((zu q208.2 172 (Int32.toNatClampNeg v3) ((10 : Int32) + q208.1)) 155 (Int32.toNatClampNeg (((6 : Int32) * q208.1) + (2 : Int32))), zu q208.2 172 (Int32.toNatClampNeg v3) ((10 : Int32) + q208.1))) else none)) else none)) else ((f_X12_ruleFor J 2 v2 v3 I).bind fun q203 => (if zin v3 6 = true then (if q203.1 = (-9) then some ((0, zu q203.2 172 (Int32.toNatClampNeg v3) ((10 : Int32) + q203.1))) else (if zin (((6 : Int32) * q203.1) + (2 : Int32)) 72 = true then some (((zu q203.2 172 (Int32.toNatClampNeg v3) ((10 : Int32) + q203.1)) 155 (Int32.toNatClampNeg (((6 : Int32) * q203.1) + (2 : Int32))), zu q203.2 172 (Int32.toNatClampNeg v3) ((10 : Int32) + q203.1))) else none)) else none))))))) else none)))
noncomputable abbrev rmX12_filledBy : Room := { frames := 3, cells := 0, slots := 0, locals := 73 }
theorem zyX12_filledBy : zY yX12_filledBy wsX12_filledBy cX12_filledBy 6 (some .int) 3 := ⟨⟨_, rfl⟩, by decide +kernel⟩
theorem zrX12_filledBy_X12_beforeOf : zRm rmX12_beforeOf rmX12_filledBy 10 := ⟨rfl, rfl, by decide, by decide⟩
theorem zrX12_filledBy_X12_customOf : zRm rmX12_customOf rmX12_filledBy 6 := ⟨rfl, rfl, by decide, by decide⟩
theorem zrX12_filledBy_X12_isKnowing : zRm rmX12_isKnowing rmX12_filledBy 5 := ⟨rfl, rfl, by decide, by decide⟩
theorem zrX12_filledBy_X12_isThere : zRm rmX12_isThere rmX12_filledBy 3 := ⟨rfl, rfl, by decide, by decide⟩
theorem zrX12_filledBy_X12_ruleFor : zRm rmX12_ruleFor rmX12_filledBy 7 := ⟨rfl, rfl, by decide, by decide⟩
set_option maxHeartbeats 1000000 in
set_option maxRecDepth 100000 in
theorem c_X12_filledBy (B : zB) (I : zM) (J : zJ) (hJ : zJok J) (v1 : Int32) (v2 : Int32) (v3 : Int32) (r : Int32) (I' : zM) (hf : f_X12_filledBy J v1 v2 v3 I = some (r, I')) : zCi B zKW I J yX12_filledBy wsX12_filledBy rmX12_filledBy [.ref (za B 147), .int v1, .int v2, .int v3] (fun r2 I2 J2 => r2 = r ∧ I2 = I' ∧ J2 = J) := by
  refine z_start (own := RX12) (cc := cX12_filledBy) (nL := 6) (ret := (some .int)) rfl (by decide) rfl (Nat.le_of_ble_eq_true rfl) (L := [(0, .ref (za B 147)), (1, .int v1), (2, .int v2), (3, .int v3)]) rfl (fun G h hr => ?_)
  rw [f_X12_filledBy] at hf
  refine z_iload_n h 1 dX12_filledBy_0 rfl (rfl : 0 + 1 = 1) ?_
  refine z_if_ne (pc' := 4) h 46 dX12_filledBy_1 (by decide) rfl (fun c1 => ?_) (fun c1 => ?_)
  · have hf := zitf c1 hf
    refine z_iload_n h 1 dX12_filledBy_46 rfl (rfl : 46 + 1 = 47) ?_
    refine z_iconst h 4 dX12_filledBy_47 (by decide) (rfl : 47 + 1 = 48) ?_
    refine z_icmp_ge (pc' := 51) h 67 dX12_filledBy_48 (by decide) rfl (fun c2 => ?_) (fun c2 => ?_)
    · have hf := zitt c2 hf
      refine z_iload_n h 1 dX12_filledBy_67 rfl (rfl : 67 + 1 = 68) ?_
      refine z_iconst h 1 dX12_filledBy_68 (by decide) (rfl : 68 + 1 = 69) ?_
      refine z_icmp_eq (pc' := 72) h 77 dX12_filledBy_69 (by decide) rfl (fun c3 => ?_) (fun c3 => ?_)
      · have hf := zitt c3 hf
        refine z_iload_n h 1 dX12_filledBy_77 rfl (rfl : 77 + 1 = 78) ?_
        refine z_iconst h 1 dX12_filledBy_78 (by decide) (rfl : 78 + 1 = 79) ?_
        refine z_icmp_eq (pc' := 82) h 120 dX12_filledBy_79 (by decide) rfl (fun c4 => ?_) (fun c4 => ?_)
        · have hf := zitt c4 hf
          refine z_iconst h 1 dX12_filledBy_120 (by decide) (rfl : 120 + 1 = 121) ?_
          refine z_goto (pc' := 125) h dX12_filledBy_121 (by decide) ?_
          refine z_istore h [(4, .int 1), (0, .ref (za B 147)), (1, .int v1), (2, .int v2), (3, .int v3)] dX12_filledBy_125 (by decide) rfl (rfl : 125 + 2 = 127) ?_
          refine z_iload h 0 dX12_filledBy_127 rfl (rfl : 127 + 2 = 129) ?_
          refine z_if_ne (pc' := 132) h 136 dX12_filledBy_129 (by decide) rfl (fun _ => ?_) (fun q => absurd q (by decide))
          refine z_iload_n h 2 dX12_filledBy_136 rfl (rfl : 136 + 1 = 137) ?_
          refine z_iconst h 1 dX12_filledBy_137 (by decide) (rfl : 137 + 1 = 138) ?_
          refine z_icmp_ne (pc' := 141) h 161 dX12_filledBy_138 (by decide) rfl (fun c5 => ?_) (fun c5 => ?_)
          · have hf := zitf c5 hf
            refine z_aload_n h 1 dX12_filledBy_161 rfl (rfl : 161 + 1 = 162) ?_
            refine z_aload_n h 1 dX12_filledBy_162 rfl (rfl : 162 + 1 = 163) ?_
            refine z_getr (ci := 11) (C := RX12) (T := TX12) (N := 46) h 21 161 ((hJ.1 147 21 (by decide)).trans rfl) rfl rfl (fun _ hq => List.mem_cons_of_mem _ (List.mem_append_right _ hq)) (by decide) (List.mem_of_getElem? (i := 5) rfl) rfl dX12_filledBy_163 (rfl : 163 + 3 = 166) ?_
            refine z_iload_n h 3 dX12_filledBy_166 rfl (rfl : 166 + 1 = 167) ?_
            obtain ⟨b6, hf⟩ := zchk hf
            refine z_iald h rfl b6 dX12_filledBy_167 (rfl : 167 + 1 = 168) ?_
            refine z_iload_n h 4 dX12_filledBy_168 rfl (rfl : 168 + 1 = 169) ?_
            obtain ⟨q7, e8, hf⟩ := zbind hf
            refine z_goF (z_runV (C := RX12) (T := TX12) (N := 46) (ci := 11) h [.int (I 161 (Int32.toNatClampNeg v2)), .int v3] [] zyX12_customOf (c_X12_customOf B I J hJ (I 161 (Int32.toNatClampNeg v2)) v3 _ _ e8) gX12_filledBy_X12_customOf rfl rfl rfl zrX12_filledBy_X12_customOf rfl (Nat.le_of_ble_eq_true rfl) ⟨Nat.zero_le _, Nat.zero_le _⟩ rfl dX12_filledBy_169) rfl ?_
            refine z_istore h [(5, .int q7.1), (4, .int 1), (0, .ref (za B 147)), (1, .int v1), (2, .int v2), (3, .int v3)] dX12_filledBy_172 (by decide) rfl (rfl : 172 + 2 = 174) ?_
            refine z_aload_n h 2 dX12_filledBy_174 rfl (rfl : 174 + 1 = 175) ?_
            refine z_getr (ci := 11) (C := RX12) (T := TX12) (N := 46) h 36 172 ((hJ.1 147 36 (by decide)).trans rfl) rfl rfl (fun _ hq => List.mem_cons_of_mem _ (List.mem_append_right _ hq)) (by decide) (List.mem_of_getElem? (i := 1) rfl) rfl dX12_filledBy_175 (rfl : 175 + 3 = 178) ?_
            refine z_iload_n h 5 dX12_filledBy_178 rfl (rfl : 178 + 1 = 179) ?_
            refine z_iload_n h 3 dX12_filledBy_179 rfl (rfl : 179 + 1 = 180) ?_
            refine z_iconst h 1 dX12_filledBy_180 (by decide) (rfl : 180 + 1 = 181) ?_
            refine z_iadd h dX12_filledBy_181 (rfl : 181 + 1 = 182) ?_
            obtain ⟨b9, hf⟩ := zchk hf
            refine z_iast h b9 rfl dX12_filledBy_182 (rfl : 182 + 1 = 183) ?_
            refine z_aload_n h 2 dX12_filledBy_183 rfl (rfl : 183 + 1 = 184) ?_
            refine z_iload_n h 5 dX12_filledBy_184 rfl (rfl : 184 + 1 = 185) ?_
            refine z_iload h 0 dX12_filledBy_185 rfl (rfl : 185 + 2 = 187) ?_
            obtain ⟨q10, e11, hf⟩ := zbind hf
            refine z_goF (z_runV (C := RX12) (T := TX12) (N := 46) (ci := 11) h [.int v3, .int q7.1] [] zyX12_isThere (c_X12_isThere B (zu q7.2 172 (Int32.toNatClampNeg v3) (v1 + (1 : Int32))) J hJ v3 q7.1 _ _ e11) gX12_filledBy_X12_isThere rfl rfl rfl zrX12_filledBy_X12_isThere rfl (Nat.le_of_ble_eq_true rfl) ⟨Nat.zero_le _, Nat.zero_le _⟩ rfl dX12_filledBy_187) rfl ?_
            refine z_if_eq (pc' := 193) h 198 dX12_filledBy_190 (by decide) rfl (fun c12 => ?_) (fun c12 => ?_)
            · have hf := zitt c12 hf
              refine z_iconst h 0 dX12_filledBy_198 (by decide) (rfl : 198 + 1 = 199) ?_
              refine z_iret h hr dX12_filledBy_199 ?_
              exact ⟨congrArg Prod.fst (zsome hf), congrArg Prod.snd (zsome hf), rfl⟩
            · have hf := zitf c12 hf
              refine z_iload h 0 dX12_filledBy_193 rfl (rfl : 193 + 2 = 195) ?_
              refine z_goto (pc' := 199) h dX12_filledBy_195 (by decide) ?_
              refine z_iret h hr dX12_filledBy_199 ?_
              exact ⟨congrArg Prod.fst (zsome hf), congrArg Prod.snd (zsome hf), rfl⟩
          · have hf := zitt c5 hf
            refine z_aload_n h 1 dX12_filledBy_141 rfl (rfl : 141 + 1 = 142) ?_
            refine z_aload_n h 1 dX12_filledBy_142 rfl (rfl : 142 + 1 = 143) ?_
            refine z_getr (ci := 11) (C := RX12) (T := TX12) (N := 46) h 19 159 ((hJ.1 147 19 (by decide)).trans rfl) rfl rfl (fun _ hq => List.mem_cons_of_mem _ (List.mem_append_right _ hq)) (by decide) (List.mem_of_getElem? (i := 4) rfl) rfl dX12_filledBy_143 (rfl : 143 + 3 = 146) ?_
            refine z_iload_n h 3 dX12_filledBy_146 rfl (rfl : 146 + 1 = 147) ?_
            obtain ⟨b13, hf⟩ := zchk hf
            refine z_iald h rfl b13 dX12_filledBy_147 (rfl : 147 + 1 = 148) ?_
            refine z_aload_n h 1 dX12_filledBy_148 rfl (rfl : 148 + 1 = 149) ?_
            refine z_getr (ci := 11) (C := RX12) (T := TX12) (N := 46) h 20 160 ((hJ.1 147 20 (by decide)).trans rfl) rfl rfl (fun _ hq => List.mem_cons_of_mem _ (List.mem_append_right _ hq)) (by decide) (List.mem_of_getElem? (i := 6) rfl) rfl dX12_filledBy_149 (rfl : 149 + 3 = 152) ?_
            refine z_iload_n h 3 dX12_filledBy_152 rfl (rfl : 152 + 1 = 153) ?_
            obtain ⟨b14, hf⟩ := zchk hf
            refine z_iald h rfl b14 dX12_filledBy_153 (rfl : 153 + 1 = 154) ?_
            refine z_iload_n h 4 dX12_filledBy_154 rfl (rfl : 154 + 1 = 155) ?_
            obtain ⟨q15, e16, hf⟩ := zbind hf
            refine z_goF (z_runV (C := RX12) (T := TX12) (N := 46) (ci := 11) h [.int (I 159 (Int32.toNatClampNeg v2)), .int (I 160 (Int32.toNatClampNeg v2)), .int v3] [] zyX12_beforeOf (c_X12_beforeOf B I J hJ (I 159 (Int32.toNatClampNeg v2)) (I 160 (Int32.toNatClampNeg v2)) v3 _ _ e16) gX12_filledBy_X12_beforeOf rfl rfl rfl zrX12_filledBy_X12_beforeOf rfl (Nat.le_of_ble_eq_true rfl) ⟨Nat.zero_le _, Nat.zero_le _⟩ rfl dX12_filledBy_155) rfl ?_
            refine z_goto (pc' := 172) h dX12_filledBy_158 (by decide) ?_
            refine z_istore h [(5, .int q15.1), (4, .int 1), (0, .ref (za B 147)), (1, .int v1), (2, .int v2), (3, .int v3)] dX12_filledBy_172 (by decide) rfl (rfl : 172 + 2 = 174) ?_
            refine z_aload_n h 2 dX12_filledBy_174 rfl (rfl : 174 + 1 = 175) ?_
            refine z_getr (ci := 11) (C := RX12) (T := TX12) (N := 46) h 36 172 ((hJ.1 147 36 (by decide)).trans rfl) rfl rfl (fun _ hq => List.mem_cons_of_mem _ (List.mem_append_right _ hq)) (by decide) (List.mem_of_getElem? (i := 1) rfl) rfl dX12_filledBy_175 (rfl : 175 + 3 = 178) ?_
            refine z_iload_n h 5 dX12_filledBy_178 rfl (rfl : 178 + 1 = 179) ?_
            refine z_iload_n h 3 dX12_filledBy_179 rfl (rfl : 179 + 1 = 180) ?_
            refine z_iconst h 1 dX12_filledBy_180 (by decide) (rfl : 180 + 1 = 181) ?_
            refine z_iadd h dX12_filledBy_181 (rfl : 181 + 1 = 182) ?_
            obtain ⟨b17, hf⟩ := zchk hf
            refine z_iast h b17 rfl dX12_filledBy_182 (rfl : 182 + 1 = 183) ?_
            refine z_aload_n h 2 dX12_filledBy_183 rfl (rfl : 183 + 1 = 184) ?_
            refine z_iload_n h 5 dX12_filledBy_184 rfl (rfl : 184 + 1 = 185) ?_
            refine z_iload h 0 dX12_filledBy_185 rfl (rfl : 185 + 2 = 187) ?_
            obtain ⟨q18, e19, hf⟩ := zbind hf
            refine z_goF (z_runV (C := RX12) (T := TX12) (N := 46) (ci := 11) h [.int v3, .int q15.1] [] zyX12_isThere (c_X12_isThere B (zu q15.2 172 (Int32.toNatClampNeg v3) (v1 + (1 : Int32))) J hJ v3 q15.1 _ _ e19) gX12_filledBy_X12_isThere rfl rfl rfl zrX12_filledBy_X12_isThere rfl (Nat.le_of_ble_eq_true rfl) ⟨Nat.zero_le _, Nat.zero_le _⟩ rfl dX12_filledBy_187) rfl ?_
            refine z_if_eq (pc' := 193) h 198 dX12_filledBy_190 (by decide) rfl (fun c20 => ?_) (fun c20 => ?_)
            · have hf := zitt c20 hf
              refine z_iconst h 0 dX12_filledBy_198 (by decide) (rfl : 198 + 1 = 199) ?_
              refine z_iret h hr dX12_filledBy_199 ?_
              exact ⟨congrArg Prod.fst (zsome hf), congrArg Prod.snd (zsome hf), rfl⟩
            · have hf := zitf c20 hf
              refine z_iload h 0 dX12_filledBy_193 rfl (rfl : 193 + 2 = 195) ?_
              refine z_goto (pc' := 199) h dX12_filledBy_195 (by decide) ?_
              refine z_iret h hr dX12_filledBy_199 ?_
              exact ⟨congrArg Prod.fst (zsome hf), congrArg Prod.snd (zsome hf), rfl⟩
        · have hf := zitf c4 hf
          refine z_aload_n h 0 dX12_filledBy_82 rfl (rfl : 82 + 1 = 83) ?_
          refine z_aload_n h 0 dX12_filledBy_83 rfl (rfl : 83 + 1 = 84) ?_
          refine z_getr (ci := 11) (C := RX12) (T := TX12) (N := 46) h 19 159 ((hJ.1 147 19 (by decide)).trans rfl) rfl rfl (fun _ hq => List.mem_cons_of_mem _ (List.mem_append_right _ hq)) (by decide) (List.mem_of_getElem? (i := 4) rfl) rfl dX12_filledBy_84 (rfl : 84 + 3 = 87) ?_
          refine z_iload_n h 2 dX12_filledBy_87 rfl (rfl : 87 + 1 = 88) ?_
          obtain ⟨b21, hf⟩ := zchk hf
          refine z_iald h rfl b21 dX12_filledBy_88 (rfl : 88 + 1 = 89) ?_
          refine z_aload_n h 0 dX12_filledBy_89 rfl (rfl : 89 + 1 = 90) ?_
          refine z_getr (ci := 11) (C := RX12) (T := TX12) (N := 46) h 21 161 ((hJ.1 147 21 (by decide)).trans rfl) rfl rfl (fun _ hq => List.mem_cons_of_mem _ (List.mem_append_right _ hq)) (by decide) (List.mem_of_getElem? (i := 5) rfl) rfl dX12_filledBy_90 (rfl : 90 + 3 = 93) ?_
          refine z_iload_n h 2 dX12_filledBy_93 rfl (rfl : 93 + 1 = 94) ?_
          obtain ⟨b22, hf⟩ := zchk hf
          refine z_iald h rfl b22 dX12_filledBy_94 (rfl : 94 + 1 = 95) ?_
          obtain ⟨q23, e24, hf⟩ := zbind hf
          refine z_goF (z_runV (C := RX12) (T := TX12) (N := 46) (ci := 11) h [.int (I 159 (Int32.toNatClampNeg v2)), .int (I 161 (Int32.toNatClampNeg v2))] [] zyX12_isKnowing (c_X12_isKnowing B I J hJ (I 159 (Int32.toNatClampNeg v2)) (I 161 (Int32.toNatClampNeg v2)) _ _ e24) gX12_filledBy_X12_isKnowing rfl rfl rfl zrX12_filledBy_X12_isKnowing rfl (Nat.le_of_ble_eq_true rfl) ⟨Nat.zero_le _, Nat.zero_le _⟩ rfl dX12_filledBy_95) rfl ?_
          refine z_if_eq (pc' := 101) h 124 dX12_filledBy_98 (by decide) rfl (fun c25 => ?_) (fun c25 => ?_)
          · have hf := zitt c25 hf
            refine z_iconst h 0 dX12_filledBy_124 (by decide) (rfl : 124 + 1 = 125) ?_
            refine z_istore h [(4, .int 0), (0, .ref (za B 147)), (1, .int v1), (2, .int v2), (3, .int v3)] dX12_filledBy_125 (by decide) rfl (rfl : 125 + 2 = 127) ?_
            refine z_iload h 0 dX12_filledBy_127 rfl (rfl : 127 + 2 = 129) ?_
            refine z_if_ne (pc' := 132) h 136 dX12_filledBy_129 (by decide) rfl (fun q => absurd q (by decide)) (fun _ => ?_)
            refine z_iconst h 0 dX12_filledBy_132 (by decide) (rfl : 132 + 1 = 133) ?_
            refine z_goto (pc' := 172) h dX12_filledBy_133 (by decide) ?_
            refine z_istore h [(5, .int 0), (4, .int 0), (0, .ref (za B 147)), (1, .int v1), (2, .int v2), (3, .int v3)] dX12_filledBy_172 (by decide) rfl (rfl : 172 + 2 = 174) ?_
            refine z_aload_n h 2 dX12_filledBy_174 rfl (rfl : 174 + 1 = 175) ?_
            refine z_getr (ci := 11) (C := RX12) (T := TX12) (N := 46) h 36 172 ((hJ.1 147 36 (by decide)).trans rfl) rfl rfl (fun _ hq => List.mem_cons_of_mem _ (List.mem_append_right _ hq)) (by decide) (List.mem_of_getElem? (i := 1) rfl) rfl dX12_filledBy_175 (rfl : 175 + 3 = 178) ?_
            refine z_iload_n h 5 dX12_filledBy_178 rfl (rfl : 178 + 1 = 179) ?_
            refine z_iload_n h 3 dX12_filledBy_179 rfl (rfl : 179 + 1 = 180) ?_
            refine z_iconst h 1 dX12_filledBy_180 (by decide) (rfl : 180 + 1 = 181) ?_
            refine z_iadd h dX12_filledBy_181 (rfl : 181 + 1 = 182) ?_
            obtain ⟨b26, hf⟩ := zchk hf
            refine z_iast h b26 rfl dX12_filledBy_182 (rfl : 182 + 1 = 183) ?_
            refine z_aload_n h 2 dX12_filledBy_183 rfl (rfl : 183 + 1 = 184) ?_
            refine z_iload_n h 5 dX12_filledBy_184 rfl (rfl : 184 + 1 = 185) ?_
            refine z_iload h 0 dX12_filledBy_185 rfl (rfl : 185 + 2 = 187) ?_
            obtain ⟨q27, e28, hf⟩ := zbind hf
            refine z_goF (z_runV (C := RX12) (T := TX12) (N := 46) (ci := 11) h [.int v3, .int 0] [] zyX12_isThere (c_X12_isThere B (zu q23.2 172 (Int32.toNatClampNeg v3) (v1 + (1 : Int32))) J hJ v3 0 _ _ e28) gX12_filledBy_X12_isThere rfl rfl rfl zrX12_filledBy_X12_isThere rfl (Nat.le_of_ble_eq_true rfl) ⟨Nat.zero_le _, Nat.zero_le _⟩ rfl dX12_filledBy_187) rfl ?_
            refine z_if_eq (pc' := 193) h 198 dX12_filledBy_190 (by decide) rfl (fun c29 => ?_) (fun c29 => ?_)
            · have hf := zitt c29 hf
              refine z_iconst h 0 dX12_filledBy_198 (by decide) (rfl : 198 + 1 = 199) ?_
              refine z_iret h hr dX12_filledBy_199 ?_
              exact ⟨congrArg Prod.fst (zsome hf), congrArg Prod.snd (zsome hf), rfl⟩
            · have hf := zitf c29 hf
              refine z_iload h 0 dX12_filledBy_193 rfl (rfl : 193 + 2 = 195) ?_
              refine z_goto (pc' := 199) h dX12_filledBy_195 (by decide) ?_
              refine z_iret h hr dX12_filledBy_199 ?_
              exact ⟨congrArg Prod.fst (zsome hf), congrArg Prod.snd (zsome hf), rfl⟩
          · have hf := zitf c25 hf
            refine z_aload_n h 0 dX12_filledBy_101 rfl (rfl : 101 + 1 = 102) ?_
            refine z_aload_n h 0 dX12_filledBy_102 rfl (rfl : 102 + 1 = 103) ?_
            refine z_getr (ci := 11) (C := RX12) (T := TX12) (N := 46) h 20 160 ((hJ.1 147 20 (by decide)).trans rfl) rfl rfl (fun _ hq => List.mem_cons_of_mem _ (List.mem_append_right _ hq)) (by decide) (List.mem_of_getElem? (i := 6) rfl) rfl dX12_filledBy_103 (rfl : 103 + 3 = 106) ?_
            refine z_iload_n h 2 dX12_filledBy_106 rfl (rfl : 106 + 1 = 107) ?_
            obtain ⟨b30, hf⟩ := zchk hf
            refine z_iald h rfl b30 dX12_filledBy_107 (rfl : 107 + 1 = 108) ?_
            refine z_aload_n h 0 dX12_filledBy_108 rfl (rfl : 108 + 1 = 109) ?_
            refine z_getr (ci := 11) (C := RX12) (T := TX12) (N := 46) h 21 161 ((hJ.1 147 21 (by decide)).trans rfl) rfl rfl (fun _ hq => List.mem_cons_of_mem _ (List.mem_append_right _ hq)) (by decide) (List.mem_of_getElem? (i := 5) rfl) rfl dX12_filledBy_109 (rfl : 109 + 3 = 112) ?_
            refine z_iload_n h 2 dX12_filledBy_112 rfl (rfl : 112 + 1 = 113) ?_
            obtain ⟨b31, hf⟩ := zchk hf
            refine z_iald h rfl b31 dX12_filledBy_113 (rfl : 113 + 1 = 114) ?_
            obtain ⟨q32, e33, hf⟩ := zbind hf
            refine z_goF (z_runV (C := RX12) (T := TX12) (N := 46) (ci := 11) h [.int (q23.2 160 (Int32.toNatClampNeg v2)), .int (q23.2 161 (Int32.toNatClampNeg v2))] [] zyX12_isKnowing (c_X12_isKnowing B q23.2 J hJ (q23.2 160 (Int32.toNatClampNeg v2)) (q23.2 161 (Int32.toNatClampNeg v2)) _ _ e33) gX12_filledBy_X12_isKnowing rfl rfl rfl zrX12_filledBy_X12_isKnowing rfl (Nat.le_of_ble_eq_true rfl) ⟨Nat.zero_le _, Nat.zero_le _⟩ rfl dX12_filledBy_114) rfl ?_
            refine z_if_eq (pc' := 120) h 124 dX12_filledBy_117 (by decide) rfl (fun c34 => ?_) (fun c34 => ?_)
            · have hf := zitt c34 hf
              refine z_iconst h 0 dX12_filledBy_124 (by decide) (rfl : 124 + 1 = 125) ?_
              refine z_istore h [(4, .int 0), (0, .ref (za B 147)), (1, .int v1), (2, .int v2), (3, .int v3)] dX12_filledBy_125 (by decide) rfl (rfl : 125 + 2 = 127) ?_
              refine z_iload h 0 dX12_filledBy_127 rfl (rfl : 127 + 2 = 129) ?_
              refine z_if_ne (pc' := 132) h 136 dX12_filledBy_129 (by decide) rfl (fun q => absurd q (by decide)) (fun _ => ?_)
              refine z_iconst h 0 dX12_filledBy_132 (by decide) (rfl : 132 + 1 = 133) ?_
              refine z_goto (pc' := 172) h dX12_filledBy_133 (by decide) ?_
              refine z_istore h [(5, .int 0), (4, .int 0), (0, .ref (za B 147)), (1, .int v1), (2, .int v2), (3, .int v3)] dX12_filledBy_172 (by decide) rfl (rfl : 172 + 2 = 174) ?_
              refine z_aload_n h 2 dX12_filledBy_174 rfl (rfl : 174 + 1 = 175) ?_
              refine z_getr (ci := 11) (C := RX12) (T := TX12) (N := 46) h 36 172 ((hJ.1 147 36 (by decide)).trans rfl) rfl rfl (fun _ hq => List.mem_cons_of_mem _ (List.mem_append_right _ hq)) (by decide) (List.mem_of_getElem? (i := 1) rfl) rfl dX12_filledBy_175 (rfl : 175 + 3 = 178) ?_
              refine z_iload_n h 5 dX12_filledBy_178 rfl (rfl : 178 + 1 = 179) ?_
              refine z_iload_n h 3 dX12_filledBy_179 rfl (rfl : 179 + 1 = 180) ?_
              refine z_iconst h 1 dX12_filledBy_180 (by decide) (rfl : 180 + 1 = 181) ?_
              refine z_iadd h dX12_filledBy_181 (rfl : 181 + 1 = 182) ?_
              obtain ⟨b35, hf⟩ := zchk hf
              refine z_iast h b35 rfl dX12_filledBy_182 (rfl : 182 + 1 = 183) ?_
              refine z_aload_n h 2 dX12_filledBy_183 rfl (rfl : 183 + 1 = 184) ?_
              refine z_iload_n h 5 dX12_filledBy_184 rfl (rfl : 184 + 1 = 185) ?_
              refine z_iload h 0 dX12_filledBy_185 rfl (rfl : 185 + 2 = 187) ?_
              obtain ⟨q36, e37, hf⟩ := zbind hf
              refine z_goF (z_runV (C := RX12) (T := TX12) (N := 46) (ci := 11) h [.int v3, .int 0] [] zyX12_isThere (c_X12_isThere B (zu q32.2 172 (Int32.toNatClampNeg v3) (v1 + (1 : Int32))) J hJ v3 0 _ _ e37) gX12_filledBy_X12_isThere rfl rfl rfl zrX12_filledBy_X12_isThere rfl (Nat.le_of_ble_eq_true rfl) ⟨Nat.zero_le _, Nat.zero_le _⟩ rfl dX12_filledBy_187) rfl ?_
              refine z_if_eq (pc' := 193) h 198 dX12_filledBy_190 (by decide) rfl (fun c38 => ?_) (fun c38 => ?_)
              · have hf := zitt c38 hf
                refine z_iconst h 0 dX12_filledBy_198 (by decide) (rfl : 198 + 1 = 199) ?_
                refine z_iret h hr dX12_filledBy_199 ?_
                exact ⟨congrArg Prod.fst (zsome hf), congrArg Prod.snd (zsome hf), rfl⟩
              · have hf := zitf c38 hf
                refine z_iload h 0 dX12_filledBy_193 rfl (rfl : 193 + 2 = 195) ?_
                refine z_goto (pc' := 199) h dX12_filledBy_195 (by decide) ?_
                refine z_iret h hr dX12_filledBy_199 ?_
                exact ⟨congrArg Prod.fst (zsome hf), congrArg Prod.snd (zsome hf), rfl⟩
            · have hf := zitf c34 hf
              refine z_iconst h 1 dX12_filledBy_120 (by decide) (rfl : 120 + 1 = 121) ?_
              refine z_goto (pc' := 125) h dX12_filledBy_121 (by decide) ?_
              refine z_istore h [(4, .int 1), (0, .ref (za B 147)), (1, .int v1), (2, .int v2), (3, .int v3)] dX12_filledBy_125 (by decide) rfl (rfl : 125 + 2 = 127) ?_
              refine z_iload h 0 dX12_filledBy_127 rfl (rfl : 127 + 2 = 129) ?_
              refine z_if_ne (pc' := 132) h 136 dX12_filledBy_129 (by decide) rfl (fun _ => ?_) (fun q => absurd q (by decide))
              refine z_iload_n h 2 dX12_filledBy_136 rfl (rfl : 136 + 1 = 137) ?_
              refine z_iconst h 1 dX12_filledBy_137 (by decide) (rfl : 137 + 1 = 138) ?_
              refine z_icmp_ne (pc' := 141) h 161 dX12_filledBy_138 (by decide) rfl (fun c39 => ?_) (fun c39 => ?_)
              · have hf := zitf c39 hf
                refine z_aload_n h 1 dX12_filledBy_161 rfl (rfl : 161 + 1 = 162) ?_
                refine z_aload_n h 1 dX12_filledBy_162 rfl (rfl : 162 + 1 = 163) ?_
                refine z_getr (ci := 11) (C := RX12) (T := TX12) (N := 46) h 21 161 ((hJ.1 147 21 (by decide)).trans rfl) rfl rfl (fun _ hq => List.mem_cons_of_mem _ (List.mem_append_right _ hq)) (by decide) (List.mem_of_getElem? (i := 5) rfl) rfl dX12_filledBy_163 (rfl : 163 + 3 = 166) ?_
                refine z_iload_n h 3 dX12_filledBy_166 rfl (rfl : 166 + 1 = 167) ?_
                obtain ⟨b40, hf⟩ := zchk hf
                refine z_iald h rfl b40 dX12_filledBy_167 (rfl : 167 + 1 = 168) ?_
                refine z_iload_n h 4 dX12_filledBy_168 rfl (rfl : 168 + 1 = 169) ?_
                obtain ⟨q41, e42, hf⟩ := zbind hf
                refine z_goF (z_runV (C := RX12) (T := TX12) (N := 46) (ci := 11) h [.int (q32.2 161 (Int32.toNatClampNeg v2)), .int v3] [] zyX12_customOf (c_X12_customOf B q32.2 J hJ (q32.2 161 (Int32.toNatClampNeg v2)) v3 _ _ e42) gX12_filledBy_X12_customOf rfl rfl rfl zrX12_filledBy_X12_customOf rfl (Nat.le_of_ble_eq_true rfl) ⟨Nat.zero_le _, Nat.zero_le _⟩ rfl dX12_filledBy_169) rfl ?_
                refine z_istore h [(5, .int q41.1), (4, .int 1), (0, .ref (za B 147)), (1, .int v1), (2, .int v2), (3, .int v3)] dX12_filledBy_172 (by decide) rfl (rfl : 172 + 2 = 174) ?_
                refine z_aload_n h 2 dX12_filledBy_174 rfl (rfl : 174 + 1 = 175) ?_
                refine z_getr (ci := 11) (C := RX12) (T := TX12) (N := 46) h 36 172 ((hJ.1 147 36 (by decide)).trans rfl) rfl rfl (fun _ hq => List.mem_cons_of_mem _ (List.mem_append_right _ hq)) (by decide) (List.mem_of_getElem? (i := 1) rfl) rfl dX12_filledBy_175 (rfl : 175 + 3 = 178) ?_
                refine z_iload_n h 5 dX12_filledBy_178 rfl (rfl : 178 + 1 = 179) ?_
                refine z_iload_n h 3 dX12_filledBy_179 rfl (rfl : 179 + 1 = 180) ?_
                refine z_iconst h 1 dX12_filledBy_180 (by decide) (rfl : 180 + 1 = 181) ?_
                refine z_iadd h dX12_filledBy_181 (rfl : 181 + 1 = 182) ?_
                obtain ⟨b43, hf⟩ := zchk hf
                refine z_iast h b43 rfl dX12_filledBy_182 (rfl : 182 + 1 = 183) ?_
                refine z_aload_n h 2 dX12_filledBy_183 rfl (rfl : 183 + 1 = 184) ?_
                refine z_iload_n h 5 dX12_filledBy_184 rfl (rfl : 184 + 1 = 185) ?_
                refine z_iload h 0 dX12_filledBy_185 rfl (rfl : 185 + 2 = 187) ?_
                obtain ⟨q44, e45, hf⟩ := zbind hf
                refine z_goF (z_runV (C := RX12) (T := TX12) (N := 46) (ci := 11) h [.int v3, .int q41.1] [] zyX12_isThere (c_X12_isThere B (zu q41.2 172 (Int32.toNatClampNeg v3) (v1 + (1 : Int32))) J hJ v3 q41.1 _ _ e45) gX12_filledBy_X12_isThere rfl rfl rfl zrX12_filledBy_X12_isThere rfl (Nat.le_of_ble_eq_true rfl) ⟨Nat.zero_le _, Nat.zero_le _⟩ rfl dX12_filledBy_187) rfl ?_
                refine z_if_eq (pc' := 193) h 198 dX12_filledBy_190 (by decide) rfl (fun c46 => ?_) (fun c46 => ?_)
                · have hf := zitt c46 hf
                  refine z_iconst h 0 dX12_filledBy_198 (by decide) (rfl : 198 + 1 = 199) ?_
                  refine z_iret h hr dX12_filledBy_199 ?_
                  exact ⟨congrArg Prod.fst (zsome hf), congrArg Prod.snd (zsome hf), rfl⟩
                · have hf := zitf c46 hf
                  refine z_iload h 0 dX12_filledBy_193 rfl (rfl : 193 + 2 = 195) ?_
                  refine z_goto (pc' := 199) h dX12_filledBy_195 (by decide) ?_
                  refine z_iret h hr dX12_filledBy_199 ?_
                  exact ⟨congrArg Prod.fst (zsome hf), congrArg Prod.snd (zsome hf), rfl⟩
              · have hf := zitt c39 hf
                refine z_aload_n h 1 dX12_filledBy_141 rfl (rfl : 141 + 1 = 142) ?_
                refine z_aload_n h 1 dX12_filledBy_142 rfl (rfl : 142 + 1 = 143) ?_
                refine z_getr (ci := 11) (C := RX12) (T := TX12) (N := 46) h 19 159 ((hJ.1 147 19 (by decide)).trans rfl) rfl rfl (fun _ hq => List.mem_cons_of_mem _ (List.mem_append_right _ hq)) (by decide) (List.mem_of_getElem? (i := 4) rfl) rfl dX12_filledBy_143 (rfl : 143 + 3 = 146) ?_
                refine z_iload_n h 3 dX12_filledBy_146 rfl (rfl : 146 + 1 = 147) ?_
                obtain ⟨b47, hf⟩ := zchk hf
                refine z_iald h rfl b47 dX12_filledBy_147 (rfl : 147 + 1 = 148) ?_
                refine z_aload_n h 1 dX12_filledBy_148 rfl (rfl : 148 + 1 = 149) ?_
                refine z_getr (ci := 11) (C := RX12) (T := TX12) (N := 46) h 20 160 ((hJ.1 147 20 (by decide)).trans rfl) rfl rfl (fun _ hq => List.mem_cons_of_mem _ (List.mem_append_right _ hq)) (by decide) (List.mem_of_getElem? (i := 6) rfl) rfl dX12_filledBy_149 (rfl : 149 + 3 = 152) ?_
                refine z_iload_n h 3 dX12_filledBy_152 rfl (rfl : 152 + 1 = 153) ?_
                obtain ⟨b48, hf⟩ := zchk hf
                refine z_iald h rfl b48 dX12_filledBy_153 (rfl : 153 + 1 = 154) ?_
                refine z_iload_n h 4 dX12_filledBy_154 rfl (rfl : 154 + 1 = 155) ?_
                obtain ⟨q49, e50, hf⟩ := zbind hf
                refine z_goF (z_runV (C := RX12) (T := TX12) (N := 46) (ci := 11) h [.int (q32.2 159 (Int32.toNatClampNeg v2)), .int (q32.2 160 (Int32.toNatClampNeg v2)), .int v3] [] zyX12_beforeOf (c_X12_beforeOf B q32.2 J hJ (q32.2 159 (Int32.toNatClampNeg v2)) (q32.2 160 (Int32.toNatClampNeg v2)) v3 _ _ e50) gX12_filledBy_X12_beforeOf rfl rfl rfl zrX12_filledBy_X12_beforeOf rfl (Nat.le_of_ble_eq_true rfl) ⟨Nat.zero_le _, Nat.zero_le _⟩ rfl dX12_filledBy_155) rfl ?_
                refine z_goto (pc' := 172) h dX12_filledBy_158 (by decide) ?_
                refine z_istore h [(5, .int q49.1), (4, .int 1), (0, .ref (za B 147)), (1, .int v1), (2, .int v2), (3, .int v3)] dX12_filledBy_172 (by decide) rfl (rfl : 172 + 2 = 174) ?_
                refine z_aload_n h 2 dX12_filledBy_174 rfl (rfl : 174 + 1 = 175) ?_
                refine z_getr (ci := 11) (C := RX12) (T := TX12) (N := 46) h 36 172 ((hJ.1 147 36 (by decide)).trans rfl) rfl rfl (fun _ hq => List.mem_cons_of_mem _ (List.mem_append_right _ hq)) (by decide) (List.mem_of_getElem? (i := 1) rfl) rfl dX12_filledBy_175 (rfl : 175 + 3 = 178) ?_
                refine z_iload_n h 5 dX12_filledBy_178 rfl (rfl : 178 + 1 = 179) ?_
                refine z_iload_n h 3 dX12_filledBy_179 rfl (rfl : 179 + 1 = 180) ?_
                refine z_iconst h 1 dX12_filledBy_180 (by decide) (rfl : 180 + 1 = 181) ?_
                refine z_iadd h dX12_filledBy_181 (rfl : 181 + 1 = 182) ?_
                obtain ⟨b51, hf⟩ := zchk hf
                refine z_iast h b51 rfl dX12_filledBy_182 (rfl : 182 + 1 = 183) ?_
                refine z_aload_n h 2 dX12_filledBy_183 rfl (rfl : 183 + 1 = 184) ?_
                refine z_iload_n h 5 dX12_filledBy_184 rfl (rfl : 184 + 1 = 185) ?_
                refine z_iload h 0 dX12_filledBy_185 rfl (rfl : 185 + 2 = 187) ?_
                obtain ⟨q52, e53, hf⟩ := zbind hf
                refine z_goF (z_runV (C := RX12) (T := TX12) (N := 46) (ci := 11) h [.int v3, .int q49.1] [] zyX12_isThere (c_X12_isThere B (zu q49.2 172 (Int32.toNatClampNeg v3) (v1 + (1 : Int32))) J hJ v3 q49.1 _ _ e53) gX12_filledBy_X12_isThere rfl rfl rfl zrX12_filledBy_X12_isThere rfl (Nat.le_of_ble_eq_true rfl) ⟨Nat.zero_le _, Nat.zero_le _⟩ rfl dX12_filledBy_187) rfl ?_
                refine z_if_eq (pc' := 193) h 198 dX12_filledBy_190 (by decide) rfl (fun c54 => ?_) (fun c54 => ?_)
                · have hf := zitt c54 hf
                  refine z_iconst h 0 dX12_filledBy_198 (by decide) (rfl : 198 + 1 = 199) ?_
                  refine z_iret h hr dX12_filledBy_199 ?_
                  exact ⟨congrArg Prod.fst (zsome hf), congrArg Prod.snd (zsome hf), rfl⟩
                · have hf := zitf c54 hf
                  refine z_iload h 0 dX12_filledBy_193 rfl (rfl : 193 + 2 = 195) ?_
                  refine z_goto (pc' := 199) h dX12_filledBy_195 (by decide) ?_
                  refine z_iret h hr dX12_filledBy_199 ?_
                  exact ⟨congrArg Prod.fst (zsome hf), congrArg Prod.snd (zsome hf), rfl⟩
      · have hf := zitf c3 hf
        refine z_iload_n h 1 dX12_filledBy_72 rfl (rfl : 72 + 1 = 73) ?_
        refine z_iconst h 2 dX12_filledBy_73 (by decide) (rfl : 73 + 1 = 74) ?_
        refine z_icmp_ne (pc' := 77) h 200 dX12_filledBy_74 (by decide) rfl (fun c55 => ?_) (fun c55 => ?_)
        · have hf := zitf c55 hf
          refine z_iload_n h 1 dX12_filledBy_200 rfl (rfl : 200 + 1 = 201) ?_
          refine z_iconst h 3 dX12_filledBy_201 (by decide) (rfl : 201 + 1 = 202) ?_
          refine z_icmp_ne (pc' := 205) h 238 dX12_filledBy_202 (by decide) rfl (fun c56 => ?_) (fun c56 => ?_)
          · have hf := zitf c56 hf
            refine z_aload_n h 0 dX12_filledBy_238 rfl (rfl : 238 + 1 = 239) ?_
            refine z_iload_n h 1 dX12_filledBy_239 rfl (rfl : 239 + 1 = 240) ?_
            refine z_iconst h 3 dX12_filledBy_240 (by decide) (rfl : 240 + 1 = 241) ?_
            refine z_icmp_ne (pc' := 244) h 248 dX12_filledBy_241 (by decide) rfl (fun c57 => ?_) (fun c57 => ?_)
            · have hf := zitf c57 hf
              refine z_iconst h 2 dX12_filledBy_248 (by decide) (rfl : 248 + 1 = 249) ?_
              refine z_iload_n h 2 dX12_filledBy_249 rfl (rfl : 249 + 1 = 250) ?_
              refine z_iload_n h 3 dX12_filledBy_250 rfl (rfl : 250 + 1 = 251) ?_
              obtain ⟨q58, e59, hf⟩ := zbind hf
              refine z_goF (z_runV (C := RX12) (T := TX12) (N := 46) (ci := 11) h [.int 2, .int v2, .int v3] [] zyX12_ruleFor (c_X12_ruleFor B I J hJ 2 v2 v3 _ _ e59) gX12_filledBy_X12_ruleFor rfl rfl rfl zrX12_filledBy_X12_ruleFor rfl (Nat.le_of_ble_eq_true rfl) ⟨Nat.zero_le _, Nat.zero_le _⟩ rfl dX12_filledBy_251) rfl ?_
              refine z_istore h [(4, .int q58.1), (0, .ref (za B 147)), (1, .int v1), (2, .int v2), (3, .int v3)] dX12_filledBy_254 (by decide) rfl (rfl : 254 + 2 = 256) ?_
              refine z_aload_n h 1 dX12_filledBy_256 rfl (rfl : 256 + 1 = 257) ?_
              refine z_getr (ci := 11) (C := RX12) (T := TX12) (N := 46) h 36 172 ((hJ.1 147 36 (by decide)).trans rfl) rfl rfl (fun _ hq => List.mem_cons_of_mem _ (List.mem_append_right _ hq)) (by decide) (List.mem_of_getElem? (i := 1) rfl) rfl dX12_filledBy_257 (rfl : 257 + 3 = 260) ?_
              refine z_iload_n h 4 dX12_filledBy_260 rfl (rfl : 260 + 1 = 261) ?_
              refine z_bipush h 10 dX12_filledBy_261 (by decide) (rfl : 261 + 2 = 263) ?_
              refine z_iload h 0 dX12_filledBy_263 rfl (rfl : 263 + 2 = 265) ?_
              refine z_iadd h dX12_filledBy_265 (rfl : 265 + 1 = 266) ?_
              obtain ⟨b60, hf⟩ := zchk hf
              refine z_iast h b60 rfl dX12_filledBy_266 (rfl : 266 + 1 = 267) ?_
              refine z_iload h 0 dX12_filledBy_267 rfl (rfl : 267 + 2 = 269) ?_
              refine z_bipush h (-9) dX12_filledBy_269 (by decide) (rfl : 269 + 2 = 271) ?_
              refine z_icmp_ne (pc' := 274) h 278 dX12_filledBy_271 (by decide) rfl (fun c61 => ?_) (fun c61 => ?_)
              · have hf := zitf c61 hf
                refine z_aload_n h 1 dX12_filledBy_278 rfl (rfl : 278 + 1 = 279) ?_
                refine z_getr (ci := 11) (C := RX12) (T := TX12) (N := 46) h 14 155 ((hJ.1 147 14 (by decide)).trans rfl) rfl rfl (fun _ hq => List.mem_cons_of_mem _ (List.mem_append_right _ hq)) (by decide) (List.mem_of_getElem? (i := 9) rfl) rfl dX12_filledBy_279 (rfl : 279 + 3 = 282) ?_
                refine z_bipush h 6 dX12_filledBy_282 (by decide) (rfl : 282 + 2 = 284) ?_
                refine z_iload h 0 dX12_filledBy_284 rfl (rfl : 284 + 2 = 286) ?_
                refine z_imul h dX12_filledBy_286 (rfl : 286 + 1 = 287) ?_
                refine z_iconst h 2 dX12_filledBy_287 (by decide) (rfl : 287 + 1 = 288) ?_
                refine z_iadd h dX12_filledBy_288 (rfl : 288 + 1 = 289) ?_
                obtain ⟨b62, hf⟩ := zchk hf
                refine z_iald h rfl b62 dX12_filledBy_289 (rfl : 289 + 1 = 290) ?_
                refine z_iret h hr dX12_filledBy_290 ?_
                exact ⟨congrArg Prod.fst (zsome hf), congrArg Prod.snd (zsome hf), rfl⟩
              · have hf := zitt c61 hf
                refine z_iconst h 0 dX12_filledBy_274 (by decide) (rfl : 274 + 1 = 275) ?_
                refine z_goto (pc' := 290) h dX12_filledBy_275 (by decide) ?_
                refine z_iret h hr dX12_filledBy_290 ?_
                exact ⟨congrArg Prod.fst (zsome hf), congrArg Prod.snd (zsome hf), rfl⟩
            · have hf := zitt c57 hf
              refine z_iconst h 0 dX12_filledBy_244 (by decide) (rfl : 244 + 1 = 245) ?_
              refine z_goto (pc' := 249) h dX12_filledBy_245 (by decide) ?_
              refine z_iload_n h 2 dX12_filledBy_249 rfl (rfl : 249 + 1 = 250) ?_
              refine z_iload_n h 3 dX12_filledBy_250 rfl (rfl : 250 + 1 = 251) ?_
              obtain ⟨q63, e64, hf⟩ := zbind hf
              refine z_goF (z_runV (C := RX12) (T := TX12) (N := 46) (ci := 11) h [.int 0, .int v2, .int v3] [] zyX12_ruleFor (c_X12_ruleFor B I J hJ 0 v2 v3 _ _ e64) gX12_filledBy_X12_ruleFor rfl rfl rfl zrX12_filledBy_X12_ruleFor rfl (Nat.le_of_ble_eq_true rfl) ⟨Nat.zero_le _, Nat.zero_le _⟩ rfl dX12_filledBy_251) rfl ?_
              refine z_istore h [(4, .int q63.1), (0, .ref (za B 147)), (1, .int v1), (2, .int v2), (3, .int v3)] dX12_filledBy_254 (by decide) rfl (rfl : 254 + 2 = 256) ?_
              refine z_aload_n h 1 dX12_filledBy_256 rfl (rfl : 256 + 1 = 257) ?_
              refine z_getr (ci := 11) (C := RX12) (T := TX12) (N := 46) h 36 172 ((hJ.1 147 36 (by decide)).trans rfl) rfl rfl (fun _ hq => List.mem_cons_of_mem _ (List.mem_append_right _ hq)) (by decide) (List.mem_of_getElem? (i := 1) rfl) rfl dX12_filledBy_257 (rfl : 257 + 3 = 260) ?_
              refine z_iload_n h 4 dX12_filledBy_260 rfl (rfl : 260 + 1 = 261) ?_
              refine z_bipush h 10 dX12_filledBy_261 (by decide) (rfl : 261 + 2 = 263) ?_
              refine z_iload h 0 dX12_filledBy_263 rfl (rfl : 263 + 2 = 265) ?_
              refine z_iadd h dX12_filledBy_265 (rfl : 265 + 1 = 266) ?_
              obtain ⟨b65, hf⟩ := zchk hf
              refine z_iast h b65 rfl dX12_filledBy_266 (rfl : 266 + 1 = 267) ?_
              refine z_iload h 0 dX12_filledBy_267 rfl (rfl : 267 + 2 = 269) ?_
              refine z_bipush h (-9) dX12_filledBy_269 (by decide) (rfl : 269 + 2 = 271) ?_
              refine z_icmp_ne (pc' := 274) h 278 dX12_filledBy_271 (by decide) rfl (fun c66 => ?_) (fun c66 => ?_)
              · have hf := zitf c66 hf
                refine z_aload_n h 1 dX12_filledBy_278 rfl (rfl : 278 + 1 = 279) ?_
                refine z_getr (ci := 11) (C := RX12) (T := TX12) (N := 46) h 14 155 ((hJ.1 147 14 (by decide)).trans rfl) rfl rfl (fun _ hq => List.mem_cons_of_mem _ (List.mem_append_right _ hq)) (by decide) (List.mem_of_getElem? (i := 9) rfl) rfl dX12_filledBy_279 (rfl : 279 + 3 = 282) ?_
                refine z_bipush h 6 dX12_filledBy_282 (by decide) (rfl : 282 + 2 = 284) ?_
                refine z_iload h 0 dX12_filledBy_284 rfl (rfl : 284 + 2 = 286) ?_
                refine z_imul h dX12_filledBy_286 (rfl : 286 + 1 = 287) ?_
                refine z_iconst h 2 dX12_filledBy_287 (by decide) (rfl : 287 + 1 = 288) ?_
                refine z_iadd h dX12_filledBy_288 (rfl : 288 + 1 = 289) ?_
                obtain ⟨b67, hf⟩ := zchk hf
                refine z_iald h rfl b67 dX12_filledBy_289 (rfl : 289 + 1 = 290) ?_
                refine z_iret h hr dX12_filledBy_290 ?_
                exact ⟨congrArg Prod.fst (zsome hf), congrArg Prod.snd (zsome hf), rfl⟩
              · have hf := zitt c66 hf
                refine z_iconst h 0 dX12_filledBy_274 (by decide) (rfl : 274 + 1 = 275) ?_
                refine z_goto (pc' := 290) h dX12_filledBy_275 (by decide) ?_
                refine z_iret h hr dX12_filledBy_290 ?_
                exact ⟨congrArg Prod.fst (zsome hf), congrArg Prod.snd (zsome hf), rfl⟩
          · have hf := zitt c56 hf
            refine z_aload_n h 0 dX12_filledBy_205 rfl (rfl : 205 + 1 = 206) ?_
            refine z_get (ci := 11) (C := RX12) (T := TX12) (N := 46) h 32 rfl rfl (fun _ hq => List.mem_cons_of_mem _ (List.mem_append_right _ hq)) (by decide) (List.mem_of_getElem? (i := 7) rfl) rfl dX12_filledBy_206 (rfl : 206 + 3 = 209) ?_
            refine z_iload_n h 3 dX12_filledBy_209 rfl (rfl : 209 + 1 = 210) ?_
            refine z_icmp_ne (pc' := 213) h 238 dX12_filledBy_210 (by decide) rfl (fun c68 => ?_) (fun c68 => ?_)
            · have hf := zitf c68 hf
              refine z_aload_n h 0 dX12_filledBy_238 rfl (rfl : 238 + 1 = 239) ?_
              refine z_iload_n h 1 dX12_filledBy_239 rfl (rfl : 239 + 1 = 240) ?_
              refine z_iconst h 3 dX12_filledBy_240 (by decide) (rfl : 240 + 1 = 241) ?_
              refine z_icmp_ne (pc' := 244) h 248 dX12_filledBy_241 (by decide) rfl (fun c69 => ?_) (fun c69 => ?_)
              · have hf := zitf c69 hf
                refine z_iconst h 2 dX12_filledBy_248 (by decide) (rfl : 248 + 1 = 249) ?_
                refine z_iload_n h 2 dX12_filledBy_249 rfl (rfl : 249 + 1 = 250) ?_
                refine z_iload_n h 3 dX12_filledBy_250 rfl (rfl : 250 + 1 = 251) ?_
                obtain ⟨q70, e71, hf⟩ := zbind hf
                refine z_goF (z_runV (C := RX12) (T := TX12) (N := 46) (ci := 11) h [.int 2, .int v2, .int v3] [] zyX12_ruleFor (c_X12_ruleFor B I J hJ 2 v2 v3 _ _ e71) gX12_filledBy_X12_ruleFor rfl rfl rfl zrX12_filledBy_X12_ruleFor rfl (Nat.le_of_ble_eq_true rfl) ⟨Nat.zero_le _, Nat.zero_le _⟩ rfl dX12_filledBy_251) rfl ?_
                refine z_istore h [(4, .int q70.1), (0, .ref (za B 147)), (1, .int v1), (2, .int v2), (3, .int v3)] dX12_filledBy_254 (by decide) rfl (rfl : 254 + 2 = 256) ?_
                refine z_aload_n h 1 dX12_filledBy_256 rfl (rfl : 256 + 1 = 257) ?_
                refine z_getr (ci := 11) (C := RX12) (T := TX12) (N := 46) h 36 172 ((hJ.1 147 36 (by decide)).trans rfl) rfl rfl (fun _ hq => List.mem_cons_of_mem _ (List.mem_append_right _ hq)) (by decide) (List.mem_of_getElem? (i := 1) rfl) rfl dX12_filledBy_257 (rfl : 257 + 3 = 260) ?_
                refine z_iload_n h 4 dX12_filledBy_260 rfl (rfl : 260 + 1 = 261) ?_
                refine z_bipush h 10 dX12_filledBy_261 (by decide) (rfl : 261 + 2 = 263) ?_
                refine z_iload h 0 dX12_filledBy_263 rfl (rfl : 263 + 2 = 265) ?_
                refine z_iadd h dX12_filledBy_265 (rfl : 265 + 1 = 266) ?_
                obtain ⟨b72, hf⟩ := zchk hf
                refine z_iast h b72 rfl dX12_filledBy_266 (rfl : 266 + 1 = 267) ?_
                refine z_iload h 0 dX12_filledBy_267 rfl (rfl : 267 + 2 = 269) ?_
                refine z_bipush h (-9) dX12_filledBy_269 (by decide) (rfl : 269 + 2 = 271) ?_
                refine z_icmp_ne (pc' := 274) h 278 dX12_filledBy_271 (by decide) rfl (fun c73 => ?_) (fun c73 => ?_)
                · have hf := zitf c73 hf
                  refine z_aload_n h 1 dX12_filledBy_278 rfl (rfl : 278 + 1 = 279) ?_
                  refine z_getr (ci := 11) (C := RX12) (T := TX12) (N := 46) h 14 155 ((hJ.1 147 14 (by decide)).trans rfl) rfl rfl (fun _ hq => List.mem_cons_of_mem _ (List.mem_append_right _ hq)) (by decide) (List.mem_of_getElem? (i := 9) rfl) rfl dX12_filledBy_279 (rfl : 279 + 3 = 282) ?_
                  refine z_bipush h 6 dX12_filledBy_282 (by decide) (rfl : 282 + 2 = 284) ?_
                  refine z_iload h 0 dX12_filledBy_284 rfl (rfl : 284 + 2 = 286) ?_
                  refine z_imul h dX12_filledBy_286 (rfl : 286 + 1 = 287) ?_
                  refine z_iconst h 2 dX12_filledBy_287 (by decide) (rfl : 287 + 1 = 288) ?_
                  refine z_iadd h dX12_filledBy_288 (rfl : 288 + 1 = 289) ?_
                  obtain ⟨b74, hf⟩ := zchk hf
                  refine z_iald h rfl b74 dX12_filledBy_289 (rfl : 289 + 1 = 290) ?_
                  refine z_iret h hr dX12_filledBy_290 ?_
                  exact ⟨congrArg Prod.fst (zsome hf), congrArg Prod.snd (zsome hf), rfl⟩
                · have hf := zitt c73 hf
                  refine z_iconst h 0 dX12_filledBy_274 (by decide) (rfl : 274 + 1 = 275) ?_
                  refine z_goto (pc' := 290) h dX12_filledBy_275 (by decide) ?_
                  refine z_iret h hr dX12_filledBy_290 ?_
                  exact ⟨congrArg Prod.fst (zsome hf), congrArg Prod.snd (zsome hf), rfl⟩
              · have hf := zitt c69 hf
                refine z_iconst h 0 dX12_filledBy_244 (by decide) (rfl : 244 + 1 = 245) ?_
                refine z_goto (pc' := 249) h dX12_filledBy_245 (by decide) ?_
                refine z_iload_n h 2 dX12_filledBy_249 rfl (rfl : 249 + 1 = 250) ?_
                refine z_iload_n h 3 dX12_filledBy_250 rfl (rfl : 250 + 1 = 251) ?_
                obtain ⟨q75, e76, hf⟩ := zbind hf
                refine z_goF (z_runV (C := RX12) (T := TX12) (N := 46) (ci := 11) h [.int 0, .int v2, .int v3] [] zyX12_ruleFor (c_X12_ruleFor B I J hJ 0 v2 v3 _ _ e76) gX12_filledBy_X12_ruleFor rfl rfl rfl zrX12_filledBy_X12_ruleFor rfl (Nat.le_of_ble_eq_true rfl) ⟨Nat.zero_le _, Nat.zero_le _⟩ rfl dX12_filledBy_251) rfl ?_
                refine z_istore h [(4, .int q75.1), (0, .ref (za B 147)), (1, .int v1), (2, .int v2), (3, .int v3)] dX12_filledBy_254 (by decide) rfl (rfl : 254 + 2 = 256) ?_
                refine z_aload_n h 1 dX12_filledBy_256 rfl (rfl : 256 + 1 = 257) ?_
                refine z_getr (ci := 11) (C := RX12) (T := TX12) (N := 46) h 36 172 ((hJ.1 147 36 (by decide)).trans rfl) rfl rfl (fun _ hq => List.mem_cons_of_mem _ (List.mem_append_right _ hq)) (by decide) (List.mem_of_getElem? (i := 1) rfl) rfl dX12_filledBy_257 (rfl : 257 + 3 = 260) ?_
                refine z_iload_n h 4 dX12_filledBy_260 rfl (rfl : 260 + 1 = 261) ?_
                refine z_bipush h 10 dX12_filledBy_261 (by decide) (rfl : 261 + 2 = 263) ?_
                refine z_iload h 0 dX12_filledBy_263 rfl (rfl : 263 + 2 = 265) ?_
                refine z_iadd h dX12_filledBy_265 (rfl : 265 + 1 = 266) ?_
                obtain ⟨b77, hf⟩ := zchk hf
                refine z_iast h b77 rfl dX12_filledBy_266 (rfl : 266 + 1 = 267) ?_
                refine z_iload h 0 dX12_filledBy_267 rfl (rfl : 267 + 2 = 269) ?_
                refine z_bipush h (-9) dX12_filledBy_269 (by decide) (rfl : 269 + 2 = 271) ?_
                refine z_icmp_ne (pc' := 274) h 278 dX12_filledBy_271 (by decide) rfl (fun c78 => ?_) (fun c78 => ?_)
                · have hf := zitf c78 hf
                  refine z_aload_n h 1 dX12_filledBy_278 rfl (rfl : 278 + 1 = 279) ?_
                  refine z_getr (ci := 11) (C := RX12) (T := TX12) (N := 46) h 14 155 ((hJ.1 147 14 (by decide)).trans rfl) rfl rfl (fun _ hq => List.mem_cons_of_mem _ (List.mem_append_right _ hq)) (by decide) (List.mem_of_getElem? (i := 9) rfl) rfl dX12_filledBy_279 (rfl : 279 + 3 = 282) ?_
                  refine z_bipush h 6 dX12_filledBy_282 (by decide) (rfl : 282 + 2 = 284) ?_
                  refine z_iload h 0 dX12_filledBy_284 rfl (rfl : 284 + 2 = 286) ?_
                  refine z_imul h dX12_filledBy_286 (rfl : 286 + 1 = 287) ?_
                  refine z_iconst h 2 dX12_filledBy_287 (by decide) (rfl : 287 + 1 = 288) ?_
                  refine z_iadd h dX12_filledBy_288 (rfl : 288 + 1 = 289) ?_
                  obtain ⟨b79, hf⟩ := zchk hf
                  refine z_iald h rfl b79 dX12_filledBy_289 (rfl : 289 + 1 = 290) ?_
                  refine z_iret h hr dX12_filledBy_290 ?_
                  exact ⟨congrArg Prod.fst (zsome hf), congrArg Prod.snd (zsome hf), rfl⟩
                · have hf := zitt c78 hf
                  refine z_iconst h 0 dX12_filledBy_274 (by decide) (rfl : 274 + 1 = 275) ?_
                  refine z_goto (pc' := 290) h dX12_filledBy_275 (by decide) ?_
                  refine z_iret h hr dX12_filledBy_290 ?_
                  exact ⟨congrArg Prod.fst (zsome hf), congrArg Prod.snd (zsome hf), rfl⟩
            · have hf := zitt c68 hf
              refine z_aload_n h 0 dX12_filledBy_213 rfl (rfl : 213 + 1 = 214) ?_
              refine z_iload_n h 3 dX12_filledBy_214 rfl (rfl : 214 + 1 = 215) ?_
              refine z_aload_n h 0 dX12_filledBy_215 rfl (rfl : 215 + 1 = 216) ?_
              refine z_get (ci := 11) (C := RX12) (T := TX12) (N := 46) h 33 rfl rfl (fun _ hq => List.mem_cons_of_mem _ (List.mem_append_right _ hq)) (by decide) (List.mem_of_getElem? (i := 8) rfl) rfl dX12_filledBy_216 (rfl : 216 + 3 = 219) ?_
              obtain ⟨q80, e81, hf⟩ := zbind hf
              refine z_goF (z_runV (C := RX12) (T := TX12) (N := 46) (ci := 11) h [.int v3, .int (I 147 33)] [] zyX12_isThere (c_X12_isThere B I J hJ v3 (I 147 33) _ _ e81) gX12_filledBy_X12_isThere rfl rfl rfl zrX12_filledBy_X12_isThere rfl (Nat.le_of_ble_eq_true rfl) ⟨Nat.zero_le _, Nat.zero_le _⟩ rfl dX12_filledBy_219) rfl ?_
              refine z_if_eq (pc' := 225) h 238 dX12_filledBy_222 (by decide) rfl (fun c82 => ?_) (fun c82 => ?_)
              · have hf := zitt c82 hf
                refine z_aload_n h 0 dX12_filledBy_238 rfl (rfl : 238 + 1 = 239) ?_
                refine z_iload_n h 1 dX12_filledBy_239 rfl (rfl : 239 + 1 = 240) ?_
                refine z_iconst h 3 dX12_filledBy_240 (by decide) (rfl : 240 + 1 = 241) ?_
                refine z_icmp_ne (pc' := 244) h 248 dX12_filledBy_241 (by decide) rfl (fun c83 => ?_) (fun c83 => ?_)
                · have hf := zitf c83 hf
                  refine z_iconst h 2 dX12_filledBy_248 (by decide) (rfl : 248 + 1 = 249) ?_
                  refine z_iload_n h 2 dX12_filledBy_249 rfl (rfl : 249 + 1 = 250) ?_
                  refine z_iload_n h 3 dX12_filledBy_250 rfl (rfl : 250 + 1 = 251) ?_
                  obtain ⟨q84, e85, hf⟩ := zbind hf
                  refine z_goF (z_runV (C := RX12) (T := TX12) (N := 46) (ci := 11) h [.int 2, .int v2, .int v3] [] zyX12_ruleFor (c_X12_ruleFor B q80.2 J hJ 2 v2 v3 _ _ e85) gX12_filledBy_X12_ruleFor rfl rfl rfl zrX12_filledBy_X12_ruleFor rfl (Nat.le_of_ble_eq_true rfl) ⟨Nat.zero_le _, Nat.zero_le _⟩ rfl dX12_filledBy_251) rfl ?_
                  refine z_istore h [(4, .int q84.1), (0, .ref (za B 147)), (1, .int v1), (2, .int v2), (3, .int v3)] dX12_filledBy_254 (by decide) rfl (rfl : 254 + 2 = 256) ?_
                  refine z_aload_n h 1 dX12_filledBy_256 rfl (rfl : 256 + 1 = 257) ?_
                  refine z_getr (ci := 11) (C := RX12) (T := TX12) (N := 46) h 36 172 ((hJ.1 147 36 (by decide)).trans rfl) rfl rfl (fun _ hq => List.mem_cons_of_mem _ (List.mem_append_right _ hq)) (by decide) (List.mem_of_getElem? (i := 1) rfl) rfl dX12_filledBy_257 (rfl : 257 + 3 = 260) ?_
                  refine z_iload_n h 4 dX12_filledBy_260 rfl (rfl : 260 + 1 = 261) ?_
                  refine z_bipush h 10 dX12_filledBy_261 (by decide) (rfl : 261 + 2 = 263) ?_
                  refine z_iload h 0 dX12_filledBy_263 rfl (rfl : 263 + 2 = 265) ?_
                  refine z_iadd h dX12_filledBy_265 (rfl : 265 + 1 = 266) ?_
                  obtain ⟨b86, hf⟩ := zchk hf
                  refine z_iast h b86 rfl dX12_filledBy_266 (rfl : 266 + 1 = 267) ?_
                  refine z_iload h 0 dX12_filledBy_267 rfl (rfl : 267 + 2 = 269) ?_
                  refine z_bipush h (-9) dX12_filledBy_269 (by decide) (rfl : 269 + 2 = 271) ?_
                  refine z_icmp_ne (pc' := 274) h 278 dX12_filledBy_271 (by decide) rfl (fun c87 => ?_) (fun c87 => ?_)
                  · have hf := zitf c87 hf
                    refine z_aload_n h 1 dX12_filledBy_278 rfl (rfl : 278 + 1 = 279) ?_
                    refine z_getr (ci := 11) (C := RX12) (T := TX12) (N := 46) h 14 155 ((hJ.1 147 14 (by decide)).trans rfl) rfl rfl (fun _ hq => List.mem_cons_of_mem _ (List.mem_append_right _ hq)) (by decide) (List.mem_of_getElem? (i := 9) rfl) rfl dX12_filledBy_279 (rfl : 279 + 3 = 282) ?_
                    refine z_bipush h 6 dX12_filledBy_282 (by decide) (rfl : 282 + 2 = 284) ?_
                    refine z_iload h 0 dX12_filledBy_284 rfl (rfl : 284 + 2 = 286) ?_
                    refine z_imul h dX12_filledBy_286 (rfl : 286 + 1 = 287) ?_
                    refine z_iconst h 2 dX12_filledBy_287 (by decide) (rfl : 287 + 1 = 288) ?_
                    refine z_iadd h dX12_filledBy_288 (rfl : 288 + 1 = 289) ?_
                    obtain ⟨b88, hf⟩ := zchk hf
                    refine z_iald h rfl b88 dX12_filledBy_289 (rfl : 289 + 1 = 290) ?_
                    refine z_iret h hr dX12_filledBy_290 ?_
                    exact ⟨congrArg Prod.fst (zsome hf), congrArg Prod.snd (zsome hf), rfl⟩
                  · have hf := zitt c87 hf
                    refine z_iconst h 0 dX12_filledBy_274 (by decide) (rfl : 274 + 1 = 275) ?_
                    refine z_goto (pc' := 290) h dX12_filledBy_275 (by decide) ?_
                    refine z_iret h hr dX12_filledBy_290 ?_
                    exact ⟨congrArg Prod.fst (zsome hf), congrArg Prod.snd (zsome hf), rfl⟩
                · have hf := zitt c83 hf
                  refine z_iconst h 0 dX12_filledBy_244 (by decide) (rfl : 244 + 1 = 245) ?_
                  refine z_goto (pc' := 249) h dX12_filledBy_245 (by decide) ?_
                  refine z_iload_n h 2 dX12_filledBy_249 rfl (rfl : 249 + 1 = 250) ?_
                  refine z_iload_n h 3 dX12_filledBy_250 rfl (rfl : 250 + 1 = 251) ?_
                  obtain ⟨q89, e90, hf⟩ := zbind hf
                  refine z_goF (z_runV (C := RX12) (T := TX12) (N := 46) (ci := 11) h [.int 0, .int v2, .int v3] [] zyX12_ruleFor (c_X12_ruleFor B q80.2 J hJ 0 v2 v3 _ _ e90) gX12_filledBy_X12_ruleFor rfl rfl rfl zrX12_filledBy_X12_ruleFor rfl (Nat.le_of_ble_eq_true rfl) ⟨Nat.zero_le _, Nat.zero_le _⟩ rfl dX12_filledBy_251) rfl ?_
                  refine z_istore h [(4, .int q89.1), (0, .ref (za B 147)), (1, .int v1), (2, .int v2), (3, .int v3)] dX12_filledBy_254 (by decide) rfl (rfl : 254 + 2 = 256) ?_
                  refine z_aload_n h 1 dX12_filledBy_256 rfl (rfl : 256 + 1 = 257) ?_
                  refine z_getr (ci := 11) (C := RX12) (T := TX12) (N := 46) h 36 172 ((hJ.1 147 36 (by decide)).trans rfl) rfl rfl (fun _ hq => List.mem_cons_of_mem _ (List.mem_append_right _ hq)) (by decide) (List.mem_of_getElem? (i := 1) rfl) rfl dX12_filledBy_257 (rfl : 257 + 3 = 260) ?_
                  refine z_iload_n h 4 dX12_filledBy_260 rfl (rfl : 260 + 1 = 261) ?_
                  refine z_bipush h 10 dX12_filledBy_261 (by decide) (rfl : 261 + 2 = 263) ?_
                  refine z_iload h 0 dX12_filledBy_263 rfl (rfl : 263 + 2 = 265) ?_
                  refine z_iadd h dX12_filledBy_265 (rfl : 265 + 1 = 266) ?_
                  obtain ⟨b91, hf⟩ := zchk hf
                  refine z_iast h b91 rfl dX12_filledBy_266 (rfl : 266 + 1 = 267) ?_
                  refine z_iload h 0 dX12_filledBy_267 rfl (rfl : 267 + 2 = 269) ?_
                  refine z_bipush h (-9) dX12_filledBy_269 (by decide) (rfl : 269 + 2 = 271) ?_
                  refine z_icmp_ne (pc' := 274) h 278 dX12_filledBy_271 (by decide) rfl (fun c92 => ?_) (fun c92 => ?_)
                  · have hf := zitf c92 hf
                    refine z_aload_n h 1 dX12_filledBy_278 rfl (rfl : 278 + 1 = 279) ?_
                    refine z_getr (ci := 11) (C := RX12) (T := TX12) (N := 46) h 14 155 ((hJ.1 147 14 (by decide)).trans rfl) rfl rfl (fun _ hq => List.mem_cons_of_mem _ (List.mem_append_right _ hq)) (by decide) (List.mem_of_getElem? (i := 9) rfl) rfl dX12_filledBy_279 (rfl : 279 + 3 = 282) ?_
                    refine z_bipush h 6 dX12_filledBy_282 (by decide) (rfl : 282 + 2 = 284) ?_
                    refine z_iload h 0 dX12_filledBy_284 rfl (rfl : 284 + 2 = 286) ?_
                    refine z_imul h dX12_filledBy_286 (rfl : 286 + 1 = 287) ?_
                    refine z_iconst h 2 dX12_filledBy_287 (by decide) (rfl : 287 + 1 = 288) ?_
                    refine z_iadd h dX12_filledBy_288 (rfl : 288 + 1 = 289) ?_
                    obtain ⟨b93, hf⟩ := zchk hf
                    refine z_iald h rfl b93 dX12_filledBy_289 (rfl : 289 + 1 = 290) ?_
                    refine z_iret h hr dX12_filledBy_290 ?_
                    exact ⟨congrArg Prod.fst (zsome hf), congrArg Prod.snd (zsome hf), rfl⟩
                  · have hf := zitt c92 hf
                    refine z_iconst h 0 dX12_filledBy_274 (by decide) (rfl : 274 + 1 = 275) ?_
                    refine z_goto (pc' := 290) h dX12_filledBy_275 (by decide) ?_
                    refine z_iret h hr dX12_filledBy_290 ?_
                    exact ⟨congrArg Prod.fst (zsome hf), congrArg Prod.snd (zsome hf), rfl⟩
              · have hf := zitf c82 hf
                refine z_aload_n h 0 dX12_filledBy_225 rfl (rfl : 225 + 1 = 226) ?_
                refine z_getr (ci := 11) (C := RX12) (T := TX12) (N := 46) h 36 172 ((hJ.1 147 36 (by decide)).trans rfl) rfl rfl (fun _ hq => List.mem_cons_of_mem _ (List.mem_append_right _ hq)) (by decide) (List.mem_of_getElem? (i := 1) rfl) rfl dX12_filledBy_226 (rfl : 226 + 3 = 229) ?_
                refine z_iload_n h 3 dX12_filledBy_229 rfl (rfl : 229 + 1 = 230) ?_
                refine z_bipush h 9 dX12_filledBy_230 (by decide) (rfl : 230 + 2 = 232) ?_
                obtain ⟨b94, hf⟩ := zchk hf
                refine z_iast h b94 rfl dX12_filledBy_232 (rfl : 232 + 1 = 233) ?_
                refine z_aload_n h 0 dX12_filledBy_233 rfl (rfl : 233 + 1 = 234) ?_
                refine z_get (ci := 11) (C := RX12) (T := TX12) (N := 46) h 33 rfl rfl (fun _ hq => List.mem_cons_of_mem _ (List.mem_append_right _ hq)) (by decide) (List.mem_of_getElem? (i := 8) rfl) rfl dX12_filledBy_234 (rfl : 234 + 3 = 237) ?_
                refine z_iret h hr dX12_filledBy_237 ?_
                exact ⟨congrArg Prod.fst (zsome hf), congrArg Prod.snd (zsome hf), rfl⟩
        · have hf := zitt c55 hf
          refine z_iload_n h 1 dX12_filledBy_77 rfl (rfl : 77 + 1 = 78) ?_
          refine z_iconst h 1 dX12_filledBy_78 (by decide) (rfl : 78 + 1 = 79) ?_
          refine z_icmp_eq (pc' := 82) h 120 dX12_filledBy_79 (by decide) rfl (fun c95 => ?_) (fun c95 => ?_)
          · have hf := zitt c95 hf
            refine z_iconst h 1 dX12_filledBy_120 (by decide) (rfl : 120 + 1 = 121) ?_
            refine z_goto (pc' := 125) h dX12_filledBy_121 (by decide) ?_
            refine z_istore h [(4, .int 1), (0, .ref (za B 147)), (1, .int v1), (2, .int v2), (3, .int v3)] dX12_filledBy_125 (by decide) rfl (rfl : 125 + 2 = 127) ?_
            refine z_iload h 0 dX12_filledBy_127 rfl (rfl : 127 + 2 = 129) ?_
            refine z_if_ne (pc' := 132) h 136 dX12_filledBy_129 (by decide) rfl (fun _ => ?_) (fun q => absurd q (by decide))
            refine z_iload_n h 2 dX12_filledBy_136 rfl (rfl : 136 + 1 = 137) ?_
            refine z_iconst h 1 dX12_filledBy_137 (by decide) (rfl : 137 + 1 = 138) ?_
            refine z_icmp_ne (pc' := 141) h 161 dX12_filledBy_138 (by decide) rfl (fun c96 => ?_) (fun c96 => ?_)
            · have hf := zitf c96 hf
              refine z_aload_n h 1 dX12_filledBy_161 rfl (rfl : 161 + 1 = 162) ?_
              refine z_aload_n h 1 dX12_filledBy_162 rfl (rfl : 162 + 1 = 163) ?_
              refine z_getr (ci := 11) (C := RX12) (T := TX12) (N := 46) h 21 161 ((hJ.1 147 21 (by decide)).trans rfl) rfl rfl (fun _ hq => List.mem_cons_of_mem _ (List.mem_append_right _ hq)) (by decide) (List.mem_of_getElem? (i := 5) rfl) rfl dX12_filledBy_163 (rfl : 163 + 3 = 166) ?_
              refine z_iload_n h 3 dX12_filledBy_166 rfl (rfl : 166 + 1 = 167) ?_
              obtain ⟨b97, hf⟩ := zchk hf
              refine z_iald h rfl b97 dX12_filledBy_167 (rfl : 167 + 1 = 168) ?_
              refine z_iload_n h 4 dX12_filledBy_168 rfl (rfl : 168 + 1 = 169) ?_
              obtain ⟨q98, e99, hf⟩ := zbind hf
              refine z_goF (z_runV (C := RX12) (T := TX12) (N := 46) (ci := 11) h [.int (I 161 (Int32.toNatClampNeg v2)), .int v3] [] zyX12_customOf (c_X12_customOf B I J hJ (I 161 (Int32.toNatClampNeg v2)) v3 _ _ e99) gX12_filledBy_X12_customOf rfl rfl rfl zrX12_filledBy_X12_customOf rfl (Nat.le_of_ble_eq_true rfl) ⟨Nat.zero_le _, Nat.zero_le _⟩ rfl dX12_filledBy_169) rfl ?_
              refine z_istore h [(5, .int q98.1), (4, .int 1), (0, .ref (za B 147)), (1, .int v1), (2, .int v2), (3, .int v3)] dX12_filledBy_172 (by decide) rfl (rfl : 172 + 2 = 174) ?_
              refine z_aload_n h 2 dX12_filledBy_174 rfl (rfl : 174 + 1 = 175) ?_
              refine z_getr (ci := 11) (C := RX12) (T := TX12) (N := 46) h 36 172 ((hJ.1 147 36 (by decide)).trans rfl) rfl rfl (fun _ hq => List.mem_cons_of_mem _ (List.mem_append_right _ hq)) (by decide) (List.mem_of_getElem? (i := 1) rfl) rfl dX12_filledBy_175 (rfl : 175 + 3 = 178) ?_
              refine z_iload_n h 5 dX12_filledBy_178 rfl (rfl : 178 + 1 = 179) ?_
              refine z_iload_n h 3 dX12_filledBy_179 rfl (rfl : 179 + 1 = 180) ?_
              refine z_iconst h 1 dX12_filledBy_180 (by decide) (rfl : 180 + 1 = 181) ?_
              refine z_iadd h dX12_filledBy_181 (rfl : 181 + 1 = 182) ?_
              obtain ⟨b100, hf⟩ := zchk hf
              refine z_iast h b100 rfl dX12_filledBy_182 (rfl : 182 + 1 = 183) ?_
              refine z_aload_n h 2 dX12_filledBy_183 rfl (rfl : 183 + 1 = 184) ?_
              refine z_iload_n h 5 dX12_filledBy_184 rfl (rfl : 184 + 1 = 185) ?_
              refine z_iload h 0 dX12_filledBy_185 rfl (rfl : 185 + 2 = 187) ?_
              obtain ⟨q101, e102, hf⟩ := zbind hf
              refine z_goF (z_runV (C := RX12) (T := TX12) (N := 46) (ci := 11) h [.int v3, .int q98.1] [] zyX12_isThere (c_X12_isThere B (zu q98.2 172 (Int32.toNatClampNeg v3) (v1 + (1 : Int32))) J hJ v3 q98.1 _ _ e102) gX12_filledBy_X12_isThere rfl rfl rfl zrX12_filledBy_X12_isThere rfl (Nat.le_of_ble_eq_true rfl) ⟨Nat.zero_le _, Nat.zero_le _⟩ rfl dX12_filledBy_187) rfl ?_
              refine z_if_eq (pc' := 193) h 198 dX12_filledBy_190 (by decide) rfl (fun c103 => ?_) (fun c103 => ?_)
              · have hf := zitt c103 hf
                refine z_iconst h 0 dX12_filledBy_198 (by decide) (rfl : 198 + 1 = 199) ?_
                refine z_iret h hr dX12_filledBy_199 ?_
                exact ⟨congrArg Prod.fst (zsome hf), congrArg Prod.snd (zsome hf), rfl⟩
              · have hf := zitf c103 hf
                refine z_iload h 0 dX12_filledBy_193 rfl (rfl : 193 + 2 = 195) ?_
                refine z_goto (pc' := 199) h dX12_filledBy_195 (by decide) ?_
                refine z_iret h hr dX12_filledBy_199 ?_
                exact ⟨congrArg Prod.fst (zsome hf), congrArg Prod.snd (zsome hf), rfl⟩
            · have hf := zitt c96 hf
              refine z_aload_n h 1 dX12_filledBy_141 rfl (rfl : 141 + 1 = 142) ?_
              refine z_aload_n h 1 dX12_filledBy_142 rfl (rfl : 142 + 1 = 143) ?_
              refine z_getr (ci := 11) (C := RX12) (T := TX12) (N := 46) h 19 159 ((hJ.1 147 19 (by decide)).trans rfl) rfl rfl (fun _ hq => List.mem_cons_of_mem _ (List.mem_append_right _ hq)) (by decide) (List.mem_of_getElem? (i := 4) rfl) rfl dX12_filledBy_143 (rfl : 143 + 3 = 146) ?_
              refine z_iload_n h 3 dX12_filledBy_146 rfl (rfl : 146 + 1 = 147) ?_
              obtain ⟨b104, hf⟩ := zchk hf
              refine z_iald h rfl b104 dX12_filledBy_147 (rfl : 147 + 1 = 148) ?_
              refine z_aload_n h 1 dX12_filledBy_148 rfl (rfl : 148 + 1 = 149) ?_
              refine z_getr (ci := 11) (C := RX12) (T := TX12) (N := 46) h 20 160 ((hJ.1 147 20 (by decide)).trans rfl) rfl rfl (fun _ hq => List.mem_cons_of_mem _ (List.mem_append_right _ hq)) (by decide) (List.mem_of_getElem? (i := 6) rfl) rfl dX12_filledBy_149 (rfl : 149 + 3 = 152) ?_
              refine z_iload_n h 3 dX12_filledBy_152 rfl (rfl : 152 + 1 = 153) ?_
              obtain ⟨b105, hf⟩ := zchk hf
              refine z_iald h rfl b105 dX12_filledBy_153 (rfl : 153 + 1 = 154) ?_
              refine z_iload_n h 4 dX12_filledBy_154 rfl (rfl : 154 + 1 = 155) ?_
              obtain ⟨q106, e107, hf⟩ := zbind hf
              refine z_goF (z_runV (C := RX12) (T := TX12) (N := 46) (ci := 11) h [.int (I 159 (Int32.toNatClampNeg v2)), .int (I 160 (Int32.toNatClampNeg v2)), .int v3] [] zyX12_beforeOf (c_X12_beforeOf B I J hJ (I 159 (Int32.toNatClampNeg v2)) (I 160 (Int32.toNatClampNeg v2)) v3 _ _ e107) gX12_filledBy_X12_beforeOf rfl rfl rfl zrX12_filledBy_X12_beforeOf rfl (Nat.le_of_ble_eq_true rfl) ⟨Nat.zero_le _, Nat.zero_le _⟩ rfl dX12_filledBy_155) rfl ?_
              refine z_goto (pc' := 172) h dX12_filledBy_158 (by decide) ?_
              refine z_istore h [(5, .int q106.1), (4, .int 1), (0, .ref (za B 147)), (1, .int v1), (2, .int v2), (3, .int v3)] dX12_filledBy_172 (by decide) rfl (rfl : 172 + 2 = 174) ?_
              refine z_aload_n h 2 dX12_filledBy_174 rfl (rfl : 174 + 1 = 175) ?_
              refine z_getr (ci := 11) (C := RX12) (T := TX12) (N := 46) h 36 172 ((hJ.1 147 36 (by decide)).trans rfl) rfl rfl (fun _ hq => List.mem_cons_of_mem _ (List.mem_append_right _ hq)) (by decide) (List.mem_of_getElem? (i := 1) rfl) rfl dX12_filledBy_175 (rfl : 175 + 3 = 178) ?_
              refine z_iload_n h 5 dX12_filledBy_178 rfl (rfl : 178 + 1 = 179) ?_
              refine z_iload_n h 3 dX12_filledBy_179 rfl (rfl : 179 + 1 = 180) ?_
              refine z_iconst h 1 dX12_filledBy_180 (by decide) (rfl : 180 + 1 = 181) ?_
              refine z_iadd h dX12_filledBy_181 (rfl : 181 + 1 = 182) ?_
              obtain ⟨b108, hf⟩ := zchk hf
              refine z_iast h b108 rfl dX12_filledBy_182 (rfl : 182 + 1 = 183) ?_
              refine z_aload_n h 2 dX12_filledBy_183 rfl (rfl : 183 + 1 = 184) ?_
              refine z_iload_n h 5 dX12_filledBy_184 rfl (rfl : 184 + 1 = 185) ?_
              refine z_iload h 0 dX12_filledBy_185 rfl (rfl : 185 + 2 = 187) ?_
              obtain ⟨q109, e110, hf⟩ := zbind hf
              refine z_goF (z_runV (C := RX12) (T := TX12) (N := 46) (ci := 11) h [.int v3, .int q106.1] [] zyX12_isThere (c_X12_isThere B (zu q106.2 172 (Int32.toNatClampNeg v3) (v1 + (1 : Int32))) J hJ v3 q106.1 _ _ e110) gX12_filledBy_X12_isThere rfl rfl rfl zrX12_filledBy_X12_isThere rfl (Nat.le_of_ble_eq_true rfl) ⟨Nat.zero_le _, Nat.zero_le _⟩ rfl dX12_filledBy_187) rfl ?_
              refine z_if_eq (pc' := 193) h 198 dX12_filledBy_190 (by decide) rfl (fun c111 => ?_) (fun c111 => ?_)
              · have hf := zitt c111 hf
                refine z_iconst h 0 dX12_filledBy_198 (by decide) (rfl : 198 + 1 = 199) ?_
                refine z_iret h hr dX12_filledBy_199 ?_
                exact ⟨congrArg Prod.fst (zsome hf), congrArg Prod.snd (zsome hf), rfl⟩
              · have hf := zitf c111 hf
                refine z_iload h 0 dX12_filledBy_193 rfl (rfl : 193 + 2 = 195) ?_
                refine z_goto (pc' := 199) h dX12_filledBy_195 (by decide) ?_
                refine z_iret h hr dX12_filledBy_199 ?_
                exact ⟨congrArg Prod.fst (zsome hf), congrArg Prod.snd (zsome hf), rfl⟩
          · have hf := zitf c95 hf
            refine z_aload_n h 0 dX12_filledBy_82 rfl (rfl : 82 + 1 = 83) ?_
            refine z_aload_n h 0 dX12_filledBy_83 rfl (rfl : 83 + 1 = 84) ?_
            refine z_getr (ci := 11) (C := RX12) (T := TX12) (N := 46) h 19 159 ((hJ.1 147 19 (by decide)).trans rfl) rfl rfl (fun _ hq => List.mem_cons_of_mem _ (List.mem_append_right _ hq)) (by decide) (List.mem_of_getElem? (i := 4) rfl) rfl dX12_filledBy_84 (rfl : 84 + 3 = 87) ?_
            refine z_iload_n h 2 dX12_filledBy_87 rfl (rfl : 87 + 1 = 88) ?_
            obtain ⟨b112, hf⟩ := zchk hf
            refine z_iald h rfl b112 dX12_filledBy_88 (rfl : 88 + 1 = 89) ?_
            refine z_aload_n h 0 dX12_filledBy_89 rfl (rfl : 89 + 1 = 90) ?_
            refine z_getr (ci := 11) (C := RX12) (T := TX12) (N := 46) h 21 161 ((hJ.1 147 21 (by decide)).trans rfl) rfl rfl (fun _ hq => List.mem_cons_of_mem _ (List.mem_append_right _ hq)) (by decide) (List.mem_of_getElem? (i := 5) rfl) rfl dX12_filledBy_90 (rfl : 90 + 3 = 93) ?_
            refine z_iload_n h 2 dX12_filledBy_93 rfl (rfl : 93 + 1 = 94) ?_
            obtain ⟨b113, hf⟩ := zchk hf
            refine z_iald h rfl b113 dX12_filledBy_94 (rfl : 94 + 1 = 95) ?_
            obtain ⟨q114, e115, hf⟩ := zbind hf
            refine z_goF (z_runV (C := RX12) (T := TX12) (N := 46) (ci := 11) h [.int (I 159 (Int32.toNatClampNeg v2)), .int (I 161 (Int32.toNatClampNeg v2))] [] zyX12_isKnowing (c_X12_isKnowing B I J hJ (I 159 (Int32.toNatClampNeg v2)) (I 161 (Int32.toNatClampNeg v2)) _ _ e115) gX12_filledBy_X12_isKnowing rfl rfl rfl zrX12_filledBy_X12_isKnowing rfl (Nat.le_of_ble_eq_true rfl) ⟨Nat.zero_le _, Nat.zero_le _⟩ rfl dX12_filledBy_95) rfl ?_
            refine z_if_eq (pc' := 101) h 124 dX12_filledBy_98 (by decide) rfl (fun c116 => ?_) (fun c116 => ?_)
            · have hf := zitt c116 hf
              refine z_iconst h 0 dX12_filledBy_124 (by decide) (rfl : 124 + 1 = 125) ?_
              refine z_istore h [(4, .int 0), (0, .ref (za B 147)), (1, .int v1), (2, .int v2), (3, .int v3)] dX12_filledBy_125 (by decide) rfl (rfl : 125 + 2 = 127) ?_
              refine z_iload h 0 dX12_filledBy_127 rfl (rfl : 127 + 2 = 129) ?_
              refine z_if_ne (pc' := 132) h 136 dX12_filledBy_129 (by decide) rfl (fun q => absurd q (by decide)) (fun _ => ?_)
              refine z_iconst h 0 dX12_filledBy_132 (by decide) (rfl : 132 + 1 = 133) ?_
              refine z_goto (pc' := 172) h dX12_filledBy_133 (by decide) ?_
              refine z_istore h [(5, .int 0), (4, .int 0), (0, .ref (za B 147)), (1, .int v1), (2, .int v2), (3, .int v3)] dX12_filledBy_172 (by decide) rfl (rfl : 172 + 2 = 174) ?_
              refine z_aload_n h 2 dX12_filledBy_174 rfl (rfl : 174 + 1 = 175) ?_
              refine z_getr (ci := 11) (C := RX12) (T := TX12) (N := 46) h 36 172 ((hJ.1 147 36 (by decide)).trans rfl) rfl rfl (fun _ hq => List.mem_cons_of_mem _ (List.mem_append_right _ hq)) (by decide) (List.mem_of_getElem? (i := 1) rfl) rfl dX12_filledBy_175 (rfl : 175 + 3 = 178) ?_
              refine z_iload_n h 5 dX12_filledBy_178 rfl (rfl : 178 + 1 = 179) ?_
              refine z_iload_n h 3 dX12_filledBy_179 rfl (rfl : 179 + 1 = 180) ?_
              refine z_iconst h 1 dX12_filledBy_180 (by decide) (rfl : 180 + 1 = 181) ?_
              refine z_iadd h dX12_filledBy_181 (rfl : 181 + 1 = 182) ?_
              obtain ⟨b117, hf⟩ := zchk hf
              refine z_iast h b117 rfl dX12_filledBy_182 (rfl : 182 + 1 = 183) ?_
              refine z_aload_n h 2 dX12_filledBy_183 rfl (rfl : 183 + 1 = 184) ?_
              refine z_iload_n h 5 dX12_filledBy_184 rfl (rfl : 184 + 1 = 185) ?_
              refine z_iload h 0 dX12_filledBy_185 rfl (rfl : 185 + 2 = 187) ?_
              obtain ⟨q118, e119, hf⟩ := zbind hf
              refine z_goF (z_runV (C := RX12) (T := TX12) (N := 46) (ci := 11) h [.int v3, .int 0] [] zyX12_isThere (c_X12_isThere B (zu q114.2 172 (Int32.toNatClampNeg v3) (v1 + (1 : Int32))) J hJ v3 0 _ _ e119) gX12_filledBy_X12_isThere rfl rfl rfl zrX12_filledBy_X12_isThere rfl (Nat.le_of_ble_eq_true rfl) ⟨Nat.zero_le _, Nat.zero_le _⟩ rfl dX12_filledBy_187) rfl ?_
              refine z_if_eq (pc' := 193) h 198 dX12_filledBy_190 (by decide) rfl (fun c120 => ?_) (fun c120 => ?_)
              · have hf := zitt c120 hf
                refine z_iconst h 0 dX12_filledBy_198 (by decide) (rfl : 198 + 1 = 199) ?_
                refine z_iret h hr dX12_filledBy_199 ?_
                exact ⟨congrArg Prod.fst (zsome hf), congrArg Prod.snd (zsome hf), rfl⟩
              · have hf := zitf c120 hf
                refine z_iload h 0 dX12_filledBy_193 rfl (rfl : 193 + 2 = 195) ?_
                refine z_goto (pc' := 199) h dX12_filledBy_195 (by decide) ?_
                refine z_iret h hr dX12_filledBy_199 ?_
                exact ⟨congrArg Prod.fst (zsome hf), congrArg Prod.snd (zsome hf), rfl⟩
            · have hf := zitf c116 hf
              refine z_aload_n h 0 dX12_filledBy_101 rfl (rfl : 101 + 1 = 102) ?_
              refine z_aload_n h 0 dX12_filledBy_102 rfl (rfl : 102 + 1 = 103) ?_
              refine z_getr (ci := 11) (C := RX12) (T := TX12) (N := 46) h 20 160 ((hJ.1 147 20 (by decide)).trans rfl) rfl rfl (fun _ hq => List.mem_cons_of_mem _ (List.mem_append_right _ hq)) (by decide) (List.mem_of_getElem? (i := 6) rfl) rfl dX12_filledBy_103 (rfl : 103 + 3 = 106) ?_
              refine z_iload_n h 2 dX12_filledBy_106 rfl (rfl : 106 + 1 = 107) ?_
              obtain ⟨b121, hf⟩ := zchk hf
              refine z_iald h rfl b121 dX12_filledBy_107 (rfl : 107 + 1 = 108) ?_
              refine z_aload_n h 0 dX12_filledBy_108 rfl (rfl : 108 + 1 = 109) ?_
              refine z_getr (ci := 11) (C := RX12) (T := TX12) (N := 46) h 21 161 ((hJ.1 147 21 (by decide)).trans rfl) rfl rfl (fun _ hq => List.mem_cons_of_mem _ (List.mem_append_right _ hq)) (by decide) (List.mem_of_getElem? (i := 5) rfl) rfl dX12_filledBy_109 (rfl : 109 + 3 = 112) ?_
              refine z_iload_n h 2 dX12_filledBy_112 rfl (rfl : 112 + 1 = 113) ?_
              obtain ⟨b122, hf⟩ := zchk hf
              refine z_iald h rfl b122 dX12_filledBy_113 (rfl : 113 + 1 = 114) ?_
              obtain ⟨q123, e124, hf⟩ := zbind hf
              refine z_goF (z_runV (C := RX12) (T := TX12) (N := 46) (ci := 11) h [.int (q114.2 160 (Int32.toNatClampNeg v2)), .int (q114.2 161 (Int32.toNatClampNeg v2))] [] zyX12_isKnowing (c_X12_isKnowing B q114.2 J hJ (q114.2 160 (Int32.toNatClampNeg v2)) (q114.2 161 (Int32.toNatClampNeg v2)) _ _ e124) gX12_filledBy_X12_isKnowing rfl rfl rfl zrX12_filledBy_X12_isKnowing rfl (Nat.le_of_ble_eq_true rfl) ⟨Nat.zero_le _, Nat.zero_le _⟩ rfl dX12_filledBy_114) rfl ?_
              refine z_if_eq (pc' := 120) h 124 dX12_filledBy_117 (by decide) rfl (fun c125 => ?_) (fun c125 => ?_)
              · have hf := zitt c125 hf
                refine z_iconst h 0 dX12_filledBy_124 (by decide) (rfl : 124 + 1 = 125) ?_
                refine z_istore h [(4, .int 0), (0, .ref (za B 147)), (1, .int v1), (2, .int v2), (3, .int v3)] dX12_filledBy_125 (by decide) rfl (rfl : 125 + 2 = 127) ?_
                refine z_iload h 0 dX12_filledBy_127 rfl (rfl : 127 + 2 = 129) ?_
                refine z_if_ne (pc' := 132) h 136 dX12_filledBy_129 (by decide) rfl (fun q => absurd q (by decide)) (fun _ => ?_)
                refine z_iconst h 0 dX12_filledBy_132 (by decide) (rfl : 132 + 1 = 133) ?_
                refine z_goto (pc' := 172) h dX12_filledBy_133 (by decide) ?_
                refine z_istore h [(5, .int 0), (4, .int 0), (0, .ref (za B 147)), (1, .int v1), (2, .int v2), (3, .int v3)] dX12_filledBy_172 (by decide) rfl (rfl : 172 + 2 = 174) ?_
                refine z_aload_n h 2 dX12_filledBy_174 rfl (rfl : 174 + 1 = 175) ?_
                refine z_getr (ci := 11) (C := RX12) (T := TX12) (N := 46) h 36 172 ((hJ.1 147 36 (by decide)).trans rfl) rfl rfl (fun _ hq => List.mem_cons_of_mem _ (List.mem_append_right _ hq)) (by decide) (List.mem_of_getElem? (i := 1) rfl) rfl dX12_filledBy_175 (rfl : 175 + 3 = 178) ?_
                refine z_iload_n h 5 dX12_filledBy_178 rfl (rfl : 178 + 1 = 179) ?_
                refine z_iload_n h 3 dX12_filledBy_179 rfl (rfl : 179 + 1 = 180) ?_
                refine z_iconst h 1 dX12_filledBy_180 (by decide) (rfl : 180 + 1 = 181) ?_
                refine z_iadd h dX12_filledBy_181 (rfl : 181 + 1 = 182) ?_
                obtain ⟨b126, hf⟩ := zchk hf
                refine z_iast h b126 rfl dX12_filledBy_182 (rfl : 182 + 1 = 183) ?_
                refine z_aload_n h 2 dX12_filledBy_183 rfl (rfl : 183 + 1 = 184) ?_
                refine z_iload_n h 5 dX12_filledBy_184 rfl (rfl : 184 + 1 = 185) ?_
                refine z_iload h 0 dX12_filledBy_185 rfl (rfl : 185 + 2 = 187) ?_
                obtain ⟨q127, e128, hf⟩ := zbind hf
                refine z_goF (z_runV (C := RX12) (T := TX12) (N := 46) (ci := 11) h [.int v3, .int 0] [] zyX12_isThere (c_X12_isThere B (zu q123.2 172 (Int32.toNatClampNeg v3) (v1 + (1 : Int32))) J hJ v3 0 _ _ e128) gX12_filledBy_X12_isThere rfl rfl rfl zrX12_filledBy_X12_isThere rfl (Nat.le_of_ble_eq_true rfl) ⟨Nat.zero_le _, Nat.zero_le _⟩ rfl dX12_filledBy_187) rfl ?_
                refine z_if_eq (pc' := 193) h 198 dX12_filledBy_190 (by decide) rfl (fun c129 => ?_) (fun c129 => ?_)
                · have hf := zitt c129 hf
                  refine z_iconst h 0 dX12_filledBy_198 (by decide) (rfl : 198 + 1 = 199) ?_
                  refine z_iret h hr dX12_filledBy_199 ?_
                  exact ⟨congrArg Prod.fst (zsome hf), congrArg Prod.snd (zsome hf), rfl⟩
                · have hf := zitf c129 hf
                  refine z_iload h 0 dX12_filledBy_193 rfl (rfl : 193 + 2 = 195) ?_
                  refine z_goto (pc' := 199) h dX12_filledBy_195 (by decide) ?_
                  refine z_iret h hr dX12_filledBy_199 ?_
                  exact ⟨congrArg Prod.fst (zsome hf), congrArg Prod.snd (zsome hf), rfl⟩
              · have hf := zitf c125 hf
                refine z_iconst h 1 dX12_filledBy_120 (by decide) (rfl : 120 + 1 = 121) ?_
                refine z_goto (pc' := 125) h dX12_filledBy_121 (by decide) ?_
                refine z_istore h [(4, .int 1), (0, .ref (za B 147)), (1, .int v1), (2, .int v2), (3, .int v3)] dX12_filledBy_125 (by decide) rfl (rfl : 125 + 2 = 127) ?_
                refine z_iload h 0 dX12_filledBy_127 rfl (rfl : 127 + 2 = 129) ?_
                refine z_if_ne (pc' := 132) h 136 dX12_filledBy_129 (by decide) rfl (fun _ => ?_) (fun q => absurd q (by decide))
                refine z_iload_n h 2 dX12_filledBy_136 rfl (rfl : 136 + 1 = 137) ?_
                refine z_iconst h 1 dX12_filledBy_137 (by decide) (rfl : 137 + 1 = 138) ?_
                refine z_icmp_ne (pc' := 141) h 161 dX12_filledBy_138 (by decide) rfl (fun c130 => ?_) (fun c130 => ?_)
                · have hf := zitf c130 hf
                  refine z_aload_n h 1 dX12_filledBy_161 rfl (rfl : 161 + 1 = 162) ?_
                  refine z_aload_n h 1 dX12_filledBy_162 rfl (rfl : 162 + 1 = 163) ?_
                  refine z_getr (ci := 11) (C := RX12) (T := TX12) (N := 46) h 21 161 ((hJ.1 147 21 (by decide)).trans rfl) rfl rfl (fun _ hq => List.mem_cons_of_mem _ (List.mem_append_right _ hq)) (by decide) (List.mem_of_getElem? (i := 5) rfl) rfl dX12_filledBy_163 (rfl : 163 + 3 = 166) ?_
                  refine z_iload_n h 3 dX12_filledBy_166 rfl (rfl : 166 + 1 = 167) ?_
                  obtain ⟨b131, hf⟩ := zchk hf
                  refine z_iald h rfl b131 dX12_filledBy_167 (rfl : 167 + 1 = 168) ?_
                  refine z_iload_n h 4 dX12_filledBy_168 rfl (rfl : 168 + 1 = 169) ?_
                  obtain ⟨q132, e133, hf⟩ := zbind hf
                  refine z_goF (z_runV (C := RX12) (T := TX12) (N := 46) (ci := 11) h [.int (q123.2 161 (Int32.toNatClampNeg v2)), .int v3] [] zyX12_customOf (c_X12_customOf B q123.2 J hJ (q123.2 161 (Int32.toNatClampNeg v2)) v3 _ _ e133) gX12_filledBy_X12_customOf rfl rfl rfl zrX12_filledBy_X12_customOf rfl (Nat.le_of_ble_eq_true rfl) ⟨Nat.zero_le _, Nat.zero_le _⟩ rfl dX12_filledBy_169) rfl ?_
                  refine z_istore h [(5, .int q132.1), (4, .int 1), (0, .ref (za B 147)), (1, .int v1), (2, .int v2), (3, .int v3)] dX12_filledBy_172 (by decide) rfl (rfl : 172 + 2 = 174) ?_
                  refine z_aload_n h 2 dX12_filledBy_174 rfl (rfl : 174 + 1 = 175) ?_
                  refine z_getr (ci := 11) (C := RX12) (T := TX12) (N := 46) h 36 172 ((hJ.1 147 36 (by decide)).trans rfl) rfl rfl (fun _ hq => List.mem_cons_of_mem _ (List.mem_append_right _ hq)) (by decide) (List.mem_of_getElem? (i := 1) rfl) rfl dX12_filledBy_175 (rfl : 175 + 3 = 178) ?_
                  refine z_iload_n h 5 dX12_filledBy_178 rfl (rfl : 178 + 1 = 179) ?_
                  refine z_iload_n h 3 dX12_filledBy_179 rfl (rfl : 179 + 1 = 180) ?_
                  refine z_iconst h 1 dX12_filledBy_180 (by decide) (rfl : 180 + 1 = 181) ?_
                  refine z_iadd h dX12_filledBy_181 (rfl : 181 + 1 = 182) ?_
                  obtain ⟨b134, hf⟩ := zchk hf
                  refine z_iast h b134 rfl dX12_filledBy_182 (rfl : 182 + 1 = 183) ?_
                  refine z_aload_n h 2 dX12_filledBy_183 rfl (rfl : 183 + 1 = 184) ?_
                  refine z_iload_n h 5 dX12_filledBy_184 rfl (rfl : 184 + 1 = 185) ?_
                  refine z_iload h 0 dX12_filledBy_185 rfl (rfl : 185 + 2 = 187) ?_
                  obtain ⟨q135, e136, hf⟩ := zbind hf
                  refine z_goF (z_runV (C := RX12) (T := TX12) (N := 46) (ci := 11) h [.int v3, .int q132.1] [] zyX12_isThere (c_X12_isThere B (zu q132.2 172 (Int32.toNatClampNeg v3) (v1 + (1 : Int32))) J hJ v3 q132.1 _ _ e136) gX12_filledBy_X12_isThere rfl rfl rfl zrX12_filledBy_X12_isThere rfl (Nat.le_of_ble_eq_true rfl) ⟨Nat.zero_le _, Nat.zero_le _⟩ rfl dX12_filledBy_187) rfl ?_
                  refine z_if_eq (pc' := 193) h 198 dX12_filledBy_190 (by decide) rfl (fun c137 => ?_) (fun c137 => ?_)
                  · have hf := zitt c137 hf
                    refine z_iconst h 0 dX12_filledBy_198 (by decide) (rfl : 198 + 1 = 199) ?_
                    refine z_iret h hr dX12_filledBy_199 ?_
                    exact ⟨congrArg Prod.fst (zsome hf), congrArg Prod.snd (zsome hf), rfl⟩
                  · have hf := zitf c137 hf
                    refine z_iload h 0 dX12_filledBy_193 rfl (rfl : 193 + 2 = 195) ?_
                    refine z_goto (pc' := 199) h dX12_filledBy_195 (by decide) ?_
                    refine z_iret h hr dX12_filledBy_199 ?_
                    exact ⟨congrArg Prod.fst (zsome hf), congrArg Prod.snd (zsome hf), rfl⟩
                · have hf := zitt c130 hf
                  refine z_aload_n h 1 dX12_filledBy_141 rfl (rfl : 141 + 1 = 142) ?_
                  refine z_aload_n h 1 dX12_filledBy_142 rfl (rfl : 142 + 1 = 143) ?_
                  refine z_getr (ci := 11) (C := RX12) (T := TX12) (N := 46) h 19 159 ((hJ.1 147 19 (by decide)).trans rfl) rfl rfl (fun _ hq => List.mem_cons_of_mem _ (List.mem_append_right _ hq)) (by decide) (List.mem_of_getElem? (i := 4) rfl) rfl dX12_filledBy_143 (rfl : 143 + 3 = 146) ?_
                  refine z_iload_n h 3 dX12_filledBy_146 rfl (rfl : 146 + 1 = 147) ?_
                  obtain ⟨b138, hf⟩ := zchk hf
                  refine z_iald h rfl b138 dX12_filledBy_147 (rfl : 147 + 1 = 148) ?_
                  refine z_aload_n h 1 dX12_filledBy_148 rfl (rfl : 148 + 1 = 149) ?_
                  refine z_getr (ci := 11) (C := RX12) (T := TX12) (N := 46) h 20 160 ((hJ.1 147 20 (by decide)).trans rfl) rfl rfl (fun _ hq => List.mem_cons_of_mem _ (List.mem_append_right _ hq)) (by decide) (List.mem_of_getElem? (i := 6) rfl) rfl dX12_filledBy_149 (rfl : 149 + 3 = 152) ?_
                  refine z_iload_n h 3 dX12_filledBy_152 rfl (rfl : 152 + 1 = 153) ?_
                  obtain ⟨b139, hf⟩ := zchk hf
                  refine z_iald h rfl b139 dX12_filledBy_153 (rfl : 153 + 1 = 154) ?_
                  refine z_iload_n h 4 dX12_filledBy_154 rfl (rfl : 154 + 1 = 155) ?_
                  obtain ⟨q140, e141, hf⟩ := zbind hf
                  refine z_goF (z_runV (C := RX12) (T := TX12) (N := 46) (ci := 11) h [.int (q123.2 159 (Int32.toNatClampNeg v2)), .int (q123.2 160 (Int32.toNatClampNeg v2)), .int v3] [] zyX12_beforeOf (c_X12_beforeOf B q123.2 J hJ (q123.2 159 (Int32.toNatClampNeg v2)) (q123.2 160 (Int32.toNatClampNeg v2)) v3 _ _ e141) gX12_filledBy_X12_beforeOf rfl rfl rfl zrX12_filledBy_X12_beforeOf rfl (Nat.le_of_ble_eq_true rfl) ⟨Nat.zero_le _, Nat.zero_le _⟩ rfl dX12_filledBy_155) rfl ?_
                  refine z_goto (pc' := 172) h dX12_filledBy_158 (by decide) ?_
                  refine z_istore h [(5, .int q140.1), (4, .int 1), (0, .ref (za B 147)), (1, .int v1), (2, .int v2), (3, .int v3)] dX12_filledBy_172 (by decide) rfl (rfl : 172 + 2 = 174) ?_
                  refine z_aload_n h 2 dX12_filledBy_174 rfl (rfl : 174 + 1 = 175) ?_
                  refine z_getr (ci := 11) (C := RX12) (T := TX12) (N := 46) h 36 172 ((hJ.1 147 36 (by decide)).trans rfl) rfl rfl (fun _ hq => List.mem_cons_of_mem _ (List.mem_append_right _ hq)) (by decide) (List.mem_of_getElem? (i := 1) rfl) rfl dX12_filledBy_175 (rfl : 175 + 3 = 178) ?_
                  refine z_iload_n h 5 dX12_filledBy_178 rfl (rfl : 178 + 1 = 179) ?_
                  refine z_iload_n h 3 dX12_filledBy_179 rfl (rfl : 179 + 1 = 180) ?_
                  refine z_iconst h 1 dX12_filledBy_180 (by decide) (rfl : 180 + 1 = 181) ?_
                  refine z_iadd h dX12_filledBy_181 (rfl : 181 + 1 = 182) ?_
                  obtain ⟨b142, hf⟩ := zchk hf
                  refine z_iast h b142 rfl dX12_filledBy_182 (rfl : 182 + 1 = 183) ?_
                  refine z_aload_n h 2 dX12_filledBy_183 rfl (rfl : 183 + 1 = 184) ?_
                  refine z_iload_n h 5 dX12_filledBy_184 rfl (rfl : 184 + 1 = 185) ?_
                  refine z_iload h 0 dX12_filledBy_185 rfl (rfl : 185 + 2 = 187) ?_
                  obtain ⟨q143, e144, hf⟩ := zbind hf
                  refine z_goF (z_runV (C := RX12) (T := TX12) (N := 46) (ci := 11) h [.int v3, .int q140.1] [] zyX12_isThere (c_X12_isThere B (zu q140.2 172 (Int32.toNatClampNeg v3) (v1 + (1 : Int32))) J hJ v3 q140.1 _ _ e144) gX12_filledBy_X12_isThere rfl rfl rfl zrX12_filledBy_X12_isThere rfl (Nat.le_of_ble_eq_true rfl) ⟨Nat.zero_le _, Nat.zero_le _⟩ rfl dX12_filledBy_187) rfl ?_
                  refine z_if_eq (pc' := 193) h 198 dX12_filledBy_190 (by decide) rfl (fun c145 => ?_) (fun c145 => ?_)
                  · have hf := zitt c145 hf
                    refine z_iconst h 0 dX12_filledBy_198 (by decide) (rfl : 198 + 1 = 199) ?_
                    refine z_iret h hr dX12_filledBy_199 ?_
                    exact ⟨congrArg Prod.fst (zsome hf), congrArg Prod.snd (zsome hf), rfl⟩
                  · have hf := zitf c145 hf
                    refine z_iload h 0 dX12_filledBy_193 rfl (rfl : 193 + 2 = 195) ?_
                    refine z_goto (pc' := 199) h dX12_filledBy_195 (by decide) ?_
                    refine z_iret h hr dX12_filledBy_199 ?_
                    exact ⟨congrArg Prod.fst (zsome hf), congrArg Prod.snd (zsome hf), rfl⟩
    · have hf := zitf c2 hf
      refine z_aload_n h 0 dX12_filledBy_51 rfl (rfl : 51 + 1 = 52) ?_
      refine z_getr (ci := 11) (C := RX12) (T := TX12) (N := 46) h 23 163 ((hJ.1 147 23 (by decide)).trans rfl) rfl rfl (fun _ hq => List.mem_cons_of_mem _ (List.mem_append_right _ hq)) (by decide) (List.mem_of_getElem? (i := 3) rfl) rfl dX12_filledBy_52 (rfl : 52 + 3 = 55) ?_
      refine z_iload_n h 2 dX12_filledBy_55 rfl (rfl : 55 + 1 = 56) ?_
      obtain ⟨b146, hf⟩ := zchk hf
      refine z_iald h rfl b146 dX12_filledBy_56 (rfl : 56 + 1 = 57) ?_
      refine z_iload_n h 1 dX12_filledBy_57 rfl (rfl : 57 + 1 = 58) ?_
      refine z_ishr h dX12_filledBy_58 (rfl : 58 + 1 = 59) ?_
      refine z_iconst h 1 dX12_filledBy_59 (by decide) (rfl : 59 + 1 = 60) ?_
      refine z_iand h dX12_filledBy_60 (rfl : 60 + 1 = 61) ?_
      refine z_iconst h 1 dX12_filledBy_61 (by decide) (rfl : 61 + 1 = 62) ?_
      refine z_icmp_ne (pc' := 65) h 67 dX12_filledBy_62 (by decide) rfl (fun c147 => ?_) (fun c147 => ?_)
      · have hf := zitf c147 hf
        refine z_iload_n h 1 dX12_filledBy_67 rfl (rfl : 67 + 1 = 68) ?_
        refine z_iconst h 1 dX12_filledBy_68 (by decide) (rfl : 68 + 1 = 69) ?_
        refine z_icmp_eq (pc' := 72) h 77 dX12_filledBy_69 (by decide) rfl (fun c148 => ?_) (fun c148 => ?_)
        · have hf := zitt c148 hf
          refine z_iload_n h 1 dX12_filledBy_77 rfl (rfl : 77 + 1 = 78) ?_
          refine z_iconst h 1 dX12_filledBy_78 (by decide) (rfl : 78 + 1 = 79) ?_
          refine z_icmp_eq (pc' := 82) h 120 dX12_filledBy_79 (by decide) rfl (fun c149 => ?_) (fun c149 => ?_)
          · have hf := zitt c149 hf
            refine z_iconst h 1 dX12_filledBy_120 (by decide) (rfl : 120 + 1 = 121) ?_
            refine z_goto (pc' := 125) h dX12_filledBy_121 (by decide) ?_
            refine z_istore h [(4, .int 1), (0, .ref (za B 147)), (1, .int v1), (2, .int v2), (3, .int v3)] dX12_filledBy_125 (by decide) rfl (rfl : 125 + 2 = 127) ?_
            refine z_iload h 0 dX12_filledBy_127 rfl (rfl : 127 + 2 = 129) ?_
            refine z_if_ne (pc' := 132) h 136 dX12_filledBy_129 (by decide) rfl (fun _ => ?_) (fun q => absurd q (by decide))
            refine z_iload_n h 2 dX12_filledBy_136 rfl (rfl : 136 + 1 = 137) ?_
            refine z_iconst h 1 dX12_filledBy_137 (by decide) (rfl : 137 + 1 = 138) ?_
            refine z_icmp_ne (pc' := 141) h 161 dX12_filledBy_138 (by decide) rfl (fun c150 => ?_) (fun c150 => ?_)
            · have hf := zitf c150 hf
              refine z_aload_n h 1 dX12_filledBy_161 rfl (rfl : 161 + 1 = 162) ?_
              refine z_aload_n h 1 dX12_filledBy_162 rfl (rfl : 162 + 1 = 163) ?_
              refine z_getr (ci := 11) (C := RX12) (T := TX12) (N := 46) h 21 161 ((hJ.1 147 21 (by decide)).trans rfl) rfl rfl (fun _ hq => List.mem_cons_of_mem _ (List.mem_append_right _ hq)) (by decide) (List.mem_of_getElem? (i := 5) rfl) rfl dX12_filledBy_163 (rfl : 163 + 3 = 166) ?_
              refine z_iload_n h 3 dX12_filledBy_166 rfl (rfl : 166 + 1 = 167) ?_
              obtain ⟨b151, hf⟩ := zchk hf
              refine z_iald h rfl b151 dX12_filledBy_167 (rfl : 167 + 1 = 168) ?_
              refine z_iload_n h 4 dX12_filledBy_168 rfl (rfl : 168 + 1 = 169) ?_
              obtain ⟨q152, e153, hf⟩ := zbind hf
              refine z_goF (z_runV (C := RX12) (T := TX12) (N := 46) (ci := 11) h [.int (I 161 (Int32.toNatClampNeg v2)), .int v3] [] zyX12_customOf (c_X12_customOf B I J hJ (I 161 (Int32.toNatClampNeg v2)) v3 _ _ e153) gX12_filledBy_X12_customOf rfl rfl rfl zrX12_filledBy_X12_customOf rfl (Nat.le_of_ble_eq_true rfl) ⟨Nat.zero_le _, Nat.zero_le _⟩ rfl dX12_filledBy_169) rfl ?_
              refine z_istore h [(5, .int q152.1), (4, .int 1), (0, .ref (za B 147)), (1, .int v1), (2, .int v2), (3, .int v3)] dX12_filledBy_172 (by decide) rfl (rfl : 172 + 2 = 174) ?_
              refine z_aload_n h 2 dX12_filledBy_174 rfl (rfl : 174 + 1 = 175) ?_
              refine z_getr (ci := 11) (C := RX12) (T := TX12) (N := 46) h 36 172 ((hJ.1 147 36 (by decide)).trans rfl) rfl rfl (fun _ hq => List.mem_cons_of_mem _ (List.mem_append_right _ hq)) (by decide) (List.mem_of_getElem? (i := 1) rfl) rfl dX12_filledBy_175 (rfl : 175 + 3 = 178) ?_
              refine z_iload_n h 5 dX12_filledBy_178 rfl (rfl : 178 + 1 = 179) ?_
              refine z_iload_n h 3 dX12_filledBy_179 rfl (rfl : 179 + 1 = 180) ?_
              refine z_iconst h 1 dX12_filledBy_180 (by decide) (rfl : 180 + 1 = 181) ?_
              refine z_iadd h dX12_filledBy_181 (rfl : 181 + 1 = 182) ?_
              obtain ⟨b154, hf⟩ := zchk hf
              refine z_iast h b154 rfl dX12_filledBy_182 (rfl : 182 + 1 = 183) ?_
              refine z_aload_n h 2 dX12_filledBy_183 rfl (rfl : 183 + 1 = 184) ?_
              refine z_iload_n h 5 dX12_filledBy_184 rfl (rfl : 184 + 1 = 185) ?_
              refine z_iload h 0 dX12_filledBy_185 rfl (rfl : 185 + 2 = 187) ?_
              obtain ⟨q155, e156, hf⟩ := zbind hf
              refine z_goF (z_runV (C := RX12) (T := TX12) (N := 46) (ci := 11) h [.int v3, .int q152.1] [] zyX12_isThere (c_X12_isThere B (zu q152.2 172 (Int32.toNatClampNeg v3) (v1 + (1 : Int32))) J hJ v3 q152.1 _ _ e156) gX12_filledBy_X12_isThere rfl rfl rfl zrX12_filledBy_X12_isThere rfl (Nat.le_of_ble_eq_true rfl) ⟨Nat.zero_le _, Nat.zero_le _⟩ rfl dX12_filledBy_187) rfl ?_
              refine z_if_eq (pc' := 193) h 198 dX12_filledBy_190 (by decide) rfl (fun c157 => ?_) (fun c157 => ?_)
              · have hf := zitt c157 hf
                refine z_iconst h 0 dX12_filledBy_198 (by decide) (rfl : 198 + 1 = 199) ?_
                refine z_iret h hr dX12_filledBy_199 ?_
                exact ⟨congrArg Prod.fst (zsome hf), congrArg Prod.snd (zsome hf), rfl⟩
              · have hf := zitf c157 hf
                refine z_iload h 0 dX12_filledBy_193 rfl (rfl : 193 + 2 = 195) ?_
                refine z_goto (pc' := 199) h dX12_filledBy_195 (by decide) ?_
                refine z_iret h hr dX12_filledBy_199 ?_
                exact ⟨congrArg Prod.fst (zsome hf), congrArg Prod.snd (zsome hf), rfl⟩
            · have hf := zitt c150 hf
              refine z_aload_n h 1 dX12_filledBy_141 rfl (rfl : 141 + 1 = 142) ?_
              refine z_aload_n h 1 dX12_filledBy_142 rfl (rfl : 142 + 1 = 143) ?_
              refine z_getr (ci := 11) (C := RX12) (T := TX12) (N := 46) h 19 159 ((hJ.1 147 19 (by decide)).trans rfl) rfl rfl (fun _ hq => List.mem_cons_of_mem _ (List.mem_append_right _ hq)) (by decide) (List.mem_of_getElem? (i := 4) rfl) rfl dX12_filledBy_143 (rfl : 143 + 3 = 146) ?_
              refine z_iload_n h 3 dX12_filledBy_146 rfl (rfl : 146 + 1 = 147) ?_
              obtain ⟨b158, hf⟩ := zchk hf
              refine z_iald h rfl b158 dX12_filledBy_147 (rfl : 147 + 1 = 148) ?_
              refine z_aload_n h 1 dX12_filledBy_148 rfl (rfl : 148 + 1 = 149) ?_
              refine z_getr (ci := 11) (C := RX12) (T := TX12) (N := 46) h 20 160 ((hJ.1 147 20 (by decide)).trans rfl) rfl rfl (fun _ hq => List.mem_cons_of_mem _ (List.mem_append_right _ hq)) (by decide) (List.mem_of_getElem? (i := 6) rfl) rfl dX12_filledBy_149 (rfl : 149 + 3 = 152) ?_
              refine z_iload_n h 3 dX12_filledBy_152 rfl (rfl : 152 + 1 = 153) ?_
              obtain ⟨b159, hf⟩ := zchk hf
              refine z_iald h rfl b159 dX12_filledBy_153 (rfl : 153 + 1 = 154) ?_
              refine z_iload_n h 4 dX12_filledBy_154 rfl (rfl : 154 + 1 = 155) ?_
              obtain ⟨q160, e161, hf⟩ := zbind hf
              refine z_goF (z_runV (C := RX12) (T := TX12) (N := 46) (ci := 11) h [.int (I 159 (Int32.toNatClampNeg v2)), .int (I 160 (Int32.toNatClampNeg v2)), .int v3] [] zyX12_beforeOf (c_X12_beforeOf B I J hJ (I 159 (Int32.toNatClampNeg v2)) (I 160 (Int32.toNatClampNeg v2)) v3 _ _ e161) gX12_filledBy_X12_beforeOf rfl rfl rfl zrX12_filledBy_X12_beforeOf rfl (Nat.le_of_ble_eq_true rfl) ⟨Nat.zero_le _, Nat.zero_le _⟩ rfl dX12_filledBy_155) rfl ?_
              refine z_goto (pc' := 172) h dX12_filledBy_158 (by decide) ?_
              refine z_istore h [(5, .int q160.1), (4, .int 1), (0, .ref (za B 147)), (1, .int v1), (2, .int v2), (3, .int v3)] dX12_filledBy_172 (by decide) rfl (rfl : 172 + 2 = 174) ?_
              refine z_aload_n h 2 dX12_filledBy_174 rfl (rfl : 174 + 1 = 175) ?_
              refine z_getr (ci := 11) (C := RX12) (T := TX12) (N := 46) h 36 172 ((hJ.1 147 36 (by decide)).trans rfl) rfl rfl (fun _ hq => List.mem_cons_of_mem _ (List.mem_append_right _ hq)) (by decide) (List.mem_of_getElem? (i := 1) rfl) rfl dX12_filledBy_175 (rfl : 175 + 3 = 178) ?_
              refine z_iload_n h 5 dX12_filledBy_178 rfl (rfl : 178 + 1 = 179) ?_
              refine z_iload_n h 3 dX12_filledBy_179 rfl (rfl : 179 + 1 = 180) ?_
              refine z_iconst h 1 dX12_filledBy_180 (by decide) (rfl : 180 + 1 = 181) ?_
              refine z_iadd h dX12_filledBy_181 (rfl : 181 + 1 = 182) ?_
              obtain ⟨b162, hf⟩ := zchk hf
              refine z_iast h b162 rfl dX12_filledBy_182 (rfl : 182 + 1 = 183) ?_
              refine z_aload_n h 2 dX12_filledBy_183 rfl (rfl : 183 + 1 = 184) ?_
              refine z_iload_n h 5 dX12_filledBy_184 rfl (rfl : 184 + 1 = 185) ?_
              refine z_iload h 0 dX12_filledBy_185 rfl (rfl : 185 + 2 = 187) ?_
              obtain ⟨q163, e164, hf⟩ := zbind hf
              refine z_goF (z_runV (C := RX12) (T := TX12) (N := 46) (ci := 11) h [.int v3, .int q160.1] [] zyX12_isThere (c_X12_isThere B (zu q160.2 172 (Int32.toNatClampNeg v3) (v1 + (1 : Int32))) J hJ v3 q160.1 _ _ e164) gX12_filledBy_X12_isThere rfl rfl rfl zrX12_filledBy_X12_isThere rfl (Nat.le_of_ble_eq_true rfl) ⟨Nat.zero_le _, Nat.zero_le _⟩ rfl dX12_filledBy_187) rfl ?_
              refine z_if_eq (pc' := 193) h 198 dX12_filledBy_190 (by decide) rfl (fun c165 => ?_) (fun c165 => ?_)
              · have hf := zitt c165 hf
                refine z_iconst h 0 dX12_filledBy_198 (by decide) (rfl : 198 + 1 = 199) ?_
                refine z_iret h hr dX12_filledBy_199 ?_
                exact ⟨congrArg Prod.fst (zsome hf), congrArg Prod.snd (zsome hf), rfl⟩
              · have hf := zitf c165 hf
                refine z_iload h 0 dX12_filledBy_193 rfl (rfl : 193 + 2 = 195) ?_
                refine z_goto (pc' := 199) h dX12_filledBy_195 (by decide) ?_
                refine z_iret h hr dX12_filledBy_199 ?_
                exact ⟨congrArg Prod.fst (zsome hf), congrArg Prod.snd (zsome hf), rfl⟩
          · have hf := zitf c149 hf
            refine z_aload_n h 0 dX12_filledBy_82 rfl (rfl : 82 + 1 = 83) ?_
            refine z_aload_n h 0 dX12_filledBy_83 rfl (rfl : 83 + 1 = 84) ?_
            refine z_getr (ci := 11) (C := RX12) (T := TX12) (N := 46) h 19 159 ((hJ.1 147 19 (by decide)).trans rfl) rfl rfl (fun _ hq => List.mem_cons_of_mem _ (List.mem_append_right _ hq)) (by decide) (List.mem_of_getElem? (i := 4) rfl) rfl dX12_filledBy_84 (rfl : 84 + 3 = 87) ?_
            refine z_iload_n h 2 dX12_filledBy_87 rfl (rfl : 87 + 1 = 88) ?_
            obtain ⟨b166, hf⟩ := zchk hf
            refine z_iald h rfl b166 dX12_filledBy_88 (rfl : 88 + 1 = 89) ?_
            refine z_aload_n h 0 dX12_filledBy_89 rfl (rfl : 89 + 1 = 90) ?_
            refine z_getr (ci := 11) (C := RX12) (T := TX12) (N := 46) h 21 161 ((hJ.1 147 21 (by decide)).trans rfl) rfl rfl (fun _ hq => List.mem_cons_of_mem _ (List.mem_append_right _ hq)) (by decide) (List.mem_of_getElem? (i := 5) rfl) rfl dX12_filledBy_90 (rfl : 90 + 3 = 93) ?_
            refine z_iload_n h 2 dX12_filledBy_93 rfl (rfl : 93 + 1 = 94) ?_
            obtain ⟨b167, hf⟩ := zchk hf
            refine z_iald h rfl b167 dX12_filledBy_94 (rfl : 94 + 1 = 95) ?_
            obtain ⟨q168, e169, hf⟩ := zbind hf
            refine z_goF (z_runV (C := RX12) (T := TX12) (N := 46) (ci := 11) h [.int (I 159 (Int32.toNatClampNeg v2)), .int (I 161 (Int32.toNatClampNeg v2))] [] zyX12_isKnowing (c_X12_isKnowing B I J hJ (I 159 (Int32.toNatClampNeg v2)) (I 161 (Int32.toNatClampNeg v2)) _ _ e169) gX12_filledBy_X12_isKnowing rfl rfl rfl zrX12_filledBy_X12_isKnowing rfl (Nat.le_of_ble_eq_true rfl) ⟨Nat.zero_le _, Nat.zero_le _⟩ rfl dX12_filledBy_95) rfl ?_
            refine z_if_eq (pc' := 101) h 124 dX12_filledBy_98 (by decide) rfl (fun c170 => ?_) (fun c170 => ?_)
            · have hf := zitt c170 hf
              refine z_iconst h 0 dX12_filledBy_124 (by decide) (rfl : 124 + 1 = 125) ?_
              refine z_istore h [(4, .int 0), (0, .ref (za B 147)), (1, .int v1), (2, .int v2), (3, .int v3)] dX12_filledBy_125 (by decide) rfl (rfl : 125 + 2 = 127) ?_
              refine z_iload h 0 dX12_filledBy_127 rfl (rfl : 127 + 2 = 129) ?_
              refine z_if_ne (pc' := 132) h 136 dX12_filledBy_129 (by decide) rfl (fun q => absurd q (by decide)) (fun _ => ?_)
              refine z_iconst h 0 dX12_filledBy_132 (by decide) (rfl : 132 + 1 = 133) ?_
              refine z_goto (pc' := 172) h dX12_filledBy_133 (by decide) ?_
              refine z_istore h [(5, .int 0), (4, .int 0), (0, .ref (za B 147)), (1, .int v1), (2, .int v2), (3, .int v3)] dX12_filledBy_172 (by decide) rfl (rfl : 172 + 2 = 174) ?_
              refine z_aload_n h 2 dX12_filledBy_174 rfl (rfl : 174 + 1 = 175) ?_
              refine z_getr (ci := 11) (C := RX12) (T := TX12) (N := 46) h 36 172 ((hJ.1 147 36 (by decide)).trans rfl) rfl rfl (fun _ hq => List.mem_cons_of_mem _ (List.mem_append_right _ hq)) (by decide) (List.mem_of_getElem? (i := 1) rfl) rfl dX12_filledBy_175 (rfl : 175 + 3 = 178) ?_
              refine z_iload_n h 5 dX12_filledBy_178 rfl (rfl : 178 + 1 = 179) ?_
              refine z_iload_n h 3 dX12_filledBy_179 rfl (rfl : 179 + 1 = 180) ?_
              refine z_iconst h 1 dX12_filledBy_180 (by decide) (rfl : 180 + 1 = 181) ?_
              refine z_iadd h dX12_filledBy_181 (rfl : 181 + 1 = 182) ?_
              obtain ⟨b171, hf⟩ := zchk hf
              refine z_iast h b171 rfl dX12_filledBy_182 (rfl : 182 + 1 = 183) ?_
              refine z_aload_n h 2 dX12_filledBy_183 rfl (rfl : 183 + 1 = 184) ?_
              refine z_iload_n h 5 dX12_filledBy_184 rfl (rfl : 184 + 1 = 185) ?_
              refine z_iload h 0 dX12_filledBy_185 rfl (rfl : 185 + 2 = 187) ?_
              obtain ⟨q172, e173, hf⟩ := zbind hf
              refine z_goF (z_runV (C := RX12) (T := TX12) (N := 46) (ci := 11) h [.int v3, .int 0] [] zyX12_isThere (c_X12_isThere B (zu q168.2 172 (Int32.toNatClampNeg v3) (v1 + (1 : Int32))) J hJ v3 0 _ _ e173) gX12_filledBy_X12_isThere rfl rfl rfl zrX12_filledBy_X12_isThere rfl (Nat.le_of_ble_eq_true rfl) ⟨Nat.zero_le _, Nat.zero_le _⟩ rfl dX12_filledBy_187) rfl ?_
              refine z_if_eq (pc' := 193) h 198 dX12_filledBy_190 (by decide) rfl (fun c174 => ?_) (fun c174 => ?_)
              · have hf := zitt c174 hf
                refine z_iconst h 0 dX12_filledBy_198 (by decide) (rfl : 198 + 1 = 199) ?_
                refine z_iret h hr dX12_filledBy_199 ?_
                exact ⟨congrArg Prod.fst (zsome hf), congrArg Prod.snd (zsome hf), rfl⟩
              · have hf := zitf c174 hf
                refine z_iload h 0 dX12_filledBy_193 rfl (rfl : 193 + 2 = 195) ?_
                refine z_goto (pc' := 199) h dX12_filledBy_195 (by decide) ?_
                refine z_iret h hr dX12_filledBy_199 ?_
                exact ⟨congrArg Prod.fst (zsome hf), congrArg Prod.snd (zsome hf), rfl⟩
            · have hf := zitf c170 hf
              refine z_aload_n h 0 dX12_filledBy_101 rfl (rfl : 101 + 1 = 102) ?_
              refine z_aload_n h 0 dX12_filledBy_102 rfl (rfl : 102 + 1 = 103) ?_
              refine z_getr (ci := 11) (C := RX12) (T := TX12) (N := 46) h 20 160 ((hJ.1 147 20 (by decide)).trans rfl) rfl rfl (fun _ hq => List.mem_cons_of_mem _ (List.mem_append_right _ hq)) (by decide) (List.mem_of_getElem? (i := 6) rfl) rfl dX12_filledBy_103 (rfl : 103 + 3 = 106) ?_
              refine z_iload_n h 2 dX12_filledBy_106 rfl (rfl : 106 + 1 = 107) ?_
              obtain ⟨b175, hf⟩ := zchk hf
              refine z_iald h rfl b175 dX12_filledBy_107 (rfl : 107 + 1 = 108) ?_
              refine z_aload_n h 0 dX12_filledBy_108 rfl (rfl : 108 + 1 = 109) ?_
              refine z_getr (ci := 11) (C := RX12) (T := TX12) (N := 46) h 21 161 ((hJ.1 147 21 (by decide)).trans rfl) rfl rfl (fun _ hq => List.mem_cons_of_mem _ (List.mem_append_right _ hq)) (by decide) (List.mem_of_getElem? (i := 5) rfl) rfl dX12_filledBy_109 (rfl : 109 + 3 = 112) ?_
              refine z_iload_n h 2 dX12_filledBy_112 rfl (rfl : 112 + 1 = 113) ?_
              obtain ⟨b176, hf⟩ := zchk hf
              refine z_iald h rfl b176 dX12_filledBy_113 (rfl : 113 + 1 = 114) ?_
              obtain ⟨q177, e178, hf⟩ := zbind hf
              refine z_goF (z_runV (C := RX12) (T := TX12) (N := 46) (ci := 11) h [.int (q168.2 160 (Int32.toNatClampNeg v2)), .int (q168.2 161 (Int32.toNatClampNeg v2))] [] zyX12_isKnowing (c_X12_isKnowing B q168.2 J hJ (q168.2 160 (Int32.toNatClampNeg v2)) (q168.2 161 (Int32.toNatClampNeg v2)) _ _ e178) gX12_filledBy_X12_isKnowing rfl rfl rfl zrX12_filledBy_X12_isKnowing rfl (Nat.le_of_ble_eq_true rfl) ⟨Nat.zero_le _, Nat.zero_le _⟩ rfl dX12_filledBy_114) rfl ?_
              refine z_if_eq (pc' := 120) h 124 dX12_filledBy_117 (by decide) rfl (fun c179 => ?_) (fun c179 => ?_)
              · have hf := zitt c179 hf
                refine z_iconst h 0 dX12_filledBy_124 (by decide) (rfl : 124 + 1 = 125) ?_
                refine z_istore h [(4, .int 0), (0, .ref (za B 147)), (1, .int v1), (2, .int v2), (3, .int v3)] dX12_filledBy_125 (by decide) rfl (rfl : 125 + 2 = 127) ?_
                refine z_iload h 0 dX12_filledBy_127 rfl (rfl : 127 + 2 = 129) ?_
                refine z_if_ne (pc' := 132) h 136 dX12_filledBy_129 (by decide) rfl (fun q => absurd q (by decide)) (fun _ => ?_)
                refine z_iconst h 0 dX12_filledBy_132 (by decide) (rfl : 132 + 1 = 133) ?_
                refine z_goto (pc' := 172) h dX12_filledBy_133 (by decide) ?_
                refine z_istore h [(5, .int 0), (4, .int 0), (0, .ref (za B 147)), (1, .int v1), (2, .int v2), (3, .int v3)] dX12_filledBy_172 (by decide) rfl (rfl : 172 + 2 = 174) ?_
                refine z_aload_n h 2 dX12_filledBy_174 rfl (rfl : 174 + 1 = 175) ?_
                refine z_getr (ci := 11) (C := RX12) (T := TX12) (N := 46) h 36 172 ((hJ.1 147 36 (by decide)).trans rfl) rfl rfl (fun _ hq => List.mem_cons_of_mem _ (List.mem_append_right _ hq)) (by decide) (List.mem_of_getElem? (i := 1) rfl) rfl dX12_filledBy_175 (rfl : 175 + 3 = 178) ?_
                refine z_iload_n h 5 dX12_filledBy_178 rfl (rfl : 178 + 1 = 179) ?_
                refine z_iload_n h 3 dX12_filledBy_179 rfl (rfl : 179 + 1 = 180) ?_
                refine z_iconst h 1 dX12_filledBy_180 (by decide) (rfl : 180 + 1 = 181) ?_
                refine z_iadd h dX12_filledBy_181 (rfl : 181 + 1 = 182) ?_
                obtain ⟨b180, hf⟩ := zchk hf
                refine z_iast h b180 rfl dX12_filledBy_182 (rfl : 182 + 1 = 183) ?_
                refine z_aload_n h 2 dX12_filledBy_183 rfl (rfl : 183 + 1 = 184) ?_
                refine z_iload_n h 5 dX12_filledBy_184 rfl (rfl : 184 + 1 = 185) ?_
                refine z_iload h 0 dX12_filledBy_185 rfl (rfl : 185 + 2 = 187) ?_
                obtain ⟨q181, e182, hf⟩ := zbind hf
                refine z_goF (z_runV (C := RX12) (T := TX12) (N := 46) (ci := 11) h [.int v3, .int 0] [] zyX12_isThere (c_X12_isThere B (zu q177.2 172 (Int32.toNatClampNeg v3) (v1 + (1 : Int32))) J hJ v3 0 _ _ e182) gX12_filledBy_X12_isThere rfl rfl rfl zrX12_filledBy_X12_isThere rfl (Nat.le_of_ble_eq_true rfl) ⟨Nat.zero_le _, Nat.zero_le _⟩ rfl dX12_filledBy_187) rfl ?_
                refine z_if_eq (pc' := 193) h 198 dX12_filledBy_190 (by decide) rfl (fun c183 => ?_) (fun c183 => ?_)
                · have hf := zitt c183 hf
                  refine z_iconst h 0 dX12_filledBy_198 (by decide) (rfl : 198 + 1 = 199) ?_
                  refine z_iret h hr dX12_filledBy_199 ?_
                  exact ⟨congrArg Prod.fst (zsome hf), congrArg Prod.snd (zsome hf), rfl⟩
                · have hf := zitf c183 hf
                  refine z_iload h 0 dX12_filledBy_193 rfl (rfl : 193 + 2 = 195) ?_
                  refine z_goto (pc' := 199) h dX12_filledBy_195 (by decide) ?_
                  refine z_iret h hr dX12_filledBy_199 ?_
                  exact ⟨congrArg Prod.fst (zsome hf), congrArg Prod.snd (zsome hf), rfl⟩
              · have hf := zitf c179 hf
                refine z_iconst h 1 dX12_filledBy_120 (by decide) (rfl : 120 + 1 = 121) ?_
                refine z_goto (pc' := 125) h dX12_filledBy_121 (by decide) ?_
                refine z_istore h [(4, .int 1), (0, .ref (za B 147)), (1, .int v1), (2, .int v2), (3, .int v3)] dX12_filledBy_125 (by decide) rfl (rfl : 125 + 2 = 127) ?_
                refine z_iload h 0 dX12_filledBy_127 rfl (rfl : 127 + 2 = 129) ?_
                refine z_if_ne (pc' := 132) h 136 dX12_filledBy_129 (by decide) rfl (fun _ => ?_) (fun q => absurd q (by decide))
                refine z_iload_n h 2 dX12_filledBy_136 rfl (rfl : 136 + 1 = 137) ?_
                refine z_iconst h 1 dX12_filledBy_137 (by decide) (rfl : 137 + 1 = 138) ?_
                refine z_icmp_ne (pc' := 141) h 161 dX12_filledBy_138 (by decide) rfl (fun c184 => ?_) (fun c184 => ?_)
                · have hf := zitf c184 hf
                  refine z_aload_n h 1 dX12_filledBy_161 rfl (rfl : 161 + 1 = 162) ?_
                  refine z_aload_n h 1 dX12_filledBy_162 rfl (rfl : 162 + 1 = 163) ?_
                  refine z_getr (ci := 11) (C := RX12) (T := TX12) (N := 46) h 21 161 ((hJ.1 147 21 (by decide)).trans rfl) rfl rfl (fun _ hq => List.mem_cons_of_mem _ (List.mem_append_right _ hq)) (by decide) (List.mem_of_getElem? (i := 5) rfl) rfl dX12_filledBy_163 (rfl : 163 + 3 = 166) ?_
                  refine z_iload_n h 3 dX12_filledBy_166 rfl (rfl : 166 + 1 = 167) ?_
                  obtain ⟨b185, hf⟩ := zchk hf
                  refine z_iald h rfl b185 dX12_filledBy_167 (rfl : 167 + 1 = 168) ?_
                  refine z_iload_n h 4 dX12_filledBy_168 rfl (rfl : 168 + 1 = 169) ?_
                  obtain ⟨q186, e187, hf⟩ := zbind hf
                  refine z_goF (z_runV (C := RX12) (T := TX12) (N := 46) (ci := 11) h [.int (q177.2 161 (Int32.toNatClampNeg v2)), .int v3] [] zyX12_customOf (c_X12_customOf B q177.2 J hJ (q177.2 161 (Int32.toNatClampNeg v2)) v3 _ _ e187) gX12_filledBy_X12_customOf rfl rfl rfl zrX12_filledBy_X12_customOf rfl (Nat.le_of_ble_eq_true rfl) ⟨Nat.zero_le _, Nat.zero_le _⟩ rfl dX12_filledBy_169) rfl ?_
                  refine z_istore h [(5, .int q186.1), (4, .int 1), (0, .ref (za B 147)), (1, .int v1), (2, .int v2), (3, .int v3)] dX12_filledBy_172 (by decide) rfl (rfl : 172 + 2 = 174) ?_
                  refine z_aload_n h 2 dX12_filledBy_174 rfl (rfl : 174 + 1 = 175) ?_
                  refine z_getr (ci := 11) (C := RX12) (T := TX12) (N := 46) h 36 172 ((hJ.1 147 36 (by decide)).trans rfl) rfl rfl (fun _ hq => List.mem_cons_of_mem _ (List.mem_append_right _ hq)) (by decide) (List.mem_of_getElem? (i := 1) rfl) rfl dX12_filledBy_175 (rfl : 175 + 3 = 178) ?_
                  refine z_iload_n h 5 dX12_filledBy_178 rfl (rfl : 178 + 1 = 179) ?_
                  refine z_iload_n h 3 dX12_filledBy_179 rfl (rfl : 179 + 1 = 180) ?_
                  refine z_iconst h 1 dX12_filledBy_180 (by decide) (rfl : 180 + 1 = 181) ?_
                  refine z_iadd h dX12_filledBy_181 (rfl : 181 + 1 = 182) ?_
                  obtain ⟨b188, hf⟩ := zchk hf
                  refine z_iast h b188 rfl dX12_filledBy_182 (rfl : 182 + 1 = 183) ?_
                  refine z_aload_n h 2 dX12_filledBy_183 rfl (rfl : 183 + 1 = 184) ?_
                  refine z_iload_n h 5 dX12_filledBy_184 rfl (rfl : 184 + 1 = 185) ?_
                  refine z_iload h 0 dX12_filledBy_185 rfl (rfl : 185 + 2 = 187) ?_
                  obtain ⟨q189, e190, hf⟩ := zbind hf
                  refine z_goF (z_runV (C := RX12) (T := TX12) (N := 46) (ci := 11) h [.int v3, .int q186.1] [] zyX12_isThere (c_X12_isThere B (zu q186.2 172 (Int32.toNatClampNeg v3) (v1 + (1 : Int32))) J hJ v3 q186.1 _ _ e190) gX12_filledBy_X12_isThere rfl rfl rfl zrX12_filledBy_X12_isThere rfl (Nat.le_of_ble_eq_true rfl) ⟨Nat.zero_le _, Nat.zero_le _⟩ rfl dX12_filledBy_187) rfl ?_
                  refine z_if_eq (pc' := 193) h 198 dX12_filledBy_190 (by decide) rfl (fun c191 => ?_) (fun c191 => ?_)
                  · have hf := zitt c191 hf
                    refine z_iconst h 0 dX12_filledBy_198 (by decide) (rfl : 198 + 1 = 199) ?_
                    refine z_iret h hr dX12_filledBy_199 ?_
                    exact ⟨congrArg Prod.fst (zsome hf), congrArg Prod.snd (zsome hf), rfl⟩
                  · have hf := zitf c191 hf
                    refine z_iload h 0 dX12_filledBy_193 rfl (rfl : 193 + 2 = 195) ?_
                    refine z_goto (pc' := 199) h dX12_filledBy_195 (by decide) ?_
                    refine z_iret h hr dX12_filledBy_199 ?_
                    exact ⟨congrArg Prod.fst (zsome hf), congrArg Prod.snd (zsome hf), rfl⟩
                · have hf := zitt c184 hf
                  refine z_aload_n h 1 dX12_filledBy_141 rfl (rfl : 141 + 1 = 142) ?_
                  refine z_aload_n h 1 dX12_filledBy_142 rfl (rfl : 142 + 1 = 143) ?_
                  refine z_getr (ci := 11) (C := RX12) (T := TX12) (N := 46) h 19 159 ((hJ.1 147 19 (by decide)).trans rfl) rfl rfl (fun _ hq => List.mem_cons_of_mem _ (List.mem_append_right _ hq)) (by decide) (List.mem_of_getElem? (i := 4) rfl) rfl dX12_filledBy_143 (rfl : 143 + 3 = 146) ?_
                  refine z_iload_n h 3 dX12_filledBy_146 rfl (rfl : 146 + 1 = 147) ?_
                  obtain ⟨b192, hf⟩ := zchk hf
                  refine z_iald h rfl b192 dX12_filledBy_147 (rfl : 147 + 1 = 148) ?_
                  refine z_aload_n h 1 dX12_filledBy_148 rfl (rfl : 148 + 1 = 149) ?_
                  refine z_getr (ci := 11) (C := RX12) (T := TX12) (N := 46) h 20 160 ((hJ.1 147 20 (by decide)).trans rfl) rfl rfl (fun _ hq => List.mem_cons_of_mem _ (List.mem_append_right _ hq)) (by decide) (List.mem_of_getElem? (i := 6) rfl) rfl dX12_filledBy_149 (rfl : 149 + 3 = 152) ?_
                  refine z_iload_n h 3 dX12_filledBy_152 rfl (rfl : 152 + 1 = 153) ?_
                  obtain ⟨b193, hf⟩ := zchk hf
                  refine z_iald h rfl b193 dX12_filledBy_153 (rfl : 153 + 1 = 154) ?_
                  refine z_iload_n h 4 dX12_filledBy_154 rfl (rfl : 154 + 1 = 155) ?_
                  obtain ⟨q194, e195, hf⟩ := zbind hf
                  refine z_goF (z_runV (C := RX12) (T := TX12) (N := 46) (ci := 11) h [.int (q177.2 159 (Int32.toNatClampNeg v2)), .int (q177.2 160 (Int32.toNatClampNeg v2)), .int v3] [] zyX12_beforeOf (c_X12_beforeOf B q177.2 J hJ (q177.2 159 (Int32.toNatClampNeg v2)) (q177.2 160 (Int32.toNatClampNeg v2)) v3 _ _ e195) gX12_filledBy_X12_beforeOf rfl rfl rfl zrX12_filledBy_X12_beforeOf rfl (Nat.le_of_ble_eq_true rfl) ⟨Nat.zero_le _, Nat.zero_le _⟩ rfl dX12_filledBy_155) rfl ?_
                  refine z_goto (pc' := 172) h dX12_filledBy_158 (by decide) ?_
                  refine z_istore h [(5, .int q194.1), (4, .int 1), (0, .ref (za B 147)), (1, .int v1), (2, .int v2), (3, .int v3)] dX12_filledBy_172 (by decide) rfl (rfl : 172 + 2 = 174) ?_
                  refine z_aload_n h 2 dX12_filledBy_174 rfl (rfl : 174 + 1 = 175) ?_
                  refine z_getr (ci := 11) (C := RX12) (T := TX12) (N := 46) h 36 172 ((hJ.1 147 36 (by decide)).trans rfl) rfl rfl (fun _ hq => List.mem_cons_of_mem _ (List.mem_append_right _ hq)) (by decide) (List.mem_of_getElem? (i := 1) rfl) rfl dX12_filledBy_175 (rfl : 175 + 3 = 178) ?_
                  refine z_iload_n h 5 dX12_filledBy_178 rfl (rfl : 178 + 1 = 179) ?_
                  refine z_iload_n h 3 dX12_filledBy_179 rfl (rfl : 179 + 1 = 180) ?_
                  refine z_iconst h 1 dX12_filledBy_180 (by decide) (rfl : 180 + 1 = 181) ?_
                  refine z_iadd h dX12_filledBy_181 (rfl : 181 + 1 = 182) ?_
                  obtain ⟨b196, hf⟩ := zchk hf
                  refine z_iast h b196 rfl dX12_filledBy_182 (rfl : 182 + 1 = 183) ?_
                  refine z_aload_n h 2 dX12_filledBy_183 rfl (rfl : 183 + 1 = 184) ?_
                  refine z_iload_n h 5 dX12_filledBy_184 rfl (rfl : 184 + 1 = 185) ?_
                  refine z_iload h 0 dX12_filledBy_185 rfl (rfl : 185 + 2 = 187) ?_
                  obtain ⟨q197, e198, hf⟩ := zbind hf
                  refine z_goF (z_runV (C := RX12) (T := TX12) (N := 46) (ci := 11) h [.int v3, .int q194.1] [] zyX12_isThere (c_X12_isThere B (zu q194.2 172 (Int32.toNatClampNeg v3) (v1 + (1 : Int32))) J hJ v3 q194.1 _ _ e198) gX12_filledBy_X12_isThere rfl rfl rfl zrX12_filledBy_X12_isThere rfl (Nat.le_of_ble_eq_true rfl) ⟨Nat.zero_le _, Nat.zero_le _⟩ rfl dX12_filledBy_187) rfl ?_
                  refine z_if_eq (pc' := 193) h 198 dX12_filledBy_190 (by decide) rfl (fun c199 => ?_) (fun c199 => ?_)
                  · have hf := zitt c199 hf
                    refine z_iconst h 0 dX12_filledBy_198 (by decide) (rfl : 198 + 1 = 199) ?_
                    refine z_iret h hr dX12_filledBy_199 ?_
                    exact ⟨congrArg Prod.fst (zsome hf), congrArg Prod.snd (zsome hf), rfl⟩
                  · have hf := zitf c199 hf
                    refine z_iload h 0 dX12_filledBy_193 rfl (rfl : 193 + 2 = 195) ?_
                    refine z_goto (pc' := 199) h dX12_filledBy_195 (by decide) ?_
                    refine z_iret h hr dX12_filledBy_199 ?_
                    exact ⟨congrArg Prod.fst (zsome hf), congrArg Prod.snd (zsome hf), rfl⟩
        · have hf := zitf c148 hf
          refine z_iload_n h 1 dX12_filledBy_72 rfl (rfl : 72 + 1 = 73) ?_
          refine z_iconst h 2 dX12_filledBy_73 (by decide) (rfl : 73 + 1 = 74) ?_
          refine z_icmp_ne (pc' := 77) h 200 dX12_filledBy_74 (by decide) rfl (fun c200 => ?_) (fun c200 => ?_)
          · have hf := zitf c200 hf
            refine z_iload_n h 1 dX12_filledBy_200 rfl (rfl : 200 + 1 = 201) ?_
            refine z_iconst h 3 dX12_filledBy_201 (by decide) (rfl : 201 + 1 = 202) ?_
            refine z_icmp_ne (pc' := 205) h 238 dX12_filledBy_202 (by decide) rfl (fun c201 => ?_) (fun c201 => ?_)
            · have hf := zitf c201 hf
              refine z_aload_n h 0 dX12_filledBy_238 rfl (rfl : 238 + 1 = 239) ?_
              refine z_iload_n h 1 dX12_filledBy_239 rfl (rfl : 239 + 1 = 240) ?_
              refine z_iconst h 3 dX12_filledBy_240 (by decide) (rfl : 240 + 1 = 241) ?_
              refine z_icmp_ne (pc' := 244) h 248 dX12_filledBy_241 (by decide) rfl (fun c202 => ?_) (fun c202 => ?_)
              · have hf := zitf c202 hf
                refine z_iconst h 2 dX12_filledBy_248 (by decide) (rfl : 248 + 1 = 249) ?_
                refine z_iload_n h 2 dX12_filledBy_249 rfl (rfl : 249 + 1 = 250) ?_
                refine z_iload_n h 3 dX12_filledBy_250 rfl (rfl : 250 + 1 = 251) ?_
                obtain ⟨q203, e204, hf⟩ := zbind hf
                refine z_goF (z_runV (C := RX12) (T := TX12) (N := 46) (ci := 11) h [.int 2, .int v2, .int v3] [] zyX12_ruleFor (c_X12_ruleFor B I J hJ 2 v2 v3 _ _ e204) gX12_filledBy_X12_ruleFor rfl rfl rfl zrX12_filledBy_X12_ruleFor rfl (Nat.le_of_ble_eq_true rfl) ⟨Nat.zero_le _, Nat.zero_le _⟩ rfl dX12_filledBy_251) rfl ?_
                refine z_istore h [(4, .int q203.1), (0, .ref (za B 147)), (1, .int v1), (2, .int v2), (3, .int v3)] dX12_filledBy_254 (by decide) rfl (rfl : 254 + 2 = 256) ?_
                refine z_aload_n h 1 dX12_filledBy_256 rfl (rfl : 256 + 1 = 257) ?_
                refine z_getr (ci := 11) (C := RX12) (T := TX12) (N := 46) h 36 172 ((hJ.1 147 36 (by decide)).trans rfl) rfl rfl (fun _ hq => List.mem_cons_of_mem _ (List.mem_append_right _ hq)) (by decide) (List.mem_of_getElem? (i := 1) rfl) rfl dX12_filledBy_257 (rfl : 257 + 3 = 260) ?_
                refine z_iload_n h 4 dX12_filledBy_260 rfl (rfl : 260 + 1 = 261) ?_
                refine z_bipush h 10 dX12_filledBy_261 (by decide) (rfl : 261 + 2 = 263) ?_
                refine z_iload h 0 dX12_filledBy_263 rfl (rfl : 263 + 2 = 265) ?_
                refine z_iadd h dX12_filledBy_265 (rfl : 265 + 1 = 266) ?_
                obtain ⟨b205, hf⟩ := zchk hf
                refine z_iast h b205 rfl dX12_filledBy_266 (rfl : 266 + 1 = 267) ?_
                refine z_iload h 0 dX12_filledBy_267 rfl (rfl : 267 + 2 = 269) ?_
                refine z_bipush h (-9) dX12_filledBy_269 (by decide) (rfl : 269 + 2 = 271) ?_
                refine z_icmp_ne (pc' := 274) h 278 dX12_filledBy_271 (by decide) rfl (fun c206 => ?_) (fun c206 => ?_)
                · have hf := zitf c206 hf
                  refine z_aload_n h 1 dX12_filledBy_278 rfl (rfl : 278 + 1 = 279) ?_
                  refine z_getr (ci := 11) (C := RX12) (T := TX12) (N := 46) h 14 155 ((hJ.1 147 14 (by decide)).trans rfl) rfl rfl (fun _ hq => List.mem_cons_of_mem _ (List.mem_append_right _ hq)) (by decide) (List.mem_of_getElem? (i := 9) rfl) rfl dX12_filledBy_279 (rfl : 279 + 3 = 282) ?_
                  refine z_bipush h 6 dX12_filledBy_282 (by decide) (rfl : 282 + 2 = 284) ?_
                  refine z_iload h 0 dX12_filledBy_284 rfl (rfl : 284 + 2 = 286) ?_
                  refine z_imul h dX12_filledBy_286 (rfl : 286 + 1 = 287) ?_
                  refine z_iconst h 2 dX12_filledBy_287 (by decide) (rfl : 287 + 1 = 288) ?_
                  refine z_iadd h dX12_filledBy_288 (rfl : 288 + 1 = 289) ?_
                  obtain ⟨b207, hf⟩ := zchk hf
                  refine z_iald h rfl b207 dX12_filledBy_289 (rfl : 289 + 1 = 290) ?_
                  refine z_iret h hr dX12_filledBy_290 ?_
                  exact ⟨congrArg Prod.fst (zsome hf), congrArg Prod.snd (zsome hf), rfl⟩
                · have hf := zitt c206 hf
                  refine z_iconst h 0 dX12_filledBy_274 (by decide) (rfl : 274 + 1 = 275) ?_
                  refine z_goto (pc' := 290) h dX12_filledBy_275 (by decide) ?_
                  refine z_iret h hr dX12_filledBy_290 ?_
                  exact ⟨congrArg Prod.fst (zsome hf), congrArg Prod.snd (zsome hf), rfl⟩
              · have hf := zitt c202 hf
                refine z_iconst h 0 dX12_filledBy_244 (by decide) (rfl : 244 + 1 = 245) ?_
                refine z_goto (pc' := 249) h dX12_filledBy_245 (by decide) ?_
                refine z_iload_n h 2 dX12_filledBy_249 rfl (rfl : 249 + 1 = 250) ?_
                refine z_iload_n h 3 dX12_filledBy_250 rfl (rfl : 250 + 1 = 251) ?_
                obtain ⟨q208, e209, hf⟩ := zbind hf
                refine z_goF (z_runV (C := RX12) (T := TX12) (N := 46) (ci := 11) h [.int 0, .int v2, .int v3] [] zyX12_ruleFor (c_X12_ruleFor B I J hJ 0 v2 v3 _ _ e209) gX12_filledBy_X12_ruleFor rfl rfl rfl zrX12_filledBy_X12_ruleFor rfl (Nat.le_of_ble_eq_true rfl) ⟨Nat.zero_le _, Nat.zero_le _⟩ rfl dX12_filledBy_251) rfl ?_
                refine z_istore h [(4, .int q208.1), (0, .ref (za B 147)), (1, .int v1), (2, .int v2), (3, .int v3)] dX12_filledBy_254 (by decide) rfl (rfl : 254 + 2 = 256) ?_
                refine z_aload_n h 1 dX12_filledBy_256 rfl (rfl : 256 + 1 = 257) ?_
                refine z_getr (ci := 11) (C := RX12) (T := TX12) (N := 46) h 36 172 ((hJ.1 147 36 (by decide)).trans rfl) rfl rfl (fun _ hq => List.mem_cons_of_mem _ (List.mem_append_right _ hq)) (by decide) (List.mem_of_getElem? (i := 1) rfl) rfl dX12_filledBy_257 (rfl : 257 + 3 = 260) ?_
                refine z_iload_n h 4 dX12_filledBy_260 rfl (rfl : 260 + 1 = 261) ?_
                refine z_bipush h 10 dX12_filledBy_261 (by decide) (rfl : 261 + 2 = 263) ?_
                refine z_iload h 0 dX12_filledBy_263 rfl (rfl : 263 + 2 = 265) ?_
                refine z_iadd h dX12_filledBy_265 (rfl : 265 + 1 = 266) ?_
                obtain ⟨b210, hf⟩ := zchk hf
                refine z_iast h b210 rfl dX12_filledBy_266 (rfl : 266 + 1 = 267) ?_
                refine z_iload h 0 dX12_filledBy_267 rfl (rfl : 267 + 2 = 269) ?_
                refine z_bipush h (-9) dX12_filledBy_269 (by decide) (rfl : 269 + 2 = 271) ?_
                refine z_icmp_ne (pc' := 274) h 278 dX12_filledBy_271 (by decide) rfl (fun c211 => ?_) (fun c211 => ?_)
                · have hf := zitf c211 hf
                  refine z_aload_n h 1 dX12_filledBy_278 rfl (rfl : 278 + 1 = 279) ?_
                  refine z_getr (ci := 11) (C := RX12) (T := TX12) (N := 46) h 14 155 ((hJ.1 147 14 (by decide)).trans rfl) rfl rfl (fun _ hq => List.mem_cons_of_mem _ (List.mem_append_right _ hq)) (by decide) (List.mem_of_getElem? (i := 9) rfl) rfl dX12_filledBy_279 (rfl : 279 + 3 = 282) ?_
                  refine z_bipush h 6 dX12_filledBy_282 (by decide) (rfl : 282 + 2 = 284) ?_
                  refine z_iload h 0 dX12_filledBy_284 rfl (rfl : 284 + 2 = 286) ?_
                  refine z_imul h dX12_filledBy_286 (rfl : 286 + 1 = 287) ?_
                  refine z_iconst h 2 dX12_filledBy_287 (by decide) (rfl : 287 + 1 = 288) ?_
                  refine z_iadd h dX12_filledBy_288 (rfl : 288 + 1 = 289) ?_
                  obtain ⟨b212, hf⟩ := zchk hf
                  refine z_iald h rfl b212 dX12_filledBy_289 (rfl : 289 + 1 = 290) ?_
                  refine z_iret h hr dX12_filledBy_290 ?_
                  exact ⟨congrArg Prod.fst (zsome hf), congrArg Prod.snd (zsome hf), rfl⟩
                · have hf := zitt c211 hf
                  refine z_iconst h 0 dX12_filledBy_274 (by decide) (rfl : 274 + 1 = 275) ?_
                  refine z_goto (pc' := 290) h dX12_filledBy_275 (by decide) ?_
                  refine z_iret h hr dX12_filledBy_290 ?_
                  exact ⟨congrArg Prod.fst (zsome hf), congrArg Prod.snd (zsome hf), rfl⟩
            · have hf := zitt c201 hf
              refine z_aload_n h 0 dX12_filledBy_205 rfl (rfl : 205 + 1 = 206) ?_
              refine z_get (ci := 11) (C := RX12) (T := TX12) (N := 46) h 32 rfl rfl (fun _ hq => List.mem_cons_of_mem _ (List.mem_append_right _ hq)) (by decide) (List.mem_of_getElem? (i := 7) rfl) rfl dX12_filledBy_206 (rfl : 206 + 3 = 209) ?_
              refine z_iload_n h 3 dX12_filledBy_209 rfl (rfl : 209 + 1 = 210) ?_
              refine z_icmp_ne (pc' := 213) h 238 dX12_filledBy_210 (by decide) rfl (fun c213 => ?_) (fun c213 => ?_)
              · have hf := zitf c213 hf
                refine z_aload_n h 0 dX12_filledBy_238 rfl (rfl : 238 + 1 = 239) ?_
                refine z_iload_n h 1 dX12_filledBy_239 rfl (rfl : 239 + 1 = 240) ?_
                refine z_iconst h 3 dX12_filledBy_240 (by decide) (rfl : 240 + 1 = 241) ?_
                refine z_icmp_ne (pc' := 244) h 248 dX12_filledBy_241 (by decide) rfl (fun c214 => ?_) (fun c214 => ?_)
                · have hf := zitf c214 hf
                  refine z_iconst h 2 dX12_filledBy_248 (by decide) (rfl : 248 + 1 = 249) ?_
                  refine z_iload_n h 2 dX12_filledBy_249 rfl (rfl : 249 + 1 = 250) ?_
                  refine z_iload_n h 3 dX12_filledBy_250 rfl (rfl : 250 + 1 = 251) ?_
                  obtain ⟨q215, e216, hf⟩ := zbind hf
                  refine z_goF (z_runV (C := RX12) (T := TX12) (N := 46) (ci := 11) h [.int 2, .int v2, .int v3] [] zyX12_ruleFor (c_X12_ruleFor B I J hJ 2 v2 v3 _ _ e216) gX12_filledBy_X12_ruleFor rfl rfl rfl zrX12_filledBy_X12_ruleFor rfl (Nat.le_of_ble_eq_true rfl) ⟨Nat.zero_le _, Nat.zero_le _⟩ rfl dX12_filledBy_251) rfl ?_
                  refine z_istore h [(4, .int q215.1), (0, .ref (za B 147)), (1, .int v1), (2, .int v2), (3, .int v3)] dX12_filledBy_254 (by decide) rfl (rfl : 254 + 2 = 256) ?_
                  refine z_aload_n h 1 dX12_filledBy_256 rfl (rfl : 256 + 1 = 257) ?_
                  refine z_getr (ci := 11) (C := RX12) (T := TX12) (N := 46) h 36 172 ((hJ.1 147 36 (by decide)).trans rfl) rfl rfl (fun _ hq => List.mem_cons_of_mem _ (List.mem_append_right _ hq)) (by decide) (List.mem_of_getElem? (i := 1) rfl) rfl dX12_filledBy_257 (rfl : 257 + 3 = 260) ?_
                  refine z_iload_n h 4 dX12_filledBy_260 rfl (rfl : 260 + 1 = 261) ?_
                  refine z_bipush h 10 dX12_filledBy_261 (by decide) (rfl : 261 + 2 = 263) ?_
                  refine z_iload h 0 dX12_filledBy_263 rfl (rfl : 263 + 2 = 265) ?_
                  refine z_iadd h dX12_filledBy_265 (rfl : 265 + 1 = 266) ?_
                  obtain ⟨b217, hf⟩ := zchk hf
                  refine z_iast h b217 rfl dX12_filledBy_266 (rfl : 266 + 1 = 267) ?_
                  refine z_iload h 0 dX12_filledBy_267 rfl (rfl : 267 + 2 = 269) ?_
                  refine z_bipush h (-9) dX12_filledBy_269 (by decide) (rfl : 269 + 2 = 271) ?_
                  refine z_icmp_ne (pc' := 274) h 278 dX12_filledBy_271 (by decide) rfl (fun c218 => ?_) (fun c218 => ?_)
                  · have hf := zitf c218 hf
                    refine z_aload_n h 1 dX12_filledBy_278 rfl (rfl : 278 + 1 = 279) ?_
                    refine z_getr (ci := 11) (C := RX12) (T := TX12) (N := 46) h 14 155 ((hJ.1 147 14 (by decide)).trans rfl) rfl rfl (fun _ hq => List.mem_cons_of_mem _ (List.mem_append_right _ hq)) (by decide) (List.mem_of_getElem? (i := 9) rfl) rfl dX12_filledBy_279 (rfl : 279 + 3 = 282) ?_
                    refine z_bipush h 6 dX12_filledBy_282 (by decide) (rfl : 282 + 2 = 284) ?_
                    refine z_iload h 0 dX12_filledBy_284 rfl (rfl : 284 + 2 = 286) ?_
                    refine z_imul h dX12_filledBy_286 (rfl : 286 + 1 = 287) ?_
                    refine z_iconst h 2 dX12_filledBy_287 (by decide) (rfl : 287 + 1 = 288) ?_
                    refine z_iadd h dX12_filledBy_288 (rfl : 288 + 1 = 289) ?_
                    obtain ⟨b219, hf⟩ := zchk hf
                    refine z_iald h rfl b219 dX12_filledBy_289 (rfl : 289 + 1 = 290) ?_
                    refine z_iret h hr dX12_filledBy_290 ?_
                    exact ⟨congrArg Prod.fst (zsome hf), congrArg Prod.snd (zsome hf), rfl⟩
                  · have hf := zitt c218 hf
                    refine z_iconst h 0 dX12_filledBy_274 (by decide) (rfl : 274 + 1 = 275) ?_
                    refine z_goto (pc' := 290) h dX12_filledBy_275 (by decide) ?_
                    refine z_iret h hr dX12_filledBy_290 ?_
                    exact ⟨congrArg Prod.fst (zsome hf), congrArg Prod.snd (zsome hf), rfl⟩
                · have hf := zitt c214 hf
                  refine z_iconst h 0 dX12_filledBy_244 (by decide) (rfl : 244 + 1 = 245) ?_
                  refine z_goto (pc' := 249) h dX12_filledBy_245 (by decide) ?_
                  refine z_iload_n h 2 dX12_filledBy_249 rfl (rfl : 249 + 1 = 250) ?_
                  refine z_iload_n h 3 dX12_filledBy_250 rfl (rfl : 250 + 1 = 251) ?_
                  obtain ⟨q220, e221, hf⟩ := zbind hf
                  refine z_goF (z_runV (C := RX12) (T := TX12) (N := 46) (ci := 11) h [.int 0, .int v2, .int v3] [] zyX12_ruleFor (c_X12_ruleFor B I J hJ 0 v2 v3 _ _ e221) gX12_filledBy_X12_ruleFor rfl rfl rfl zrX12_filledBy_X12_ruleFor rfl (Nat.le_of_ble_eq_true rfl) ⟨Nat.zero_le _, Nat.zero_le _⟩ rfl dX12_filledBy_251) rfl ?_
                  refine z_istore h [(4, .int q220.1), (0, .ref (za B 147)), (1, .int v1), (2, .int v2), (3, .int v3)] dX12_filledBy_254 (by decide) rfl (rfl : 254 + 2 = 256) ?_
                  refine z_aload_n h 1 dX12_filledBy_256 rfl (rfl : 256 + 1 = 257) ?_
                  refine z_getr (ci := 11) (C := RX12) (T := TX12) (N := 46) h 36 172 ((hJ.1 147 36 (by decide)).trans rfl) rfl rfl (fun _ hq => List.mem_cons_of_mem _ (List.mem_append_right _ hq)) (by decide) (List.mem_of_getElem? (i := 1) rfl) rfl dX12_filledBy_257 (rfl : 257 + 3 = 260) ?_
                  refine z_iload_n h 4 dX12_filledBy_260 rfl (rfl : 260 + 1 = 261) ?_
                  refine z_bipush h 10 dX12_filledBy_261 (by decide) (rfl : 261 + 2 = 263) ?_
                  refine z_iload h 0 dX12_filledBy_263 rfl (rfl : 263 + 2 = 265) ?_
                  refine z_iadd h dX12_filledBy_265 (rfl : 265 + 1 = 266) ?_
                  obtain ⟨b222, hf⟩ := zchk hf
                  refine z_iast h b222 rfl dX12_filledBy_266 (rfl : 266 + 1 = 267) ?_
                  refine z_iload h 0 dX12_filledBy_267 rfl (rfl : 267 + 2 = 269) ?_
                  refine z_bipush h (-9) dX12_filledBy_269 (by decide) (rfl : 269 + 2 = 271) ?_
                  refine z_icmp_ne (pc' := 274) h 278 dX12_filledBy_271 (by decide) rfl (fun c223 => ?_) (fun c223 => ?_)
                  · have hf := zitf c223 hf
                    refine z_aload_n h 1 dX12_filledBy_278 rfl (rfl : 278 + 1 = 279) ?_
                    refine z_getr (ci := 11) (C := RX12) (T := TX12) (N := 46) h 14 155 ((hJ.1 147 14 (by decide)).trans rfl) rfl rfl (fun _ hq => List.mem_cons_of_mem _ (List.mem_append_right _ hq)) (by decide) (List.mem_of_getElem? (i := 9) rfl) rfl dX12_filledBy_279 (rfl : 279 + 3 = 282) ?_
                    refine z_bipush h 6 dX12_filledBy_282 (by decide) (rfl : 282 + 2 = 284) ?_
                    refine z_iload h 0 dX12_filledBy_284 rfl (rfl : 284 + 2 = 286) ?_
                    refine z_imul h dX12_filledBy_286 (rfl : 286 + 1 = 287) ?_
                    refine z_iconst h 2 dX12_filledBy_287 (by decide) (rfl : 287 + 1 = 288) ?_
                    refine z_iadd h dX12_filledBy_288 (rfl : 288 + 1 = 289) ?_
                    obtain ⟨b224, hf⟩ := zchk hf
                    refine z_iald h rfl b224 dX12_filledBy_289 (rfl : 289 + 1 = 290) ?_
                    refine z_iret h hr dX12_filledBy_290 ?_
                    exact ⟨congrArg Prod.fst (zsome hf), congrArg Prod.snd (zsome hf), rfl⟩
                  · have hf := zitt c223 hf
                    refine z_iconst h 0 dX12_filledBy_274 (by decide) (rfl : 274 + 1 = 275) ?_
                    refine z_goto (pc' := 290) h dX12_filledBy_275 (by decide) ?_
                    refine z_iret h hr dX12_filledBy_290 ?_
                    exact ⟨congrArg Prod.fst (zsome hf), congrArg Prod.snd (zsome hf), rfl⟩
              · have hf := zitt c213 hf
                refine z_aload_n h 0 dX12_filledBy_213 rfl (rfl : 213 + 1 = 214) ?_
                refine z_iload_n h 3 dX12_filledBy_214 rfl (rfl : 214 + 1 = 215) ?_
                refine z_aload_n h 0 dX12_filledBy_215 rfl (rfl : 215 + 1 = 216) ?_
                refine z_get (ci := 11) (C := RX12) (T := TX12) (N := 46) h 33 rfl rfl (fun _ hq => List.mem_cons_of_mem _ (List.mem_append_right _ hq)) (by decide) (List.mem_of_getElem? (i := 8) rfl) rfl dX12_filledBy_216 (rfl : 216 + 3 = 219) ?_
                obtain ⟨q225, e226, hf⟩ := zbind hf
                refine z_goF (z_runV (C := RX12) (T := TX12) (N := 46) (ci := 11) h [.int v3, .int (I 147 33)] [] zyX12_isThere (c_X12_isThere B I J hJ v3 (I 147 33) _ _ e226) gX12_filledBy_X12_isThere rfl rfl rfl zrX12_filledBy_X12_isThere rfl (Nat.le_of_ble_eq_true rfl) ⟨Nat.zero_le _, Nat.zero_le _⟩ rfl dX12_filledBy_219) rfl ?_
                refine z_if_eq (pc' := 225) h 238 dX12_filledBy_222 (by decide) rfl (fun c227 => ?_) (fun c227 => ?_)
                · have hf := zitt c227 hf
                  refine z_aload_n h 0 dX12_filledBy_238 rfl (rfl : 238 + 1 = 239) ?_
                  refine z_iload_n h 1 dX12_filledBy_239 rfl (rfl : 239 + 1 = 240) ?_
                  refine z_iconst h 3 dX12_filledBy_240 (by decide) (rfl : 240 + 1 = 241) ?_
                  refine z_icmp_ne (pc' := 244) h 248 dX12_filledBy_241 (by decide) rfl (fun c228 => ?_) (fun c228 => ?_)
                  · have hf := zitf c228 hf
                    refine z_iconst h 2 dX12_filledBy_248 (by decide) (rfl : 248 + 1 = 249) ?_
                    refine z_iload_n h 2 dX12_filledBy_249 rfl (rfl : 249 + 1 = 250) ?_
                    refine z_iload_n h 3 dX12_filledBy_250 rfl (rfl : 250 + 1 = 251) ?_
                    obtain ⟨q229, e230, hf⟩ := zbind hf
                    refine z_goF (z_runV (C := RX12) (T := TX12) (N := 46) (ci := 11) h [.int 2, .int v2, .int v3] [] zyX12_ruleFor (c_X12_ruleFor B q225.2 J hJ 2 v2 v3 _ _ e230) gX12_filledBy_X12_ruleFor rfl rfl rfl zrX12_filledBy_X12_ruleFor rfl (Nat.le_of_ble_eq_true rfl) ⟨Nat.zero_le _, Nat.zero_le _⟩ rfl dX12_filledBy_251) rfl ?_
                    refine z_istore h [(4, .int q229.1), (0, .ref (za B 147)), (1, .int v1), (2, .int v2), (3, .int v3)] dX12_filledBy_254 (by decide) rfl (rfl : 254 + 2 = 256) ?_
                    refine z_aload_n h 1 dX12_filledBy_256 rfl (rfl : 256 + 1 = 257) ?_
                    refine z_getr (ci := 11) (C := RX12) (T := TX12) (N := 46) h 36 172 ((hJ.1 147 36 (by decide)).trans rfl) rfl rfl (fun _ hq => List.mem_cons_of_mem _ (List.mem_append_right _ hq)) (by decide) (List.mem_of_getElem? (i := 1) rfl) rfl dX12_filledBy_257 (rfl : 257 + 3 = 260) ?_
                    refine z_iload_n h 4 dX12_filledBy_260 rfl (rfl : 260 + 1 = 261) ?_
                    refine z_bipush h 10 dX12_filledBy_261 (by decide) (rfl : 261 + 2 = 263) ?_
                    refine z_iload h 0 dX12_filledBy_263 rfl (rfl : 263 + 2 = 265) ?_
                    refine z_iadd h dX12_filledBy_265 (rfl : 265 + 1 = 266) ?_
                    obtain ⟨b231, hf⟩ := zchk hf
                    refine z_iast h b231 rfl dX12_filledBy_266 (rfl : 266 + 1 = 267) ?_
                    refine z_iload h 0 dX12_filledBy_267 rfl (rfl : 267 + 2 = 269) ?_
                    refine z_bipush h (-9) dX12_filledBy_269 (by decide) (rfl : 269 + 2 = 271) ?_
                    refine z_icmp_ne (pc' := 274) h 278 dX12_filledBy_271 (by decide) rfl (fun c232 => ?_) (fun c232 => ?_)
                    · have hf := zitf c232 hf
                      refine z_aload_n h 1 dX12_filledBy_278 rfl (rfl : 278 + 1 = 279) ?_
                      refine z_getr (ci := 11) (C := RX12) (T := TX12) (N := 46) h 14 155 ((hJ.1 147 14 (by decide)).trans rfl) rfl rfl (fun _ hq => List.mem_cons_of_mem _ (List.mem_append_right _ hq)) (by decide) (List.mem_of_getElem? (i := 9) rfl) rfl dX12_filledBy_279 (rfl : 279 + 3 = 282) ?_
                      refine z_bipush h 6 dX12_filledBy_282 (by decide) (rfl : 282 + 2 = 284) ?_
                      refine z_iload h 0 dX12_filledBy_284 rfl (rfl : 284 + 2 = 286) ?_
                      refine z_imul h dX12_filledBy_286 (rfl : 286 + 1 = 287) ?_
                      refine z_iconst h 2 dX12_filledBy_287 (by decide) (rfl : 287 + 1 = 288) ?_
                      refine z_iadd h dX12_filledBy_288 (rfl : 288 + 1 = 289) ?_
                      obtain ⟨b233, hf⟩ := zchk hf
                      refine z_iald h rfl b233 dX12_filledBy_289 (rfl : 289 + 1 = 290) ?_
                      refine z_iret h hr dX12_filledBy_290 ?_
                      exact ⟨congrArg Prod.fst (zsome hf), congrArg Prod.snd (zsome hf), rfl⟩
                    · have hf := zitt c232 hf
                      refine z_iconst h 0 dX12_filledBy_274 (by decide) (rfl : 274 + 1 = 275) ?_
                      refine z_goto (pc' := 290) h dX12_filledBy_275 (by decide) ?_
                      refine z_iret h hr dX12_filledBy_290 ?_
                      exact ⟨congrArg Prod.fst (zsome hf), congrArg Prod.snd (zsome hf), rfl⟩
                  · have hf := zitt c228 hf
                    refine z_iconst h 0 dX12_filledBy_244 (by decide) (rfl : 244 + 1 = 245) ?_
                    refine z_goto (pc' := 249) h dX12_filledBy_245 (by decide) ?_
                    refine z_iload_n h 2 dX12_filledBy_249 rfl (rfl : 249 + 1 = 250) ?_
                    refine z_iload_n h 3 dX12_filledBy_250 rfl (rfl : 250 + 1 = 251) ?_
                    obtain ⟨q234, e235, hf⟩ := zbind hf
                    refine z_goF (z_runV (C := RX12) (T := TX12) (N := 46) (ci := 11) h [.int 0, .int v2, .int v3] [] zyX12_ruleFor (c_X12_ruleFor B q225.2 J hJ 0 v2 v3 _ _ e235) gX12_filledBy_X12_ruleFor rfl rfl rfl zrX12_filledBy_X12_ruleFor rfl (Nat.le_of_ble_eq_true rfl) ⟨Nat.zero_le _, Nat.zero_le _⟩ rfl dX12_filledBy_251) rfl ?_
                    refine z_istore h [(4, .int q234.1), (0, .ref (za B 147)), (1, .int v1), (2, .int v2), (3, .int v3)] dX12_filledBy_254 (by decide) rfl (rfl : 254 + 2 = 256) ?_
                    refine z_aload_n h 1 dX12_filledBy_256 rfl (rfl : 256 + 1 = 257) ?_
                    refine z_getr (ci := 11) (C := RX12) (T := TX12) (N := 46) h 36 172 ((hJ.1 147 36 (by decide)).trans rfl) rfl rfl (fun _ hq => List.mem_cons_of_mem _ (List.mem_append_right _ hq)) (by decide) (List.mem_of_getElem? (i := 1) rfl) rfl dX12_filledBy_257 (rfl : 257 + 3 = 260) ?_
                    refine z_iload_n h 4 dX12_filledBy_260 rfl (rfl : 260 + 1 = 261) ?_
                    refine z_bipush h 10 dX12_filledBy_261 (by decide) (rfl : 261 + 2 = 263) ?_
                    refine z_iload h 0 dX12_filledBy_263 rfl (rfl : 263 + 2 = 265) ?_
                    refine z_iadd h dX12_filledBy_265 (rfl : 265 + 1 = 266) ?_
                    obtain ⟨b236, hf⟩ := zchk hf
                    refine z_iast h b236 rfl dX12_filledBy_266 (rfl : 266 + 1 = 267) ?_
                    refine z_iload h 0 dX12_filledBy_267 rfl (rfl : 267 + 2 = 269) ?_
                    refine z_bipush h (-9) dX12_filledBy_269 (by decide) (rfl : 269 + 2 = 271) ?_
                    refine z_icmp_ne (pc' := 274) h 278 dX12_filledBy_271 (by decide) rfl (fun c237 => ?_) (fun c237 => ?_)
                    · have hf := zitf c237 hf
                      refine z_aload_n h 1 dX12_filledBy_278 rfl (rfl : 278 + 1 = 279) ?_
                      refine z_getr (ci := 11) (C := RX12) (T := TX12) (N := 46) h 14 155 ((hJ.1 147 14 (by decide)).trans rfl) rfl rfl (fun _ hq => List.mem_cons_of_mem _ (List.mem_append_right _ hq)) (by decide) (List.mem_of_getElem? (i := 9) rfl) rfl dX12_filledBy_279 (rfl : 279 + 3 = 282) ?_
                      refine z_bipush h 6 dX12_filledBy_282 (by decide) (rfl : 282 + 2 = 284) ?_
                      refine z_iload h 0 dX12_filledBy_284 rfl (rfl : 284 + 2 = 286) ?_
                      refine z_imul h dX12_filledBy_286 (rfl : 286 + 1 = 287) ?_
                      refine z_iconst h 2 dX12_filledBy_287 (by decide) (rfl : 287 + 1 = 288) ?_
                      refine z_iadd h dX12_filledBy_288 (rfl : 288 + 1 = 289) ?_
                      obtain ⟨b238, hf⟩ := zchk hf
                      refine z_iald h rfl b238 dX12_filledBy_289 (rfl : 289 + 1 = 290) ?_
                      refine z_iret h hr dX12_filledBy_290 ?_
                      exact ⟨congrArg Prod.fst (zsome hf), congrArg Prod.snd (zsome hf), rfl⟩
                    · have hf := zitt c237 hf
                      refine z_iconst h 0 dX12_filledBy_274 (by decide) (rfl : 274 + 1 = 275) ?_
                      refine z_goto (pc' := 290) h dX12_filledBy_275 (by decide) ?_
                      refine z_iret h hr dX12_filledBy_290 ?_
                      exact ⟨congrArg Prod.fst (zsome hf), congrArg Prod.snd (zsome hf), rfl⟩
                · have hf := zitf c227 hf
                  refine z_aload_n h 0 dX12_filledBy_225 rfl (rfl : 225 + 1 = 226) ?_
                  refine z_getr (ci := 11) (C := RX12) (T := TX12) (N := 46) h 36 172 ((hJ.1 147 36 (by decide)).trans rfl) rfl rfl (fun _ hq => List.mem_cons_of_mem _ (List.mem_append_right _ hq)) (by decide) (List.mem_of_getElem? (i := 1) rfl) rfl dX12_filledBy_226 (rfl : 226 + 3 = 229) ?_
                  refine z_iload_n h 3 dX12_filledBy_229 rfl (rfl : 229 + 1 = 230) ?_
                  refine z_bipush h 9 dX12_filledBy_230 (by decide) (rfl : 230 + 2 = 232) ?_
                  obtain ⟨b239, hf⟩ := zchk hf
                  refine z_iast h b239 rfl dX12_filledBy_232 (rfl : 232 + 1 = 233) ?_
                  refine z_aload_n h 0 dX12_filledBy_233 rfl (rfl : 233 + 1 = 234) ?_
                  refine z_get (ci := 11) (C := RX12) (T := TX12) (N := 46) h 33 rfl rfl (fun _ hq => List.mem_cons_of_mem _ (List.mem_append_right _ hq)) (by decide) (List.mem_of_getElem? (i := 8) rfl) rfl dX12_filledBy_234 (rfl : 234 + 3 = 237) ?_
                  refine z_iret h hr dX12_filledBy_237 ?_
                  exact ⟨congrArg Prod.fst (zsome hf), congrArg Prod.snd (zsome hf), rfl⟩
          · have hf := zitt c200 hf
            refine z_iload_n h 1 dX12_filledBy_77 rfl (rfl : 77 + 1 = 78) ?_
            refine z_iconst h 1 dX12_filledBy_78 (by decide) (rfl : 78 + 1 = 79) ?_
            refine z_icmp_eq (pc' := 82) h 120 dX12_filledBy_79 (by decide) rfl (fun c240 => ?_) (fun c240 => ?_)
            · have hf := zitt c240 hf
              refine z_iconst h 1 dX12_filledBy_120 (by decide) (rfl : 120 + 1 = 121) ?_
              refine z_goto (pc' := 125) h dX12_filledBy_121 (by decide) ?_
              refine z_istore h [(4, .int 1), (0, .ref (za B 147)), (1, .int v1), (2, .int v2), (3, .int v3)] dX12_filledBy_125 (by decide) rfl (rfl : 125 + 2 = 127) ?_
              refine z_iload h 0 dX12_filledBy_127 rfl (rfl : 127 + 2 = 129) ?_
              refine z_if_ne (pc' := 132) h 136 dX12_filledBy_129 (by decide) rfl (fun _ => ?_) (fun q => absurd q (by decide))
              refine z_iload_n h 2 dX12_filledBy_136 rfl (rfl : 136 + 1 = 137) ?_
              refine z_iconst h 1 dX12_filledBy_137 (by decide) (rfl : 137 + 1 = 138) ?_
              refine z_icmp_ne (pc' := 141) h 161 dX12_filledBy_138 (by decide) rfl (fun c241 => ?_) (fun c241 => ?_)
              · have hf := zitf c241 hf
                refine z_aload_n h 1 dX12_filledBy_161 rfl (rfl : 161 + 1 = 162) ?_
                refine z_aload_n h 1 dX12_filledBy_162 rfl (rfl : 162 + 1 = 163) ?_
                refine z_getr (ci := 11) (C := RX12) (T := TX12) (N := 46) h 21 161 ((hJ.1 147 21 (by decide)).trans rfl) rfl rfl (fun _ hq => List.mem_cons_of_mem _ (List.mem_append_right _ hq)) (by decide) (List.mem_of_getElem? (i := 5) rfl) rfl dX12_filledBy_163 (rfl : 163 + 3 = 166) ?_
                refine z_iload_n h 3 dX12_filledBy_166 rfl (rfl : 166 + 1 = 167) ?_
                obtain ⟨b242, hf⟩ := zchk hf
                refine z_iald h rfl b242 dX12_filledBy_167 (rfl : 167 + 1 = 168) ?_
                refine z_iload_n h 4 dX12_filledBy_168 rfl (rfl : 168 + 1 = 169) ?_
                obtain ⟨q243, e244, hf⟩ := zbind hf
                refine z_goF (z_runV (C := RX12) (T := TX12) (N := 46) (ci := 11) h [.int (I 161 (Int32.toNatClampNeg v2)), .int v3] [] zyX12_customOf (c_X12_customOf B I J hJ (I 161 (Int32.toNatClampNeg v2)) v3 _ _ e244) gX12_filledBy_X12_customOf rfl rfl rfl zrX12_filledBy_X12_customOf rfl (Nat.le_of_ble_eq_true rfl) ⟨Nat.zero_le _, Nat.zero_le _⟩ rfl dX12_filledBy_169) rfl ?_
                refine z_istore h [(5, .int q243.1), (4, .int 1), (0, .ref (za B 147)), (1, .int v1), (2, .int v2), (3, .int v3)] dX12_filledBy_172 (by decide) rfl (rfl : 172 + 2 = 174) ?_
                refine z_aload_n h 2 dX12_filledBy_174 rfl (rfl : 174 + 1 = 175) ?_
                refine z_getr (ci := 11) (C := RX12) (T := TX12) (N := 46) h 36 172 ((hJ.1 147 36 (by decide)).trans rfl) rfl rfl (fun _ hq => List.mem_cons_of_mem _ (List.mem_append_right _ hq)) (by decide) (List.mem_of_getElem? (i := 1) rfl) rfl dX12_filledBy_175 (rfl : 175 + 3 = 178) ?_
                refine z_iload_n h 5 dX12_filledBy_178 rfl (rfl : 178 + 1 = 179) ?_
                refine z_iload_n h 3 dX12_filledBy_179 rfl (rfl : 179 + 1 = 180) ?_
                refine z_iconst h 1 dX12_filledBy_180 (by decide) (rfl : 180 + 1 = 181) ?_
                refine z_iadd h dX12_filledBy_181 (rfl : 181 + 1 = 182) ?_
                obtain ⟨b245, hf⟩ := zchk hf
                refine z_iast h b245 rfl dX12_filledBy_182 (rfl : 182 + 1 = 183) ?_
                refine z_aload_n h 2 dX12_filledBy_183 rfl (rfl : 183 + 1 = 184) ?_
                refine z_iload_n h 5 dX12_filledBy_184 rfl (rfl : 184 + 1 = 185) ?_
                refine z_iload h 0 dX12_filledBy_185 rfl (rfl : 185 + 2 = 187) ?_
                obtain ⟨q246, e247, hf⟩ := zbind hf
                refine z_goF (z_runV (C := RX12) (T := TX12) (N := 46) (ci := 11) h [.int v3, .int q243.1] [] zyX12_isThere (c_X12_isThere B (zu q243.2 172 (Int32.toNatClampNeg v3) (v1 + (1 : Int32))) J hJ v3 q243.1 _ _ e247) gX12_filledBy_X12_isThere rfl rfl rfl zrX12_filledBy_X12_isThere rfl (Nat.le_of_ble_eq_true rfl) ⟨Nat.zero_le _, Nat.zero_le _⟩ rfl dX12_filledBy_187) rfl ?_
                refine z_if_eq (pc' := 193) h 198 dX12_filledBy_190 (by decide) rfl (fun c248 => ?_) (fun c248 => ?_)
                · have hf := zitt c248 hf
                  refine z_iconst h 0 dX12_filledBy_198 (by decide) (rfl : 198 + 1 = 199) ?_
                  refine z_iret h hr dX12_filledBy_199 ?_
                  exact ⟨congrArg Prod.fst (zsome hf), congrArg Prod.snd (zsome hf), rfl⟩
                · have hf := zitf c248 hf
                  refine z_iload h 0 dX12_filledBy_193 rfl (rfl : 193 + 2 = 195) ?_
                  refine z_goto (pc' := 199) h dX12_filledBy_195 (by decide) ?_
                  refine z_iret h hr dX12_filledBy_199 ?_
                  exact ⟨congrArg Prod.fst (zsome hf), congrArg Prod.snd (zsome hf), rfl⟩
              · have hf := zitt c241 hf
                refine z_aload_n h 1 dX12_filledBy_141 rfl (rfl : 141 + 1 = 142) ?_
                refine z_aload_n h 1 dX12_filledBy_142 rfl (rfl : 142 + 1 = 143) ?_
                refine z_getr (ci := 11) (C := RX12) (T := TX12) (N := 46) h 19 159 ((hJ.1 147 19 (by decide)).trans rfl) rfl rfl (fun _ hq => List.mem_cons_of_mem _ (List.mem_append_right _ hq)) (by decide) (List.mem_of_getElem? (i := 4) rfl) rfl dX12_filledBy_143 (rfl : 143 + 3 = 146) ?_
                refine z_iload_n h 3 dX12_filledBy_146 rfl (rfl : 146 + 1 = 147) ?_
                obtain ⟨b249, hf⟩ := zchk hf
                refine z_iald h rfl b249 dX12_filledBy_147 (rfl : 147 + 1 = 148) ?_
                refine z_aload_n h 1 dX12_filledBy_148 rfl (rfl : 148 + 1 = 149) ?_
                refine z_getr (ci := 11) (C := RX12) (T := TX12) (N := 46) h 20 160 ((hJ.1 147 20 (by decide)).trans rfl) rfl rfl (fun _ hq => List.mem_cons_of_mem _ (List.mem_append_right _ hq)) (by decide) (List.mem_of_getElem? (i := 6) rfl) rfl dX12_filledBy_149 (rfl : 149 + 3 = 152) ?_
                refine z_iload_n h 3 dX12_filledBy_152 rfl (rfl : 152 + 1 = 153) ?_
                obtain ⟨b250, hf⟩ := zchk hf
                refine z_iald h rfl b250 dX12_filledBy_153 (rfl : 153 + 1 = 154) ?_
                refine z_iload_n h 4 dX12_filledBy_154 rfl (rfl : 154 + 1 = 155) ?_
                obtain ⟨q251, e252, hf⟩ := zbind hf
                refine z_goF (z_runV (C := RX12) (T := TX12) (N := 46) (ci := 11) h [.int (I 159 (Int32.toNatClampNeg v2)), .int (I 160 (Int32.toNatClampNeg v2)), .int v3] [] zyX12_beforeOf (c_X12_beforeOf B I J hJ (I 159 (Int32.toNatClampNeg v2)) (I 160 (Int32.toNatClampNeg v2)) v3 _ _ e252) gX12_filledBy_X12_beforeOf rfl rfl rfl zrX12_filledBy_X12_beforeOf rfl (Nat.le_of_ble_eq_true rfl) ⟨Nat.zero_le _, Nat.zero_le _⟩ rfl dX12_filledBy_155) rfl ?_
                refine z_goto (pc' := 172) h dX12_filledBy_158 (by decide) ?_
                refine z_istore h [(5, .int q251.1), (4, .int 1), (0, .ref (za B 147)), (1, .int v1), (2, .int v2), (3, .int v3)] dX12_filledBy_172 (by decide) rfl (rfl : 172 + 2 = 174) ?_
                refine z_aload_n h 2 dX12_filledBy_174 rfl (rfl : 174 + 1 = 175) ?_
                refine z_getr (ci := 11) (C := RX12) (T := TX12) (N := 46) h 36 172 ((hJ.1 147 36 (by decide)).trans rfl) rfl rfl (fun _ hq => List.mem_cons_of_mem _ (List.mem_append_right _ hq)) (by decide) (List.mem_of_getElem? (i := 1) rfl) rfl dX12_filledBy_175 (rfl : 175 + 3 = 178) ?_
                refine z_iload_n h 5 dX12_filledBy_178 rfl (rfl : 178 + 1 = 179) ?_
                refine z_iload_n h 3 dX12_filledBy_179 rfl (rfl : 179 + 1 = 180) ?_
                refine z_iconst h 1 dX12_filledBy_180 (by decide) (rfl : 180 + 1 = 181) ?_
                refine z_iadd h dX12_filledBy_181 (rfl : 181 + 1 = 182) ?_
                obtain ⟨b253, hf⟩ := zchk hf
                refine z_iast h b253 rfl dX12_filledBy_182 (rfl : 182 + 1 = 183) ?_
                refine z_aload_n h 2 dX12_filledBy_183 rfl (rfl : 183 + 1 = 184) ?_
                refine z_iload_n h 5 dX12_filledBy_184 rfl (rfl : 184 + 1 = 185) ?_
                refine z_iload h 0 dX12_filledBy_185 rfl (rfl : 185 + 2 = 187) ?_
                obtain ⟨q254, e255, hf⟩ := zbind hf
                refine z_goF (z_runV (C := RX12) (T := TX12) (N := 46) (ci := 11) h [.int v3, .int q251.1] [] zyX12_isThere (c_X12_isThere B (zu q251.2 172 (Int32.toNatClampNeg v3) (v1 + (1 : Int32))) J hJ v3 q251.1 _ _ e255) gX12_filledBy_X12_isThere rfl rfl rfl zrX12_filledBy_X12_isThere rfl (Nat.le_of_ble_eq_true rfl) ⟨Nat.zero_le _, Nat.zero_le _⟩ rfl dX12_filledBy_187) rfl ?_
                refine z_if_eq (pc' := 193) h 198 dX12_filledBy_190 (by decide) rfl (fun c256 => ?_) (fun c256 => ?_)
                · have hf := zitt c256 hf
                  refine z_iconst h 0 dX12_filledBy_198 (by decide) (rfl : 198 + 1 = 199) ?_
                  refine z_iret h hr dX12_filledBy_199 ?_
                  exact ⟨congrArg Prod.fst (zsome hf), congrArg Prod.snd (zsome hf), rfl⟩
                · have hf := zitf c256 hf
                  refine z_iload h 0 dX12_filledBy_193 rfl (rfl : 193 + 2 = 195) ?_
                  refine z_goto (pc' := 199) h dX12_filledBy_195 (by decide) ?_
                  refine z_iret h hr dX12_filledBy_199 ?_
                  exact ⟨congrArg Prod.fst (zsome hf), congrArg Prod.snd (zsome hf), rfl⟩
            · have hf := zitf c240 hf
              refine z_aload_n h 0 dX12_filledBy_82 rfl (rfl : 82 + 1 = 83) ?_
              refine z_aload_n h 0 dX12_filledBy_83 rfl (rfl : 83 + 1 = 84) ?_
              refine z_getr (ci := 11) (C := RX12) (T := TX12) (N := 46) h 19 159 ((hJ.1 147 19 (by decide)).trans rfl) rfl rfl (fun _ hq => List.mem_cons_of_mem _ (List.mem_append_right _ hq)) (by decide) (List.mem_of_getElem? (i := 4) rfl) rfl dX12_filledBy_84 (rfl : 84 + 3 = 87) ?_
              refine z_iload_n h 2 dX12_filledBy_87 rfl (rfl : 87 + 1 = 88) ?_
              obtain ⟨b257, hf⟩ := zchk hf
              refine z_iald h rfl b257 dX12_filledBy_88 (rfl : 88 + 1 = 89) ?_
              refine z_aload_n h 0 dX12_filledBy_89 rfl (rfl : 89 + 1 = 90) ?_
              refine z_getr (ci := 11) (C := RX12) (T := TX12) (N := 46) h 21 161 ((hJ.1 147 21 (by decide)).trans rfl) rfl rfl (fun _ hq => List.mem_cons_of_mem _ (List.mem_append_right _ hq)) (by decide) (List.mem_of_getElem? (i := 5) rfl) rfl dX12_filledBy_90 (rfl : 90 + 3 = 93) ?_
              refine z_iload_n h 2 dX12_filledBy_93 rfl (rfl : 93 + 1 = 94) ?_
              obtain ⟨b258, hf⟩ := zchk hf
              refine z_iald h rfl b258 dX12_filledBy_94 (rfl : 94 + 1 = 95) ?_
              obtain ⟨q259, e260, hf⟩ := zbind hf
              refine z_goF (z_runV (C := RX12) (T := TX12) (N := 46) (ci := 11) h [.int (I 159 (Int32.toNatClampNeg v2)), .int (I 161 (Int32.toNatClampNeg v2))] [] zyX12_isKnowing (c_X12_isKnowing B I J hJ (I 159 (Int32.toNatClampNeg v2)) (I 161 (Int32.toNatClampNeg v2)) _ _ e260) gX12_filledBy_X12_isKnowing rfl rfl rfl zrX12_filledBy_X12_isKnowing rfl (Nat.le_of_ble_eq_true rfl) ⟨Nat.zero_le _, Nat.zero_le _⟩ rfl dX12_filledBy_95) rfl ?_
              refine z_if_eq (pc' := 101) h 124 dX12_filledBy_98 (by decide) rfl (fun c261 => ?_) (fun c261 => ?_)
              · have hf := zitt c261 hf
                refine z_iconst h 0 dX12_filledBy_124 (by decide) (rfl : 124 + 1 = 125) ?_
                refine z_istore h [(4, .int 0), (0, .ref (za B 147)), (1, .int v1), (2, .int v2), (3, .int v3)] dX12_filledBy_125 (by decide) rfl (rfl : 125 + 2 = 127) ?_
                refine z_iload h 0 dX12_filledBy_127 rfl (rfl : 127 + 2 = 129) ?_
                refine z_if_ne (pc' := 132) h 136 dX12_filledBy_129 (by decide) rfl (fun q => absurd q (by decide)) (fun _ => ?_)
                refine z_iconst h 0 dX12_filledBy_132 (by decide) (rfl : 132 + 1 = 133) ?_
                refine z_goto (pc' := 172) h dX12_filledBy_133 (by decide) ?_
                refine z_istore h [(5, .int 0), (4, .int 0), (0, .ref (za B 147)), (1, .int v1), (2, .int v2), (3, .int v3)] dX12_filledBy_172 (by decide) rfl (rfl : 172 + 2 = 174) ?_
                refine z_aload_n h 2 dX12_filledBy_174 rfl (rfl : 174 + 1 = 175) ?_
                refine z_getr (ci := 11) (C := RX12) (T := TX12) (N := 46) h 36 172 ((hJ.1 147 36 (by decide)).trans rfl) rfl rfl (fun _ hq => List.mem_cons_of_mem _ (List.mem_append_right _ hq)) (by decide) (List.mem_of_getElem? (i := 1) rfl) rfl dX12_filledBy_175 (rfl : 175 + 3 = 178) ?_
                refine z_iload_n h 5 dX12_filledBy_178 rfl (rfl : 178 + 1 = 179) ?_
                refine z_iload_n h 3 dX12_filledBy_179 rfl (rfl : 179 + 1 = 180) ?_
                refine z_iconst h 1 dX12_filledBy_180 (by decide) (rfl : 180 + 1 = 181) ?_
                refine z_iadd h dX12_filledBy_181 (rfl : 181 + 1 = 182) ?_
                obtain ⟨b262, hf⟩ := zchk hf
                refine z_iast h b262 rfl dX12_filledBy_182 (rfl : 182 + 1 = 183) ?_
                refine z_aload_n h 2 dX12_filledBy_183 rfl (rfl : 183 + 1 = 184) ?_
                refine z_iload_n h 5 dX12_filledBy_184 rfl (rfl : 184 + 1 = 185) ?_
                refine z_iload h 0 dX12_filledBy_185 rfl (rfl : 185 + 2 = 187) ?_
                obtain ⟨q263, e264, hf⟩ := zbind hf
                refine z_goF (z_runV (C := RX12) (T := TX12) (N := 46) (ci := 11) h [.int v3, .int 0] [] zyX12_isThere (c_X12_isThere B (zu q259.2 172 (Int32.toNatClampNeg v3) (v1 + (1 : Int32))) J hJ v3 0 _ _ e264) gX12_filledBy_X12_isThere rfl rfl rfl zrX12_filledBy_X12_isThere rfl (Nat.le_of_ble_eq_true rfl) ⟨Nat.zero_le _, Nat.zero_le _⟩ rfl dX12_filledBy_187) rfl ?_
                refine z_if_eq (pc' := 193) h 198 dX12_filledBy_190 (by decide) rfl (fun c265 => ?_) (fun c265 => ?_)
                · have hf := zitt c265 hf
                  refine z_iconst h 0 dX12_filledBy_198 (by decide) (rfl : 198 + 1 = 199) ?_
                  refine z_iret h hr dX12_filledBy_199 ?_
                  exact ⟨congrArg Prod.fst (zsome hf), congrArg Prod.snd (zsome hf), rfl⟩
                · have hf := zitf c265 hf
                  refine z_iload h 0 dX12_filledBy_193 rfl (rfl : 193 + 2 = 195) ?_
                  refine z_goto (pc' := 199) h dX12_filledBy_195 (by decide) ?_
                  refine z_iret h hr dX12_filledBy_199 ?_
                  exact ⟨congrArg Prod.fst (zsome hf), congrArg Prod.snd (zsome hf), rfl⟩
              · have hf := zitf c261 hf
                refine z_aload_n h 0 dX12_filledBy_101 rfl (rfl : 101 + 1 = 102) ?_
                refine z_aload_n h 0 dX12_filledBy_102 rfl (rfl : 102 + 1 = 103) ?_
                refine z_getr (ci := 11) (C := RX12) (T := TX12) (N := 46) h 20 160 ((hJ.1 147 20 (by decide)).trans rfl) rfl rfl (fun _ hq => List.mem_cons_of_mem _ (List.mem_append_right _ hq)) (by decide) (List.mem_of_getElem? (i := 6) rfl) rfl dX12_filledBy_103 (rfl : 103 + 3 = 106) ?_
                refine z_iload_n h 2 dX12_filledBy_106 rfl (rfl : 106 + 1 = 107) ?_
                obtain ⟨b266, hf⟩ := zchk hf
                refine z_iald h rfl b266 dX12_filledBy_107 (rfl : 107 + 1 = 108) ?_
                refine z_aload_n h 0 dX12_filledBy_108 rfl (rfl : 108 + 1 = 109) ?_
                refine z_getr (ci := 11) (C := RX12) (T := TX12) (N := 46) h 21 161 ((hJ.1 147 21 (by decide)).trans rfl) rfl rfl (fun _ hq => List.mem_cons_of_mem _ (List.mem_append_right _ hq)) (by decide) (List.mem_of_getElem? (i := 5) rfl) rfl dX12_filledBy_109 (rfl : 109 + 3 = 112) ?_
                refine z_iload_n h 2 dX12_filledBy_112 rfl (rfl : 112 + 1 = 113) ?_
                obtain ⟨b267, hf⟩ := zchk hf
                refine z_iald h rfl b267 dX12_filledBy_113 (rfl : 113 + 1 = 114) ?_
                obtain ⟨q268, e269, hf⟩ := zbind hf
                refine z_goF (z_runV (C := RX12) (T := TX12) (N := 46) (ci := 11) h [.int (q259.2 160 (Int32.toNatClampNeg v2)), .int (q259.2 161 (Int32.toNatClampNeg v2))] [] zyX12_isKnowing (c_X12_isKnowing B q259.2 J hJ (q259.2 160 (Int32.toNatClampNeg v2)) (q259.2 161 (Int32.toNatClampNeg v2)) _ _ e269) gX12_filledBy_X12_isKnowing rfl rfl rfl zrX12_filledBy_X12_isKnowing rfl (Nat.le_of_ble_eq_true rfl) ⟨Nat.zero_le _, Nat.zero_le _⟩ rfl dX12_filledBy_114) rfl ?_
                refine z_if_eq (pc' := 120) h 124 dX12_filledBy_117 (by decide) rfl (fun c270 => ?_) (fun c270 => ?_)
                · have hf := zitt c270 hf
                  refine z_iconst h 0 dX12_filledBy_124 (by decide) (rfl : 124 + 1 = 125) ?_
                  refine z_istore h [(4, .int 0), (0, .ref (za B 147)), (1, .int v1), (2, .int v2), (3, .int v3)] dX12_filledBy_125 (by decide) rfl (rfl : 125 + 2 = 127) ?_
                  refine z_iload h 0 dX12_filledBy_127 rfl (rfl : 127 + 2 = 129) ?_
                  refine z_if_ne (pc' := 132) h 136 dX12_filledBy_129 (by decide) rfl (fun q => absurd q (by decide)) (fun _ => ?_)
                  refine z_iconst h 0 dX12_filledBy_132 (by decide) (rfl : 132 + 1 = 133) ?_
                  refine z_goto (pc' := 172) h dX12_filledBy_133 (by decide) ?_
                  refine z_istore h [(5, .int 0), (4, .int 0), (0, .ref (za B 147)), (1, .int v1), (2, .int v2), (3, .int v3)] dX12_filledBy_172 (by decide) rfl (rfl : 172 + 2 = 174) ?_
                  refine z_aload_n h 2 dX12_filledBy_174 rfl (rfl : 174 + 1 = 175) ?_
                  refine z_getr (ci := 11) (C := RX12) (T := TX12) (N := 46) h 36 172 ((hJ.1 147 36 (by decide)).trans rfl) rfl rfl (fun _ hq => List.mem_cons_of_mem _ (List.mem_append_right _ hq)) (by decide) (List.mem_of_getElem? (i := 1) rfl) rfl dX12_filledBy_175 (rfl : 175 + 3 = 178) ?_
                  refine z_iload_n h 5 dX12_filledBy_178 rfl (rfl : 178 + 1 = 179) ?_
                  refine z_iload_n h 3 dX12_filledBy_179 rfl (rfl : 179 + 1 = 180) ?_
                  refine z_iconst h 1 dX12_filledBy_180 (by decide) (rfl : 180 + 1 = 181) ?_
                  refine z_iadd h dX12_filledBy_181 (rfl : 181 + 1 = 182) ?_
                  obtain ⟨b271, hf⟩ := zchk hf
                  refine z_iast h b271 rfl dX12_filledBy_182 (rfl : 182 + 1 = 183) ?_
                  refine z_aload_n h 2 dX12_filledBy_183 rfl (rfl : 183 + 1 = 184) ?_
                  refine z_iload_n h 5 dX12_filledBy_184 rfl (rfl : 184 + 1 = 185) ?_
                  refine z_iload h 0 dX12_filledBy_185 rfl (rfl : 185 + 2 = 187) ?_
                  obtain ⟨q272, e273, hf⟩ := zbind hf
                  refine z_goF (z_runV (C := RX12) (T := TX12) (N := 46) (ci := 11) h [.int v3, .int 0] [] zyX12_isThere (c_X12_isThere B (zu q268.2 172 (Int32.toNatClampNeg v3) (v1 + (1 : Int32))) J hJ v3 0 _ _ e273) gX12_filledBy_X12_isThere rfl rfl rfl zrX12_filledBy_X12_isThere rfl (Nat.le_of_ble_eq_true rfl) ⟨Nat.zero_le _, Nat.zero_le _⟩ rfl dX12_filledBy_187) rfl ?_
                  refine z_if_eq (pc' := 193) h 198 dX12_filledBy_190 (by decide) rfl (fun c274 => ?_) (fun c274 => ?_)
                  · have hf := zitt c274 hf
                    refine z_iconst h 0 dX12_filledBy_198 (by decide) (rfl : 198 + 1 = 199) ?_
                    refine z_iret h hr dX12_filledBy_199 ?_
                    exact ⟨congrArg Prod.fst (zsome hf), congrArg Prod.snd (zsome hf), rfl⟩
                  · have hf := zitf c274 hf
                    refine z_iload h 0 dX12_filledBy_193 rfl (rfl : 193 + 2 = 195) ?_
                    refine z_goto (pc' := 199) h dX12_filledBy_195 (by decide) ?_
                    refine z_iret h hr dX12_filledBy_199 ?_
                    exact ⟨congrArg Prod.fst (zsome hf), congrArg Prod.snd (zsome hf), rfl⟩
                · have hf := zitf c270 hf
                  refine z_iconst h 1 dX12_filledBy_120 (by decide) (rfl : 120 + 1 = 121) ?_
                  refine z_goto (pc' := 125) h dX12_filledBy_121 (by decide) ?_
                  refine z_istore h [(4, .int 1), (0, .ref (za B 147)), (1, .int v1), (2, .int v2), (3, .int v3)] dX12_filledBy_125 (by decide) rfl (rfl : 125 + 2 = 127) ?_
                  refine z_iload h 0 dX12_filledBy_127 rfl (rfl : 127 + 2 = 129) ?_
                  refine z_if_ne (pc' := 132) h 136 dX12_filledBy_129 (by decide) rfl (fun _ => ?_) (fun q => absurd q (by decide))
                  refine z_iload_n h 2 dX12_filledBy_136 rfl (rfl : 136 + 1 = 137) ?_
                  refine z_iconst h 1 dX12_filledBy_137 (by decide) (rfl : 137 + 1 = 138) ?_
                  refine z_icmp_ne (pc' := 141) h 161 dX12_filledBy_138 (by decide) rfl (fun c275 => ?_) (fun c275 => ?_)
                  · have hf := zitf c275 hf
                    refine z_aload_n h 1 dX12_filledBy_161 rfl (rfl : 161 + 1 = 162) ?_
                    refine z_aload_n h 1 dX12_filledBy_162 rfl (rfl : 162 + 1 = 163) ?_
                    refine z_getr (ci := 11) (C := RX12) (T := TX12) (N := 46) h 21 161 ((hJ.1 147 21 (by decide)).trans rfl) rfl rfl (fun _ hq => List.mem_cons_of_mem _ (List.mem_append_right _ hq)) (by decide) (List.mem_of_getElem? (i := 5) rfl) rfl dX12_filledBy_163 (rfl : 163 + 3 = 166) ?_
                    refine z_iload_n h 3 dX12_filledBy_166 rfl (rfl : 166 + 1 = 167) ?_
                    obtain ⟨b276, hf⟩ := zchk hf
                    refine z_iald h rfl b276 dX12_filledBy_167 (rfl : 167 + 1 = 168) ?_
                    refine z_iload_n h 4 dX12_filledBy_168 rfl (rfl : 168 + 1 = 169) ?_
                    obtain ⟨q277, e278, hf⟩ := zbind hf
                    refine z_goF (z_runV (C := RX12) (T := TX12) (N := 46) (ci := 11) h [.int (q268.2 161 (Int32.toNatClampNeg v2)), .int v3] [] zyX12_customOf (c_X12_customOf B q268.2 J hJ (q268.2 161 (Int32.toNatClampNeg v2)) v3 _ _ e278) gX12_filledBy_X12_customOf rfl rfl rfl zrX12_filledBy_X12_customOf rfl (Nat.le_of_ble_eq_true rfl) ⟨Nat.zero_le _, Nat.zero_le _⟩ rfl dX12_filledBy_169) rfl ?_
                    refine z_istore h [(5, .int q277.1), (4, .int 1), (0, .ref (za B 147)), (1, .int v1), (2, .int v2), (3, .int v3)] dX12_filledBy_172 (by decide) rfl (rfl : 172 + 2 = 174) ?_
                    refine z_aload_n h 2 dX12_filledBy_174 rfl (rfl : 174 + 1 = 175) ?_
                    refine z_getr (ci := 11) (C := RX12) (T := TX12) (N := 46) h 36 172 ((hJ.1 147 36 (by decide)).trans rfl) rfl rfl (fun _ hq => List.mem_cons_of_mem _ (List.mem_append_right _ hq)) (by decide) (List.mem_of_getElem? (i := 1) rfl) rfl dX12_filledBy_175 (rfl : 175 + 3 = 178) ?_
                    refine z_iload_n h 5 dX12_filledBy_178 rfl (rfl : 178 + 1 = 179) ?_
                    refine z_iload_n h 3 dX12_filledBy_179 rfl (rfl : 179 + 1 = 180) ?_
                    refine z_iconst h 1 dX12_filledBy_180 (by decide) (rfl : 180 + 1 = 181) ?_
                    refine z_iadd h dX12_filledBy_181 (rfl : 181 + 1 = 182) ?_
                    obtain ⟨b279, hf⟩ := zchk hf
                    refine z_iast h b279 rfl dX12_filledBy_182 (rfl : 182 + 1 = 183) ?_
                    refine z_aload_n h 2 dX12_filledBy_183 rfl (rfl : 183 + 1 = 184) ?_
                    refine z_iload_n h 5 dX12_filledBy_184 rfl (rfl : 184 + 1 = 185) ?_
                    refine z_iload h 0 dX12_filledBy_185 rfl (rfl : 185 + 2 = 187) ?_
                    obtain ⟨q280, e281, hf⟩ := zbind hf
                    refine z_goF (z_runV (C := RX12) (T := TX12) (N := 46) (ci := 11) h [.int v3, .int q277.1] [] zyX12_isThere (c_X12_isThere B (zu q277.2 172 (Int32.toNatClampNeg v3) (v1 + (1 : Int32))) J hJ v3 q277.1 _ _ e281) gX12_filledBy_X12_isThere rfl rfl rfl zrX12_filledBy_X12_isThere rfl (Nat.le_of_ble_eq_true rfl) ⟨Nat.zero_le _, Nat.zero_le _⟩ rfl dX12_filledBy_187) rfl ?_
                    refine z_if_eq (pc' := 193) h 198 dX12_filledBy_190 (by decide) rfl (fun c282 => ?_) (fun c282 => ?_)
                    · have hf := zitt c282 hf
                      refine z_iconst h 0 dX12_filledBy_198 (by decide) (rfl : 198 + 1 = 199) ?_
                      refine z_iret h hr dX12_filledBy_199 ?_
                      exact ⟨congrArg Prod.fst (zsome hf), congrArg Prod.snd (zsome hf), rfl⟩
                    · have hf := zitf c282 hf
                      refine z_iload h 0 dX12_filledBy_193 rfl (rfl : 193 + 2 = 195) ?_
                      refine z_goto (pc' := 199) h dX12_filledBy_195 (by decide) ?_
                      refine z_iret h hr dX12_filledBy_199 ?_
                      exact ⟨congrArg Prod.fst (zsome hf), congrArg Prod.snd (zsome hf), rfl⟩
                  · have hf := zitt c275 hf
                    refine z_aload_n h 1 dX12_filledBy_141 rfl (rfl : 141 + 1 = 142) ?_
                    refine z_aload_n h 1 dX12_filledBy_142 rfl (rfl : 142 + 1 = 143) ?_
                    refine z_getr (ci := 11) (C := RX12) (T := TX12) (N := 46) h 19 159 ((hJ.1 147 19 (by decide)).trans rfl) rfl rfl (fun _ hq => List.mem_cons_of_mem _ (List.mem_append_right _ hq)) (by decide) (List.mem_of_getElem? (i := 4) rfl) rfl dX12_filledBy_143 (rfl : 143 + 3 = 146) ?_
                    refine z_iload_n h 3 dX12_filledBy_146 rfl (rfl : 146 + 1 = 147) ?_
                    obtain ⟨b283, hf⟩ := zchk hf
                    refine z_iald h rfl b283 dX12_filledBy_147 (rfl : 147 + 1 = 148) ?_
                    refine z_aload_n h 1 dX12_filledBy_148 rfl (rfl : 148 + 1 = 149) ?_
                    refine z_getr (ci := 11) (C := RX12) (T := TX12) (N := 46) h 20 160 ((hJ.1 147 20 (by decide)).trans rfl) rfl rfl (fun _ hq => List.mem_cons_of_mem _ (List.mem_append_right _ hq)) (by decide) (List.mem_of_getElem? (i := 6) rfl) rfl dX12_filledBy_149 (rfl : 149 + 3 = 152) ?_
                    refine z_iload_n h 3 dX12_filledBy_152 rfl (rfl : 152 + 1 = 153) ?_
                    obtain ⟨b284, hf⟩ := zchk hf
                    refine z_iald h rfl b284 dX12_filledBy_153 (rfl : 153 + 1 = 154) ?_
                    refine z_iload_n h 4 dX12_filledBy_154 rfl (rfl : 154 + 1 = 155) ?_
                    obtain ⟨q285, e286, hf⟩ := zbind hf
                    refine z_goF (z_runV (C := RX12) (T := TX12) (N := 46) (ci := 11) h [.int (q268.2 159 (Int32.toNatClampNeg v2)), .int (q268.2 160 (Int32.toNatClampNeg v2)), .int v3] [] zyX12_beforeOf (c_X12_beforeOf B q268.2 J hJ (q268.2 159 (Int32.toNatClampNeg v2)) (q268.2 160 (Int32.toNatClampNeg v2)) v3 _ _ e286) gX12_filledBy_X12_beforeOf rfl rfl rfl zrX12_filledBy_X12_beforeOf rfl (Nat.le_of_ble_eq_true rfl) ⟨Nat.zero_le _, Nat.zero_le _⟩ rfl dX12_filledBy_155) rfl ?_
                    refine z_goto (pc' := 172) h dX12_filledBy_158 (by decide) ?_
                    refine z_istore h [(5, .int q285.1), (4, .int 1), (0, .ref (za B 147)), (1, .int v1), (2, .int v2), (3, .int v3)] dX12_filledBy_172 (by decide) rfl (rfl : 172 + 2 = 174) ?_
                    refine z_aload_n h 2 dX12_filledBy_174 rfl (rfl : 174 + 1 = 175) ?_
                    refine z_getr (ci := 11) (C := RX12) (T := TX12) (N := 46) h 36 172 ((hJ.1 147 36 (by decide)).trans rfl) rfl rfl (fun _ hq => List.mem_cons_of_mem _ (List.mem_append_right _ hq)) (by decide) (List.mem_of_getElem? (i := 1) rfl) rfl dX12_filledBy_175 (rfl : 175 + 3 = 178) ?_
                    refine z_iload_n h 5 dX12_filledBy_178 rfl (rfl : 178 + 1 = 179) ?_
                    refine z_iload_n h 3 dX12_filledBy_179 rfl (rfl : 179 + 1 = 180) ?_
                    refine z_iconst h 1 dX12_filledBy_180 (by decide) (rfl : 180 + 1 = 181) ?_
                    refine z_iadd h dX12_filledBy_181 (rfl : 181 + 1 = 182) ?_
                    obtain ⟨b287, hf⟩ := zchk hf
                    refine z_iast h b287 rfl dX12_filledBy_182 (rfl : 182 + 1 = 183) ?_
                    refine z_aload_n h 2 dX12_filledBy_183 rfl (rfl : 183 + 1 = 184) ?_
                    refine z_iload_n h 5 dX12_filledBy_184 rfl (rfl : 184 + 1 = 185) ?_
                    refine z_iload h 0 dX12_filledBy_185 rfl (rfl : 185 + 2 = 187) ?_
                    obtain ⟨q288, e289, hf⟩ := zbind hf
                    refine z_goF (z_runV (C := RX12) (T := TX12) (N := 46) (ci := 11) h [.int v3, .int q285.1] [] zyX12_isThere (c_X12_isThere B (zu q285.2 172 (Int32.toNatClampNeg v3) (v1 + (1 : Int32))) J hJ v3 q285.1 _ _ e289) gX12_filledBy_X12_isThere rfl rfl rfl zrX12_filledBy_X12_isThere rfl (Nat.le_of_ble_eq_true rfl) ⟨Nat.zero_le _, Nat.zero_le _⟩ rfl dX12_filledBy_187) rfl ?_
                    refine z_if_eq (pc' := 193) h 198 dX12_filledBy_190 (by decide) rfl (fun c290 => ?_) (fun c290 => ?_)
                    · have hf := zitt c290 hf
                      refine z_iconst h 0 dX12_filledBy_198 (by decide) (rfl : 198 + 1 = 199) ?_
                      refine z_iret h hr dX12_filledBy_199 ?_
                      exact ⟨congrArg Prod.fst (zsome hf), congrArg Prod.snd (zsome hf), rfl⟩
                    · have hf := zitf c290 hf
                      refine z_iload h 0 dX12_filledBy_193 rfl (rfl : 193 + 2 = 195) ?_
                      refine z_goto (pc' := 199) h dX12_filledBy_195 (by decide) ?_
                      refine z_iret h hr dX12_filledBy_199 ?_
                      exact ⟨congrArg Prod.fst (zsome hf), congrArg Prod.snd (zsome hf), rfl⟩
      · have hf := zitt c147 hf
        refine z_iconst h 0 dX12_filledBy_65 (by decide) (rfl : 65 + 1 = 66) ?_
        refine z_iret h hr dX12_filledBy_66 ?_
        exact ⟨congrArg Prod.fst (zsome hf), congrArg Prod.snd (zsome hf), rfl⟩
  · have hf := zitt c1 hf
    refine z_aload_n h 0 dX12_filledBy_4 rfl (rfl : 4 + 1 = 5) ?_
    refine z_getr (ci := 11) (C := RX12) (T := TX12) (N := 46) h 36 172 ((hJ.1 147 36 (by decide)).trans rfl) rfl rfl (fun _ hq => List.mem_cons_of_mem _ (List.mem_append_right _ hq)) (by decide) (List.mem_of_getElem? (i := 1) rfl) rfl dX12_filledBy_5 (rfl : 5 + 3 = 8) ?_
    refine z_iload_n h 3 dX12_filledBy_8 rfl (rfl : 8 + 1 = 9) ?_
    refine z_iconst h 1 dX12_filledBy_9 (by decide) (rfl : 9 + 1 = 10) ?_
    obtain ⟨b291, hf⟩ := zchk hf
    refine z_iast h b291 rfl dX12_filledBy_10 (rfl : 10 + 1 = 11) ?_
    refine z_aload_n h 0 dX12_filledBy_11 rfl (rfl : 11 + 1 = 12) ?_
    refine z_iload_n h 3 dX12_filledBy_12 rfl (rfl : 12 + 1 = 13) ?_
    refine z_aload_n h 0 dX12_filledBy_13 rfl (rfl : 13 + 1 = 14) ?_
    refine z_getr (ci := 11) (C := RX12) (T := TX12) (N := 46) h 22 162 ((hJ.1 147 22 (by decide)).trans rfl) rfl rfl (fun _ hq => List.mem_cons_of_mem _ (List.mem_append_right _ hq)) (by decide) (List.mem_of_getElem? (i := 2) rfl) rfl dX12_filledBy_14 (rfl : 14 + 3 = 17) ?_
    refine z_bipush h 6 dX12_filledBy_17 (by decide) (rfl : 17 + 2 = 19) ?_
    refine z_iload_n h 2 dX12_filledBy_19 rfl (rfl : 19 + 1 = 20) ?_
    refine z_imul h dX12_filledBy_20 (rfl : 20 + 1 = 21) ?_
    refine z_iload_n h 3 dX12_filledBy_21 rfl (rfl : 21 + 1 = 22) ?_
    refine z_iadd h dX12_filledBy_22 (rfl : 22 + 1 = 23) ?_
    obtain ⟨b292, hf⟩ := zchk hf
    refine z_iald h rfl b292 dX12_filledBy_23 (rfl : 23 + 1 = 24) ?_
    obtain ⟨q293, e294, hf⟩ := zbind hf
    refine z_goF (z_runV (C := RX12) (T := TX12) (N := 46) (ci := 11) h [.int v3, .int ((zu I 172 (Int32.toNatClampNeg v3) 1) 162 (Int32.toNatClampNeg (((6 : Int32) * v2) + v3)))] [] zyX12_isThere (c_X12_isThere B (zu I 172 (Int32.toNatClampNeg v3) 1) J hJ v3 ((zu I 172 (Int32.toNatClampNeg v3) 1) 162 (Int32.toNatClampNeg (((6 : Int32) * v2) + v3))) _ _ e294) gX12_filledBy_X12_isThere rfl rfl rfl zrX12_filledBy_X12_isThere rfl (Nat.le_of_ble_eq_true rfl) ⟨Nat.zero_le _, Nat.zero_le _⟩ rfl dX12_filledBy_24) rfl ?_
    refine z_if_eq (pc' := 30) h 44 dX12_filledBy_27 (by decide) rfl (fun c295 => ?_) (fun c295 => ?_)
    · have hf := zitt c295 hf
      refine z_iconst h 0 dX12_filledBy_44 (by decide) (rfl : 44 + 1 = 45) ?_
      refine z_iret h hr dX12_filledBy_45 ?_
      exact ⟨congrArg Prod.fst (zsome hf), congrArg Prod.snd (zsome hf), rfl⟩
    · have hf := zitf c295 hf
      refine z_aload_n h 0 dX12_filledBy_30 rfl (rfl : 30 + 1 = 31) ?_
      refine z_getr (ci := 11) (C := RX12) (T := TX12) (N := 46) h 22 162 ((hJ.1 147 22 (by decide)).trans rfl) rfl rfl (fun _ hq => List.mem_cons_of_mem _ (List.mem_append_right _ hq)) (by decide) (List.mem_of_getElem? (i := 2) rfl) rfl dX12_filledBy_31 (rfl : 31 + 3 = 34) ?_
      refine z_bipush h 6 dX12_filledBy_34 (by decide) (rfl : 34 + 2 = 36) ?_
      refine z_iload_n h 2 dX12_filledBy_36 rfl (rfl : 36 + 1 = 37) ?_
      refine z_imul h dX12_filledBy_37 (rfl : 37 + 1 = 38) ?_
      refine z_iload_n h 3 dX12_filledBy_38 rfl (rfl : 38 + 1 = 39) ?_
      refine z_iadd h dX12_filledBy_39 (rfl : 39 + 1 = 40) ?_
      obtain ⟨b296, hf⟩ := zchk hf
      refine z_iald h rfl b296 dX12_filledBy_40 (rfl : 40 + 1 = 41) ?_
      refine z_goto (pc' := 45) h dX12_filledBy_41 (by decide) ?_
      refine z_iret h hr dX12_filledBy_45 ?_
      exact ⟨congrArg Prod.fst (zsome hf), congrArg Prod.snd (zsome hf), rfl⟩
noncomputable def f_X12_go_89 (J : zJ) (u1 : Int32) (u2 : Int32) (u3 : Int32) (u4 : Int32) (u5 : Int32) (u6 : Int32) : Nat → Int32 → zM → Option ((Int32 × zM) ⊕ (Int32 × zM))
  | 0, _, _ => none
  | n + 1, x7_89, I89 => (if zin u2 5 = true then (if I89 158 (Int32.toNatClampNeg u2) ≤ x7_89 then some (.inr (x7_89, I89)) else (if u5 = 0 then some (.inr (x7_89, I89)) else (if zin u4 6 = true then (if I89 171 (Int32.toNatClampNeg u4) = 0 then (if zin (((5 : Int32) * u2) + x7_89) 25 = true then ((f_X12_filledBy J (I89 157 (Int32.toNatClampNeg (((5 : Int32) * u2) + x7_89))) u1 u4 I89).bind fun q12 => (if zin u4 6 = true then f_X12_go_89 J u1 u2 u3 u4 u5 u6 n (x7_89 + 1) (zu q12.2 171 (Int32.toNatClampNeg u4) q12.1) else none)) else none) else some (.inr (x7_89, I89))) else none))) else none)
noncomputable def f_X12_go_5 (J : zJ) (u1 : Int32) (u2 : Int32) : Nat → Int32 → Int32 → zM → Option ((Int32 × zM) ⊕ (Int32 × Int32 × zM))
  | 0, _, _, _ => none
  | n + 1, x3_5, x4_5, I5 => (if 6 ≤ x4_5 then some (.inr (x3_5, x4_5, I5)) else (if zin x4_5 6 = true then ((f_X12_isAsked J x4_5 (zu I5 171 (Int32.toNatClampNeg x4_5) 0)).bind fun q3 => (if q3.1 = 0 then ((f_X12_go_89 J u1 u2 x3_5 x4_5 q3.1 (-9) zF 0 q3.2).bind fun q => Sum.elim (fun a => some (.inl a)) (fun a8 => (if zin x4_5 6 = true then (if a8.2 171 (Int32.toNatClampNeg x4_5) = 0 then (if zin x4_5 6 = true then (if zin x4_5 6 = true then f_X12_go_5 J u1 u2 n (((6 : Int32) * x3_5) + ((zu a8.2 172 (Int32.toNatClampNeg x4_5) 0) 171 (Int32.toNatClampNeg x4_5))) (x4_5 + 1) (zu a8.2 172 (Int32.toNatClampNeg x4_5) 0) else none) else none) else (if zin x4_5 6 = true then (if zin x4_5 6 = true then (if zin x4_5 6 = true then f_X12_go_5 J u1 u2 n (((6 : Int32) * x3_5) + ((zu a8.2 172 (Int32.toNatClampNeg x4_5) (a8.2 172 (Int32.toNatClampNeg x4_5))) 171 (Int32.toNatClampNeg x4_5))) (x4_5 + 1) (zu a8.2 172 (Int32.toNatClampNeg x4_5) (a8.2 172 (Int32.toNatClampNeg x4_5))) else none) else none) else none)) else none)) q) else ((f_X12_ruleFor J 1 u1 x4_5 q3.2).bind fun q16 => (if q16.1 = (-9) then ((f_X12_go_89 J u1 u2 x3_5 x4_5 q3.1 q16.1 zF 0 q16.2).bind fun q => Sum.elim (fun a => some (.inl a)) (fun a21 => (if zin x4_5 6 = true then (if a21.2 171 (Int32.toNatClampNeg x4_5) = 0 then (if zin x4_5 6 = true then (if zin x4_5 6 = true then f_X12_go_5 J u1 u2 n (((6 : Int32) * x3_5) + ((zu a21.2 172 (Int32.toNatClampNeg x4_5) 0) 171 (Int32.toNatClampNeg x4_5))) (x4_5 + 1) (zu a21.2 172 (Int32.toNatClampNeg x4_5) 0) else none) else none) else (if zin x4_5 6 = true then (if zin x4_5 6 = true then (if zin x4_5 6 = true then f_X12_go_5 J u1 u2 n (((6 : Int32) * x3_5) + ((zu a21.2 172 (Int32.toNatClampNeg x4_5) (a21.2 172 (Int32.toNatClampNeg x4_5))) 171 (Int32.toNatClampNeg x4_5))) (x4_5 + 1) (zu a21.2 172 (Int32.toNatClampNeg x4_5) (a21.2 172 (Int32.toNatClampNeg x4_5))) else none) else none) else none)) else none)) q) else (if zin (((6 : Int32) * q16.1) + (2 : Int32)) 72 = true then (if zin x4_5 6 = true then (if zin x4_5 6 = true then ((f_X12_go_89 J u1 u2 x3_5 x4_5 q3.1 q16.1 zF 0 (zu (zu q16.2 171 (Int32.toNatClampNeg x4_5) (q16.2 155 (Int32.toNatClampNeg (((6 : Int32) * q16.1) + (2 : Int32))))) 172 (Int32.toNatClampNeg x4_5) ((10 : Int32) + q16.1))).bind fun q => Sum.elim (fun a => some (.inl a)) (fun a34 => (if zin x4_5 6 = true then (if a34.2 171 (Int32.toNatClampNeg x4_5) = 0 then (if zin x4_5 6 = true then (if zin x4_5 6 = true then f_X12_go_5 J u1 u2 n (((6 : Int32) * x3_5) + ((zu a34.2 172 (Int32.toNatClampNeg x4_5) 0) 171 (Int32.toNatClampNeg x4_5))) (x4_5 + 1) (zu a34.2 172 (Int32.toNatClampNeg x4_5) 0) else none) else none) else (if zin x4_5 6 = true then (if zin x4_5 6 = true then (if zin x4_5 6 = true then f_X12_go_5 J u1 u2 n (((6 : Int32) * x3_5) + ((zu a34.2 172 (Int32.toNatClampNeg x4_5) (a34.2 172 (Int32.toNatClampNeg x4_5))) 171 (Int32.toNatClampNeg x4_5))) (x4_5 + 1) (zu a34.2 172 (Int32.toNatClampNeg x4_5) (a34.2 172 (Int32.toNatClampNeg x4_5))) else none) else none) else none)) else none)) q) else none) else none) else none))))) else none))
noncomputable def f_X12_go (J : zJ) (v1 : Int32) (v2 : Int32) (I : zM) : Option (Int32 × zM) := ((f_X12_go_5 J v1 v2 zF 0 0 I).bind fun q => Sum.elim (fun a => some a) (fun a3 => some ((a3.1, a3.2.2))) q)
noncomputable abbrev rmX12_go : Room := { frames := 4, cells := 0, slots := 0, locals := 98 }
theorem zyX12_go : zY yX12_go wsX12_go cX12_go 8 (some .int) 2 := ⟨⟨_, rfl⟩, by decide +kernel⟩
theorem zrX12_go_X12_filledBy : zRm rmX12_filledBy rmX12_go 6 := ⟨rfl, rfl, by decide, by decide⟩
theorem zrX12_go_X12_isAsked : zRm rmX12_isAsked rmX12_go 2 := ⟨rfl, rfl, by decide, by decide⟩
theorem zrX12_go_X12_ruleFor : zRm rmX12_ruleFor rmX12_go 7 := ⟨rfl, rfl, by decide, by decide⟩
set_option maxHeartbeats 1000000 in
set_option maxRecDepth 100000 in
theorem c_X12_go (B : zB) (I : zM) (J : zJ) (hJ : zJok J) (v1 : Int32) (v2 : Int32) (r : Int32) (I' : zM) (hf : f_X12_go J v1 v2 I = some (r, I')) : zCi B zKW I J yX12_go wsX12_go rmX12_go [.ref (za B 147), .int v1, .int v2] (fun r2 I2 J2 => r2 = r ∧ I2 = I' ∧ J2 = J) := by
  refine z_start (own := RX12) (cc := cX12_go) (nL := 8) (ret := (some .int)) rfl (by decide) rfl (Nat.le_of_ble_eq_true rfl) (L := [(0, .ref (za B 147)), (1, .int v1), (2, .int v2)]) rfl (fun G h hr => ?_)
  rw [f_X12_go] at hf
  refine z_iconst h 0 dX12_go_0 (by decide) (rfl : 0 + 1 = 1) ?_
  refine z_istore_n h [(3, .int 0), (0, .ref (za B 147)), (1, .int v1), (2, .int v2)] dX12_go_1 (by decide) rfl (rfl : 1 + 1 = 2) ?_
  refine z_iconst h 0 dX12_go_2 (by decide) (rfl : 2 + 1 = 3) ?_
  refine z_istore h [(4, .int 0), (3, .int 0), (0, .ref (za B 147)), (1, .int v1), (2, .int v2)] dX12_go_3 (by decide) rfl (rfl : 3 + 2 = 5) ?_
  have loop_5_2 : ∀ (n : Nat) (x3_5 : Int32) (x4_5 : Int32) (I5 : zM) (q : (Int32 × zM) ⊕ (Int32 × Int32 × zM)), f_X12_go_5 J v1 v2 n x3_5 x4_5 I5 = some q → (∀ a, q = .inl a → a = (r, I')) → (∀ a : Int32 × Int32 × zM, q = .inr a → Z B G zKW (a.2.2) (J) (0, 0) 193 [(0, .ref (za B 147)), (1, .int v1), (2, .int v2), (3, .int a.1), (4, .int a.2.1)] []) → Z B G zKW I5 J (0, 0) 5 [(0, .ref (za B 147)), (1, .int v1), (2, .int v2), (3, .int x3_5), (4, .int x4_5)] [] := by
    intro n; induction n with
    | zero => intro x3_5 x4_5 I5 q hf; exact absurd hf (by rw [f_X12_go_5]; exact fun z => by cases z)
    | succ n ih =>
      intro x3_5 x4_5 I5 q hf hP hE; rw [f_X12_go_5] at hf
      refine z_iload h 4 dX12_go_5 rfl (rfl : 5 + 2 = 7) ?_
      refine z_bipush h 6 dX12_go_7 (by decide) (rfl : 7 + 2 = 9) ?_
      refine z_icmp_ge (pc' := 12) h 193 dX12_go_9 (by decide) rfl (fun c3 => ?_) (fun c3 => ?_)
      · have hf := zitt c3 hf
        exact hE (x3_5, x4_5, I5) (zsome hf).symm
      · have hf := zitf c3 hf
        refine z_aload_n h 0 dX12_go_12 rfl (rfl : 12 + 1 = 13) ?_
        refine z_getr (ci := 11) (C := RX12) (T := TX12) (N := 46) h 35 171 ((hJ.1 147 35 (by decide)).trans rfl) rfl rfl (fun _ hq => List.mem_cons_of_mem _ (List.mem_append_right _ hq)) (by decide) (List.mem_of_getElem? (i := 1) rfl) rfl dX12_go_13 (rfl : 13 + 3 = 16) ?_
        refine z_iload h 4 dX12_go_16 rfl (rfl : 16 + 2 = 18) ?_
        refine z_iconst h 0 dX12_go_18 (by decide) (rfl : 18 + 1 = 19) ?_
        obtain ⟨b4, hf⟩ := zchk hf
        refine z_iast h b4 rfl dX12_go_19 (rfl : 19 + 1 = 20) ?_
        refine z_aload_n h 0 dX12_go_20 rfl (rfl : 20 + 1 = 21) ?_
        refine z_iload h 4 dX12_go_21 rfl (rfl : 21 + 2 = 23) ?_
        obtain ⟨q5, e6, hf⟩ := zbind hf
        refine z_goF (z_runV (C := RX12) (T := TX12) (N := 46) (ci := 11) h [.int x4_5] [] zyX12_isAsked (c_X12_isAsked B (zu I5 171 (Int32.toNatClampNeg x4_5) 0) J hJ x4_5 _ _ e6) gX12_go_X12_isAsked rfl rfl rfl zrX12_go_X12_isAsked rfl (Nat.le_of_ble_eq_true rfl) ⟨Nat.zero_le _, Nat.zero_le _⟩ rfl dX12_go_23) rfl ?_
        refine z_istore h [(5, .int q5.1), (0, .ref (za B 147)), (1, .int v1), (2, .int v2), (3, .int x3_5), (4, .int x4_5)] dX12_go_26 (by decide) rfl (rfl : 26 + 2 = 28) ?_
        refine z_iload h 0 dX12_go_28 rfl (rfl : 28 + 2 = 30) ?_
        refine z_if_eq (pc' := 33) h 44 dX12_go_30 (by decide) rfl (fun c7 => ?_) (fun c7 => ?_)
        · have hf := zitt c7 hf
          refine z_bipush h (-9) dX12_go_44 (by decide) (rfl : 44 + 2 = 46) ?_
          refine z_istore h [(6, .int (-9)), (5, .int q5.1), (0, .ref (za B 147)), (1, .int v1), (2, .int v2), (3, .int x3_5), (4, .int x4_5)] dX12_go_46 (by decide) rfl (rfl : 46 + 2 = 48) ?_
          refine z_iload h 0 dX12_go_48 rfl (rfl : 48 + 2 = 50) ?_
          refine z_bipush h (-9) dX12_go_50 (by decide) (rfl : 50 + 2 = 52) ?_
          refine z_icmp_eq (pc' := 55) h 86 dX12_go_52 (by decide) rfl (fun _ => ?_) (fun q => absurd q (by decide))
          refine z_iconst h 0 dX12_go_86 (by decide) (rfl : 86 + 1 = 87) ?_
          refine z_istore h [(7, .int 0), (6, .int (-9)), (5, .int q5.1), (0, .ref (za B 147)), (1, .int v1), (2, .int v2), (3, .int x3_5), (4, .int x4_5)] dX12_go_87 (by decide) rfl (rfl : 87 + 2 = 89) ?_
          have loop_89_9 : ∀ (n : Nat) (x7_89 : Int32) (I89 : zM) (q : (Int32 × zM) ⊕ (Int32 × zM)), f_X12_go_89 J v1 v2 x3_5 x4_5 q5.1 (-9) n x7_89 I89 = some q → (∀ a, q = .inl a → a = (r, I')) → (∀ a : Int32 × zM, q = .inr a → Z B G zKW (a.2) (J) (0, 0) 146 [(0, .ref (za B 147)), (1, .int v1), (2, .int v2), (3, .int x3_5), (4, .int x4_5), (5, .int q5.1), (6, .int (-9)), (7, .int a.1)] []) → Z B G zKW I89 J (0, 0) 89 [(0, .ref (za B 147)), (1, .int v1), (2, .int v2), (3, .int x3_5), (4, .int x4_5), (5, .int q5.1), (6, .int (-9)), (7, .int x7_89)] [] := by
            intro n; induction n with
            | zero => intro x7_89 I89 q hf; exact absurd hf (by rw [f_X12_go_89]; exact fun z => by cases z)
            | succ n ih =>
              intro x7_89 I89 q hf hP hE; rw [f_X12_go_89] at hf
              refine z_iload h 7 dX12_go_89 rfl (rfl : 89 + 2 = 91) ?_
              refine z_aload_n h 0 dX12_go_91 rfl (rfl : 91 + 1 = 92) ?_
              refine z_getr (ci := 11) (C := RX12) (T := TX12) (N := 46) h 18 158 ((hJ.1 147 18 (by decide)).trans rfl) rfl rfl (fun _ hq => List.mem_cons_of_mem _ (List.mem_append_right _ hq)) (by decide) (List.mem_of_getElem? (i := 4) rfl) rfl dX12_go_92 (rfl : 92 + 3 = 95) ?_
              refine z_iload_n h 2 dX12_go_95 rfl (rfl : 95 + 1 = 96) ?_
              obtain ⟨b10, hf⟩ := zchk hf
              refine z_iald h rfl b10 dX12_go_96 (rfl : 96 + 1 = 97) ?_
              refine z_icmp_ge (pc' := 100) h 146 dX12_go_97 (by decide) rfl (fun c11 => ?_) (fun c11 => ?_)
              · have hf := zitt c11 hf
                exact hE (x7_89, I89) (zsome hf).symm
              · have hf := zitf c11 hf
                refine z_iload h 5 dX12_go_100 rfl (rfl : 100 + 2 = 102) ?_
                refine z_if_eq (pc' := 105) h 146 dX12_go_102 (by decide) rfl (fun c12 => ?_) (fun c12 => ?_)
                · have hf := zitt c12 hf
                  exact hE (x7_89, I89) (zsome hf).symm
                · have hf := zitf c12 hf
                  refine z_aload_n h 0 dX12_go_105 rfl (rfl : 105 + 1 = 106) ?_
                  refine z_getr (ci := 11) (C := RX12) (T := TX12) (N := 46) h 35 171 ((hJ.1 147 35 (by decide)).trans rfl) rfl rfl (fun _ hq => List.mem_cons_of_mem _ (List.mem_append_right _ hq)) (by decide) (List.mem_of_getElem? (i := 1) rfl) rfl dX12_go_106 (rfl : 106 + 3 = 109) ?_
                  refine z_iload h 4 dX12_go_109 rfl (rfl : 109 + 2 = 111) ?_
                  obtain ⟨b13, hf⟩ := zchk hf
                  refine z_iald h rfl b13 dX12_go_111 (rfl : 111 + 1 = 112) ?_
                  refine z_if_ne (pc' := 115) h 146 dX12_go_112 (by decide) rfl (fun c14 => ?_) (fun c14 => ?_)
                  · have hf := zitf c14 hf
                    exact hE (x7_89, I89) (zsome hf).symm
                  · have hf := zitt c14 hf
                    refine z_aload_n h 0 dX12_go_115 rfl (rfl : 115 + 1 = 116) ?_
                    refine z_getr (ci := 11) (C := RX12) (T := TX12) (N := 46) h 35 171 ((hJ.1 147 35 (by decide)).trans rfl) rfl rfl (fun _ hq => List.mem_cons_of_mem _ (List.mem_append_right _ hq)) (by decide) (List.mem_of_getElem? (i := 1) rfl) rfl dX12_go_116 (rfl : 116 + 3 = 119) ?_
                    refine z_iload h 4 dX12_go_119 rfl (rfl : 119 + 2 = 121) ?_
                    refine z_aload_n h 0 dX12_go_121 rfl (rfl : 121 + 1 = 122) ?_
                    refine z_aload_n h 0 dX12_go_122 rfl (rfl : 122 + 1 = 123) ?_
                    refine z_getr (ci := 11) (C := RX12) (T := TX12) (N := 46) h 17 157 ((hJ.1 147 17 (by decide)).trans rfl) rfl rfl (fun _ hq => List.mem_cons_of_mem _ (List.mem_append_right _ hq)) (by decide) (List.mem_of_getElem? (i := 5) rfl) rfl dX12_go_123 (rfl : 123 + 3 = 126) ?_
                    refine z_iconst h 5 dX12_go_126 (by decide) (rfl : 126 + 1 = 127) ?_
                    refine z_iload_n h 2 dX12_go_127 rfl (rfl : 127 + 1 = 128) ?_
                    refine z_imul h dX12_go_128 (rfl : 128 + 1 = 129) ?_
                    refine z_iload h 7 dX12_go_129 rfl (rfl : 129 + 2 = 131) ?_
                    refine z_iadd h dX12_go_131 (rfl : 131 + 1 = 132) ?_
                    obtain ⟨b15, hf⟩ := zchk hf
                    refine z_iald h rfl b15 dX12_go_132 (rfl : 132 + 1 = 133) ?_
                    refine z_iload_n h 1 dX12_go_133 rfl (rfl : 133 + 1 = 134) ?_
                    refine z_iload h 4 dX12_go_134 rfl (rfl : 134 + 2 = 136) ?_
                    obtain ⟨q16, e17, hf⟩ := zbind hf
                    refine z_goF (z_runV (C := RX12) (T := TX12) (N := 46) (ci := 11) h [.int (I89 157 (Int32.toNatClampNeg (((5 : Int32) * v2) + x7_89))), .int v1, .int x4_5] [.int x4_5, .ref (za B 171)] zyX12_filledBy (c_X12_filledBy B I89 J hJ (I89 157 (Int32.toNatClampNeg (((5 : Int32) * v2) + x7_89))) v1 x4_5 _ _ e17) gX12_go_X12_filledBy rfl rfl rfl zrX12_go_X12_filledBy rfl (Nat.le_of_ble_eq_true rfl) ⟨Nat.zero_le _, Nat.zero_le _⟩ rfl dX12_go_136) rfl ?_
                    obtain ⟨b18, hf⟩ := zchk hf
                    refine z_iast h b18 rfl dX12_go_139 (rfl : 139 + 1 = 140) ?_
                    refine z_iinc h 7 (x7_89 + 1) [(7, .int (x7_89 + 1)), (0, .ref (za B 147)), (1, .int v1), (2, .int v2), (3, .int x3_5), (4, .int x4_5), (5, .int q5.1), (6, .int (-9))] dX12_go_140 rfl rfl (by decide) rfl (rfl : 140 + 3 = 143) ?_
                    refine z_goto (pc' := 89) h dX12_go_143 (by decide) ?_
                    refine z_sub (L' := [(0, .ref (za B 147)), (1, .int v1), (2, .int v2), (3, .int x3_5), (4, .int x4_5), (5, .int q5.1), (6, .int (-9)), (7, .int (x7_89 + 1))]) [1, 2, 3, 4, 5, 6, 7, 0] rfl ?_
                    exact ih (x7_89 + 1) (zu q16.2 171 (Int32.toNatClampNeg x4_5) q16.1) _ hf hP hE
          refine z_sub (L' := [(0, .ref (za B 147)), (1, .int v1), (2, .int v2), (3, .int x3_5), (4, .int x4_5), (5, .int q5.1), (6, .int (-9)), (7, .int 0)]) [3, 4, 5, 6, 7, 2, 1, 0] rfl ?_
          obtain ⟨q8, e9, hf⟩ := zbind hf
          refine loop_89_9 _ 0 q5.2 q8 e9 (fun a ha => ?_) (fun a19 ha  => ?_)
          · have hf := zell ha hf
            exact hP _ (zsome hf).symm
          have hf := zelr ha hf
          clear ha loop_89_9
          refine z_aload_n h 0 dX12_go_146 rfl (rfl : 146 + 1 = 147) ?_
          refine z_getr (ci := 11) (C := RX12) (T := TX12) (N := 46) h 36 172 ((hJ.1 147 36 (by decide)).trans rfl) rfl rfl (fun _ hq => List.mem_cons_of_mem _ (List.mem_append_right _ hq)) (by decide) (List.mem_of_getElem? (i := 3) rfl) rfl dX12_go_147 (rfl : 147 + 3 = 150) ?_
          refine z_iload h 4 dX12_go_150 rfl (rfl : 150 + 2 = 152) ?_
          refine z_aload_n h 0 dX12_go_152 rfl (rfl : 152 + 1 = 153) ?_
          refine z_getr (ci := 11) (C := RX12) (T := TX12) (N := 46) h 35 171 ((hJ.1 147 35 (by decide)).trans rfl) rfl rfl (fun _ hq => List.mem_cons_of_mem _ (List.mem_append_right _ hq)) (by decide) (List.mem_of_getElem? (i := 1) rfl) rfl dX12_go_153 (rfl : 153 + 3 = 156) ?_
          refine z_iload h 4 dX12_go_156 rfl (rfl : 156 + 2 = 158) ?_
          obtain ⟨b20, hf⟩ := zchk hf
          refine z_iald h rfl b20 dX12_go_158 (rfl : 158 + 1 = 159) ?_
          refine z_if_ne (pc' := 162) h 166 dX12_go_159 (by decide) rfl (fun c21 => ?_) (fun c21 => ?_)
          · have hf := zitf c21 hf
            refine z_aload_n h 0 dX12_go_166 rfl (rfl : 166 + 1 = 167) ?_
            refine z_getr (ci := 11) (C := RX12) (T := TX12) (N := 46) h 36 172 ((hJ.1 147 36 (by decide)).trans rfl) rfl rfl (fun _ hq => List.mem_cons_of_mem _ (List.mem_append_right _ hq)) (by decide) (List.mem_of_getElem? (i := 3) rfl) rfl dX12_go_167 (rfl : 167 + 3 = 170) ?_
            refine z_iload h 4 dX12_go_170 rfl (rfl : 170 + 2 = 172) ?_
            obtain ⟨b22, hf⟩ := zchk hf
            refine z_iald h rfl b22 dX12_go_172 (rfl : 172 + 1 = 173) ?_
            obtain ⟨b23, hf⟩ := zchk hf
            refine z_iast h b23 rfl dX12_go_173 (rfl : 173 + 1 = 174) ?_
            refine z_bipush h 6 dX12_go_174 (by decide) (rfl : 174 + 2 = 176) ?_
            refine z_iload_n h 3 dX12_go_176 rfl (rfl : 176 + 1 = 177) ?_
            refine z_imul h dX12_go_177 (rfl : 177 + 1 = 178) ?_
            refine z_aload_n h 0 dX12_go_178 rfl (rfl : 178 + 1 = 179) ?_
            refine z_getr (ci := 11) (C := RX12) (T := TX12) (N := 46) h 35 171 ((hJ.1 147 35 (by decide)).trans rfl) rfl rfl (fun _ hq => List.mem_cons_of_mem _ (List.mem_append_right _ hq)) (by decide) (List.mem_of_getElem? (i := 1) rfl) rfl dX12_go_179 (rfl : 179 + 3 = 182) ?_
            refine z_iload h 4 dX12_go_182 rfl (rfl : 182 + 2 = 184) ?_
            obtain ⟨b24, hf⟩ := zchk hf
            refine z_iald h rfl b24 dX12_go_184 (rfl : 184 + 1 = 185) ?_
            refine z_iadd h dX12_go_185 (rfl : 185 + 1 = 186) ?_
            refine z_istore_n h [(3, .int (((6 : Int32) * x3_5) + ((zu a19.2 172 (Int32.toNatClampNeg x4_5) (a19.2 172 (Int32.toNatClampNeg x4_5))) 171 (Int32.toNatClampNeg x4_5)))), (0, .ref (za B 147)), (1, .int v1), (2, .int v2), (4, .int x4_5), (5, .int q5.1), (6, .int (-9)), (7, .int a19.1)] dX12_go_186 (by decide) rfl (rfl : 186 + 1 = 187) ?_
            refine z_iinc h 4 (x4_5 + 1) [(4, .int (x4_5 + 1)), (3, .int (((6 : Int32) * x3_5) + ((zu a19.2 172 (Int32.toNatClampNeg x4_5) (a19.2 172 (Int32.toNatClampNeg x4_5))) 171 (Int32.toNatClampNeg x4_5)))), (0, .ref (za B 147)), (1, .int v1), (2, .int v2), (5, .int q5.1), (6, .int (-9)), (7, .int a19.1)] dX12_go_187 rfl rfl (by decide) rfl (rfl : 187 + 3 = 190) ?_
            refine z_goto (pc' := 5) h dX12_go_190 (by decide) ?_
            refine z_sub (L' := [(0, .ref (za B 147)), (1, .int v1), (2, .int v2), (3, .int (((6 : Int32) * x3_5) + ((zu a19.2 172 (Int32.toNatClampNeg x4_5) (a19.2 172 (Int32.toNatClampNeg x4_5))) 171 (Int32.toNatClampNeg x4_5)))), (4, .int (x4_5 + 1))]) [2, 3, 4, 1, 0] rfl ?_
            exact ih (((6 : Int32) * x3_5) + ((zu a19.2 172 (Int32.toNatClampNeg x4_5) (a19.2 172 (Int32.toNatClampNeg x4_5))) 171 (Int32.toNatClampNeg x4_5))) (x4_5 + 1) (zu a19.2 172 (Int32.toNatClampNeg x4_5) (a19.2 172 (Int32.toNatClampNeg x4_5))) _ hf hP hE
          · have hf := zitt c21 hf
            refine z_iconst h 0 dX12_go_162 (by decide) (rfl : 162 + 1 = 163) ?_
            refine z_goto (pc' := 173) h dX12_go_163 (by decide) ?_
            obtain ⟨b25, hf⟩ := zchk hf
            refine z_iast h b25 rfl dX12_go_173 (rfl : 173 + 1 = 174) ?_
            refine z_bipush h 6 dX12_go_174 (by decide) (rfl : 174 + 2 = 176) ?_
            refine z_iload_n h 3 dX12_go_176 rfl (rfl : 176 + 1 = 177) ?_
            refine z_imul h dX12_go_177 (rfl : 177 + 1 = 178) ?_
            refine z_aload_n h 0 dX12_go_178 rfl (rfl : 178 + 1 = 179) ?_
            refine z_getr (ci := 11) (C := RX12) (T := TX12) (N := 46) h 35 171 ((hJ.1 147 35 (by decide)).trans rfl) rfl rfl (fun _ hq => List.mem_cons_of_mem _ (List.mem_append_right _ hq)) (by decide) (List.mem_of_getElem? (i := 1) rfl) rfl dX12_go_179 (rfl : 179 + 3 = 182) ?_
            refine z_iload h 4 dX12_go_182 rfl (rfl : 182 + 2 = 184) ?_
            obtain ⟨b26, hf⟩ := zchk hf
            refine z_iald h rfl b26 dX12_go_184 (rfl : 184 + 1 = 185) ?_
            refine z_iadd h dX12_go_185 (rfl : 185 + 1 = 186) ?_
            refine z_istore_n h [(3, .int (((6 : Int32) * x3_5) + ((zu a19.2 172 (Int32.toNatClampNeg x4_5) 0) 171 (Int32.toNatClampNeg x4_5)))), (0, .ref (za B 147)), (1, .int v1), (2, .int v2), (4, .int x4_5), (5, .int q5.1), (6, .int (-9)), (7, .int a19.1)] dX12_go_186 (by decide) rfl (rfl : 186 + 1 = 187) ?_
            refine z_iinc h 4 (x4_5 + 1) [(4, .int (x4_5 + 1)), (3, .int (((6 : Int32) * x3_5) + ((zu a19.2 172 (Int32.toNatClampNeg x4_5) 0) 171 (Int32.toNatClampNeg x4_5)))), (0, .ref (za B 147)), (1, .int v1), (2, .int v2), (5, .int q5.1), (6, .int (-9)), (7, .int a19.1)] dX12_go_187 rfl rfl (by decide) rfl (rfl : 187 + 3 = 190) ?_
            refine z_goto (pc' := 5) h dX12_go_190 (by decide) ?_
            refine z_sub (L' := [(0, .ref (za B 147)), (1, .int v1), (2, .int v2), (3, .int (((6 : Int32) * x3_5) + ((zu a19.2 172 (Int32.toNatClampNeg x4_5) 0) 171 (Int32.toNatClampNeg x4_5)))), (4, .int (x4_5 + 1))]) [2, 3, 4, 1, 0] rfl ?_
            exact ih (((6 : Int32) * x3_5) + ((zu a19.2 172 (Int32.toNatClampNeg x4_5) 0) 171 (Int32.toNatClampNeg x4_5))) (x4_5 + 1) (zu a19.2 172 (Int32.toNatClampNeg x4_5) 0) _ hf hP hE
        · have hf := zitf c7 hf
          refine z_aload_n h 1 dX12_go_33 rfl (rfl : 33 + 1 = 34) ?_
          refine z_iconst h 1 dX12_go_34 (by decide) (rfl : 34 + 1 = 35) ?_
          refine z_iload_n h 2 dX12_go_35 rfl (rfl : 35 + 1 = 36) ?_
          refine z_iload h 5 dX12_go_36 rfl (rfl : 36 + 2 = 38) ?_
          obtain ⟨q27, e28, hf⟩ := zbind hf
          refine z_goF (z_runV (C := RX12) (T := TX12) (N := 46) (ci := 11) h [.int 1, .int v1, .int x4_5] [] zyX12_ruleFor (c_X12_ruleFor B q5.2 J hJ 1 v1 x4_5 _ _ e28) gX12_go_X12_ruleFor rfl rfl rfl zrX12_go_X12_ruleFor rfl (Nat.le_of_ble_eq_true rfl) ⟨Nat.zero_le _, Nat.zero_le _⟩ rfl dX12_go_38) rfl ?_
          refine z_goto (pc' := 46) h dX12_go_41 (by decide) ?_
          refine z_istore h [(6, .int q27.1), (5, .int q5.1), (0, .ref (za B 147)), (1, .int v1), (2, .int v2), (3, .int x3_5), (4, .int x4_5)] dX12_go_46 (by decide) rfl (rfl : 46 + 2 = 48) ?_
          refine z_iload h 0 dX12_go_48 rfl (rfl : 48 + 2 = 50) ?_
          refine z_bipush h (-9) dX12_go_50 (by decide) (rfl : 50 + 2 = 52) ?_
          refine z_icmp_eq (pc' := 55) h 86 dX12_go_52 (by decide) rfl (fun c29 => ?_) (fun c29 => ?_)
          · have hf := zitt c29 hf
            refine z_iconst h 0 dX12_go_86 (by decide) (rfl : 86 + 1 = 87) ?_
            refine z_istore h [(7, .int 0), (6, .int q27.1), (5, .int q5.1), (0, .ref (za B 147)), (1, .int v1), (2, .int v2), (3, .int x3_5), (4, .int x4_5)] dX12_go_87 (by decide) rfl (rfl : 87 + 2 = 89) ?_
            have loop_89_31 : ∀ (n : Nat) (x7_89 : Int32) (I89 : zM) (q : (Int32 × zM) ⊕ (Int32 × zM)), f_X12_go_89 J v1 v2 x3_5 x4_5 q5.1 q27.1 n x7_89 I89 = some q → (∀ a, q = .inl a → a = (r, I')) → (∀ a : Int32 × zM, q = .inr a → Z B G zKW (a.2) (J) (0, 0) 146 [(0, .ref (za B 147)), (1, .int v1), (2, .int v2), (3, .int x3_5), (4, .int x4_5), (5, .int q5.1), (6, .int q27.1), (7, .int a.1)] []) → Z B G zKW I89 J (0, 0) 89 [(0, .ref (za B 147)), (1, .int v1), (2, .int v2), (3, .int x3_5), (4, .int x4_5), (5, .int q5.1), (6, .int q27.1), (7, .int x7_89)] [] := by
              intro n; induction n with
              | zero => intro x7_89 I89 q hf; exact absurd hf (by rw [f_X12_go_89]; exact fun z => by cases z)
              | succ n ih =>
                intro x7_89 I89 q hf hP hE; rw [f_X12_go_89] at hf
                refine z_iload h 7 dX12_go_89 rfl (rfl : 89 + 2 = 91) ?_
                refine z_aload_n h 0 dX12_go_91 rfl (rfl : 91 + 1 = 92) ?_
                refine z_getr (ci := 11) (C := RX12) (T := TX12) (N := 46) h 18 158 ((hJ.1 147 18 (by decide)).trans rfl) rfl rfl (fun _ hq => List.mem_cons_of_mem _ (List.mem_append_right _ hq)) (by decide) (List.mem_of_getElem? (i := 4) rfl) rfl dX12_go_92 (rfl : 92 + 3 = 95) ?_
                refine z_iload_n h 2 dX12_go_95 rfl (rfl : 95 + 1 = 96) ?_
                obtain ⟨b32, hf⟩ := zchk hf
                refine z_iald h rfl b32 dX12_go_96 (rfl : 96 + 1 = 97) ?_
                refine z_icmp_ge (pc' := 100) h 146 dX12_go_97 (by decide) rfl (fun c33 => ?_) (fun c33 => ?_)
                · have hf := zitt c33 hf
                  exact hE (x7_89, I89) (zsome hf).symm
                · have hf := zitf c33 hf
                  refine z_iload h 5 dX12_go_100 rfl (rfl : 100 + 2 = 102) ?_
                  refine z_if_eq (pc' := 105) h 146 dX12_go_102 (by decide) rfl (fun c34 => ?_) (fun c34 => ?_)
                  · have hf := zitt c34 hf
                    exact hE (x7_89, I89) (zsome hf).symm
                  · have hf := zitf c34 hf
                    refine z_aload_n h 0 dX12_go_105 rfl (rfl : 105 + 1 = 106) ?_
                    refine z_getr (ci := 11) (C := RX12) (T := TX12) (N := 46) h 35 171 ((hJ.1 147 35 (by decide)).trans rfl) rfl rfl (fun _ hq => List.mem_cons_of_mem _ (List.mem_append_right _ hq)) (by decide) (List.mem_of_getElem? (i := 1) rfl) rfl dX12_go_106 (rfl : 106 + 3 = 109) ?_
                    refine z_iload h 4 dX12_go_109 rfl (rfl : 109 + 2 = 111) ?_
                    obtain ⟨b35, hf⟩ := zchk hf
                    refine z_iald h rfl b35 dX12_go_111 (rfl : 111 + 1 = 112) ?_
                    refine z_if_ne (pc' := 115) h 146 dX12_go_112 (by decide) rfl (fun c36 => ?_) (fun c36 => ?_)
                    · have hf := zitf c36 hf
                      exact hE (x7_89, I89) (zsome hf).symm
                    · have hf := zitt c36 hf
                      refine z_aload_n h 0 dX12_go_115 rfl (rfl : 115 + 1 = 116) ?_
                      refine z_getr (ci := 11) (C := RX12) (T := TX12) (N := 46) h 35 171 ((hJ.1 147 35 (by decide)).trans rfl) rfl rfl (fun _ hq => List.mem_cons_of_mem _ (List.mem_append_right _ hq)) (by decide) (List.mem_of_getElem? (i := 1) rfl) rfl dX12_go_116 (rfl : 116 + 3 = 119) ?_
                      refine z_iload h 4 dX12_go_119 rfl (rfl : 119 + 2 = 121) ?_
                      refine z_aload_n h 0 dX12_go_121 rfl (rfl : 121 + 1 = 122) ?_
                      refine z_aload_n h 0 dX12_go_122 rfl (rfl : 122 + 1 = 123) ?_
                      refine z_getr (ci := 11) (C := RX12) (T := TX12) (N := 46) h 17 157 ((hJ.1 147 17 (by decide)).trans rfl) rfl rfl (fun _ hq => List.mem_cons_of_mem _ (List.mem_append_right _ hq)) (by decide) (List.mem_of_getElem? (i := 5) rfl) rfl dX12_go_123 (rfl : 123 + 3 = 126) ?_
                      refine z_iconst h 5 dX12_go_126 (by decide) (rfl : 126 + 1 = 127) ?_
                      refine z_iload_n h 2 dX12_go_127 rfl (rfl : 127 + 1 = 128) ?_
                      refine z_imul h dX12_go_128 (rfl : 128 + 1 = 129) ?_
                      refine z_iload h 7 dX12_go_129 rfl (rfl : 129 + 2 = 131) ?_
                      refine z_iadd h dX12_go_131 (rfl : 131 + 1 = 132) ?_
                      obtain ⟨b37, hf⟩ := zchk hf
                      refine z_iald h rfl b37 dX12_go_132 (rfl : 132 + 1 = 133) ?_
                      refine z_iload_n h 1 dX12_go_133 rfl (rfl : 133 + 1 = 134) ?_
                      refine z_iload h 4 dX12_go_134 rfl (rfl : 134 + 2 = 136) ?_
                      obtain ⟨q38, e39, hf⟩ := zbind hf
                      refine z_goF (z_runV (C := RX12) (T := TX12) (N := 46) (ci := 11) h [.int (I89 157 (Int32.toNatClampNeg (((5 : Int32) * v2) + x7_89))), .int v1, .int x4_5] [.int x4_5, .ref (za B 171)] zyX12_filledBy (c_X12_filledBy B I89 J hJ (I89 157 (Int32.toNatClampNeg (((5 : Int32) * v2) + x7_89))) v1 x4_5 _ _ e39) gX12_go_X12_filledBy rfl rfl rfl zrX12_go_X12_filledBy rfl (Nat.le_of_ble_eq_true rfl) ⟨Nat.zero_le _, Nat.zero_le _⟩ rfl dX12_go_136) rfl ?_
                      obtain ⟨b40, hf⟩ := zchk hf
                      refine z_iast h b40 rfl dX12_go_139 (rfl : 139 + 1 = 140) ?_
                      refine z_iinc h 7 (x7_89 + 1) [(7, .int (x7_89 + 1)), (0, .ref (za B 147)), (1, .int v1), (2, .int v2), (3, .int x3_5), (4, .int x4_5), (5, .int q5.1), (6, .int q27.1)] dX12_go_140 rfl rfl (by decide) rfl (rfl : 140 + 3 = 143) ?_
                      refine z_goto (pc' := 89) h dX12_go_143 (by decide) ?_
                      refine z_sub (L' := [(0, .ref (za B 147)), (1, .int v1), (2, .int v2), (3, .int x3_5), (4, .int x4_5), (5, .int q5.1), (6, .int q27.1), (7, .int (x7_89 + 1))]) [1, 2, 3, 4, 5, 6, 7, 0] rfl ?_
                      exact ih (x7_89 + 1) (zu q38.2 171 (Int32.toNatClampNeg x4_5) q38.1) _ hf hP hE
            refine z_sub (L' := [(0, .ref (za B 147)), (1, .int v1), (2, .int v2), (3, .int x3_5), (4, .int x4_5), (5, .int q5.1), (6, .int q27.1), (7, .int 0)]) [3, 4, 5, 6, 7, 2, 1, 0] rfl ?_
            obtain ⟨q30, e31, hf⟩ := zbind hf
            refine loop_89_31 _ 0 q27.2 q30 e31 (fun a ha => ?_) (fun a41 ha  => ?_)
            · have hf := zell ha hf
              exact hP _ (zsome hf).symm
            have hf := zelr ha hf
            clear ha loop_89_31
            refine z_aload_n h 0 dX12_go_146 rfl (rfl : 146 + 1 = 147) ?_
            refine z_getr (ci := 11) (C := RX12) (T := TX12) (N := 46) h 36 172 ((hJ.1 147 36 (by decide)).trans rfl) rfl rfl (fun _ hq => List.mem_cons_of_mem _ (List.mem_append_right _ hq)) (by decide) (List.mem_of_getElem? (i := 3) rfl) rfl dX12_go_147 (rfl : 147 + 3 = 150) ?_
            refine z_iload h 4 dX12_go_150 rfl (rfl : 150 + 2 = 152) ?_
            refine z_aload_n h 0 dX12_go_152 rfl (rfl : 152 + 1 = 153) ?_
            refine z_getr (ci := 11) (C := RX12) (T := TX12) (N := 46) h 35 171 ((hJ.1 147 35 (by decide)).trans rfl) rfl rfl (fun _ hq => List.mem_cons_of_mem _ (List.mem_append_right _ hq)) (by decide) (List.mem_of_getElem? (i := 1) rfl) rfl dX12_go_153 (rfl : 153 + 3 = 156) ?_
            refine z_iload h 4 dX12_go_156 rfl (rfl : 156 + 2 = 158) ?_
            obtain ⟨b42, hf⟩ := zchk hf
            refine z_iald h rfl b42 dX12_go_158 (rfl : 158 + 1 = 159) ?_
            refine z_if_ne (pc' := 162) h 166 dX12_go_159 (by decide) rfl (fun c43 => ?_) (fun c43 => ?_)
            · have hf := zitf c43 hf
              refine z_aload_n h 0 dX12_go_166 rfl (rfl : 166 + 1 = 167) ?_
              refine z_getr (ci := 11) (C := RX12) (T := TX12) (N := 46) h 36 172 ((hJ.1 147 36 (by decide)).trans rfl) rfl rfl (fun _ hq => List.mem_cons_of_mem _ (List.mem_append_right _ hq)) (by decide) (List.mem_of_getElem? (i := 3) rfl) rfl dX12_go_167 (rfl : 167 + 3 = 170) ?_
              refine z_iload h 4 dX12_go_170 rfl (rfl : 170 + 2 = 172) ?_
              obtain ⟨b44, hf⟩ := zchk hf
              refine z_iald h rfl b44 dX12_go_172 (rfl : 172 + 1 = 173) ?_
              obtain ⟨b45, hf⟩ := zchk hf
              refine z_iast h b45 rfl dX12_go_173 (rfl : 173 + 1 = 174) ?_
              refine z_bipush h 6 dX12_go_174 (by decide) (rfl : 174 + 2 = 176) ?_
              refine z_iload_n h 3 dX12_go_176 rfl (rfl : 176 + 1 = 177) ?_
              refine z_imul h dX12_go_177 (rfl : 177 + 1 = 178) ?_
              refine z_aload_n h 0 dX12_go_178 rfl (rfl : 178 + 1 = 179) ?_
              refine z_getr (ci := 11) (C := RX12) (T := TX12) (N := 46) h 35 171 ((hJ.1 147 35 (by decide)).trans rfl) rfl rfl (fun _ hq => List.mem_cons_of_mem _ (List.mem_append_right _ hq)) (by decide) (List.mem_of_getElem? (i := 1) rfl) rfl dX12_go_179 (rfl : 179 + 3 = 182) ?_
              refine z_iload h 4 dX12_go_182 rfl (rfl : 182 + 2 = 184) ?_
              obtain ⟨b46, hf⟩ := zchk hf
              refine z_iald h rfl b46 dX12_go_184 (rfl : 184 + 1 = 185) ?_
              refine z_iadd h dX12_go_185 (rfl : 185 + 1 = 186) ?_
              refine z_istore_n h [(3, .int (((6 : Int32) * x3_5) + ((zu a41.2 172 (Int32.toNatClampNeg x4_5) (a41.2 172 (Int32.toNatClampNeg x4_5))) 171 (Int32.toNatClampNeg x4_5)))), (0, .ref (za B 147)), (1, .int v1), (2, .int v2), (4, .int x4_5), (5, .int q5.1), (6, .int q27.1), (7, .int a41.1)] dX12_go_186 (by decide) rfl (rfl : 186 + 1 = 187) ?_
              refine z_iinc h 4 (x4_5 + 1) [(4, .int (x4_5 + 1)), (3, .int (((6 : Int32) * x3_5) + ((zu a41.2 172 (Int32.toNatClampNeg x4_5) (a41.2 172 (Int32.toNatClampNeg x4_5))) 171 (Int32.toNatClampNeg x4_5)))), (0, .ref (za B 147)), (1, .int v1), (2, .int v2), (5, .int q5.1), (6, .int q27.1), (7, .int a41.1)] dX12_go_187 rfl rfl (by decide) rfl (rfl : 187 + 3 = 190) ?_
              refine z_goto (pc' := 5) h dX12_go_190 (by decide) ?_
              refine z_sub (L' := [(0, .ref (za B 147)), (1, .int v1), (2, .int v2), (3, .int (((6 : Int32) * x3_5) + ((zu a41.2 172 (Int32.toNatClampNeg x4_5) (a41.2 172 (Int32.toNatClampNeg x4_5))) 171 (Int32.toNatClampNeg x4_5)))), (4, .int (x4_5 + 1))]) [2, 3, 4, 1, 0] rfl ?_
              exact ih (((6 : Int32) * x3_5) + ((zu a41.2 172 (Int32.toNatClampNeg x4_5) (a41.2 172 (Int32.toNatClampNeg x4_5))) 171 (Int32.toNatClampNeg x4_5))) (x4_5 + 1) (zu a41.2 172 (Int32.toNatClampNeg x4_5) (a41.2 172 (Int32.toNatClampNeg x4_5))) _ hf hP hE
            · have hf := zitt c43 hf
              refine z_iconst h 0 dX12_go_162 (by decide) (rfl : 162 + 1 = 163) ?_
              refine z_goto (pc' := 173) h dX12_go_163 (by decide) ?_
              obtain ⟨b47, hf⟩ := zchk hf
              refine z_iast h b47 rfl dX12_go_173 (rfl : 173 + 1 = 174) ?_
              refine z_bipush h 6 dX12_go_174 (by decide) (rfl : 174 + 2 = 176) ?_
              refine z_iload_n h 3 dX12_go_176 rfl (rfl : 176 + 1 = 177) ?_
              refine z_imul h dX12_go_177 (rfl : 177 + 1 = 178) ?_
              refine z_aload_n h 0 dX12_go_178 rfl (rfl : 178 + 1 = 179) ?_
              refine z_getr (ci := 11) (C := RX12) (T := TX12) (N := 46) h 35 171 ((hJ.1 147 35 (by decide)).trans rfl) rfl rfl (fun _ hq => List.mem_cons_of_mem _ (List.mem_append_right _ hq)) (by decide) (List.mem_of_getElem? (i := 1) rfl) rfl dX12_go_179 (rfl : 179 + 3 = 182) ?_
              refine z_iload h 4 dX12_go_182 rfl (rfl : 182 + 2 = 184) ?_
              obtain ⟨b48, hf⟩ := zchk hf
              refine z_iald h rfl b48 dX12_go_184 (rfl : 184 + 1 = 185) ?_
              refine z_iadd h dX12_go_185 (rfl : 185 + 1 = 186) ?_
              refine z_istore_n h [(3, .int (((6 : Int32) * x3_5) + ((zu a41.2 172 (Int32.toNatClampNeg x4_5) 0) 171 (Int32.toNatClampNeg x4_5)))), (0, .ref (za B 147)), (1, .int v1), (2, .int v2), (4, .int x4_5), (5, .int q5.1), (6, .int q27.1), (7, .int a41.1)] dX12_go_186 (by decide) rfl (rfl : 186 + 1 = 187) ?_
              refine z_iinc h 4 (x4_5 + 1) [(4, .int (x4_5 + 1)), (3, .int (((6 : Int32) * x3_5) + ((zu a41.2 172 (Int32.toNatClampNeg x4_5) 0) 171 (Int32.toNatClampNeg x4_5)))), (0, .ref (za B 147)), (1, .int v1), (2, .int v2), (5, .int q5.1), (6, .int q27.1), (7, .int a41.1)] dX12_go_187 rfl rfl (by decide) rfl (rfl : 187 + 3 = 190) ?_
              refine z_goto (pc' := 5) h dX12_go_190 (by decide) ?_
              refine z_sub (L' := [(0, .ref (za B 147)), (1, .int v1), (2, .int v2), (3, .int (((6 : Int32) * x3_5) + ((zu a41.2 172 (Int32.toNatClampNeg x4_5) 0) 171 (Int32.toNatClampNeg x4_5)))), (4, .int (x4_5 + 1))]) [2, 3, 4, 1, 0] rfl ?_
              exact ih (((6 : Int32) * x3_5) + ((zu a41.2 172 (Int32.toNatClampNeg x4_5) 0) 171 (Int32.toNatClampNeg x4_5))) (x4_5 + 1) (zu a41.2 172 (Int32.toNatClampNeg x4_5) 0) _ hf hP hE
          · have hf := zitf c29 hf
            refine z_aload_n h 2 dX12_go_55 rfl (rfl : 55 + 1 = 56) ?_
            refine z_getr (ci := 11) (C := RX12) (T := TX12) (N := 46) h 35 171 ((hJ.1 147 35 (by decide)).trans rfl) rfl rfl (fun _ hq => List.mem_cons_of_mem _ (List.mem_append_right _ hq)) (by decide) (List.mem_of_getElem? (i := 1) rfl) rfl dX12_go_56 (rfl : 56 + 3 = 59) ?_
            refine z_iload h 6 dX12_go_59 rfl (rfl : 59 + 2 = 61) ?_
            refine z_aload_n h 2 dX12_go_61 rfl (rfl : 61 + 1 = 62) ?_
            refine z_getr (ci := 11) (C := RX12) (T := TX12) (N := 46) h 14 155 ((hJ.1 147 14 (by decide)).trans rfl) rfl rfl (fun _ hq => List.mem_cons_of_mem _ (List.mem_append_right _ hq)) (by decide) (List.mem_of_getElem? (i := 2) rfl) rfl dX12_go_62 (rfl : 62 + 3 = 65) ?_
            refine z_bipush h 6 dX12_go_65 (by decide) (rfl : 65 + 2 = 67) ?_
            refine z_iload h 0 dX12_go_67 rfl (rfl : 67 + 2 = 69) ?_
            refine z_imul h dX12_go_69 (rfl : 69 + 1 = 70) ?_
            refine z_iconst h 2 dX12_go_70 (by decide) (rfl : 70 + 1 = 71) ?_
            refine z_iadd h dX12_go_71 (rfl : 71 + 1 = 72) ?_
            obtain ⟨b49, hf⟩ := zchk hf
            refine z_iald h rfl b49 dX12_go_72 (rfl : 72 + 1 = 73) ?_
            obtain ⟨b50, hf⟩ := zchk hf
            refine z_iast h b50 rfl dX12_go_73 (rfl : 73 + 1 = 74) ?_
            refine z_aload_n h 2 dX12_go_74 rfl (rfl : 74 + 1 = 75) ?_
            refine z_getr (ci := 11) (C := RX12) (T := TX12) (N := 46) h 36 172 ((hJ.1 147 36 (by decide)).trans rfl) rfl rfl (fun _ hq => List.mem_cons_of_mem _ (List.mem_append_right _ hq)) (by decide) (List.mem_of_getElem? (i := 3) rfl) rfl dX12_go_75 (rfl : 75 + 3 = 78) ?_
            refine z_iload h 6 dX12_go_78 rfl (rfl : 78 + 2 = 80) ?_
            refine z_bipush h 10 dX12_go_80 (by decide) (rfl : 80 + 2 = 82) ?_
            refine z_iload h 0 dX12_go_82 rfl (rfl : 82 + 2 = 84) ?_
            refine z_iadd h dX12_go_84 (rfl : 84 + 1 = 85) ?_
            obtain ⟨b51, hf⟩ := zchk hf
            refine z_iast h b51 rfl dX12_go_85 (rfl : 85 + 1 = 86) ?_
            refine z_iconst h 0 dX12_go_86 (by decide) (rfl : 86 + 1 = 87) ?_
            refine z_istore h [(7, .int 0), (6, .int q27.1), (5, .int q5.1), (0, .ref (za B 147)), (1, .int v1), (2, .int v2), (3, .int x3_5), (4, .int x4_5)] dX12_go_87 (by decide) rfl (rfl : 87 + 2 = 89) ?_
            have loop_89_53 : ∀ (n : Nat) (x7_89 : Int32) (I89 : zM) (q : (Int32 × zM) ⊕ (Int32 × zM)), f_X12_go_89 J v1 v2 x3_5 x4_5 q5.1 q27.1 n x7_89 I89 = some q → (∀ a, q = .inl a → a = (r, I')) → (∀ a : Int32 × zM, q = .inr a → Z B G zKW (a.2) (J) (0, 0) 146 [(0, .ref (za B 147)), (1, .int v1), (2, .int v2), (3, .int x3_5), (4, .int x4_5), (5, .int q5.1), (6, .int q27.1), (7, .int a.1)] []) → Z B G zKW I89 J (0, 0) 89 [(0, .ref (za B 147)), (1, .int v1), (2, .int v2), (3, .int x3_5), (4, .int x4_5), (5, .int q5.1), (6, .int q27.1), (7, .int x7_89)] [] := by
              intro n; induction n with
              | zero => intro x7_89 I89 q hf; exact absurd hf (by rw [f_X12_go_89]; exact fun z => by cases z)
              | succ n ih =>
                intro x7_89 I89 q hf hP hE; rw [f_X12_go_89] at hf
                refine z_iload h 7 dX12_go_89 rfl (rfl : 89 + 2 = 91) ?_
                refine z_aload_n h 0 dX12_go_91 rfl (rfl : 91 + 1 = 92) ?_
                refine z_getr (ci := 11) (C := RX12) (T := TX12) (N := 46) h 18 158 ((hJ.1 147 18 (by decide)).trans rfl) rfl rfl (fun _ hq => List.mem_cons_of_mem _ (List.mem_append_right _ hq)) (by decide) (List.mem_of_getElem? (i := 4) rfl) rfl dX12_go_92 (rfl : 92 + 3 = 95) ?_
                refine z_iload_n h 2 dX12_go_95 rfl (rfl : 95 + 1 = 96) ?_
                obtain ⟨b54, hf⟩ := zchk hf
                refine z_iald h rfl b54 dX12_go_96 (rfl : 96 + 1 = 97) ?_
                refine z_icmp_ge (pc' := 100) h 146 dX12_go_97 (by decide) rfl (fun c55 => ?_) (fun c55 => ?_)
                · have hf := zitt c55 hf
                  exact hE (x7_89, I89) (zsome hf).symm
                · have hf := zitf c55 hf
                  refine z_iload h 5 dX12_go_100 rfl (rfl : 100 + 2 = 102) ?_
                  refine z_if_eq (pc' := 105) h 146 dX12_go_102 (by decide) rfl (fun c56 => ?_) (fun c56 => ?_)
                  · have hf := zitt c56 hf
                    exact hE (x7_89, I89) (zsome hf).symm
                  · have hf := zitf c56 hf
                    refine z_aload_n h 0 dX12_go_105 rfl (rfl : 105 + 1 = 106) ?_
                    refine z_getr (ci := 11) (C := RX12) (T := TX12) (N := 46) h 35 171 ((hJ.1 147 35 (by decide)).trans rfl) rfl rfl (fun _ hq => List.mem_cons_of_mem _ (List.mem_append_right _ hq)) (by decide) (List.mem_of_getElem? (i := 1) rfl) rfl dX12_go_106 (rfl : 106 + 3 = 109) ?_
                    refine z_iload h 4 dX12_go_109 rfl (rfl : 109 + 2 = 111) ?_
                    obtain ⟨b57, hf⟩ := zchk hf
                    refine z_iald h rfl b57 dX12_go_111 (rfl : 111 + 1 = 112) ?_
                    refine z_if_ne (pc' := 115) h 146 dX12_go_112 (by decide) rfl (fun c58 => ?_) (fun c58 => ?_)
                    · have hf := zitf c58 hf
                      exact hE (x7_89, I89) (zsome hf).symm
                    · have hf := zitt c58 hf
                      refine z_aload_n h 0 dX12_go_115 rfl (rfl : 115 + 1 = 116) ?_
                      refine z_getr (ci := 11) (C := RX12) (T := TX12) (N := 46) h 35 171 ((hJ.1 147 35 (by decide)).trans rfl) rfl rfl (fun _ hq => List.mem_cons_of_mem _ (List.mem_append_right _ hq)) (by decide) (List.mem_of_getElem? (i := 1) rfl) rfl dX12_go_116 (rfl : 116 + 3 = 119) ?_
                      refine z_iload h 4 dX12_go_119 rfl (rfl : 119 + 2 = 121) ?_
                      refine z_aload_n h 0 dX12_go_121 rfl (rfl : 121 + 1 = 122) ?_
                      refine z_aload_n h 0 dX12_go_122 rfl (rfl : 122 + 1 = 123) ?_
                      refine z_getr (ci := 11) (C := RX12) (T := TX12) (N := 46) h 17 157 ((hJ.1 147 17 (by decide)).trans rfl) rfl rfl (fun _ hq => List.mem_cons_of_mem _ (List.mem_append_right _ hq)) (by decide) (List.mem_of_getElem? (i := 5) rfl) rfl dX12_go_123 (rfl : 123 + 3 = 126) ?_
                      refine z_iconst h 5 dX12_go_126 (by decide) (rfl : 126 + 1 = 127) ?_
                      refine z_iload_n h 2 dX12_go_127 rfl (rfl : 127 + 1 = 128) ?_
                      refine z_imul h dX12_go_128 (rfl : 128 + 1 = 129) ?_
                      refine z_iload h 7 dX12_go_129 rfl (rfl : 129 + 2 = 131) ?_
                      refine z_iadd h dX12_go_131 (rfl : 131 + 1 = 132) ?_
                      obtain ⟨b59, hf⟩ := zchk hf
                      refine z_iald h rfl b59 dX12_go_132 (rfl : 132 + 1 = 133) ?_
                      refine z_iload_n h 1 dX12_go_133 rfl (rfl : 133 + 1 = 134) ?_
                      refine z_iload h 4 dX12_go_134 rfl (rfl : 134 + 2 = 136) ?_
                      obtain ⟨q60, e61, hf⟩ := zbind hf
                      refine z_goF (z_runV (C := RX12) (T := TX12) (N := 46) (ci := 11) h [.int (I89 157 (Int32.toNatClampNeg (((5 : Int32) * v2) + x7_89))), .int v1, .int x4_5] [.int x4_5, .ref (za B 171)] zyX12_filledBy (c_X12_filledBy B I89 J hJ (I89 157 (Int32.toNatClampNeg (((5 : Int32) * v2) + x7_89))) v1 x4_5 _ _ e61) gX12_go_X12_filledBy rfl rfl rfl zrX12_go_X12_filledBy rfl (Nat.le_of_ble_eq_true rfl) ⟨Nat.zero_le _, Nat.zero_le _⟩ rfl dX12_go_136) rfl ?_
                      obtain ⟨b62, hf⟩ := zchk hf
                      refine z_iast h b62 rfl dX12_go_139 (rfl : 139 + 1 = 140) ?_
                      refine z_iinc h 7 (x7_89 + 1) [(7, .int (x7_89 + 1)), (0, .ref (za B 147)), (1, .int v1), (2, .int v2), (3, .int x3_5), (4, .int x4_5), (5, .int q5.1), (6, .int q27.1)] dX12_go_140 rfl rfl (by decide) rfl (rfl : 140 + 3 = 143) ?_
                      refine z_goto (pc' := 89) h dX12_go_143 (by decide) ?_
                      refine z_sub (L' := [(0, .ref (za B 147)), (1, .int v1), (2, .int v2), (3, .int x3_5), (4, .int x4_5), (5, .int q5.1), (6, .int q27.1), (7, .int (x7_89 + 1))]) [1, 2, 3, 4, 5, 6, 7, 0] rfl ?_
                      exact ih (x7_89 + 1) (zu q60.2 171 (Int32.toNatClampNeg x4_5) q60.1) _ hf hP hE
            refine z_sub (L' := [(0, .ref (za B 147)), (1, .int v1), (2, .int v2), (3, .int x3_5), (4, .int x4_5), (5, .int q5.1), (6, .int q27.1), (7, .int 0)]) [3, 4, 5, 6, 7, 2, 1, 0] rfl ?_
            obtain ⟨q52, e53, hf⟩ := zbind hf
            refine loop_89_53 _ 0 (zu (zu q27.2 171 (Int32.toNatClampNeg x4_5) (q27.2 155 (Int32.toNatClampNeg (((6 : Int32) * q27.1) + (2 : Int32))))) 172 (Int32.toNatClampNeg x4_5) ((10 : Int32) + q27.1)) q52 e53 (fun a ha => ?_) (fun a63 ha  => ?_)
            · have hf := zell ha hf
              exact hP _ (zsome hf).symm
            have hf := zelr ha hf
            clear ha loop_89_53
            refine z_aload_n h 0 dX12_go_146 rfl (rfl : 146 + 1 = 147) ?_
            refine z_getr (ci := 11) (C := RX12) (T := TX12) (N := 46) h 36 172 ((hJ.1 147 36 (by decide)).trans rfl) rfl rfl (fun _ hq => List.mem_cons_of_mem _ (List.mem_append_right _ hq)) (by decide) (List.mem_of_getElem? (i := 3) rfl) rfl dX12_go_147 (rfl : 147 + 3 = 150) ?_
            refine z_iload h 4 dX12_go_150 rfl (rfl : 150 + 2 = 152) ?_
            refine z_aload_n h 0 dX12_go_152 rfl (rfl : 152 + 1 = 153) ?_
            refine z_getr (ci := 11) (C := RX12) (T := TX12) (N := 46) h 35 171 ((hJ.1 147 35 (by decide)).trans rfl) rfl rfl (fun _ hq => List.mem_cons_of_mem _ (List.mem_append_right _ hq)) (by decide) (List.mem_of_getElem? (i := 1) rfl) rfl dX12_go_153 (rfl : 153 + 3 = 156) ?_
            refine z_iload h 4 dX12_go_156 rfl (rfl : 156 + 2 = 158) ?_
            obtain ⟨b64, hf⟩ := zchk hf
            refine z_iald h rfl b64 dX12_go_158 (rfl : 158 + 1 = 159) ?_
            refine z_if_ne (pc' := 162) h 166 dX12_go_159 (by decide) rfl (fun c65 => ?_) (fun c65 => ?_)
            · have hf := zitf c65 hf
              refine z_aload_n h 0 dX12_go_166 rfl (rfl : 166 + 1 = 167) ?_
              refine z_getr (ci := 11) (C := RX12) (T := TX12) (N := 46) h 36 172 ((hJ.1 147 36 (by decide)).trans rfl) rfl rfl (fun _ hq => List.mem_cons_of_mem _ (List.mem_append_right _ hq)) (by decide) (List.mem_of_getElem? (i := 3) rfl) rfl dX12_go_167 (rfl : 167 + 3 = 170) ?_
              refine z_iload h 4 dX12_go_170 rfl (rfl : 170 + 2 = 172) ?_
              obtain ⟨b66, hf⟩ := zchk hf
              refine z_iald h rfl b66 dX12_go_172 (rfl : 172 + 1 = 173) ?_
              obtain ⟨b67, hf⟩ := zchk hf
              refine z_iast h b67 rfl dX12_go_173 (rfl : 173 + 1 = 174) ?_
              refine z_bipush h 6 dX12_go_174 (by decide) (rfl : 174 + 2 = 176) ?_
              refine z_iload_n h 3 dX12_go_176 rfl (rfl : 176 + 1 = 177) ?_
              refine z_imul h dX12_go_177 (rfl : 177 + 1 = 178) ?_
              refine z_aload_n h 0 dX12_go_178 rfl (rfl : 178 + 1 = 179) ?_
              refine z_getr (ci := 11) (C := RX12) (T := TX12) (N := 46) h 35 171 ((hJ.1 147 35 (by decide)).trans rfl) rfl rfl (fun _ hq => List.mem_cons_of_mem _ (List.mem_append_right _ hq)) (by decide) (List.mem_of_getElem? (i := 1) rfl) rfl dX12_go_179 (rfl : 179 + 3 = 182) ?_
              refine z_iload h 4 dX12_go_182 rfl (rfl : 182 + 2 = 184) ?_
              obtain ⟨b68, hf⟩ := zchk hf
              refine z_iald h rfl b68 dX12_go_184 (rfl : 184 + 1 = 185) ?_
              refine z_iadd h dX12_go_185 (rfl : 185 + 1 = 186) ?_
              refine z_istore_n h [(3, .int (((6 : Int32) * x3_5) + ((zu a63.2 172 (Int32.toNatClampNeg x4_5) (a63.2 172 (Int32.toNatClampNeg x4_5))) 171 (Int32.toNatClampNeg x4_5)))), (0, .ref (za B 147)), (1, .int v1), (2, .int v2), (4, .int x4_5), (5, .int q5.1), (6, .int q27.1), (7, .int a63.1)] dX12_go_186 (by decide) rfl (rfl : 186 + 1 = 187) ?_
              refine z_iinc h 4 (x4_5 + 1) [(4, .int (x4_5 + 1)), (3, .int (((6 : Int32) * x3_5) + ((zu a63.2 172 (Int32.toNatClampNeg x4_5) (a63.2 172 (Int32.toNatClampNeg x4_5))) 171 (Int32.toNatClampNeg x4_5)))), (0, .ref (za B 147)), (1, .int v1), (2, .int v2), (5, .int q5.1), (6, .int q27.1), (7, .int a63.1)] dX12_go_187 rfl rfl (by decide) rfl (rfl : 187 + 3 = 190) ?_
              refine z_goto (pc' := 5) h dX12_go_190 (by decide) ?_
              refine z_sub (L' := [(0, .ref (za B 147)), (1, .int v1), (2, .int v2), (3, .int (((6 : Int32) * x3_5) + ((zu a63.2 172 (Int32.toNatClampNeg x4_5) (a63.2 172 (Int32.toNatClampNeg x4_5))) 171 (Int32.toNatClampNeg x4_5)))), (4, .int (x4_5 + 1))]) [2, 3, 4, 1, 0] rfl ?_
              exact ih (((6 : Int32) * x3_5) + ((zu a63.2 172 (Int32.toNatClampNeg x4_5) (a63.2 172 (Int32.toNatClampNeg x4_5))) 171 (Int32.toNatClampNeg x4_5))) (x4_5 + 1) (zu a63.2 172 (Int32.toNatClampNeg x4_5) (a63.2 172 (Int32.toNatClampNeg x4_5))) _ hf hP hE
            · have hf := zitt c65 hf
              refine z_iconst h 0 dX12_go_162 (by decide) (rfl : 162 + 1 = 163) ?_
              refine z_goto (pc' := 173) h dX12_go_163 (by decide) ?_
              obtain ⟨b69, hf⟩ := zchk hf
              refine z_iast h b69 rfl dX12_go_173 (rfl : 173 + 1 = 174) ?_
              refine z_bipush h 6 dX12_go_174 (by decide) (rfl : 174 + 2 = 176) ?_
              refine z_iload_n h 3 dX12_go_176 rfl (rfl : 176 + 1 = 177) ?_
              refine z_imul h dX12_go_177 (rfl : 177 + 1 = 178) ?_
              refine z_aload_n h 0 dX12_go_178 rfl (rfl : 178 + 1 = 179) ?_
              refine z_getr (ci := 11) (C := RX12) (T := TX12) (N := 46) h 35 171 ((hJ.1 147 35 (by decide)).trans rfl) rfl rfl (fun _ hq => List.mem_cons_of_mem _ (List.mem_append_right _ hq)) (by decide) (List.mem_of_getElem? (i := 1) rfl) rfl dX12_go_179 (rfl : 179 + 3 = 182) ?_
              refine z_iload h 4 dX12_go_182 rfl (rfl : 182 + 2 = 184) ?_
              obtain ⟨b70, hf⟩ := zchk hf
              refine z_iald h rfl b70 dX12_go_184 (rfl : 184 + 1 = 185) ?_
              refine z_iadd h dX12_go_185 (rfl : 185 + 1 = 186) ?_
              refine z_istore_n h [(3, .int (((6 : Int32) * x3_5) + ((zu a63.2 172 (Int32.toNatClampNeg x4_5) 0) 171 (Int32.toNatClampNeg x4_5)))), (0, .ref (za B 147)), (1, .int v1), (2, .int v2), (4, .int x4_5), (5, .int q5.1), (6, .int q27.1), (7, .int a63.1)] dX12_go_186 (by decide) rfl (rfl : 186 + 1 = 187) ?_
              refine z_iinc h 4 (x4_5 + 1) [(4, .int (x4_5 + 1)), (3, .int (((6 : Int32) * x3_5) + ((zu a63.2 172 (Int32.toNatClampNeg x4_5) 0) 171 (Int32.toNatClampNeg x4_5)))), (0, .ref (za B 147)), (1, .int v1), (2, .int v2), (5, .int q5.1), (6, .int q27.1), (7, .int a63.1)] dX12_go_187 rfl rfl (by decide) rfl (rfl : 187 + 3 = 190) ?_
              refine z_goto (pc' := 5) h dX12_go_190 (by decide) ?_
              refine z_sub (L' := [(0, .ref (za B 147)), (1, .int v1), (2, .int v2), (3, .int (((6 : Int32) * x3_5) + ((zu a63.2 172 (Int32.toNatClampNeg x4_5) 0) 171 (Int32.toNatClampNeg x4_5)))), (4, .int (x4_5 + 1))]) [2, 3, 4, 1, 0] rfl ?_
              exact ih (((6 : Int32) * x3_5) + ((zu a63.2 172 (Int32.toNatClampNeg x4_5) 0) 171 (Int32.toNatClampNeg x4_5))) (x4_5 + 1) (zu a63.2 172 (Int32.toNatClampNeg x4_5) 0) _ hf hP hE
  refine z_sub (L' := [(0, .ref (za B 147)), (1, .int v1), (2, .int v2), (3, .int 0), (4, .int 0)]) [2, 3, 4, 1, 0] rfl ?_
  obtain ⟨q1, e2, hf⟩ := zbind hf
  refine loop_5_2 _ 0 0 I q1 e2 (fun a ha => ?_) (fun a71 ha  => ?_)
  · have hf := zell ha hf
    exact zsome hf
  have hf := zelr ha hf
  clear ha loop_5_2
  refine z_iload_n h 3 dX12_go_193 rfl (rfl : 193 + 1 = 194) ?_
  refine z_iret h hr dX12_go_194 ?_
  exact ⟨congrArg Prod.fst (zsome hf), congrArg Prod.snd (zsome hf), rfl⟩
noncomputable def f_X12_nextOf (J : zJ) (v1 : Int32) (v2 : Int32) (v3 : Int32) (I : zM) : Option (Int32 × zM) := ((f_X12_lay J v1 I).bind fun q1 => ((f_X12_go J v2 v3 q1).bind fun q3 => some ((q3.1, q3.2))))
noncomputable abbrev rmX12_nextOf : Room := { frames := 5, cells := 0, slots := 0, locals := 125 }
theorem zyX12_nextOf : zY yX12_nextOf wsX12_nextOf cX12_nextOf 4 (some .int) 3 := ⟨⟨_, rfl⟩, by decide +kernel⟩
theorem zrX12_nextOf_X12_go : zRm rmX12_go rmX12_nextOf 8 := ⟨rfl, rfl, by decide, by decide⟩
theorem zrX12_nextOf_X12_lay : zRm rmX12_lay rmX12_nextOf 4 := ⟨rfl, rfl, by decide, by decide⟩
set_option maxHeartbeats 1000000 in
set_option maxRecDepth 100000 in
theorem c_X12_nextOf (B : zB) (I : zM) (J : zJ) (hJ : zJok J) (v1 : Int32) (v2 : Int32) (v3 : Int32) (r : Int32) (I' : zM) (hf : f_X12_nextOf J v1 v2 v3 I = some (r, I')) : zCi B zKW I J yX12_nextOf wsX12_nextOf rmX12_nextOf [.ref (za B 147), .int v1, .int v2, .int v3] (fun r2 I2 J2 => r2 = r ∧ I2 = I' ∧ J2 = J) := by
  refine z_start (own := RX12) (cc := cX12_nextOf) (nL := 4) (ret := (some .int)) rfl (by decide) rfl (Nat.le_of_ble_eq_true rfl) (L := [(0, .ref (za B 147)), (1, .int v1), (2, .int v2), (3, .int v3)]) rfl (fun G h hr => ?_)
  rw [f_X12_nextOf] at hf
  refine z_aload_n h 0 dX12_nextOf_0 rfl (rfl : 0 + 1 = 1) ?_
  refine z_iload_n h 1 dX12_nextOf_1 rfl (rfl : 1 + 1 = 2) ?_
  obtain ⟨q1, e2, hf⟩ := zbind hf
  refine z_goFv (z_runV (C := RX12) (T := TX12) (N := 46) (ci := 11) h [.int v1] [] zyX12_lay (c_X12_lay B I J hJ v1 _ e2) gX12_nextOf_X12_lay rfl rfl rfl zrX12_nextOf_X12_lay rfl (Nat.le_of_ble_eq_true rfl) ⟨Nat.zero_le _, Nat.zero_le _⟩ rfl dX12_nextOf_2) rfl ?_
  refine z_aload_n h 0 dX12_nextOf_5 rfl (rfl : 5 + 1 = 6) ?_
  refine z_iload_n h 2 dX12_nextOf_6 rfl (rfl : 6 + 1 = 7) ?_
  refine z_iload_n h 3 dX12_nextOf_7 rfl (rfl : 7 + 1 = 8) ?_
  obtain ⟨q3, e4, hf⟩ := zbind hf
  refine z_goF (z_runV (C := RX12) (T := TX12) (N := 46) (ci := 11) h [.int v2, .int v3] [] zyX12_go (c_X12_go B q1 J hJ v2 v3 _ _ e4) gX12_nextOf_X12_go rfl rfl rfl zrX12_nextOf_X12_go rfl (Nat.le_of_ble_eq_true rfl) ⟨Nat.zero_le _, Nat.zero_le _⟩ rfl dX12_nextOf_8) rfl ?_
  refine z_iret h hr dX12_nextOf_11 ?_
  exact ⟨congrArg Prod.fst (zsome hf), congrArg Prod.snd (zsome hf), rfl⟩
noncomputable def f_X12_readIt_15 (J : zJ) (u1 : Int32) (u2 : Int32) : Nat → Int32 → Int32 → zM → Option ((zM) ⊕ (Int32 × Int32 × zM))
  | 0, _, _, _ => none
  | n + 1, x3_15, x4_15, I15 => (if zin x3_15 46656 = true then (if I15 173 (Int32.toNatClampNeg x3_15) = I15 147 39 then some (.inr (x3_15, x4_15, I15)) else (if zin x3_15 46656 = true then (if zin x3_15 46656 = true then ((f_X12_nextOf J x3_15 u1 u2 (zu (zu I15 173 (Int32.toNatClampNeg x3_15) (I15 147 39)) 174 (Int32.toNatClampNeg x3_15) x4_15)).bind fun q5 => f_X12_readIt_15 J u1 u2 n q5.1 (x4_15 + 1) q5.2) else none) else none)) else none)
noncomputable def f_X12_readIt_89 (J : zJ) (u1 : Int32) (u2 : Int32) (u3 : Int32) (u4 : Int32) : Nat → Int32 → zM → Option ((zM) ⊕ (Int32 × zM))
  | 0, _, _ => none
  | n + 1, x5_89, I89 => (if 6 ≤ x5_89 then some (.inr (x5_89, I89)) else (if zin x5_89 6 = true then (if zin x5_89 6 = true then (if zin x5_89 6 = true then f_X12_readIt_89 J u1 u2 u3 u4 n (x5_89 + 1) (zu (zu I89 175 (Int32.toNatClampNeg x5_89) (I89 170 (Int32.toNatClampNeg x5_89))) 177 (Int32.toNatClampNeg x5_89) 0) else none) else none) else none))
noncomputable def f_X12_readIt_166 (J : zJ) (u1 : Int32) (u2 : Int32) (u3 : Int32) (u4 : Int32) (u5 : Int32) : Nat → Int32 → zM → Option ((zM) ⊕ (Int32 × zM))
  | 0, _, _ => none
  | n + 1, x6_166, I166 => (if 6 ≤ x6_166 then some (.inr (x6_166, I166)) else (if zin x6_166 6 = true then (if I166 177 (Int32.toNatClampNeg x6_166) = 0 then (if zin x6_166 6 = true then (if zin x6_166 6 = true then (if I166 170 (Int32.toNatClampNeg x6_166) = I166 175 (Int32.toNatClampNeg x6_166) then (if zin x6_166 6 = true then f_X12_readIt_166 J u1 u2 u3 u4 u5 n (x6_166 + 1) (zu I166 177 (Int32.toNatClampNeg x6_166) 0) else none) else (if zin x6_166 6 = true then f_X12_readIt_166 J u1 u2 u3 u4 u5 n (x6_166 + 1) (zu I166 177 (Int32.toNatClampNeg x6_166) 1) else none)) else none) else none) else (if zin x6_166 6 = true then f_X12_readIt_166 J u1 u2 u3 u4 u5 n (x6_166 + 1) (zu I166 177 (Int32.toNatClampNeg x6_166) 1) else none)) else none))
noncomputable def f_X12_readIt_132 (J : zJ) (u1 : Int32) (u2 : Int32) (u3 : Int32) (u4 : Int32) : Nat → Int32 → zM → Option ((zM) ⊕ (Int32 × zM))
  | 0, _, _ => none
  | n + 1, x5_132, I132 => (if I132 147 40 ≤ x5_132 then some (.inr (x5_132, I132)) else ((f_X12_nextOf J (I132 147 41) u1 u2 I132).bind fun q11 => ((f_X12_lay J ((zu q11.2 147 41 q11.1) 147 41) (zu q11.2 147 41 q11.1)).bind fun q13 => ((f_X12_readIt_166 J u1 u2 u3 u4 x5_132 zF 0 q13).bind fun q => Sum.elim (fun a => some (.inl a)) (fun a17 => f_X12_readIt_132 J u1 u2 u3 u4 n (x5_132 + 1) a17.2) q))))
noncomputable def f_X12_readIt_227 (J : zJ) (u1 : Int32) (u2 : Int32) (u3 : Int32) (u4 : Int32) : Nat → Int32 → zM → Option ((zM) ⊕ (Int32 × zM))
  | 0, _, _ => none
  | n + 1, x5_227, I227 => (if 6 ≤ x5_227 then some (.inr (x5_227, I227)) else (if zin x5_227 6 = true then (if I227 177 (Int32.toNatClampNeg x5_227) = 0 then (if zin x5_227 6 = true then (if zin x5_227 6 = true then f_X12_readIt_227 J u1 u2 u3 u4 n (x5_227 + 1) (zu I227 175 (Int32.toNatClampNeg x5_227) (I227 175 (Int32.toNatClampNeg x5_227))) else none) else none) else (if zin x5_227 6 = true then f_X12_readIt_227 J u1 u2 u3 u4 n (x5_227 + 1) (zu I227 175 (Int32.toNatClampNeg x5_227) 0) else none)) else none))
noncomputable def f_X12_readIt (J : zJ) (v1 : Int32) (v2 : Int32) (I : zM) : Option (zM) := ((f_X12_readIt_15 J v1 v2 zF 0 0 (zu I 147 39 ((I 147 39) + (1 : Int32)))).bind fun q => Sum.elim (fun a => some a) (fun a3 => (if zin a3.1 46656 = true then ((f_X12_lay J a3.1 (zu (zu a3.2.2 147 42 (a3.2.2 174 (Int32.toNatClampNeg a3.1))) 147 40 (a3.2.1 - ((zu a3.2.2 147 42 (a3.2.2 174 (Int32.toNatClampNeg a3.1))) 147 42)))).bind fun q5 => ((f_X12_readIt_89 J v1 v2 a3.1 a3.2.1 zF 0 q5).bind fun q => Sum.elim (fun a => some a) (fun a9 => ((f_X12_readIt_132 J v1 v2 a3.1 a3.2.1 zF 1 (zu a9.2 147 41 a3.1)).bind fun q => Sum.elim (fun a => some a) (fun a12 => ((f_X12_readIt_227 J v1 v2 a3.1 a3.2.1 zF 0 a12.2).bind fun q => Sum.elim (fun a => some a) (fun a15 => some (a15.2)) q)) q)) q)) else none)) q)
noncomputable abbrev rmX12_readIt : Room := { frames := 6, cells := 0, slots := 0, locals := 148 }
theorem zyX12_readIt : zY yX12_readIt wsX12_readIt cX12_readIt 7 none 2 := ⟨⟨_, rfl⟩, by decide +kernel⟩
theorem zrX12_readIt_X12_lay : zRm rmX12_lay rmX12_readIt 4 := ⟨rfl, rfl, by decide, by decide⟩
theorem zrX12_readIt_X12_nextOf : zRm rmX12_nextOf rmX12_readIt 4 := ⟨rfl, rfl, by decide, by decide⟩
set_option maxHeartbeats 1000000 in
set_option maxRecDepth 100000 in
theorem c_X12_readIt (B : zB) (I : zM) (J : zJ) (hJ : zJok J) (v1 : Int32) (v2 : Int32) (I' : zM) (hf : f_X12_readIt J v1 v2 I = some I') : zCv B zKW I J yX12_readIt wsX12_readIt rmX12_readIt [.ref (za B 147), .int v1, .int v2] (fun I2 J2 => I2 = I' ∧ J2 = J) := by
  refine z_start (own := RX12) (cc := cX12_readIt) (nL := 7) (ret := none) rfl (by decide) rfl (Nat.le_of_ble_eq_true rfl) (L := [(0, .ref (za B 147)), (1, .int v1), (2, .int v2)]) rfl (fun G h hr => ?_)
  rw [f_X12_readIt] at hf
  refine z_aload_n h 0 dX12_readIt_0 rfl (rfl : 0 + 1 = 1) ?_
  refine z_dup h rfl dX12_readIt_1 (rfl : 1 + 1 = 2) ?_
  refine z_get (ci := 11) (C := RX12) (T := TX12) (N := 46) h 39 rfl rfl (fun _ hq => List.mem_cons_of_mem _ (List.mem_append_right _ hq)) (by decide) (List.mem_of_getElem? (i := 1) rfl) rfl dX12_readIt_2 (rfl : 2 + 3 = 5) ?_
  refine z_iconst h 1 dX12_readIt_5 (by decide) (rfl : 5 + 1 = 6) ?_
  refine z_iadd h dX12_readIt_6 (rfl : 6 + 1 = 7) ?_
  refine z_put (ci := 11) (C := RX12) (T := TX12) (N := 46) h 39 tyX12 tyX12_ok nmX12 rfl rfl (fun _ hq => List.mem_cons_of_mem _ (List.mem_append_right _ hq)) (by decide) (List.mem_of_getElem? (i := 1) rfl) rfl rfl rfl dX12_readIt_7 (rfl : 7 + 3 = 10) ?_
  refine z_iconst h 0 dX12_readIt_10 (by decide) (rfl : 10 + 1 = 11) ?_
  refine z_istore_n h [(3, .int 0), (0, .ref (za B 147)), (1, .int v1), (2, .int v2)] dX12_readIt_11 (by decide) rfl (rfl : 11 + 1 = 12) ?_
  refine z_iconst h 0 dX12_readIt_12 (by decide) (rfl : 12 + 1 = 13) ?_
  refine z_istore h [(4, .int 0), (3, .int 0), (0, .ref (za B 147)), (1, .int v1), (2, .int v2)] dX12_readIt_13 (by decide) rfl (rfl : 13 + 2 = 15) ?_
  have loop_15_2 : ∀ (n : Nat) (x3_15 : Int32) (x4_15 : Int32) (I15 : zM) (q : (zM) ⊕ (Int32 × Int32 × zM)), f_X12_readIt_15 J v1 v2 n x3_15 x4_15 I15 = some q → (∀ a, q = .inl a → a = I') → (∀ a : Int32 × Int32 × zM, q = .inr a → Z B G zKW (a.2.2) (J) (0, 0) 60 [(0, .ref (za B 147)), (1, .int v1), (2, .int v2), (3, .int a.1), (4, .int a.2.1)] []) → Z B G zKW I15 J (0, 0) 15 [(0, .ref (za B 147)), (1, .int v1), (2, .int v2), (3, .int x3_15), (4, .int x4_15)] [] := by
    intro n; induction n with
    | zero => intro x3_15 x4_15 I15 q hf; exact absurd hf (by rw [f_X12_readIt_15]; exact fun z => by cases z)
    | succ n ih =>
      intro x3_15 x4_15 I15 q hf hP hE; rw [f_X12_readIt_15] at hf
      refine z_aload_n h 0 dX12_readIt_15 rfl (rfl : 15 + 1 = 16) ?_
      refine z_getr (ci := 11) (C := RX12) (T := TX12) (N := 46) h 37 173 ((hJ.1 147 37 (by decide)).trans rfl) rfl rfl (fun _ hq => List.mem_cons_of_mem _ (List.mem_append_right _ hq)) (by decide) (List.mem_of_getElem? (i := 2) rfl) rfl dX12_readIt_16 (rfl : 16 + 3 = 19) ?_
      refine z_iload_n h 3 dX12_readIt_19 rfl (rfl : 19 + 1 = 20) ?_
      obtain ⟨b3, hf⟩ := zchk hf
      refine z_iald h rfl b3 dX12_readIt_20 (rfl : 20 + 1 = 21) ?_
      refine z_aload_n h 0 dX12_readIt_21 rfl (rfl : 21 + 1 = 22) ?_
      refine z_get (ci := 11) (C := RX12) (T := TX12) (N := 46) h 39 rfl rfl (fun _ hq => List.mem_cons_of_mem _ (List.mem_append_right _ hq)) (by decide) (List.mem_of_getElem? (i := 1) rfl) rfl dX12_readIt_22 (rfl : 22 + 3 = 25) ?_
      refine z_icmp_eq (pc' := 28) h 60 dX12_readIt_25 (by decide) rfl (fun c4 => ?_) (fun c4 => ?_)
      · have hf := zitt c4 hf
        exact hE (x3_15, x4_15, I15) (zsome hf).symm
      · have hf := zitf c4 hf
        refine z_aload_n h 0 dX12_readIt_28 rfl (rfl : 28 + 1 = 29) ?_
        refine z_getr (ci := 11) (C := RX12) (T := TX12) (N := 46) h 37 173 ((hJ.1 147 37 (by decide)).trans rfl) rfl rfl (fun _ hq => List.mem_cons_of_mem _ (List.mem_append_right _ hq)) (by decide) (List.mem_of_getElem? (i := 2) rfl) rfl dX12_readIt_29 (rfl : 29 + 3 = 32) ?_
        refine z_iload_n h 3 dX12_readIt_32 rfl (rfl : 32 + 1 = 33) ?_
        refine z_aload_n h 0 dX12_readIt_33 rfl (rfl : 33 + 1 = 34) ?_
        refine z_get (ci := 11) (C := RX12) (T := TX12) (N := 46) h 39 rfl rfl (fun _ hq => List.mem_cons_of_mem _ (List.mem_append_right _ hq)) (by decide) (List.mem_of_getElem? (i := 1) rfl) rfl dX12_readIt_34 (rfl : 34 + 3 = 37) ?_
        obtain ⟨b5, hf⟩ := zchk hf
        refine z_iast h b5 rfl dX12_readIt_37 (rfl : 37 + 1 = 38) ?_
        refine z_aload_n h 0 dX12_readIt_38 rfl (rfl : 38 + 1 = 39) ?_
        refine z_getr (ci := 11) (C := RX12) (T := TX12) (N := 46) h 38 174 ((hJ.1 147 38 (by decide)).trans rfl) rfl rfl (fun _ hq => List.mem_cons_of_mem _ (List.mem_append_right _ hq)) (by decide) (List.mem_of_getElem? (i := 3) rfl) rfl dX12_readIt_39 (rfl : 39 + 3 = 42) ?_
        refine z_iload_n h 3 dX12_readIt_42 rfl (rfl : 42 + 1 = 43) ?_
        refine z_iload h 4 dX12_readIt_43 rfl (rfl : 43 + 2 = 45) ?_
        obtain ⟨b6, hf⟩ := zchk hf
        refine z_iast h b6 rfl dX12_readIt_45 (rfl : 45 + 1 = 46) ?_
        refine z_iinc h 4 (x4_15 + 1) [(4, .int (x4_15 + 1)), (0, .ref (za B 147)), (1, .int v1), (2, .int v2), (3, .int x3_15)] dX12_readIt_46 rfl rfl (by decide) rfl (rfl : 46 + 3 = 49) ?_
        refine z_aload_n h 1 dX12_readIt_49 rfl (rfl : 49 + 1 = 50) ?_
        refine z_iload_n h 4 dX12_readIt_50 rfl (rfl : 50 + 1 = 51) ?_
        refine z_iload_n h 2 dX12_readIt_51 rfl (rfl : 51 + 1 = 52) ?_
        refine z_iload_n h 3 dX12_readIt_52 rfl (rfl : 52 + 1 = 53) ?_
        obtain ⟨q7, e8, hf⟩ := zbind hf
        refine z_goF (z_runV (C := RX12) (T := TX12) (N := 46) (ci := 11) h [.int x3_15, .int v1, .int v2] [] zyX12_nextOf (c_X12_nextOf B (zu (zu I15 173 (Int32.toNatClampNeg x3_15) (I15 147 39)) 174 (Int32.toNatClampNeg x3_15) x4_15) J hJ x3_15 v1 v2 _ _ e8) gX12_readIt_X12_nextOf rfl rfl rfl zrX12_readIt_X12_nextOf rfl (Nat.le_of_ble_eq_true rfl) ⟨Nat.zero_le _, Nat.zero_le _⟩ rfl dX12_readIt_53) rfl ?_
        refine z_istore_n h [(3, .int q7.1), (4, .int (x4_15 + 1)), (0, .ref (za B 147)), (1, .int v1), (2, .int v2)] dX12_readIt_56 (by decide) rfl (rfl : 56 + 1 = 57) ?_
        refine z_goto (pc' := 15) h dX12_readIt_57 (by decide) ?_
        refine z_sub (L' := [(0, .ref (za B 147)), (1, .int v1), (2, .int v2), (3, .int q7.1), (4, .int (x4_15 + 1))]) [2, 3, 4, 0, 1] rfl ?_
        exact ih q7.1 (x4_15 + 1) q7.2 _ hf hP hE
  refine z_sub (L' := [(0, .ref (za B 147)), (1, .int v1), (2, .int v2), (3, .int 0), (4, .int 0)]) [2, 3, 4, 1, 0] rfl ?_
  obtain ⟨q1, e2, hf⟩ := zbind hf
  refine loop_15_2 _ 0 0 (zu I 147 39 ((I 147 39) + (1 : Int32))) q1 e2 (fun a ha => ?_) (fun a9 ha  => ?_)
  · have hf := zell ha hf
    exact zsome hf
  have hf := zelr ha hf
  clear ha loop_15_2
  refine z_aload_n h 0 dX12_readIt_60 rfl (rfl : 60 + 1 = 61) ?_
  refine z_aload_n h 0 dX12_readIt_61 rfl (rfl : 61 + 1 = 62) ?_
  refine z_getr (ci := 11) (C := RX12) (T := TX12) (N := 46) h 38 174 ((hJ.1 147 38 (by decide)).trans rfl) rfl rfl (fun _ hq => List.mem_cons_of_mem _ (List.mem_append_right _ hq)) (by decide) (List.mem_of_getElem? (i := 3) rfl) rfl dX12_readIt_62 (rfl : 62 + 3 = 65) ?_
  refine z_iload_n h 3 dX12_readIt_65 rfl (rfl : 65 + 1 = 66) ?_
  obtain ⟨b10, hf⟩ := zchk hf
  refine z_iald h rfl b10 dX12_readIt_66 (rfl : 66 + 1 = 67) ?_
  refine z_put (ci := 11) (C := RX12) (T := TX12) (N := 46) h 42 tyX12 tyX12_ok nmX12 rfl rfl (fun _ hq => List.mem_cons_of_mem _ (List.mem_append_right _ hq)) (by decide) (List.mem_of_getElem? (i := 4) rfl) rfl rfl rfl dX12_readIt_67 (rfl : 67 + 3 = 70) ?_
  refine z_aload_n h 0 dX12_readIt_70 rfl (rfl : 70 + 1 = 71) ?_
  refine z_iload h 4 dX12_readIt_71 rfl (rfl : 71 + 2 = 73) ?_
  refine z_aload_n h 0 dX12_readIt_73 rfl (rfl : 73 + 1 = 74) ?_
  refine z_get (ci := 11) (C := RX12) (T := TX12) (N := 46) h 42 rfl rfl (fun _ hq => List.mem_cons_of_mem _ (List.mem_append_right _ hq)) (by decide) (List.mem_of_getElem? (i := 4) rfl) rfl dX12_readIt_74 (rfl : 74 + 3 = 77) ?_
  refine z_isub h dX12_readIt_77 (rfl : 77 + 1 = 78) ?_
  refine z_put (ci := 11) (C := RX12) (T := TX12) (N := 46) h 40 tyX12 tyX12_ok nmX12 rfl rfl (fun _ hq => List.mem_cons_of_mem _ (List.mem_append_right _ hq)) (by decide) (List.mem_of_getElem? (i := 5) rfl) rfl rfl rfl dX12_readIt_78 (rfl : 78 + 3 = 81) ?_
  refine z_aload_n h 0 dX12_readIt_81 rfl (rfl : 81 + 1 = 82) ?_
  refine z_iload_n h 3 dX12_readIt_82 rfl (rfl : 82 + 1 = 83) ?_
  obtain ⟨q11, e12, hf⟩ := zbind hf
  refine z_goFv (z_runV (C := RX12) (T := TX12) (N := 46) (ci := 11) h [.int a9.1] [] zyX12_lay (c_X12_lay B (zu (zu a9.2.2 147 42 (a9.2.2 174 (Int32.toNatClampNeg a9.1))) 147 40 (a9.2.1 - ((zu a9.2.2 147 42 (a9.2.2 174 (Int32.toNatClampNeg a9.1))) 147 42))) J hJ a9.1 _ e12) gX12_readIt_X12_lay rfl rfl rfl zrX12_readIt_X12_lay rfl (Nat.le_of_ble_eq_true rfl) ⟨Nat.zero_le _, Nat.zero_le _⟩ rfl dX12_readIt_83) rfl ?_
  refine z_iconst h 0 dX12_readIt_86 (by decide) (rfl : 86 + 1 = 87) ?_
  refine z_istore h [(5, .int 0), (0, .ref (za B 147)), (1, .int v1), (2, .int v2), (3, .int a9.1), (4, .int a9.2.1)] dX12_readIt_87 (by decide) rfl (rfl : 87 + 2 = 89) ?_
  have loop_89_14 : ∀ (n : Nat) (x5_89 : Int32) (I89 : zM) (q : (zM) ⊕ (Int32 × zM)), f_X12_readIt_89 J v1 v2 a9.1 a9.2.1 n x5_89 I89 = some q → (∀ a, q = .inl a → a = I') → (∀ a : Int32 × zM, q = .inr a → Z B G zKW (a.2) (J) (0, 0) 124 [(0, .ref (za B 147)), (1, .int v1), (2, .int v2), (3, .int a9.1), (4, .int a9.2.1), (5, .int a.1)] []) → Z B G zKW I89 J (0, 0) 89 [(0, .ref (za B 147)), (1, .int v1), (2, .int v2), (3, .int a9.1), (4, .int a9.2.1), (5, .int x5_89)] [] := by
    intro n; induction n with
    | zero => intro x5_89 I89 q hf; exact absurd hf (by rw [f_X12_readIt_89]; exact fun z => by cases z)
    | succ n ih =>
      intro x5_89 I89 q hf hP hE; rw [f_X12_readIt_89] at hf
      refine z_iload h 5 dX12_readIt_89 rfl (rfl : 89 + 2 = 91) ?_
      refine z_bipush h 6 dX12_readIt_91 (by decide) (rfl : 91 + 2 = 93) ?_
      refine z_icmp_ge (pc' := 96) h 124 dX12_readIt_93 (by decide) rfl (fun c15 => ?_) (fun c15 => ?_)
      · have hf := zitt c15 hf
        exact hE (x5_89, I89) (zsome hf).symm
      · have hf := zitf c15 hf
        refine z_aload_n h 0 dX12_readIt_96 rfl (rfl : 96 + 1 = 97) ?_
        refine z_getr (ci := 11) (C := RX12) (T := TX12) (N := 46) h 43 175 ((hJ.1 147 43 (by decide)).trans rfl) rfl rfl (fun _ hq => List.mem_cons_of_mem _ (List.mem_append_right _ hq)) (by decide) (List.mem_of_getElem? (i := 6) rfl) rfl dX12_readIt_97 (rfl : 97 + 3 = 100) ?_
        refine z_iload h 5 dX12_readIt_100 rfl (rfl : 100 + 2 = 102) ?_
        refine z_aload_n h 0 dX12_readIt_102 rfl (rfl : 102 + 1 = 103) ?_
        refine z_getr (ci := 11) (C := RX12) (T := TX12) (N := 46) h 34 170 ((hJ.1 147 34 (by decide)).trans rfl) rfl rfl (fun _ hq => List.mem_cons_of_mem _ (List.mem_append_right _ hq)) (by decide) (List.mem_of_getElem? (i := 7) rfl) rfl dX12_readIt_103 (rfl : 103 + 3 = 106) ?_
        refine z_iload h 5 dX12_readIt_106 rfl (rfl : 106 + 2 = 108) ?_
        obtain ⟨b16, hf⟩ := zchk hf
        refine z_iald h rfl b16 dX12_readIt_108 (rfl : 108 + 1 = 109) ?_
        obtain ⟨b17, hf⟩ := zchk hf
        refine z_iast h b17 rfl dX12_readIt_109 (rfl : 109 + 1 = 110) ?_
        refine z_aload_n h 0 dX12_readIt_110 rfl (rfl : 110 + 1 = 111) ?_
        refine z_getr (ci := 11) (C := RX12) (T := TX12) (N := 46) h 45 177 ((hJ.1 147 45 (by decide)).trans rfl) rfl rfl (fun _ hq => List.mem_cons_of_mem _ (List.mem_append_right _ hq)) (by decide) (List.mem_of_getElem? (i := 8) rfl) rfl dX12_readIt_111 (rfl : 111 + 3 = 114) ?_
        refine z_iload h 5 dX12_readIt_114 rfl (rfl : 114 + 2 = 116) ?_
        refine z_iconst h 0 dX12_readIt_116 (by decide) (rfl : 116 + 1 = 117) ?_
        obtain ⟨b18, hf⟩ := zchk hf
        refine z_zast h b18 rfl rfl dX12_readIt_117 (rfl : 117 + 1 = 118) ?_
        refine z_iinc h 5 (x5_89 + 1) [(5, .int (x5_89 + 1)), (0, .ref (za B 147)), (1, .int v1), (2, .int v2), (3, .int a9.1), (4, .int a9.2.1)] dX12_readIt_118 rfl rfl (by decide) rfl (rfl : 118 + 3 = 121) ?_
        refine z_goto (pc' := 89) h dX12_readIt_121 (by decide) ?_
        refine z_sub (L' := [(0, .ref (za B 147)), (1, .int v1), (2, .int v2), (3, .int a9.1), (4, .int a9.2.1), (5, .int (x5_89 + 1))]) [1, 2, 3, 4, 5, 0] rfl ?_
        exact ih (x5_89 + 1) (zu (zu I89 175 (Int32.toNatClampNeg x5_89) (I89 170 (Int32.toNatClampNeg x5_89))) 177 (Int32.toNatClampNeg x5_89) 0) _ hf hP hE
  refine z_sub (L' := [(0, .ref (za B 147)), (1, .int v1), (2, .int v2), (3, .int a9.1), (4, .int a9.2.1), (5, .int 0)]) [1, 2, 3, 4, 5, 0] rfl ?_
  obtain ⟨q13, e14, hf⟩ := zbind hf
  refine loop_89_14 _ 0 q11 q13 e14 (fun a ha => ?_) (fun a19 ha  => ?_)
  · have hf := zell ha hf
    exact zsome hf
  have hf := zelr ha hf
  clear ha loop_89_14
  refine z_aload_n h 0 dX12_readIt_124 rfl (rfl : 124 + 1 = 125) ?_
  refine z_iload_n h 3 dX12_readIt_125 rfl (rfl : 125 + 1 = 126) ?_
  refine z_put (ci := 11) (C := RX12) (T := TX12) (N := 46) h 41 tyX12 tyX12_ok nmX12 rfl rfl (fun _ hq => List.mem_cons_of_mem _ (List.mem_append_right _ hq)) (by decide) (List.mem_of_getElem? (i := 9) rfl) rfl rfl rfl dX12_readIt_126 (rfl : 126 + 3 = 129) ?_
  refine z_iconst h 1 dX12_readIt_129 (by decide) (rfl : 129 + 1 = 130) ?_
  refine z_istore h [(5, .int 1), (0, .ref (za B 147)), (1, .int v1), (2, .int v2), (3, .int a9.1), (4, .int a9.2.1)] dX12_readIt_130 (by decide) rfl (rfl : 130 + 2 = 132) ?_
  have loop_132_21 : ∀ (n : Nat) (x5_132 : Int32) (I132 : zM) (q : (zM) ⊕ (Int32 × zM)), f_X12_readIt_132 J v1 v2 a9.1 a9.2.1 n x5_132 I132 = some q → (∀ a, q = .inl a → a = I') → (∀ a : Int32 × zM, q = .inr a → Z B G zKW (a.2) (J) (0, 0) 224 [(0, .ref (za B 147)), (1, .int v1), (2, .int v2), (3, .int a9.1), (4, .int a9.2.1), (5, .int a.1)] []) → Z B G zKW I132 J (0, 0) 132 [(0, .ref (za B 147)), (1, .int v1), (2, .int v2), (3, .int a9.1), (4, .int a9.2.1), (5, .int x5_132)] [] := by
    intro n; induction n with
    | zero => intro x5_132 I132 q hf; exact absurd hf (by rw [f_X12_readIt_132]; exact fun z => by cases z)
    | succ n ih =>
      intro x5_132 I132 q hf hP hE; rw [f_X12_readIt_132] at hf
      refine z_iload h 5 dX12_readIt_132 rfl (rfl : 132 + 2 = 134) ?_
      refine z_aload_n h 0 dX12_readIt_134 rfl (rfl : 134 + 1 = 135) ?_
      refine z_get (ci := 11) (C := RX12) (T := TX12) (N := 46) h 40 rfl rfl (fun _ hq => List.mem_cons_of_mem _ (List.mem_append_right _ hq)) (by decide) (List.mem_of_getElem? (i := 5) rfl) rfl dX12_readIt_135 (rfl : 135 + 3 = 138) ?_
      refine z_icmp_ge (pc' := 141) h 224 dX12_readIt_138 (by decide) rfl (fun c22 => ?_) (fun c22 => ?_)
      · have hf := zitt c22 hf
        exact hE (x5_132, I132) (zsome hf).symm
      · have hf := zitf c22 hf
        refine z_aload_n h 0 dX12_readIt_141 rfl (rfl : 141 + 1 = 142) ?_
        refine z_aload_n h 0 dX12_readIt_142 rfl (rfl : 142 + 1 = 143) ?_
        refine z_aload_n h 0 dX12_readIt_143 rfl (rfl : 143 + 1 = 144) ?_
        refine z_get (ci := 11) (C := RX12) (T := TX12) (N := 46) h 41 rfl rfl (fun _ hq => List.mem_cons_of_mem _ (List.mem_append_right _ hq)) (by decide) (List.mem_of_getElem? (i := 9) rfl) rfl dX12_readIt_144 (rfl : 144 + 3 = 147) ?_
        refine z_iload_n h 1 dX12_readIt_147 rfl (rfl : 147 + 1 = 148) ?_
        refine z_iload_n h 2 dX12_readIt_148 rfl (rfl : 148 + 1 = 149) ?_
        obtain ⟨q23, e24, hf⟩ := zbind hf
        refine z_goF (z_runV (C := RX12) (T := TX12) (N := 46) (ci := 11) h [.int (I132 147 41), .int v1, .int v2] [.ref (za B 147)] zyX12_nextOf (c_X12_nextOf B I132 J hJ (I132 147 41) v1 v2 _ _ e24) gX12_readIt_X12_nextOf rfl rfl rfl zrX12_readIt_X12_nextOf rfl (Nat.le_of_ble_eq_true rfl) ⟨Nat.zero_le _, Nat.zero_le _⟩ rfl dX12_readIt_149) rfl ?_
        refine z_put (ci := 11) (C := RX12) (T := TX12) (N := 46) h 41 tyX12 tyX12_ok nmX12 rfl rfl (fun _ hq => List.mem_cons_of_mem _ (List.mem_append_right _ hq)) (by decide) (List.mem_of_getElem? (i := 9) rfl) rfl rfl rfl dX12_readIt_152 (rfl : 152 + 3 = 155) ?_
        refine z_aload_n h 0 dX12_readIt_155 rfl (rfl : 155 + 1 = 156) ?_
        refine z_aload_n h 0 dX12_readIt_156 rfl (rfl : 156 + 1 = 157) ?_
        refine z_get (ci := 11) (C := RX12) (T := TX12) (N := 46) h 41 rfl rfl (fun _ hq => List.mem_cons_of_mem _ (List.mem_append_right _ hq)) (by decide) (List.mem_of_getElem? (i := 9) rfl) rfl dX12_readIt_157 (rfl : 157 + 3 = 160) ?_
        obtain ⟨q25, e26, hf⟩ := zbind hf
        refine z_goFv (z_runV (C := RX12) (T := TX12) (N := 46) (ci := 11) h [.int ((zu q23.2 147 41 q23.1) 147 41)] [] zyX12_lay (c_X12_lay B (zu q23.2 147 41 q23.1) J hJ ((zu q23.2 147 41 q23.1) 147 41) _ e26) gX12_readIt_X12_lay rfl rfl rfl zrX12_readIt_X12_lay rfl (Nat.le_of_ble_eq_true rfl) ⟨Nat.zero_le _, Nat.zero_le _⟩ rfl dX12_readIt_160) rfl ?_
        refine z_iconst h 0 dX12_readIt_163 (by decide) (rfl : 163 + 1 = 164) ?_
        refine z_istore h [(6, .int 0), (0, .ref (za B 147)), (1, .int v1), (2, .int v2), (3, .int a9.1), (4, .int a9.2.1), (5, .int x5_132)] dX12_readIt_164 (by decide) rfl (rfl : 164 + 2 = 166) ?_
        have loop_166_28 : ∀ (n : Nat) (x6_166 : Int32) (I166 : zM) (q : (zM) ⊕ (Int32 × zM)), f_X12_readIt_166 J v1 v2 a9.1 a9.2.1 x5_132 n x6_166 I166 = some q → (∀ a, q = .inl a → a = I') → (∀ a : Int32 × zM, q = .inr a → Z B G zKW (a.2) (J) (0, 0) 218 [(0, .ref (za B 147)), (1, .int v1), (2, .int v2), (3, .int a9.1), (4, .int a9.2.1), (5, .int x5_132), (6, .int a.1)] []) → Z B G zKW I166 J (0, 0) 166 [(0, .ref (za B 147)), (1, .int v1), (2, .int v2), (3, .int a9.1), (4, .int a9.2.1), (5, .int x5_132), (6, .int x6_166)] [] := by
          intro n; induction n with
          | zero => intro x6_166 I166 q hf; exact absurd hf (by rw [f_X12_readIt_166]; exact fun z => by cases z)
          | succ n ih =>
            intro x6_166 I166 q hf hP hE; rw [f_X12_readIt_166] at hf
            refine z_iload h 6 dX12_readIt_166 rfl (rfl : 166 + 2 = 168) ?_
            refine z_bipush h 6 dX12_readIt_168 (by decide) (rfl : 168 + 2 = 170) ?_
            refine z_icmp_ge (pc' := 173) h 218 dX12_readIt_170 (by decide) rfl (fun c29 => ?_) (fun c29 => ?_)
            · have hf := zitt c29 hf
              exact hE (x6_166, I166) (zsome hf).symm
            · have hf := zitf c29 hf
              refine z_aload_n h 0 dX12_readIt_173 rfl (rfl : 173 + 1 = 174) ?_
              refine z_getr (ci := 11) (C := RX12) (T := TX12) (N := 46) h 45 177 ((hJ.1 147 45 (by decide)).trans rfl) rfl rfl (fun _ hq => List.mem_cons_of_mem _ (List.mem_append_right _ hq)) (by decide) (List.mem_of_getElem? (i := 8) rfl) rfl dX12_readIt_174 (rfl : 174 + 3 = 177) ?_
              refine z_iload h 6 dX12_readIt_177 rfl (rfl : 177 + 2 = 179) ?_
              refine z_aload_n h 0 dX12_readIt_179 rfl (rfl : 179 + 1 = 180) ?_
              refine z_getr (ci := 11) (C := RX12) (T := TX12) (N := 46) h 45 177 ((hJ.1 147 45 (by decide)).trans rfl) rfl rfl (fun _ hq => List.mem_cons_of_mem _ (List.mem_append_right _ hq)) (by decide) (List.mem_of_getElem? (i := 8) rfl) rfl dX12_readIt_180 (rfl : 180 + 3 = 183) ?_
              refine z_iload h 6 dX12_readIt_183 rfl (rfl : 183 + 2 = 185) ?_
              obtain ⟨b30, hf⟩ := zchk hf
              refine z_zald h rfl b30 dX12_readIt_185 (rfl : 185 + 1 = 186) ?_
              refine z_if_ne (pc' := 189) h 206 dX12_readIt_186 (by decide) rfl (fun c31 => ?_) (fun c31 => ?_)
              · have hf := zitf c31 hf
                refine z_iconst h 1 dX12_readIt_206 (by decide) (rfl : 206 + 1 = 207) ?_
                refine z_goto (pc' := 211) h dX12_readIt_207 (by decide) ?_
                obtain ⟨b32, hf⟩ := zchk hf
                refine z_zast h b32 rfl rfl dX12_readIt_211 (rfl : 211 + 1 = 212) ?_
                refine z_iinc h 6 (x6_166 + 1) [(6, .int (x6_166 + 1)), (0, .ref (za B 147)), (1, .int v1), (2, .int v2), (3, .int a9.1), (4, .int a9.2.1), (5, .int x5_132)] dX12_readIt_212 rfl rfl (by decide) rfl (rfl : 212 + 3 = 215) ?_
                refine z_goto (pc' := 166) h dX12_readIt_215 (by decide) ?_
                refine z_sub (L' := [(0, .ref (za B 147)), (1, .int v1), (2, .int v2), (3, .int a9.1), (4, .int a9.2.1), (5, .int x5_132), (6, .int (x6_166 + 1))]) [1, 2, 3, 4, 5, 6, 0] rfl ?_
                exact ih (x6_166 + 1) (zu I166 177 (Int32.toNatClampNeg x6_166) 1) _ hf hP hE
              · have hf := zitt c31 hf
                refine z_aload_n h 0 dX12_readIt_189 rfl (rfl : 189 + 1 = 190) ?_
                refine z_getr (ci := 11) (C := RX12) (T := TX12) (N := 46) h 34 170 ((hJ.1 147 34 (by decide)).trans rfl) rfl rfl (fun _ hq => List.mem_cons_of_mem _ (List.mem_append_right _ hq)) (by decide) (List.mem_of_getElem? (i := 7) rfl) rfl dX12_readIt_190 (rfl : 190 + 3 = 193) ?_
                refine z_iload h 6 dX12_readIt_193 rfl (rfl : 193 + 2 = 195) ?_
                obtain ⟨b33, hf⟩ := zchk hf
                refine z_iald h rfl b33 dX12_readIt_195 (rfl : 195 + 1 = 196) ?_
                refine z_aload_n h 0 dX12_readIt_196 rfl (rfl : 196 + 1 = 197) ?_
                refine z_getr (ci := 11) (C := RX12) (T := TX12) (N := 46) h 43 175 ((hJ.1 147 43 (by decide)).trans rfl) rfl rfl (fun _ hq => List.mem_cons_of_mem _ (List.mem_append_right _ hq)) (by decide) (List.mem_of_getElem? (i := 6) rfl) rfl dX12_readIt_197 (rfl : 197 + 3 = 200) ?_
                refine z_iload h 6 dX12_readIt_200 rfl (rfl : 200 + 2 = 202) ?_
                obtain ⟨b34, hf⟩ := zchk hf
                refine z_iald h rfl b34 dX12_readIt_202 (rfl : 202 + 1 = 203) ?_
                refine z_icmp_eq (pc' := 206) h 210 dX12_readIt_203 (by decide) rfl (fun c35 => ?_) (fun c35 => ?_)
                · have hf := zitt c35 hf
                  refine z_iconst h 0 dX12_readIt_210 (by decide) (rfl : 210 + 1 = 211) ?_
                  obtain ⟨b36, hf⟩ := zchk hf
                  refine z_zast h b36 rfl rfl dX12_readIt_211 (rfl : 211 + 1 = 212) ?_
                  refine z_iinc h 6 (x6_166 + 1) [(6, .int (x6_166 + 1)), (0, .ref (za B 147)), (1, .int v1), (2, .int v2), (3, .int a9.1), (4, .int a9.2.1), (5, .int x5_132)] dX12_readIt_212 rfl rfl (by decide) rfl (rfl : 212 + 3 = 215) ?_
                  refine z_goto (pc' := 166) h dX12_readIt_215 (by decide) ?_
                  refine z_sub (L' := [(0, .ref (za B 147)), (1, .int v1), (2, .int v2), (3, .int a9.1), (4, .int a9.2.1), (5, .int x5_132), (6, .int (x6_166 + 1))]) [1, 2, 3, 4, 5, 6, 0] rfl ?_
                  exact ih (x6_166 + 1) (zu I166 177 (Int32.toNatClampNeg x6_166) 0) _ hf hP hE
                · have hf := zitf c35 hf
                  refine z_iconst h 1 dX12_readIt_206 (by decide) (rfl : 206 + 1 = 207) ?_
                  refine z_goto (pc' := 211) h dX12_readIt_207 (by decide) ?_
                  obtain ⟨b37, hf⟩ := zchk hf
                  refine z_zast h b37 rfl rfl dX12_readIt_211 (rfl : 211 + 1 = 212) ?_
                  refine z_iinc h 6 (x6_166 + 1) [(6, .int (x6_166 + 1)), (0, .ref (za B 147)), (1, .int v1), (2, .int v2), (3, .int a9.1), (4, .int a9.2.1), (5, .int x5_132)] dX12_readIt_212 rfl rfl (by decide) rfl (rfl : 212 + 3 = 215) ?_
                  refine z_goto (pc' := 166) h dX12_readIt_215 (by decide) ?_
                  refine z_sub (L' := [(0, .ref (za B 147)), (1, .int v1), (2, .int v2), (3, .int a9.1), (4, .int a9.2.1), (5, .int x5_132), (6, .int (x6_166 + 1))]) [1, 2, 3, 4, 5, 6, 0] rfl ?_
                  exact ih (x6_166 + 1) (zu I166 177 (Int32.toNatClampNeg x6_166) 1) _ hf hP hE
        refine z_sub (L' := [(0, .ref (za B 147)), (1, .int v1), (2, .int v2), (3, .int a9.1), (4, .int a9.2.1), (5, .int x5_132), (6, .int 0)]) [1, 2, 3, 4, 5, 6, 0] rfl ?_
        obtain ⟨q27, e28, hf⟩ := zbind hf
        refine loop_166_28 _ 0 q25 q27 e28 (fun a ha => ?_) (fun a38 ha  => ?_)
        · have hf := zell ha hf
          exact hP _ (zsome hf).symm
        have hf := zelr ha hf
        clear ha loop_166_28
        refine z_iinc h 5 (x5_132 + 1) [(5, .int (x5_132 + 1)), (0, .ref (za B 147)), (1, .int v1), (2, .int v2), (3, .int a9.1), (4, .int a9.2.1), (6, .int a38.1)] dX12_readIt_218 rfl rfl (by decide) rfl (rfl : 218 + 3 = 221) ?_
        refine z_goto (pc' := 132) h dX12_readIt_221 (by decide) ?_
        refine z_sub (L' := [(0, .ref (za B 147)), (1, .int v1), (2, .int v2), (3, .int a9.1), (4, .int a9.2.1), (5, .int (x5_132 + 1))]) [1, 2, 3, 4, 5, 0] rfl ?_
        exact ih (x5_132 + 1) a38.2 _ hf hP hE
  refine z_sub (L' := [(0, .ref (za B 147)), (1, .int v1), (2, .int v2), (3, .int a9.1), (4, .int a9.2.1), (5, .int 1)]) [1, 2, 3, 4, 5, 0] rfl ?_
  obtain ⟨q20, e21, hf⟩ := zbind hf
  refine loop_132_21 _ 1 (zu a19.2 147 41 a9.1) q20 e21 (fun a ha => ?_) (fun a39 ha  => ?_)
  · have hf := zell ha hf
    exact zsome hf
  have hf := zelr ha hf
  clear ha loop_132_21
  refine z_iconst h 0 dX12_readIt_224 (by decide) (rfl : 224 + 1 = 225) ?_
  refine z_istore h [(5, .int 0), (0, .ref (za B 147)), (1, .int v1), (2, .int v2), (3, .int a9.1), (4, .int a9.2.1)] dX12_readIt_225 (by decide) rfl (rfl : 225 + 2 = 227) ?_
  have loop_227_41 : ∀ (n : Nat) (x5_227 : Int32) (I227 : zM) (q : (zM) ⊕ (Int32 × zM)), f_X12_readIt_227 J v1 v2 a9.1 a9.2.1 n x5_227 I227 = some q → (∀ a, q = .inl a → a = I') → (∀ a : Int32 × zM, q = .inr a → Z B G zKW (a.2) (J) (0, 0) 268 [(0, .ref (za B 147)), (1, .int v1), (2, .int v2), (3, .int a9.1), (4, .int a9.2.1), (5, .int a.1)] []) → Z B G zKW I227 J (0, 0) 227 [(0, .ref (za B 147)), (1, .int v1), (2, .int v2), (3, .int a9.1), (4, .int a9.2.1), (5, .int x5_227)] [] := by
    intro n; induction n with
    | zero => intro x5_227 I227 q hf; exact absurd hf (by rw [f_X12_readIt_227]; exact fun z => by cases z)
    | succ n ih =>
      intro x5_227 I227 q hf hP hE; rw [f_X12_readIt_227] at hf
      refine z_iload h 5 dX12_readIt_227 rfl (rfl : 227 + 2 = 229) ?_
      refine z_bipush h 6 dX12_readIt_229 (by decide) (rfl : 229 + 2 = 231) ?_
      refine z_icmp_ge (pc' := 234) h 268 dX12_readIt_231 (by decide) rfl (fun c42 => ?_) (fun c42 => ?_)
      · have hf := zitt c42 hf
        exact hE (x5_227, I227) (zsome hf).symm
      · have hf := zitf c42 hf
        refine z_aload_n h 0 dX12_readIt_234 rfl (rfl : 234 + 1 = 235) ?_
        refine z_getr (ci := 11) (C := RX12) (T := TX12) (N := 46) h 43 175 ((hJ.1 147 43 (by decide)).trans rfl) rfl rfl (fun _ hq => List.mem_cons_of_mem _ (List.mem_append_right _ hq)) (by decide) (List.mem_of_getElem? (i := 6) rfl) rfl dX12_readIt_235 (rfl : 235 + 3 = 238) ?_
        refine z_iload h 5 dX12_readIt_238 rfl (rfl : 238 + 2 = 240) ?_
        refine z_aload_n h 0 dX12_readIt_240 rfl (rfl : 240 + 1 = 241) ?_
        refine z_getr (ci := 11) (C := RX12) (T := TX12) (N := 46) h 45 177 ((hJ.1 147 45 (by decide)).trans rfl) rfl rfl (fun _ hq => List.mem_cons_of_mem _ (List.mem_append_right _ hq)) (by decide) (List.mem_of_getElem? (i := 8) rfl) rfl dX12_readIt_241 (rfl : 241 + 3 = 244) ?_
        refine z_iload h 5 dX12_readIt_244 rfl (rfl : 244 + 2 = 246) ?_
        obtain ⟨b43, hf⟩ := zchk hf
        refine z_zald h rfl b43 dX12_readIt_246 (rfl : 246 + 1 = 247) ?_
        refine z_if_eq (pc' := 250) h 254 dX12_readIt_247 (by decide) rfl (fun c44 => ?_) (fun c44 => ?_)
        · have hf := zitt c44 hf
          refine z_aload_n h 0 dX12_readIt_254 rfl (rfl : 254 + 1 = 255) ?_
          refine z_getr (ci := 11) (C := RX12) (T := TX12) (N := 46) h 43 175 ((hJ.1 147 43 (by decide)).trans rfl) rfl rfl (fun _ hq => List.mem_cons_of_mem _ (List.mem_append_right _ hq)) (by decide) (List.mem_of_getElem? (i := 6) rfl) rfl dX12_readIt_255 (rfl : 255 + 3 = 258) ?_
          refine z_iload h 5 dX12_readIt_258 rfl (rfl : 258 + 2 = 260) ?_
          obtain ⟨b45, hf⟩ := zchk hf
          refine z_iald h rfl b45 dX12_readIt_260 (rfl : 260 + 1 = 261) ?_
          obtain ⟨b46, hf⟩ := zchk hf
          refine z_iast h b46 rfl dX12_readIt_261 (rfl : 261 + 1 = 262) ?_
          refine z_iinc h 5 (x5_227 + 1) [(5, .int (x5_227 + 1)), (0, .ref (za B 147)), (1, .int v1), (2, .int v2), (3, .int a9.1), (4, .int a9.2.1)] dX12_readIt_262 rfl rfl (by decide) rfl (rfl : 262 + 3 = 265) ?_
          refine z_goto (pc' := 227) h dX12_readIt_265 (by decide) ?_
          refine z_sub (L' := [(0, .ref (za B 147)), (1, .int v1), (2, .int v2), (3, .int a9.1), (4, .int a9.2.1), (5, .int (x5_227 + 1))]) [1, 2, 3, 4, 5, 0] rfl ?_
          exact ih (x5_227 + 1) (zu I227 175 (Int32.toNatClampNeg x5_227) (I227 175 (Int32.toNatClampNeg x5_227))) _ hf hP hE
        · have hf := zitf c44 hf
          refine z_iconst h 0 dX12_readIt_250 (by decide) (rfl : 250 + 1 = 251) ?_
          refine z_goto (pc' := 261) h dX12_readIt_251 (by decide) ?_
          obtain ⟨b47, hf⟩ := zchk hf
          refine z_iast h b47 rfl dX12_readIt_261 (rfl : 261 + 1 = 262) ?_
          refine z_iinc h 5 (x5_227 + 1) [(5, .int (x5_227 + 1)), (0, .ref (za B 147)), (1, .int v1), (2, .int v2), (3, .int a9.1), (4, .int a9.2.1)] dX12_readIt_262 rfl rfl (by decide) rfl (rfl : 262 + 3 = 265) ?_
          refine z_goto (pc' := 227) h dX12_readIt_265 (by decide) ?_
          refine z_sub (L' := [(0, .ref (za B 147)), (1, .int v1), (2, .int v2), (3, .int a9.1), (4, .int a9.2.1), (5, .int (x5_227 + 1))]) [1, 2, 3, 4, 5, 0] rfl ?_
          exact ih (x5_227 + 1) (zu I227 175 (Int32.toNatClampNeg x5_227) 0) _ hf hP hE
  refine z_sub (L' := [(0, .ref (za B 147)), (1, .int v1), (2, .int v2), (3, .int a9.1), (4, .int a9.2.1), (5, .int 0)]) [1, 2, 3, 4, 5, 0] rfl ?_
  obtain ⟨q40, e41, hf⟩ := zbind hf
  refine loop_227_41 _ 0 a39.2 q40 e41 (fun a ha => ?_) (fun a48 ha  => ?_)
  · have hf := zell ha hf
    exact zsome hf
  have hf := zelr ha hf
  clear ha loop_227_41
  refine z_vret h hr dX12_readIt_268 ?_
  exact ⟨(zsome hf), rfl⟩
noncomputable def f_X12_answerNumber_4 (J : zJ)  : Nat → Int32 → Int32 → zM → Option ((Int32 × zM) ⊕ (Int32 × Int32 × zM))
  | 0, _, _, _ => none
  | n + 1, x1_4, x2_4, I4 => (if 6 ≤ x2_4 then some (.inr (x1_4, x2_4, I4)) else (if zin x2_4 6 = true then f_X12_answerNumber_4 J  n (((6 : Int32) * x1_4) + (I4 175 (Int32.toNatClampNeg x2_4))) (x2_4 + 1) I4 else none))
noncomputable def f_X12_answerNumber (J : zJ)  (I : zM) : Option (Int32 × zM) := ((f_X12_answerNumber_4 J  zF 0 0 I).bind fun q => Sum.elim (fun a => some a) (fun a3 => some ((a3.1, a3.2.2))) q)
noncomputable abbrev rmX12_answerNumber : Room := { frames := 0, cells := 0, slots := 0, locals := 0 }
theorem zyX12_answerNumber : zY yX12_answerNumber wsX12_answerNumber cX12_answerNumber 3 (some .int) 0 := ⟨⟨_, rfl⟩, by decide +kernel⟩
set_option maxHeartbeats 1000000 in
set_option maxRecDepth 100000 in
theorem c_X12_answerNumber (B : zB) (I : zM) (J : zJ) (hJ : zJok J)  (r : Int32) (I' : zM) (hf : f_X12_answerNumber J  I = some (r, I')) : zCi B zKW I J yX12_answerNumber wsX12_answerNumber rmX12_answerNumber [.ref (za B 147)] (fun r2 I2 J2 => r2 = r ∧ I2 = I' ∧ J2 = J) := by
  refine z_start (own := RX12) (cc := cX12_answerNumber) (nL := 3) (ret := (some .int)) rfl (by decide) rfl (Nat.le_of_ble_eq_true rfl) (L := [(0, .ref (za B 147))]) rfl (fun G h hr => ?_)
  rw [f_X12_answerNumber] at hf
  refine z_iconst h 0 dX12_answerNumber_0 (by decide) (rfl : 0 + 1 = 1) ?_
  refine z_istore_n h [(1, .int 0), (0, .ref (za B 147))] dX12_answerNumber_1 (by decide) rfl (rfl : 1 + 1 = 2) ?_
  refine z_iconst h 0 dX12_answerNumber_2 (by decide) (rfl : 2 + 1 = 3) ?_
  refine z_istore_n h [(2, .int 0), (1, .int 0), (0, .ref (za B 147))] dX12_answerNumber_3 (by decide) rfl (rfl : 3 + 1 = 4) ?_
  have loop_4_2 : ∀ (n : Nat) (x1_4 : Int32) (x2_4 : Int32) (I4 : zM) (q : (Int32 × zM) ⊕ (Int32 × Int32 × zM)), f_X12_answerNumber_4 J  n x1_4 x2_4 I4 = some q → (∀ a, q = .inl a → a = (r, I')) → (∀ a : Int32 × Int32 × zM, q = .inr a → Z B G zKW (a.2.2) (J) (0, 0) 28 [(0, .ref (za B 147)), (1, .int a.1), (2, .int a.2.1)] []) → Z B G zKW I4 J (0, 0) 4 [(0, .ref (za B 147)), (1, .int x1_4), (2, .int x2_4)] [] := by
    intro n; induction n with
    | zero => intro x1_4 x2_4 I4 q hf; exact absurd hf (by rw [f_X12_answerNumber_4]; exact fun z => by cases z)
    | succ n ih =>
      intro x1_4 x2_4 I4 q hf hP hE; rw [f_X12_answerNumber_4] at hf
      refine z_iload_n h 2 dX12_answerNumber_4 rfl (rfl : 4 + 1 = 5) ?_
      refine z_bipush h 6 dX12_answerNumber_5 (by decide) (rfl : 5 + 2 = 7) ?_
      refine z_icmp_ge (pc' := 10) h 28 dX12_answerNumber_7 (by decide) rfl (fun c3 => ?_) (fun c3 => ?_)
      · have hf := zitt c3 hf
        exact hE (x1_4, x2_4, I4) (zsome hf).symm
      · have hf := zitf c3 hf
        refine z_bipush h 6 dX12_answerNumber_10 (by decide) (rfl : 10 + 2 = 12) ?_
        refine z_iload_n h 1 dX12_answerNumber_12 rfl (rfl : 12 + 1 = 13) ?_
        refine z_imul h dX12_answerNumber_13 (rfl : 13 + 1 = 14) ?_
        refine z_aload_n h 0 dX12_answerNumber_14 rfl (rfl : 14 + 1 = 15) ?_
        refine z_getr (ci := 11) (C := RX12) (T := TX12) (N := 46) h 43 175 ((hJ.1 147 43 (by decide)).trans rfl) rfl rfl (fun _ hq => List.mem_cons_of_mem _ (List.mem_append_right _ hq)) (by decide) (List.mem_of_getElem? (i := 1) rfl) rfl dX12_answerNumber_15 (rfl : 15 + 3 = 18) ?_
        refine z_iload_n h 2 dX12_answerNumber_18 rfl (rfl : 18 + 1 = 19) ?_
        obtain ⟨b4, hf⟩ := zchk hf
        refine z_iald h rfl b4 dX12_answerNumber_19 (rfl : 19 + 1 = 20) ?_
        refine z_iadd h dX12_answerNumber_20 (rfl : 20 + 1 = 21) ?_
        refine z_istore_n h [(1, .int (((6 : Int32) * x1_4) + (I4 175 (Int32.toNatClampNeg x2_4)))), (0, .ref (za B 147)), (2, .int x2_4)] dX12_answerNumber_21 (by decide) rfl (rfl : 21 + 1 = 22) ?_
        refine z_iinc h 2 (x2_4 + 1) [(2, .int (x2_4 + 1)), (1, .int (((6 : Int32) * x1_4) + (I4 175 (Int32.toNatClampNeg x2_4)))), (0, .ref (za B 147))] dX12_answerNumber_22 rfl rfl (by decide) rfl (rfl : 22 + 3 = 25) ?_
        refine z_goto (pc' := 4) h dX12_answerNumber_25 (by decide) ?_
        refine z_sub (L' := [(0, .ref (za B 147)), (1, .int (((6 : Int32) * x1_4) + (I4 175 (Int32.toNatClampNeg x2_4)))), (2, .int (x2_4 + 1))]) [2, 1, 0] rfl ?_
        exact ih (((6 : Int32) * x1_4) + (I4 175 (Int32.toNatClampNeg x2_4))) (x2_4 + 1) I4 _ hf hP hE
  refine z_sub (L' := [(0, .ref (za B 147)), (1, .int 0), (2, .int 0)]) [2, 1, 0] rfl ?_
  obtain ⟨q1, e2, hf⟩ := zbind hf
  refine loop_4_2 _ 0 0 I q1 e2 (fun a ha => ?_) (fun a5 ha  => ?_)
  · have hf := zell ha hf
    exact zsome hf
  have hf := zelr ha hf
  clear ha loop_4_2
  refine z_iload_n h 1 dX12_answerNumber_28 rfl (rfl : 28 + 1 = 29) ?_
  refine z_iret h hr dX12_answerNumber_29 ?_
  exact ⟨congrArg Prod.fst (zsome hf), congrArg Prod.snd (zsome hf), rfl⟩
noncomputable def f_X12_noReading (J : zJ) (v1 : Int32) (v2 : Int32) (I : zM) : Option (Int32 × zM) := ((f_X12_noBargain J v1 I).bind fun q1 => (if q1.1 = 0 then ((f_X12_noOrder J v2 q1.2).bind fun q4 => (if q4.1 = 0 then some ((0, q4.2)) else some ((1, q4.2)))) else some ((1, q1.2))))
noncomputable abbrev rmX12_noReading : Room := { frames := 2, cells := 0, slots := 0, locals := 46 }
theorem zyX12_noReading : zY yX12_noReading wsX12_noReading cX12_noReading 3 (some .boolean) 2 := ⟨⟨_, rfl⟩, by decide +kernel⟩
theorem zrX12_noReading_X12_noBargain : zRm rmX12_noBargain rmX12_noReading 2 := ⟨rfl, rfl, by decide, by decide⟩
theorem zrX12_noReading_X12_noOrder : zRm rmX12_noOrder rmX12_noReading 1 := ⟨rfl, rfl, by decide, by decide⟩
set_option maxHeartbeats 1000000 in
set_option maxRecDepth 100000 in
theorem c_X12_noReading (B : zB) (I : zM) (J : zJ) (hJ : zJok J) (v1 : Int32) (v2 : Int32) (r : Int32) (I' : zM) (hf : f_X12_noReading J v1 v2 I = some (r, I')) : zCi B zKW I J yX12_noReading wsX12_noReading rmX12_noReading [.ref (za B 147), .int v1, .int v2] (fun r2 I2 J2 => r2 = r ∧ I2 = I' ∧ J2 = J) := by
  refine z_start (own := RX12) (cc := cX12_noReading) (nL := 3) (ret := (some .boolean)) rfl (by decide) rfl (Nat.le_of_ble_eq_true rfl) (L := [(0, .ref (za B 147)), (1, .int v1), (2, .int v2)]) rfl (fun G h hr => ?_)
  rw [f_X12_noReading] at hf
  refine z_aload_n h 0 dX12_noReading_0 rfl (rfl : 0 + 1 = 1) ?_
  refine z_iload_n h 1 dX12_noReading_1 rfl (rfl : 1 + 1 = 2) ?_
  obtain ⟨q1, e2, hf⟩ := zbind hf
  refine z_goF (z_runV (C := RX12) (T := TX12) (N := 46) (ci := 11) h [.int v1] [] zyX12_noBargain (c_X12_noBargain B I J hJ v1 _ _ e2) gX12_noReading_X12_noBargain rfl rfl rfl zrX12_noReading_X12_noBargain rfl (Nat.le_of_ble_eq_true rfl) ⟨Nat.zero_le _, Nat.zero_le _⟩ rfl dX12_noReading_2) rfl ?_
  refine z_if_ne (pc' := 8) h 15 dX12_noReading_5 (by decide) rfl (fun c3 => ?_) (fun c3 => ?_)
  · have hf := zitf c3 hf
    refine z_iconst h 1 dX12_noReading_15 (by decide) (rfl : 15 + 1 = 16) ?_
    refine z_goto (pc' := 20) h dX12_noReading_16 (by decide) ?_
    refine z_zret h hr dX12_noReading_20 (Or.inr rfl) ?_
    exact ⟨congrArg Prod.fst (zsome hf), congrArg Prod.snd (zsome hf), rfl⟩
  · have hf := zitt c3 hf
    refine z_iload_n h 2 dX12_noReading_8 rfl (rfl : 8 + 1 = 9) ?_
    obtain ⟨q4, e5, hf⟩ := zbind hf
    refine z_goF (z_runS h [.int v2] [] zyX12_noOrder (c_X12_noOrder B q1.2 J hJ v2 _ _ e5) gX12_noReading_X12_noOrder zrX12_noReading_X12_noOrder rfl (Nat.le_of_ble_eq_true rfl) ⟨Nat.zero_le _, Nat.zero_le _⟩ rfl dX12_noReading_9) rfl ?_
    refine z_if_eq (pc' := 15) h 19 dX12_noReading_12 (by decide) rfl (fun c6 => ?_) (fun c6 => ?_)
    · have hf := zitt c6 hf
      refine z_iconst h 0 dX12_noReading_19 (by decide) (rfl : 19 + 1 = 20) ?_
      refine z_zret h hr dX12_noReading_20 (Or.inl rfl) ?_
      exact ⟨congrArg Prod.fst (zsome hf), congrArg Prod.snd (zsome hf), rfl⟩
    · have hf := zitf c6 hf
      refine z_iconst h 1 dX12_noReading_15 (by decide) (rfl : 15 + 1 = 16) ?_
      refine z_goto (pc' := 20) h dX12_noReading_16 (by decide) ?_
      refine z_zret h hr dX12_noReading_20 (Or.inr rfl) ?_
      exact ⟨congrArg Prod.fst (zsome hf), congrArg Prod.snd (zsome hf), rfl⟩
noncomputable def f_X12_next (J : zJ) (v1 : Int32) (v2 : Int32) (v3 : Int32) (I : zM) : Option (Int32 × zM) := ((f_X12_noReading J v1 v2 (zu I 147 0 0)).bind fun q1 => (if q1.1 = 0 then ((f_X12_in J (Int32.toInt64 v3) 0 46655 q1.2).bind fun q4 => (if q4.1 = 0 then some (((-2), q4.2)) else ((f_X12_nextOf J v3 v1 v2 q4.2).bind fun q7 => some ((q7.1, q7.2))))) else some (((-1), q1.2))))
noncomputable abbrev rmX12_next : Room := { frames := 6, cells := 0, slots := 0, locals := 148 }
theorem zyX12_next : zY yX12_next wsX12_next cX12_next 4 (some .int) 3 := ⟨⟨_, rfl⟩, by decide +kernel⟩
theorem zrX12_next_X12_in : zRm rmX12_in rmX12_next 6 := ⟨rfl, rfl, by decide, by decide⟩
theorem zrX12_next_X12_nextOf : zRm rmX12_nextOf rmX12_next 4 := ⟨rfl, rfl, by decide, by decide⟩
theorem zrX12_next_X12_noReading : zRm rmX12_noReading rmX12_next 3 := ⟨rfl, rfl, by decide, by decide⟩
set_option maxHeartbeats 1000000 in
set_option maxRecDepth 100000 in
theorem c_X12_next (B : zB) (I : zM) (J : zJ) (hJ : zJok J) (v1 : Int32) (v2 : Int32) (v3 : Int32) (r : Int32) (I' : zM) (hf : f_X12_next J v1 v2 v3 I = some (r, I')) : zCi B zKW I J yX12_next wsX12_next rmX12_next [.ref (za B 147), .int v1, .int v2, .int v3] (fun r2 I2 J2 => r2 = r ∧ I2 = I' ∧ J2 = J) := by
  refine z_start (own := RX12) (cc := cX12_next) (nL := 4) (ret := (some .int)) rfl (by decide) rfl (Nat.le_of_ble_eq_true rfl) (L := [(0, .ref (za B 147)), (1, .int v1), (2, .int v2), (3, .int v3)]) rfl (fun G h hr => ?_)
  rw [f_X12_next] at hf
  refine z_aload_n h 0 dX12_next_0 rfl (rfl : 0 + 1 = 1) ?_
  refine z_iconst h 0 dX12_next_1 (by decide) (rfl : 1 + 1 = 2) ?_
  refine z_put (ci := 11) (C := RX12) (T := TX12) (N := 46) h 0 tyX12 tyX12_ok nmX12 rfl rfl (fun _ hq => List.mem_cons_of_mem _ (List.mem_append_right _ hq)) (by decide) (List.mem_of_getElem? (i := 1) rfl) rfl rfl rfl dX12_next_2 (rfl : 2 + 3 = 5) ?_
  refine z_aload_n h 0 dX12_next_5 rfl (rfl : 5 + 1 = 6) ?_
  refine z_iload_n h 1 dX12_next_6 rfl (rfl : 6 + 1 = 7) ?_
  refine z_iload_n h 2 dX12_next_7 rfl (rfl : 7 + 1 = 8) ?_
  obtain ⟨q1, e2, hf⟩ := zbind hf
  refine z_goF (z_runV (C := RX12) (T := TX12) (N := 46) (ci := 11) h [.int v1, .int v2] [] zyX12_noReading (c_X12_noReading B (zu I 147 0 0) J hJ v1 v2 _ _ e2) gX12_next_X12_noReading rfl rfl rfl zrX12_next_X12_noReading rfl (Nat.le_of_ble_eq_true rfl) ⟨Nat.zero_le _, Nat.zero_le _⟩ rfl dX12_next_8) rfl ?_
  refine z_if_eq (pc' := 14) h 16 dX12_next_11 (by decide) rfl (fun c3 => ?_) (fun c3 => ?_)
  · have hf := zitt c3 hf
    refine z_iload_n h 3 dX12_next_16 rfl (rfl : 16 + 1 = 17) ?_
    refine z_i2l h dX12_next_17 (rfl : 17 + 1 = 18) ?_
    refine z_lconst h 0 dX12_next_18 rfl (rfl : 18 + 1 = 19) ?_
    refine z_ldc2 h 46655 (List.mem_of_getElem? (i := 2) rfl) dX12_next_19 (rfl : 19 + 3 = 22) ?_
    obtain ⟨q4, e5, hf⟩ := zbind hf
    refine z_goF (z_runS h [.long (Int32.toInt64 v3), .long 0, .long 46655] [] zyX12_in (c_X12_in B q1.2 J hJ (Int32.toInt64 v3) 0 46655 _ _ e5) gX12_next_X12_in zrX12_next_X12_in rfl (Nat.le_of_ble_eq_true rfl) ⟨Nat.zero_le _, Nat.zero_le _⟩ rfl dX12_next_22) rfl ?_
    refine z_if_eq (pc' := 28) h 38 dX12_next_25 (by decide) rfl (fun c6 => ?_) (fun c6 => ?_)
    · have hf := zitt c6 hf
      refine z_bipush h (-2) dX12_next_38 (by decide) (rfl : 38 + 2 = 40) ?_
      refine z_iret h hr dX12_next_40 ?_
      exact ⟨congrArg Prod.fst (zsome hf), congrArg Prod.snd (zsome hf), rfl⟩
    · have hf := zitf c6 hf
      refine z_aload_n h 0 dX12_next_28 rfl (rfl : 28 + 1 = 29) ?_
      refine z_iload_n h 3 dX12_next_29 rfl (rfl : 29 + 1 = 30) ?_
      refine z_iload_n h 1 dX12_next_30 rfl (rfl : 30 + 1 = 31) ?_
      refine z_iload_n h 2 dX12_next_31 rfl (rfl : 31 + 1 = 32) ?_
      obtain ⟨q7, e8, hf⟩ := zbind hf
      refine z_goF (z_runV (C := RX12) (T := TX12) (N := 46) (ci := 11) h [.int v3, .int v1, .int v2] [] zyX12_nextOf (c_X12_nextOf B q4.2 J hJ v3 v1 v2 _ _ e8) gX12_next_X12_nextOf rfl rfl rfl zrX12_next_X12_nextOf rfl (Nat.le_of_ble_eq_true rfl) ⟨Nat.zero_le _, Nat.zero_le _⟩ rfl dX12_next_32) rfl ?_
      refine z_goto (pc' := 40) h dX12_next_35 (by decide) ?_
      refine z_iret h hr dX12_next_40 ?_
      exact ⟨congrArg Prod.fst (zsome hf), congrArg Prod.snd (zsome hf), rfl⟩
  · have hf := zitf c3 hf
    refine z_iconst h (-1) dX12_next_14 (by decide) (rfl : 14 + 1 = 15) ?_
    refine z_iret h hr dX12_next_15 ?_
    exact ⟨congrArg Prod.fst (zsome hf), congrArg Prod.snd (zsome hf), rfl⟩
noncomputable def f_X12_rounds (J : zJ) (v1 : Int32) (v2 : Int32) (v3 : Int32) (I : zM) : Option (Int32 × zM) := ((f_X12_noReading J v1 v2 (zu I 147 0 0)).bind fun q1 => (if q1.1 = 0 then ((f_X12_readIt J v1 v2 q1.2).bind fun q4 => (if v3 = 0 then some ((q4 147 42, q4)) else some ((q4 147 40, q4)))) else some (((-1), q1.2))))
noncomputable abbrev rmX12_rounds : Room := { frames := 7, cells := 0, slots := 0, locals := 174 }
theorem zyX12_rounds : zY yX12_rounds wsX12_rounds cX12_rounds 4 (some .int) 3 := ⟨⟨_, rfl⟩, by decide +kernel⟩
theorem zrX12_rounds_X12_noReading : zRm rmX12_noReading rmX12_rounds 3 := ⟨rfl, rfl, by decide, by decide⟩
theorem zrX12_rounds_X12_readIt : zRm rmX12_readIt rmX12_rounds 7 := ⟨rfl, rfl, by decide, by decide⟩
set_option maxHeartbeats 1000000 in
set_option maxRecDepth 100000 in
theorem c_X12_rounds (B : zB) (I : zM) (J : zJ) (hJ : zJok J) (v1 : Int32) (v2 : Int32) (v3 : Int32) (r : Int32) (I' : zM) (hf : f_X12_rounds J v1 v2 v3 I = some (r, I')) : zCi B zKW I J yX12_rounds wsX12_rounds rmX12_rounds [.ref (za B 147), .int v1, .int v2, .int v3] (fun r2 I2 J2 => r2 = r ∧ I2 = I' ∧ J2 = J) := by
  refine z_start (own := RX12) (cc := cX12_rounds) (nL := 4) (ret := (some .int)) rfl (by decide) rfl (Nat.le_of_ble_eq_true rfl) (L := [(0, .ref (za B 147)), (1, .int v1), (2, .int v2), (3, .int v3)]) rfl (fun G h hr => ?_)
  rw [f_X12_rounds] at hf
  refine z_aload_n h 0 dX12_rounds_0 rfl (rfl : 0 + 1 = 1) ?_
  refine z_iconst h 0 dX12_rounds_1 (by decide) (rfl : 1 + 1 = 2) ?_
  refine z_put (ci := 11) (C := RX12) (T := TX12) (N := 46) h 0 tyX12 tyX12_ok nmX12 rfl rfl (fun _ hq => List.mem_cons_of_mem _ (List.mem_append_right _ hq)) (by decide) (List.mem_of_getElem? (i := 1) rfl) rfl rfl rfl dX12_rounds_2 (rfl : 2 + 3 = 5) ?_
  refine z_aload_n h 0 dX12_rounds_5 rfl (rfl : 5 + 1 = 6) ?_
  refine z_iload_n h 1 dX12_rounds_6 rfl (rfl : 6 + 1 = 7) ?_
  refine z_iload_n h 2 dX12_rounds_7 rfl (rfl : 7 + 1 = 8) ?_
  obtain ⟨q1, e2, hf⟩ := zbind hf
  refine z_goF (z_runV (C := RX12) (T := TX12) (N := 46) (ci := 11) h [.int v1, .int v2] [] zyX12_noReading (c_X12_noReading B (zu I 147 0 0) J hJ v1 v2 _ _ e2) gX12_rounds_X12_noReading rfl rfl rfl zrX12_rounds_X12_noReading rfl (Nat.le_of_ble_eq_true rfl) ⟨Nat.zero_le _, Nat.zero_le _⟩ rfl dX12_rounds_8) rfl ?_
  refine z_if_eq (pc' := 14) h 16 dX12_rounds_11 (by decide) rfl (fun c3 => ?_) (fun c3 => ?_)
  · have hf := zitt c3 hf
    refine z_aload_n h 0 dX12_rounds_16 rfl (rfl : 16 + 1 = 17) ?_
    refine z_iload_n h 1 dX12_rounds_17 rfl (rfl : 17 + 1 = 18) ?_
    refine z_iload_n h 2 dX12_rounds_18 rfl (rfl : 18 + 1 = 19) ?_
    obtain ⟨q4, e5, hf⟩ := zbind hf
    refine z_goFv (z_runV (C := RX12) (T := TX12) (N := 46) (ci := 11) h [.int v1, .int v2] [] zyX12_readIt (c_X12_readIt B q1.2 J hJ v1 v2 _ e5) gX12_rounds_X12_readIt rfl rfl rfl zrX12_rounds_X12_readIt rfl (Nat.le_of_ble_eq_true rfl) ⟨Nat.zero_le _, Nat.zero_le _⟩ rfl dX12_rounds_19) rfl ?_
    refine z_iload_n h 3 dX12_rounds_22 rfl (rfl : 22 + 1 = 23) ?_
    refine z_if_eq (pc' := 26) h 33 dX12_rounds_23 (by decide) rfl (fun c6 => ?_) (fun c6 => ?_)
    · have hf := zitt c6 hf
      refine z_aload_n h 0 dX12_rounds_33 rfl (rfl : 33 + 1 = 34) ?_
      refine z_get (ci := 11) (C := RX12) (T := TX12) (N := 46) h 42 rfl rfl (fun _ hq => List.mem_cons_of_mem _ (List.mem_append_right _ hq)) (by decide) (List.mem_of_getElem? (i := 3) rfl) rfl dX12_rounds_34 (rfl : 34 + 3 = 37) ?_
      refine z_iret h hr dX12_rounds_37 ?_
      exact ⟨congrArg Prod.fst (zsome hf), congrArg Prod.snd (zsome hf), rfl⟩
    · have hf := zitf c6 hf
      refine z_aload_n h 0 dX12_rounds_26 rfl (rfl : 26 + 1 = 27) ?_
      refine z_get (ci := 11) (C := RX12) (T := TX12) (N := 46) h 40 rfl rfl (fun _ hq => List.mem_cons_of_mem _ (List.mem_append_right _ hq)) (by decide) (List.mem_of_getElem? (i := 2) rfl) rfl dX12_rounds_27 (rfl : 27 + 3 = 30) ?_
      refine z_goto (pc' := 37) h dX12_rounds_30 (by decide) ?_
      refine z_iret h hr dX12_rounds_37 ?_
      exact ⟨congrArg Prod.fst (zsome hf), congrArg Prod.snd (zsome hf), rfl⟩
  · have hf := zitf c3 hf
    refine z_iconst h (-1) dX12_rounds_14 (by decide) (rfl : 14 + 1 = 15) ?_
    refine z_iret h hr dX12_rounds_15 ?_
    exact ⟨congrArg Prod.fst (zsome hf), congrArg Prod.snd (zsome hf), rfl⟩
noncomputable def f_X12_answer (J : zJ) (v1 : Int32) (v2 : Int32) (I : zM) : Option (Int32 × zM) := ((f_X12_noReading J v1 v2 (zu I 147 0 0)).bind fun q1 => (if q1.1 = 0 then ((f_X12_readIt J v1 v2 q1.2).bind fun q4 => ((f_X12_answerNumber J  q4).bind fun q6 => some ((q6.1, q6.2)))) else some (((-1), q1.2))))
noncomputable abbrev rmX12_answer : Room := { frames := 7, cells := 0, slots := 0, locals := 174 }
theorem zyX12_answer : zY yX12_answer wsX12_answer cX12_answer 3 (some .int) 2 := ⟨⟨_, rfl⟩, by decide +kernel⟩
theorem zrX12_answer_X12_answerNumber : zRm rmX12_answerNumber rmX12_answer 3 := ⟨rfl, rfl, by decide, by decide⟩
theorem zrX12_answer_X12_noReading : zRm rmX12_noReading rmX12_answer 3 := ⟨rfl, rfl, by decide, by decide⟩
theorem zrX12_answer_X12_readIt : zRm rmX12_readIt rmX12_answer 7 := ⟨rfl, rfl, by decide, by decide⟩
set_option maxHeartbeats 1000000 in
set_option maxRecDepth 100000 in
theorem c_X12_answer (B : zB) (I : zM) (J : zJ) (hJ : zJok J) (v1 : Int32) (v2 : Int32) (r : Int32) (I' : zM) (hf : f_X12_answer J v1 v2 I = some (r, I')) : zCi B zKW I J yX12_answer wsX12_answer rmX12_answer [.ref (za B 147), .int v1, .int v2] (fun r2 I2 J2 => r2 = r ∧ I2 = I' ∧ J2 = J) := by
  refine z_start (own := RX12) (cc := cX12_answer) (nL := 3) (ret := (some .int)) rfl (by decide) rfl (Nat.le_of_ble_eq_true rfl) (L := [(0, .ref (za B 147)), (1, .int v1), (2, .int v2)]) rfl (fun G h hr => ?_)
  rw [f_X12_answer] at hf
  refine z_aload_n h 0 dX12_answer_0 rfl (rfl : 0 + 1 = 1) ?_
  refine z_iconst h 0 dX12_answer_1 (by decide) (rfl : 1 + 1 = 2) ?_
  refine z_put (ci := 11) (C := RX12) (T := TX12) (N := 46) h 0 tyX12 tyX12_ok nmX12 rfl rfl (fun _ hq => List.mem_cons_of_mem _ (List.mem_append_right _ hq)) (by decide) (List.mem_of_getElem? (i := 1) rfl) rfl rfl rfl dX12_answer_2 (rfl : 2 + 3 = 5) ?_
  refine z_aload_n h 0 dX12_answer_5 rfl (rfl : 5 + 1 = 6) ?_
  refine z_iload_n h 1 dX12_answer_6 rfl (rfl : 6 + 1 = 7) ?_
  refine z_iload_n h 2 dX12_answer_7 rfl (rfl : 7 + 1 = 8) ?_
  obtain ⟨q1, e2, hf⟩ := zbind hf
  refine z_goF (z_runV (C := RX12) (T := TX12) (N := 46) (ci := 11) h [.int v1, .int v2] [] zyX12_noReading (c_X12_noReading B (zu I 147 0 0) J hJ v1 v2 _ _ e2) gX12_answer_X12_noReading rfl rfl rfl zrX12_answer_X12_noReading rfl (Nat.le_of_ble_eq_true rfl) ⟨Nat.zero_le _, Nat.zero_le _⟩ rfl dX12_answer_8) rfl ?_
  refine z_if_eq (pc' := 14) h 16 dX12_answer_11 (by decide) rfl (fun c3 => ?_) (fun c3 => ?_)
  · have hf := zitt c3 hf
    refine z_aload_n h 0 dX12_answer_16 rfl (rfl : 16 + 1 = 17) ?_
    refine z_iload_n h 1 dX12_answer_17 rfl (rfl : 17 + 1 = 18) ?_
    refine z_iload_n h 2 dX12_answer_18 rfl (rfl : 18 + 1 = 19) ?_
    obtain ⟨q4, e5, hf⟩ := zbind hf
    refine z_goFv (z_runV (C := RX12) (T := TX12) (N := 46) (ci := 11) h [.int v1, .int v2] [] zyX12_readIt (c_X12_readIt B q1.2 J hJ v1 v2 _ e5) gX12_answer_X12_readIt rfl rfl rfl zrX12_answer_X12_readIt rfl (Nat.le_of_ble_eq_true rfl) ⟨Nat.zero_le _, Nat.zero_le _⟩ rfl dX12_answer_19) rfl ?_
    refine z_aload_n h 0 dX12_answer_22 rfl (rfl : 22 + 1 = 23) ?_
    obtain ⟨q6, e7, hf⟩ := zbind hf
    refine z_goF (z_runV (C := RX12) (T := TX12) (N := 46) (ci := 11) h [] [] zyX12_answerNumber (c_X12_answerNumber B q4 J hJ  _ _ e7) gX12_answer_X12_answerNumber rfl rfl rfl zrX12_answer_X12_answerNumber rfl (Nat.le_of_ble_eq_true rfl) ⟨Nat.zero_le _, Nat.zero_le _⟩ rfl dX12_answer_23) rfl ?_
    refine z_iret h hr dX12_answer_26 ?_
    exact ⟨congrArg Prod.fst (zsome hf), congrArg Prod.snd (zsome hf), rfl⟩
  · have hf := zitf c3 hf
    refine z_iconst h (-1) dX12_answer_14 (by decide) (rfl : 14 + 1 = 15) ?_
    refine z_iret h hr dX12_answer_15 ?_
    exact ⟨congrArg Prod.fst (zsome hf), congrArg Prod.snd (zsome hf), rfl⟩
