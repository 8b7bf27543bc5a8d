set_option maxHeartbeats 4000000 in
set_option maxRecDepth 100000 in
theorem iq_1 : iI_0 1 1 = 0 ∧ iI_0 5 0 = 2 ∧ iI_0 147 8 = 2 ∧ iI_0 5 1 = 3 ∧ iI_0 147 9 = 3 ∧ iI_0 5 2 = 60 ∧ iI_0 147 10 = 60 ∧ iI_0 6 6 = 0 ∧ iI_0 6 7 = 0 ∧ iI_0 147 6 = 0 ∧ iI_0 16 1 = 0 ∧ iI_0 147 12 = 0 ∧ iI_0 18 1 = 0 ∧ iI_0 147 15 = 0 ∧ iI_0 0 9 = 0 ∧ iI_0 147 25 = 0 ∧ iI_0 39 3 = -9 ∧ iI_0 147 32 = -9 ∧ iI_0 147 39 = 0 := by decide +kernel
set_option maxHeartbeats 4000000 in
set_option maxRecDepth 100000 in
theorem iq_2 : ∀ k, k < 6 → iI_0 2 k = 0 ∧ iI_0 148 k = 0 ∧ iI_0 149 k = 0 ∧ iI_0 3 k = -9 ∧ iI_0 150 k = -9 ∧ iI_0 4 k = 0 ∧ iI_0 151 k = 0 := by decide +kernel
set_option maxHeartbeats 4000000 in
set_option maxRecDepth 100000 in
theorem iq_3 : ∀ f, f < 6 → ∀ k, k < 24 → iI_0 (6 + 1 + f) k = 0 ∧ iI_0 (75 + 1 + f) k = 0 ∧ iI_0 (83 + 1 + f) k = 0 := by decide +kernel
set_option maxHeartbeats 4000000 in
set_option maxRecDepth 100000 in
theorem iq_4 : ∀ j, j < 144 → iI_0 152 j = 0 := by decide +kernel
set_option maxHeartbeats 4000000 in
set_option maxRecDepth 100000 in
theorem iq_5 : ∀ j, j < 288 → iI_0 166 j = 0 := by decide +kernel
set_option maxHeartbeats 4000000 in
set_option maxRecDepth 100000 in
theorem iq_6 : ∀ j, j < 15 → iI_0 153 j = 0 := by decide +kernel
set_option maxHeartbeats 4000000 in
set_option maxRecDepth 100000 in
theorem iq_7 : ∀ j, j < 30 → iI_0 168 j = 0 := by decide +kernel
set_option maxHeartbeats 4000000 in
set_option maxRecDepth 100000 in
theorem iq_8 : ∀ s, s < 2 → iI_0 15 s = 0 ∧ iI_0 169 s = 0 ∧ iI_0 167 s = 0 ∧ iI_0 (75 + 8 * s) 6 = 0 ∧ iI_0 (75 + 8 * s) 7 = 0 := by decide +kernel
set_option maxHeartbeats 4000000 in
set_option maxRecDepth 100000 in
theorem iq_9 : ∀ w, w < 4 → iI_0 (91 + 2 * w) 1 = 5 ∧ iI_0 158 w = 5 := by decide +kernel
set_option maxHeartbeats 4000000 in
set_option maxRecDepth 100000 in
theorem iq_10 : ∀ w, w < 4 → ∀ k, k < 5 → iI_0 (92 + 2 * w) k = nI k ∧ iI_0 157 (5 * w + k) = nI k := by decide +kernel
set_option maxHeartbeats 4000000 in
set_option maxRecDepth 100000 in
theorem iq_11 : ∀ i, i < 8 → iI_0 (99 + 6 * i) 0 = 0 ∧ iI_0 159 i = 0 ∧ iI_0 (99 + 6 * i) 1 = 0 ∧ iI_0 160 i = 0 ∧ iI_0 (99 + 6 * i) 2 = 0 ∧ iI_0 161 i = 0 ∧ iI_0 (100 + 6 * i) 1 = 0 ∧ iI_0 163 i = 0 := by decide +kernel
set_option maxHeartbeats 4000000 in
set_option maxRecDepth 100000 in
theorem iq_12 : ∀ i, i < 8 → ∀ g, g < 6 → iI_0 (101 + 6 * i) g = 0 ∧ iI_0 162 (6 * i + g) = 0 ∧ iI_0 (103 + 6 * i) g = 0 ∧ iI_0 164 (12 * i + g) = 0 ∧ iI_0 (104 + 6 * i) g = 0 ∧ iI_0 164 (12 * i + 6 + g) = 0 := by decide +kernel
set_option maxHeartbeats 4000000 in
set_option maxRecDepth 100000 in
theorem iq_173 : ∀ k, iI_0 173 k = 0 := fun k => rfl
theorem zbt_0 (k : Nat) : ¬ zbt 0 k := by
  unfold zbt
  rw [zbt_lit0]
  decide
theorem iq_do {d t a : Nat} {sz : Int32} {b bo : Nat} (h1 : iI_0 d 6 = 0) (h2 : sz = 0) (h3 : ∀ k f, k < 24 → f < 6 → iI_0 (d + 1 + f) k = 0) (h4 : ∀ j, j < 144 → iI_0 t (a + j) = 0) (h5 : ∀ i, i < 15 → iI_0 b (bo + i) = 0) (h6 : iI_0 d 7 = 0) : qDo iI_0 d t a sz b bo := by
  refine ⟨0, by omega, h1, h2, fun k f hk hf => ?_, fun k hk => absurd hk (by omega), fun k hk => ?_, fun i hi => ?_⟩
  · rw [h3 k f hk hf, Nat.add_assoc, h4 _ (by omega)]
  · rw [Nat.add_assoc, h4 _ (by omega)]
    exact ⟨by decide, by decide⟩
  · rw [h5 i hi, h6]
    exact zb_f (zbt_0 i)
theorem iq_inv : zInv 0 iI_0 iJ_0 := by
  obtain ⟨a1, a2, a3, a4, a5, a6, a7, a8, a9, a10, a11, a12, a13, a14, a15, a16, a17, a18, a19⟩ := iq_1
  refine zInv_mk iJ_ok ?_ ?_ ?_ ?_ ?_ ?_ ?_ ?_ ?_ ⟨a17, a18⟩ ?_
  · intro r s hr hs h
    rw [iJ_rp hr, iJ_rp hs] at h
    omega
  · refine ⟨fun k hk => ?_, fun k hk => ?_, fun k hk => ?_⟩
    · obtain ⟨b1, b2, b3, b4, b5, b6, b7⟩ := iq_2 k hk
      rw [b1, b2]
      exact ⟨rfl, by decide, by decide⟩
    · obtain ⟨b1, b2, b3, b4, b5, b6, b7⟩ := iq_2 k hk
      rw [b3, a1]
      exact zb_f (zbt_0 k)
    · obtain ⟨b1, b2, b3, b4, b5, b6, b7⟩ := iq_2 k hk
      rw [b4, b5, b6, b7]
      exact ⟨rfl, rfl, Or.inl rfl⟩
  · unfold qTm
    rw [a2, a3, a4, a5, a6, a7]
    exact ⟨⟨rfl, by decide, by decide⟩, ⟨rfl, by decide, by decide⟩, ⟨rfl, by decide, by decide⟩⟩
  · exact iq_do a8 a10 (fun k f hk hf => (iq_3 f hf k hk).1) (fun j hj => by rw [Nat.zero_add]; exact iq_4 j hj) (fun i hi => by rw [Nat.zero_add]; exact iq_6 i hi) a9
  · intro s hs
    obtain ⟨b1, b2, b3, b4, b5⟩ := iq_8 s hs
    refine ⟨iq_do b4 b3 (fun k f hk hf => ?_) (fun j hj => iq_5 _ (by omega)) (fun i hi => iq_7 _ (by omega)) b5, ?_, ?_⟩
    · rcases (show s = 0 ∨ s = 1 by omega) with rfl | rfl
      · exact (iq_3 f hf k hk).2.1
      · exact (iq_3 f hf k hk).2.2
    · rw [b1, b2]
    · rw [b2]
      exact ⟨by decide, by decide⟩
  · exact ⟨0, by omega, a11, a12, fun k hk => absurd hk (by omega)⟩
  · exact ⟨0, by omega, a13, a14, fun k hk => absurd hk (by omega)⟩
  · intro w hw
    obtain ⟨b1, b2⟩ := iq_9 w hw
    refine ⟨5, by omega, by omega, b1, b2, fun k hk => ?_, fun i j hi hj h => ?_⟩
    · rw [(iq_10 w hw k hk).1, (iq_10 w hw k hk).2]
      exact ⟨rfl, zrg_of (by omega) (by omega) (by decide)⟩
    · rw [(iq_10 w hw i hi).2, (iq_10 w hw j hj).2] at h
      exact (nI_eq (by omega) (by omega)).mp h
  · refine ⟨0, by omega, a15, a16, fun i hi => ?_⟩
    obtain ⟨b1, b2, b3, b4, b5, b6, b7, b8⟩ := iq_11 i hi
    have zz : ∀ b : Nat, zrg 0 0 b := fun b => ⟨by decide, by show (0 : Int) ≤ (b : Int); omega⟩
    refine ⟨?_, ?_, ?_, fun g hg => ?_, ?_, fun g hg => ?_, fun g hg => ?_⟩
    · rw [b1, b2]; exact ⟨rfl, zz 4⟩
    · rw [b3, b4]; exact ⟨rfl, zz 4⟩
    · rw [b5, b6]; exact ⟨rfl, zz 2⟩
    · obtain ⟨c1, c2, c3, c4, c5, c6⟩ := iq_12 i hi g hg
      rw [c1, c2]; exact ⟨rfl, zz 5⟩
    · rw [b7, b8]; exact ⟨rfl, 0, by decide, rfl⟩
    · obtain ⟨c1, c2, c3, c4, c5, c6⟩ := iq_12 i hi g hg
      rw [c3, c4]; exact ⟨rfl, zz 5⟩
    · obtain ⟨c1, c2, c3, c4, c5, c6⟩ := iq_12 i hi g hg
      rw [c5, c6]; exact ⟨rfl, zz 5⟩
  · exact ⟨0, by omega, a19, fun k _ => ⟨0, by omega, iq_173 k⟩⟩
