/-! ===== since ===== -/
/-- the slot's doings as a row -/
def Tz (I : zM) (s : Nat) : Nat → Int32 := fun j => if j < 144 then I 166 (144 * s + j) else I 152 j
theorem Tz_at {I : zM} {s j : Nat} (h : j < 144) : Tz I s j = I 166 (144 * s + j) := if_pos h
theorem sl_do {I : zM} {s : Nat} (hs : s < 2) (h : qKep I) : ∃ nn, nn ≤ 24 ∧ vDo I (75 + 8 * s) (Tz I s) nn ∧ vVa (Tz I s) nn ∧ I 167 s = nI nn ∧ ∀ i, i < 15 → I 168 (15 * s + i) = zb (zbt (I (75 + 8 * s) 7) i) := by
  obtain ⟨⟨m, q1, q2, q3, q4, q5, q6, q7⟩, -, -⟩ := h s hs
  refine ⟨m, q1, ⟨q1, q2, zr_d7 s hs, fun k f hk hf => ?_⟩, fun k hk => ?_, q3, q7⟩
  · rw [Tz_at (by omega), ← Nat.add_assoc]
    exact q4 k f hk hf
  · obtain ⟨v, h1, h2, h3⟩ := zrg_nI (q5 k hk).2.2.2.2 (by decide)
    exact ⟨v, h1, by omega, by rw [Tz_at (by omega), ← Nat.add_assoc]; exact h3⟩
/-- the twin beside I, the current doings being kept in the third slot -/
def zTs (I T : zM) : Prop := (∀ p, 90 < p → p ≠ 147 → p ≠ 166 → p ≠ 167 → p ≠ 168 → (p < 170 ∨ 178 ≤ p) → T p = I p) ∧ (∀ k, k < 39 → k ≠ 0 → T 147 k = I 147 k) ∧ ((∀ x, x < 288 → T 166 x = I 166 x) ∧ ∀ j, j < 144 → T 166 (288 + j) = I 152 j) ∧ ((∀ x, x < 30 → T 168 x = I 168 x) ∧ ∀ i, i < 15 → T 168 (30 + i) = I 153 i) ∧ ((∀ x, x < 2 → T 167 x = I 167 x) ∧ T 167 2 = I 147 6)
theorem zTs.tv {I T T' : zM} (h : zTs I T) (g : zTv T T') : zTs I T' := by
  obtain ⟨a1, a2, a3, a4, a5⟩ := h
  refine ⟨fun p h1 h2 h3 h4 h5 h6 => (g.1 p h2 h6).trans (a1 p h1 h2 h3 h4 h5 h6), fun k h1 h2 => (g.2 k h1).trans (a2 k h1 h2), ?_, ?_, ?_⟩
  · rw [g.1 166 (by decide) (by decide)]; exact a3
  · rw [g.1 168 (by decide) (by decide)]; exact a4
  · rw [g.1 167 (by decide) (by decide)]; exact a5
theorem zTs_g {I T : zM} {nn b : Nat} (hv : qDoi I) (h6 : I 147 6 = nI nn) (h : zTs I T) (hl : I 147 32 = -9) : zTg I b (fun g => I 162 (6 * b + g)) (I 152) nn (zbt (I 6 7)) (-9) (I 147 33) T := by
  have e : ∀ p, 90 < p ∧ p < 166 ∧ p ≠ 147 → T p = I p := fun p hp => h.1 p (by omega) (by omega) (by omega) (by omega) (by omega) (by omega)
  exact ⟨⟨e 148 (by decide), e 150 (by decide), e 151 (by decide), e 155 (by decide), e 159 (by decide), e 160 (by decide), e 161 (by decide), e 163 (by decide)⟩, fun g _ => by rw [e 162 (by decide)], ⟨e 152 (by decide), (h.2.1 6 (by decide) (by decide)).trans h6, fun i hi => by rw [e 153 (by decide)]; exact qDoi_told hv i hi⟩, ⟨h.2.1 15 (by decide) (by decide), h.2.1 8 (by decide) (by decide), h.2.1 9 (by decide) (by decide), h.2.1 10 (by decide) (by decide)⟩, (h.2.1 32 (by decide) (by decide)).trans hl, h.2.1 33 (by decide) (by decide)⟩
theorem l_si (J : zJ) {I : zM} {o s mb : Nat} {A B : Nat → Nat} {G : zM → Prop} (ho : o < 4) (hs : s < 2) (hmb : mb ≤ 8) (hA : ∀ i, A i < 46656) (hB : ∀ i, B i < 46656) (hG : ∀ I', G I' → I' 0 9 = nI mb) (hr : ∀ i I', i < 8 → G I' → ∃ I1 I2 I3, f_X11_read J (nI i) (nI o) I' = some I1 ∧ I1 39 14 = nI (A i) ∧ f_X5_take J (99 + 6 * i) (75 + 8 * s) I1 = some I2 ∧ f_X5_read J (91 + 2 * o) I2 = some I3 ∧ I3 39 14 = nI (B i) ∧ G I3) : ∀ j i fuel x I', i + j = mb → j < fuel → G I' → ∃ y I'', f_X11_since_33 J (nI o) (nI s) fuel (nI x) (nI i) I' = some (.inr (nI (x + sCt (fun i => A i ≠ B i) j i), y, I'')) ∧ G I'' := by
  have z0 : zin (nI (o)) 4 = true := zin_nI (by omega) (by decide)
  have c0 : Int32.toNatClampNeg (nI (o)) = o := nI_clamp (by omega)
  have z2 : zin (nI (s)) 2 = true := zin_nI (by omega) (by decide)
  have c2 : Int32.toNatClampNeg (nI (s)) = s := nI_clamp (by omega)
  intro j
  induction j with
  | zero =>
    intro i fuel x I' hi hf hI
    obtain ⟨n, rfl⟩ : ∃ n, fuel = n + 1 := ⟨fuel - 1, by omega⟩
    have e : i = mb := by omega
    subst e
    refine ⟨nI i, I', ?_, hI⟩
    unfold f_X11_since_33
    rw [hG I' hI, if_pos (nI_le (Nat.le_refl _) (by omega))]
    rfl
  | succ j ih =>
    intro i fuel x I' hi hf hI
    obtain ⟨n, rfl⟩ : ∃ n, fuel = n + 1 := ⟨fuel - 1, by omega⟩
    have hi8 : i < 8 := by omega
    have z1 : zin (nI (i)) 8 = true := zin_nI (by omega) (by decide)
    have c1 : Int32.toNatClampNeg (nI (i)) = i := nI_clamp (by omega)
    obtain ⟨I1, I2, I3, k1, k2, k3, k4, k5, k6⟩ := hr i I' hi8 hI
    have ng : ¬ nI mb ≤ nI i := nI_ge (by omega) (by omega)
    have la := hA i
    have lb := hB i
    by_cases c : A i = B i
    · obtain ⟨y, I'', e1, e2⟩ := ih (i + 1) n x I3 (by omega) (by omega) k6
      refine ⟨y, I'', ?_, e2⟩
      rw [sCt_n (P := fun i => A i ≠ B i) (fun q => q c)]
      unfold f_X11_since_33
      rw [hG I' hI, if_neg ng, k1, Option.bind_some, if_pos z1, if_pos z2, c1, c2, zr_34 i hi8, zr_14 s hs, k3, Option.bind_some, if_pos z0, c0, zr_33 o ho, k4, Option.bind_some, k5, k2, if_pos (congrArg nI c.symm), q_a1]
      exact e1
    · obtain ⟨y, I'', e1, e2⟩ := ih (i + 1) n (x + 1) I3 (by omega) (by omega) k6
      refine ⟨y, I'', ?_, e2⟩
      rw [sCt_p (P := fun i => A i ≠ B i) c, ← Nat.add_assoc]
      unfold f_X11_since_33
      rw [hG I' hI, if_neg ng, k1, Option.bind_some, if_pos z1, if_pos z2, c1, c2, zr_34 i hi8, zr_14 s hs, k3, Option.bind_some, if_pos z0, c0, zr_33 o ho, k4, Option.bind_some, k5, k2, if_neg (fun z => c ((nI_eq (by omega) (by omega)).mp z).symm), q_a1, q_a1]
      exact e1
theorem uNl_0 {A B : Nat} (hA : A < 46656) (hB : B < 46656) : zset (uNl A B) = 0 ↔ A = B := by
  rw [zset_eq0]
  constructor
  · intro h
    exact dig_ext hA hB (fun g hg => by
      by_cases c : dig A g = dig B g
      · exact c
      · exact absurd c (h g hg))
  · rintro rfl i hi q
    exact q rfl
theorem t_si (J : zJ) {o s mb : Nat} {A B : Nat → Nat} {G : Nat → zM → Prop} (hmb : mb ≤ 8) (hA : ∀ i, A i < 46656) (hB : ∀ i, B i < 46656) (hG : ∀ S T, G S T → T 147 25 = nI mb) (hr : ∀ i S T, i < 8 → S < 800000 → G S T → ∃ T1 T2 T3 T4 T5, f_X12_readIt J (nI i) (nI o) T = some T1 ∧ f_X12_put J T1 = some T2 ∧ f_X12_load J (nI s) T2 = some T3 ∧ f_X12_readIt J (nI i) (nI o) T3 = some T4 ∧ f_X12_unlike J T4 = some (zset (uNl (A i) (B i)), T4) ∧ f_X12_load J 2 T4 = some T5 ∧ G (S + 2) T5) : ∀ j i fuel x S T, i + j = mb → j < fuel → S + 2 * j < 800000 → G S T → ∃ y T', f_X12_since_43 J (nI o) (nI s) fuel (nI x) (nI i) T = some (.inr (nI (x + sCt (fun i => A i ≠ B i) j i), y, T')) ∧ G (S + 2 * j) T' := by
  intro j
  induction j with
  | zero =>
    intro i fuel x S T hi hf hS hT
    obtain ⟨n, rfl⟩ : ∃ n, fuel = n + 1 := ⟨fuel - 1, by omega⟩
    have e : i = mb := by omega
    subst e
    refine ⟨nI i, T, ?_, hT⟩
    unfold f_X12_since_43
    rw [hG S T hT, if_pos (nI_le (Nat.le_refl _) (by omega))]
    rfl
  | succ j ih =>
    intro i fuel x S T hi hf hS hT
    obtain ⟨n, rfl⟩ : ∃ n, fuel = n + 1 := ⟨fuel - 1, by omega⟩
    obtain ⟨T1, T2, T3, T4, T5, k1, k2, k3, k4, k5, k6, k7⟩ := hr i S T (by omega) (by omega) hT
    have ng : ¬ nI mb ≤ nI i := nI_ge (by omega) (by omega)
    rw [show S + 2 * (j + 1) = S + 2 + 2 * j by omega]
    by_cases c : A i = B i
    · obtain ⟨y, T', e1, e2⟩ := ih (i + 1) n x (S + 2) T5 (by omega) (by omega) (by omega) k7
      refine ⟨y, T', ?_, e2⟩
      rw [sCt_n (P := fun i => A i ≠ B i) (fun q => q c)]
      unfold f_X12_since_43
      rw [hG S T hT, if_neg ng, k1, Option.bind_some, k2, Option.bind_some, k3, Option.bind_some, k4, Option.bind_some, k5, Option.bind_some, if_pos ((uNl_0 (hA i) (hB i)).mpr c)]
      show ((f_X12_load J 2 T4).bind _) = _
      rw [k6, Option.bind_some, q_a1, q_a0]
      exact e1
    · obtain ⟨y, T', e1, e2⟩ := ih (i + 1) n (x + 1) (S + 2) T5 (by omega) (by omega) (by omega) k7
      refine ⟨y, T', ?_, e2⟩
      rw [sCt_p (P := fun i => A i ≠ B i) c, ← Nat.add_assoc]
      unfold f_X12_since_43
      rw [hG S T hT, if_neg ng, k1, Option.bind_some, k2, Option.bind_some, k3, Option.bind_some, k4, Option.bind_some, k5, Option.bind_some, if_neg (fun z => c ((uNl_0 (hA i) (hB i)).mp z))]
      show ((f_X12_load J 2 T4).bind _) = _
      rw [k6, Option.bind_some, q_a1, q_a1]
      exact e1
theorem zInw_ts {I I1 T : zM} {J : zJ} (hv : zInw I J) (h1 : zCl I I1) (h2 : zTs I T) (h3 : ∀ p, p ≤ 90 → T p = I1 p) : zInw T J := by
  have e : ∀ p, ((p < 35 ∨ 75 ≤ p) ∧ p ≠ 13 ∧ p ≠ 82 ∧ p ≠ 90 ∧ p ≠ 147 ∧ p ≠ 166 ∧ p ≠ 167 ∧ p ≠ 168 ∧ (p < 170 ∨ 178 ≤ p)) → T p = I p := fun p hp => by
    by_cases h : p ≤ 90
    · exact (h3 p h).trans (h1 p (by omega) (by omega) (by omega) (by omega))
    · exact h2.1 p (by omega) (by omega) (by omega) (by omega) (by omega) (by omega)
  obtain ⟨v1, v2, v3, v4, v5, v6, v7, v8, v9, v10⟩ := hv
  have z : ∀ lo hi, (hi ≤ 13 ∨ (13 < lo ∧ hi ≤ 35) ∨ (90 < lo ∧ hi ≤ 147) ∨ (147 < lo ∧ hi ≤ 166)) → zS I T lo hi := fun lo hi hh p a b => e p (by omega)
  have k7 : ∀ k, k < 39 ∧ k ≠ 0 → T 147 k = I 147 k := fun k hk => h2.2.1 k hk.1 hk.2
  refine ⟨v1, v2, qGap_cg (z _ _ (by decide)) (z _ _ (by decide)) v3, qTm_cg (z _ _ (by decide)) (k7 8 (by decide)) (k7 9 (by decide)) (k7 10 (by decide)) v4, qDoi_cg (z _ _ (by decide)) (z _ _ (by decide)) (k7 6 (by decide)) v5, fun s hs => ?_, qTxt_cg (z _ _ (by decide)) (z _ _ (by decide)) (k7 12 (by decide)) v7, qRul_cg v1 (z _ _ (by decide)) (z _ _ (by decide)) (k7 15 (by decide)) v8, qOrd_cg (z _ _ (by decide)) (fun j _ => by rw [e 157 (by decide)]) (fun j _ => by rw [e 158 (by decide)]) v9, qBar_cg (z _ _ (by decide)) (z _ _ (by decide)) (z _ _ (by decide)) (k7 25 (by decide)) v10⟩
  obtain ⟨q1, q2, q3⟩ := v6 s hs
  refine ⟨qDo_cg (fun p a b => e p (by omega)) (fun j a b => h2.2.2.1.1 j (by omega)) (h2.2.2.2.2.1 s hs) (fun i hi => h2.2.2.2.1.1 _ (by omega)) q1, ?_, ?_⟩
  · rw [e 15 (by decide), e 169 (by decide)]
    exact q2
  · rw [e 169 (by decide)]
    exact q3
theorem q_since : zS_since zInv := by
  intro n I J v1 v2 hn hv
  by_cases h1 : zrg v1 0 3
  case neg =>
    refine ⟨-1, I, zu I 147 0 0, ?_, ?_, zInv_thrown hv⟩
    · unfold f_X11_since
      rw [((ord_yn J v1 I).2 h1).1, Option.bind_some, if_pos rfl]
    · unfold f_X12_since
      rw [((ord_yn J v1 _).2 h1).2, Option.bind_some, if_neg i10]
  by_cases h2 : zrg v2 0 1
  case neg =>
    refine ⟨-1, I, zu I 147 0 0, ?_, ?_, zInv_thrown hv⟩
    · unfold f_X11_since
      rw [((ord_yn J v1 I).1 h1).1, Option.bind_some, if_neg i10, l_isSlot, ← zb_f h2, Option.bind_some, if_pos rfl]
    · unfold f_X12_since
      rw [((ord_yn J v1 _).1 h1).2, Option.bind_some, if_pos rfl, l_noSlot, ← zb_t (P := ¬ zrg v2 0 1) h2, Option.bind_some, if_neg i10]
  obtain ⟨o, -, ho3, rfl⟩ := zrg_nI h1 (by decide)
  obtain ⟨s, -, hs1, rfl⟩ := zrg_nI h2 (by decide)
  have ho : o < 4 := by omega
  have hs : s < 2 := by omega
  have z0 : zin (nI (s)) 2 = true := zin_nI (by omega) (by decide)
  have c0 : Int32.toNatClampNeg (nI (s)) = s := nI_clamp (by omega)
  have z3 : zin (nI (s)) 3 = true := zin_nI (by omega) (by decide)
  obtain ⟨-, g2, g3⟩ := hv.kep s hs
  by_cases c : I 169 s = 0
  · refine ⟨-3, I, zu I 147 0 0, ?_, ?_, zInv_thrown hv⟩
    · unfold f_X11_since
      rw [((ord_yn J _ I).1 h1).1, Option.bind_some, if_neg i10, l_isSlot, ← zb_t h2, Option.bind_some, if_neg i10, if_pos z0, c0, if_pos (g2.trans c)]
    · unfold f_X12_since
      rw [((ord_yn J _ _).1 h1).2, Option.bind_some, if_pos rfl, l_noSlot, ← zb_f (P := ¬ zrg (nI s) 0 1) (fun q => q h2), Option.bind_some, if_pos rfl, if_pos z3, c0, if_pos (show (zu I 147 0 0) 169 s = 0 by rw [zu_row (by decide)]; exact c)]
  obtain ⟨nn, w, h6⟩ := vDo_of hv.doi
  have hva := vVa_0 hv.doi w.2.1 w.1
  obtain ⟨n2, hn2, w2, hva2, e167, e168⟩ := sl_do hs hv.kep
  obtain ⟨mb, hm, g9, g25, gb⟩ := hv.bar
  have hvw := zInw_of hv
  have ex : ∀ i : Nat, ∃ A : Nat, A < 46656 ∧ (i < 8 → (∀ I', zCl I I' → I' 39 3 = -9 → ((-9 : Int32) = -9 ∨ I' 39 4 = I 147 33) → ∃ I0 I1, f_X5_take J (99 + 6 * i) 6 I' = some I0 ∧ f_X5_read J (91 + 2 * o) I0 = some I1 ∧ I1 39 14 = nI A ∧ zCl I' I1 ∧ I1 39 3 = -9 ∧ I1 39 4 = I' 39 4) ∧ ∀ T S, zTg I i (fun g => I 162 (6 * i + g)) (I 152) nn (zbt (I 6 7)) (-9) (I 147 33) T → T 158 o = I 158 o → (∀ x, x < 20 → T 157 x = I 157 x) → tQ S T → S < 900000 → ∃ T', f_X12_readIt J (nI i) (nI o) T = some T' ∧ zTw T T' ∧ tQ (S + 1) T' ∧ ∀ g, g < 6 → T' 175 g = nI (dig A g)) := fun i => by
    by_cases hi : i < 8
    · obtain ⟨A, a1, a2, a3⟩ := rdG J hvw hi ho w hva (Or.inl rfl) (-9) (I 147 33) (Or.inl rfl)
      exact ⟨A, a1, fun _ => ⟨a2, a3⟩⟩
    · exact ⟨0, by decide, fun h => absurd h hi⟩
  have ex2 : ∀ i : Nat, ∃ B : Nat, B < 46656 ∧ (i < 8 → (∀ I', zCl I I' → I' 39 3 = -9 → ((-9 : Int32) = -9 ∨ I' 39 4 = I 147 33) → ∃ I0 I1, f_X5_take J (99 + 6 * i) (75 + 8 * s) I' = some I0 ∧ f_X5_read J (91 + 2 * o) I0 = some I1 ∧ I1 39 14 = nI B ∧ zCl I' I1 ∧ I1 39 3 = -9 ∧ I1 39 4 = I' 39 4) ∧ ∀ T S, zTg I i (fun g => I 162 (6 * i + g)) (Tz I s) n2 (zbt (I (75 + 8 * s) 7)) (-9) (I 147 33) T → T 158 o = I 158 o → (∀ x, x < 20 → T 157 x = I 157 x) → tQ S T → S < 900000 → ∃ T', f_X12_readIt J (nI i) (nI o) T = some T' ∧ zTw T T' ∧ tQ (S + 1) T' ∧ ∀ g, g < 6 → T' 175 g = nI (dig B g)) := fun i => by
    by_cases hi : i < 8
    · obtain ⟨B, a1, a2, a3⟩ := rdG J hvw hi ho w2 hva2 (by omega) (-9) (I 147 33) (Or.inl rfl)
      exact ⟨B, a1, fun _ => ⟨a2, a3⟩⟩
    · exact ⟨0, by decide, fun h => absurd h hi⟩
  obtain ⟨A, hA⟩ := Classical.axiomOfChoice ex
  obtain ⟨B, hB⟩ := Classical.axiomOfChoice ex2
  have z5 : zin (nI (o)) 4 = true := zin_nI (by omega) (by decide)
  have c5 : Int32.toNatClampNeg (nI (o)) = o := nI_clamp (by omega)
  obtain ⟨y, I1, c1, c2, c3⟩ := l_si J (I := I) (o := o) (s := s) (mb := mb) (A := A) (B := B) (G := fun I' => zCl I I' ∧ I' 39 3 = -9) ho hs hm (fun i => (hA i).1) (fun i => (hB i).1) (fun I' h => by rw [h.1 0 (by decide) (by decide) (by decide) (by decide)]; exact g9) (fun i I' hi h => by
    have z6 : zin (nI (i)) 8 = true := zin_nI (by omega) (by decide)
    have c6 : Int32.toNatClampNeg (nI (i)) = i := nI_clamp (by omega)
    obtain ⟨I0, I1, k1, k2, k3, k4, k5, -⟩ := ((hA i).2 hi).1 I' h.1 h.2 (Or.inl rfl)
    obtain ⟨I2, I3, l1, l2, l3, l4, l5, -⟩ := ((hB i).2 hi).1 I1 (h.1.tr k4) k5 (Or.inl rfl)
    refine ⟨I1, I2, I3, ?_, k3, l1, l2, l3, (h.1.tr k4).tr l4, l5⟩
    unfold f_X11_read
    rw [if_pos z6, c6, zr_34 i hi, k1, Option.bind_some, if_pos z5, c5, zr_33 o ho, k2, Option.bind_some]) mb 0 zF 0 I (by omega) (by unfold zF; omega) ⟨zCl.rf, hv.law.1⟩
  have c1' : f_X11_since_33 J (nI o) (nI s) zF 0 0 I = _ := c1
  rw [Nat.zero_add] at c1'
  -- the twin
  obtain ⟨S, s1, s2⟩ := tQ_of hv c2
  have f153 : (zu I1 147 0 0) 153 = I 153 := (zu_row (by decide)).trans (zCl_at c2 (by decide))
  obtain ⟨T0, b1, b2, b3, b4, b5, b6, b7, b8⟩ := t_save J (I := zu I1 147 0 0) (s := 2) (by decide) (fun x hx => by rw [f153, qDoi_told hv.doi x hx]; exact nar_zb _)
  have b1' : f_X12_save J 2 (zu I1 147 0 0) = _ := b1
  have row : ∀ p, 90 < p → p ≠ 147 → (zu I1 147 0 0) p = I p := fun p a b => (zu_row b).trans (zCl_at c2 a)
  have k147 : ∀ k, k ≠ 0 → (zu I1 147 0 0) 147 k = I 147 k := fun k a => by rw [zu_offk a, zCl_at c2 (by decide)]
  have hT0 : zTs I T0 := by
    refine ⟨fun p h1 h2 h3 h4 h5 h6 => (b2 p h3 h4 h5).trans (row p h1 h2), fun k h1 h2 => by rw [b2 147 (by decide) (by decide) (by decide)]; exact k147 k h2, ⟨fun x hx => ?_, fun j hj => ?_⟩, ⟨fun x hx => ?_, fun i hi => ?_⟩, fun x hx => ?_, ?_⟩
    · rw [b3 x (by omega), row 166 (by decide) (by decide)]
    · have := b6 j hj
      rw [show 144 * 2 + j = 288 + j by omega] at this
      rw [this, row 152 (by decide) (by decide)]
    · rw [b4 x (by omega), row 168 (by decide) (by decide)]
    · have := b7 i hi
      rw [show 15 * 2 + i = 30 + i by omega] at this
      rw [this, row 153 (by decide) (by decide)]
    · rw [b5 x (by omega), row 167 (by decide) (by decide)]
    · rw [b8]
      exact k147 6 (by decide)
  have hl9 := hv.law.2
  obtain ⟨y2, T, t1, t2, t3, t4⟩ := t_si J (o := o) (s := s) (mb := mb) (A := A) (B := B) (G := fun S' T' => zTs I T' ∧ (∀ p, p ≤ 90 → T' p = I1 p) ∧ tQ S' T') hm (fun i => (hA i).1) (fun i => (hB i).1) (fun S T h => (h.1.2.1 25 (by decide) (by decide)).trans g25) (fun i S' T' hi hS' ⟨h1, h2, h3⟩ => by
    obtain ⟨T1, k1, k2, k3, k4⟩ := ((hA i).2 hi).2 T' S' (zTs_g hv.doi h6 h1 hl9) (by rw [h1.1 158 (by decide) (by decide) (by decide) (by decide) (by decide) (by decide)]) (fun x _ => by rw [h1.1 157 (by decide) (by decide) (by decide) (by decide) (by decide) (by decide)]) h3 (by omega)
    obtain ⟨T2, l1, l2, l3⟩ := t_put J T1
    have z2 : zTv T' T2 := k2.v.p176 l2
    have zs2 := h1.tv z2
    obtain ⟨T3, m1, m2, m3, m4, m5, m6, m7, m8⟩ := t_load J (I := T2) (s := s) (by omega) (fun x hx => by
      rw [zs2.2.2.2.1.1 _ (by omega), e168 x hx]
      exact nar_zb _)
    have q3 : tQ (S' + 1) T3 := ⟨by rw [m3 39 (by decide), l2 147 (by decide)]; exact k3.1, by rw [m2 173 (by decide) (by decide) (by decide), l2 173 (by decide)]; exact k3.2⟩
    have r3 : ∀ p, 90 < p ∧ p < 166 ∧ p ≠ 147 ∧ p ≠ 152 ∧ p ≠ 153 → T3 p = I p := fun p hp => (m2 p (by omega) (by omega) (by omega)).trans (zs2.1 p (by omega) (by omega) (by omega) (by omega) (by omega) (by omega))
    have r152 : T3 152 = Tz I s := by
      funext j
      unfold Tz
      by_cases hj : j < 144
      · rw [if_pos hj, m4 j hj]
        exact zs2.2.2.1.1 _ (by omega)
      · rw [if_neg hj, m7 j (by omega), zs2.1 152 (by decide) (by decide) (by decide) (by decide) (by decide) (by decide)]
    have k3' : ∀ k, k < 39 ∧ k ≠ 0 ∧ k ≠ 6 → T3 147 k = I 147 k := fun k hk => (m3 k hk.2.2).trans (zs2.2.1 k hk.1 hk.2.1)
    obtain ⟨T4, o1, o2, o3, o4⟩ := ((hB i).2 hi).2 T3 (S' + 1) ⟨⟨r3 148 (by decide), r3 150 (by decide), r3 151 (by decide), r3 155 (by decide), r3 159 (by decide), r3 160 (by decide), r3 161 (by decide), r3 163 (by decide)⟩, fun g _ => by rw [r3 162 (by decide)], ⟨r152, by rw [m6, zs2.2.2.2.2.1 s (by omega)]; exact e167, fun x hx => by rw [m5 x hx, zs2.2.2.2.1.1 _ (by omega)]; exact e168 x hx⟩, ⟨k3' 15 (by decide), k3' 8 (by decide), k3' 9 (by decide), k3' 10 (by decide)⟩, (k3' 32 (by decide)).trans hl9, k3' 33 (by decide)⟩ (by rw [r3 158 (by decide)]) (fun x _ => by rw [r3 157 (by decide)]) q3 (by omega)
    have r4 : ∀ p, (p < 170 ∨ p = 176 ∨ 178 ≤ p) ∧ p ≠ 147 ∧ p ≠ 152 ∧ p ≠ 153 → T4 p = T2 p := fun p hp => (o2.1 p (by omega) (by omega)).trans (m2 p (by omega) (by omega) (by omega))
    have un := t_unlike J (A := A i) o4 (fun g hg => by rw [r4 176 (by decide), l3 g hg]; exact k4 g hg)
    obtain ⟨T5, n1, n2, n3, n4, n5, n6, n7, n8⟩ := t_load J (I := T4) (s := 2) (by decide) (fun x hx => by
      rw [r4 168 (by decide), show 15 * 2 + x = 30 + x by omega, zs2.2.2.2.1.2 x hx, qDoi_told hv.doi x hx]
      exact nar_zb _)
    have n1' : f_X12_load J 2 T4 = _ := n1
    refine ⟨T1, T2, T3, T4, T5, k1, l1, m1, o1, un, n1', ⟨fun p p1 p2 p3 p4 p5 p6 => ?_, fun k k1 k2 => ?_, ?_, ?_, ?_⟩, fun p hp => ?_, ⟨?_, ?_⟩⟩
    · by_cases e2 : p = 152
      · subst e2
        funext j
        by_cases hj : j < 144
        · rw [n4 j hj, r4 166 (by decide), show 144 * 2 + j = 288 + j by omega]
          exact zs2.2.2.1.2 j hj
        · rw [n7 j (by omega), o2.1 152 (by decide) (by decide), m7 j (by omega), zs2.1 152 (by decide) (by decide) (by decide) (by decide) (by decide) (by decide)]
      · by_cases e3 : p = 153
        · subst e3
          funext j
          by_cases hj : j < 15
          · rw [n5 j hj, r4 168 (by decide), show 15 * 2 + j = 30 + j by omega]
            exact zs2.2.2.2.1.2 j hj
          · rw [n8 j (by omega), o2.1 153 (by decide) (by decide), m8 j (by omega), zs2.1 153 (by decide) (by decide) (by decide) (by decide) (by decide) (by decide)]
        · rw [n2 p p2 e2 e3, r4 p (by omega)]
          exact zs2.1 p p1 p2 p3 p4 p5 p6
    · by_cases e6 : k = 6
      · subst e6
        rw [n6, r4 167 (by decide)]
        exact zs2.2.2.2.2.2
      · rw [n3 k e6, o2.2 k k1]
        exact k3' k ⟨k1, k2, e6⟩
    · rw [n2 166 (by decide) (by decide) (by decide), r4 166 (by decide)]
      exact zs2.2.2.1
    · rw [n2 168 (by decide) (by decide) (by decide), r4 168 (by decide)]
      exact zs2.2.2.2.1
    · rw [n2 167 (by decide) (by decide) (by decide), r4 167 (by decide)]
      exact zs2.2.2.2.2
    · rw [n2 p (by omega) (by omega) (by omega), r4 p (by omega), l2 p (by omega), k2.1 p (by omega) (by omega)]
      exact h2 p hp
    · rw [n3 39 (by decide)]
      exact o3.1
    · rw [n2 173 (by decide) (by decide) (by decide)]
      exact o3.2) mb 0 zF 0 S T0 (by omega) (by unfold zF; omega) (by omega) ⟨hT0, fun p hp => (b2 p (by omega) (by omega) (by omega)).trans (zu_row (by omega)), ⟨by rw [b2 147 (by decide) (by decide) (by decide)]; exact s2.1, by rw [b2 173 (by decide) (by decide) (by decide)]; exact s2.2⟩⟩
  have t1' : f_X12_since_43 J (nI o) (nI s) zF 0 0 T0 = _ := t1
  rw [Nat.zero_add] at t1'
  refine ⟨nI (sCt (fun i => A i ≠ B i) mb 0), I1, T, ?_, ?_, zInv_of (zInw_ts hvw c2 t2 t3) (by rw [t3 39 (by decide)]; exact c3) ((t2.2.1 32 (by decide) (by decide)).trans hl9) ⟨S + 2 * mb, by omega, t4.1, t4.2⟩⟩
  · unfold f_X11_since
    rw [((ord_yn J _ I).1 h1).1, Option.bind_some, if_neg i10, l_isSlot, ← zb_t h2, Option.bind_some, if_neg i10, if_pos z0, c0, if_neg (fun e => c (g2.symm.trans e)), c1', Option.bind_some]
    rfl
  · unfold f_X12_since
    rw [((ord_yn J _ _).1 h1).2, Option.bind_some, if_pos rfl, l_noSlot, ← zb_f (P := ¬ zrg (nI s) 0 1) (fun q => q h2), Option.bind_some, if_pos rfl, if_pos z3, c0, if_neg (show ¬ (zu I1 147 0 0) 169 s = 0 by rw [row 169 (by decide) (by decide)]; exact c), b1', Option.bind_some, t1', Option.bind_some]
    rfl
