/-! ===== a reading with a law ahead, or by a slot's doings ===== -/
theorem eOf_cg {I I' : zM} {S L T : Nat → Int32} {nn : Nat} {B : Nat → Prop} {tm le sh a c t : Nat} {cr lg lv : Int32} (h1 : I' 148 = I 148) (h2 : I' 150 = I 150) (h3 : I' 151 = I 151) (h4 : I' 155 = I 155) : eOf I' S L T nn B tm le sh a c t cr lg lv = eOf I S L T nn B tm le sh a c t cr lg lv := by
  funext p
  match p with
  | 0 => exact h1
  | 1 => exact h2
  | 2 => exact h3
  | 3 => exact h4
  | 4 => rfl
  | 5 => rfl
  | 6 => rfl
  | 7 => rfl
  | n + 8 => rfl
def zTg (I : zM) (b : Nat) (S Tr : Nat → Int32) (nn : Nat) (B : Nat → Prop) (lg lv : Int32) (T : zM) : Prop := (T 148 = I 148 ∧ T 150 = I 150 ∧ T 151 = I 151 ∧ T 155 = I 155 ∧ T 159 = I 159 ∧ T 160 = I 160 ∧ T 161 = I 161 ∧ T 163 = I 163) ∧ (∀ g, g < 6 → T 162 (6 * b + g) = S g) ∧ (T 152 = Tr ∧ T 147 6 = nI nn ∧ ∀ i, i < 15 → T 153 i = zb (B i)) ∧ (T 147 15 = I 147 15 ∧ T 147 8 = I 147 8 ∧ T 147 9 = I 147 9 ∧ T 147 10 = I 147 10) ∧ T 147 32 = lg ∧ T 147 33 = lv
theorem zTg_tv {I T T' : zM} {b : Nat} {S Tr : Nat → Int32} {nn : Nat} {B : Nat → Prop} {lg lv : Int32} (z : zTg I b S Tr nn B lg lv T) (h : zTv T T') : zTg I b S Tr nn B lg lv T' := by
  unfold zTg at z ⊢
  rw [h.1 148 (by decide) (by decide), h.1 150 (by decide) (by decide), h.1 151 (by decide) (by decide), h.1 155 (by decide) (by decide), h.1 159 (by decide) (by decide), h.1 160 (by decide) (by decide), h.1 161 (by decide) (by decide), h.1 163 (by decide) (by decide), h.1 162 (by decide) (by decide), h.1 152 (by decide) (by decide), h.1 153 (by decide) (by decide), h.2 6 (by decide), h.2 15 (by decide), h.2 8 (by decide), h.2 9 (by decide), h.2 10 (by decide), h.2 32 (by decide), h.2 33 (by decide)]
  exact z
theorem t_gen {I T : zM} {J : zJ} {S L Tr : Nat → Int32} {nn tm le sh a c t m q b o : Nat} {B : Nat → Prop} {lg lv : Int32} (hr : rP I J m) (hp : eP I b tm le sh a c t) (hz : zTg I b S Tr nn B lg lv T) (hn : nn ≤ 24) (hq : T 158 o = nI q) (hL : ∀ k, k < q → T 157 (5 * o + k) = L k) : tE (eOf I S L Tr nn B tm le sh a c t (I 163 b) lg lv) m q b o nn tm le sh T := by
  obtain ⟨⟨p1, p2, p3, p4, p5, p6⟩, ⟨p7, p8, p9⟩, ⟨t1, t2, t3, t4, t5, t6⟩, ⟨b1, b2, b3, b4, b5, b6⟩⟩ := hp
  obtain ⟨⟨z1, z2, z3, z4, z5, z6, z7, z8⟩, z9, ⟨z10, z11, z12⟩, ⟨z13, z14, z15, z16⟩, z17, z18⟩ := hz
  unfold tE
  rw [z1, z2, z3, z4, z5, z6, z7, z8, z10, z11, z13, z14, z15, z16, b2, b4, b6, t2, t4, t6]
  exact ⟨fun g _ => ⟨rfl, rfl, rfl⟩, ⟨hr.2.2.1, fun j _ => rfl⟩, fun g hg => ⟨z9 g hg, rfl⟩, ⟨a, c, t, p7, p8, p9, rfl, rfl, rfl, rfl, B, z12, fun g _ => rfl⟩, ⟨rfl, hn, rfl, rfl, rfl, p3, p4, p5, p6⟩, ⟨hq, hL⟩, rfl, z17, z18⟩
theorem rP_cl {I I' : zM} {J : zJ} {m : Nat} (hJ : zJok J) (h : zCl I I') (r : rP I J m) : rP I' J m := by
  obtain ⟨r1, r2, r3, r4⟩ := r
  refine ⟨r1, by rw [h 18 (by decide) (by decide) (by decide) (by decide)]; exact r2, by rw [zCl_at h (by decide)]; exact r3, fun x hx => ?_⟩
  have hq := hJ.2 x (by omega)
  rw [h (zrp J x) (by omega) (by omega) (by omega) (by omega), zCl_at h (show 90 < 155 by decide)]
  exact r4 x hx
theorem eP_cl {I I' : zM} {b tm le sh a c t : Nat} (h : zCl I I') (p : eP I b tm le sh a c t) : eP I' b tm le sh a c t := by
  unfold eP at p ⊢
  rw [h 5 (by decide) (by decide) (by decide) (by decide), zCl_at h (show 90 < 147 by decide), zCl_at h (show 90 < 99 + 6 * b by omega), zCl_at h (show 90 < 159 by decide), zCl_at h (show 90 < 160 by decide), zCl_at h (show 90 < 161 by decide)]
  exact p
theorem rdG (J : zJ) {I : zM} (hv : zInw I J) {b o d nn : Nat} {Tr : Nat → Int32} (hb : b < 8) (ho : o < 4) (w : vDo I d Tr nn) (hva : vVa Tr nn) (hd : d = 6 ∨ d = 75 ∨ d = 83) (lg lv : Int32) (hlg : lg = -9 ∨ zrg lg 0 5) : ∃ A, A < 46656 ∧ (∀ I', zCl I I' → I' 39 3 = lg → (lg = -9 ∨ I' 39 4 = lv) → ∃ I0 I1, f_X5_take J (99 + 6 * b) d I' = some I0 ∧ f_X5_read J (91 + 2 * o) I0 = some I1 ∧ I1 39 14 = nI A ∧ zCl I' I1 ∧ I1 39 3 = lg ∧ I1 39 4 = I' 39 4) ∧ ∀ T S, zTg I b (fun g => I 162 (6 * b + g)) Tr nn (zbt (I d 7)) lg lv T → T 158 o = I 158 o → (∀ x, x < 20 → T 157 x = I 157 x) → tQ S T → S < 900000 → ∃ T', f_X12_readIt J (nI b) (nI o) T = some T' ∧ zTw T T' ∧ tQ (S + 1) T' ∧ ∀ g, g < 6 → T' 175 g = nI (dig A g) := by
  have hv' := hv
  obtain ⟨v1, v2, v3, v4, v5, v6, v7, v8, v9, mb, -, -, -, gb⟩ := hv
  have hba := gb b hb
  obtain ⟨tm, le, sh, a, c, t, hp⟩ := eP_of v4 hba
  obtain ⟨m, hr⟩ := rP_of v8
  obtain ⟨q, hoq, -, o1, o2, o3⟩ := oP_of (v9 o ho)
  have hw : eW (eOf I (fun g => I 162 (6 * b + g)) (LO I o) Tr nn (zbt (I d 7)) tm le sh a c t (I 163 b) lg lv) m q := eW_of v3 hr hba hoq hlg
  have hq5 := hoq.1
  refine ⟨rA (eNx (eOf I (fun g => I 162 (6 * b + g)) (LO I o) Tr nn (zbt (I d 7)) tm le sh a c t (I 163 b) lg lv) m q), rA_lt, fun I' hz h3 h4 => ?_, fun T S hT e158 e157 hQ hS => ?_⟩
  · obtain ⟨u1, u2, u3, u4, u5, u6, u7, u8, u9, mb', -, -, -, gb'⟩ := zInw_cl hz hv'
    have w' : vDo I' d Tr nn := vDo_cgr (fun p p1 p2 => hz p (by omega) (by omega) (by omega) (by omega)) w
    obtain ⟨I0, k1, k2, k3, k4⟩ := c_take (L := LO I o) v1 u3 (rP_cl v1 hz hr) (gb' b hb) hb (eP_cl hz hp) w' hva hd (lg := lg) (lv := lv) h3 h4
    have ed : I' d = I d := hz d (by omega) (by omega) (by omega) (by omega)
    rw [ed, zCl_at hz (show 90 < 162 by decide), zCl_at hz (show 90 < 163 by decide), eOf_cg (zCl_at hz (show 90 < 148 by decide)) (zCl_at hz (show 90 < 150 by decide)) (zCl_at hz (show 90 < 151 by decide)) (zCl_at hz (show 90 < 155 by decide))] at k2
    have z0 : zCl I' I0 := fun p h1 h2 h3 h4 => k3 p (by omega) (by omega) (by omega) (by omega) (by omega)
    have x1 : I0 (91 + 2 * o) 1 = nI q := by rw [zCl_at z0 (by omega), zCl_at hz (by omega)]; exact o1
    have x2 : ∀ k, k < q → I0 (91 + 2 * o + 1) k = LO I o k := fun k hk => by
      rw [zCl_at z0 (by omega), zCl_at hz (by omega), show 91 + 2 * o + 1 = 92 + 2 * o by omega]
      exact o3 k hk
    obtain ⟨I1, c1, c2, c3, -⟩ := c_rd hw k2 rfl (Or.inr (show 75 ≤ 91 + 2 * o by omega)) (zr_p1 ho) x1 x2
    exact ⟨I0, I1, k1, c1, c3, z0.tr (zCl.re c2), by rw [c2.2 3 (by decide), k4 3 (by decide) (by decide)]; exact h3, by rw [c2.2 4 (by decide), k4 4 (by decide) (by decide)]⟩
  · exact t_rdi J hw (t_gen hr hp hT w.1 (e158.trans o2) (fun k hk => e157 _ (by omega))) hb (show o < 5 by omega) hS hQ
/-- one state of the twin is like another but for what a reading leaves -/
theorem tQ_7 {S : Nat} {T : zM} {k : Nat} {x : Int32} (hk : k ≠ 39) (h : tQ S T) : tQ S (zu T 147 k x) := ⟨by rw [zu_offk (fun e => hk e.symm)]; exact h.1, by rw [zu_row (by decide)]; exact h.2⟩
/-! worth -/
def alk (I : zM) (g b : Nat) : Int32 := if I 164 (12 * b + g) = I 164 (12 * b + 6 + g) then I 164 (12 * b + g) else 0
theorem alk_rg {I : zM} {b g : Nat} (h : qBa I b) (hg : g < 6) : zrg (alk I g b) 0 5 := by
  unfold alk
  by_cases c : I 164 (12 * b + g) = I 164 (12 * b + 6 + g)
  · rw [if_pos c]
    exact (h.2.2.2.2.2.1 g hg).2
  · rw [if_neg c]
    exact ⟨by decide, by decide⟩
theorem l_common (J : zJ) {I I' : zM} {b g : Nat} (h : qBa I b) (hb : b < 8) (hg : g < 6) (e1 : I' (103 + 6 * b) = I (103 + 6 * b)) (e2 : I' (104 + 6 * b) = I (104 + 6 * b)) : f_X0_commonThought J (99 + 6 * b) (nI g) I' = some (alk I g b, I') := by
  have z0 : zin (nI (g)) 6 = true := zin_nI (by omega) (by decide)
  have c0 : Int32.toNatClampNeg (nI (g)) = g := nI_clamp (by omega)
  have r1 := zr_ba4 b hb
  have r2 := zr_th b hb 0 (by decide)
  have r3 := zr_th b hb 1 (by decide)
  rw [show 103 + 6 * b + 0 = 103 + 6 * b by omega] at r2
  rw [show 103 + 6 * b + 1 = 104 + 6 * b by omega] at r3
  have q1 := (h.2.2.2.2.2.1 g hg).1
  have q2 := (h.2.2.2.2.2.2 g hg).1
  unfold f_X0_commonThought alk
  rw [if_pos z0, if_pos z0, c0, r1, r2, r3, e1, e2, q1, q2, if_pos z0]
  by_cases c : I 164 (12 * b + g) = I 164 (12 * b + 6 + g)
  · rw [if_pos c, if_pos c]
  · rw [if_neg c, if_neg c]
theorem t_alike (J : zJ) {I T : zM} {b g : Nat} (hb : b < 8) (hg : g < 6) (e : T 164 = I 164) : f_X12_alike J (nI b) (nI g) T = some (alk I g b, T) := by
  have z0 : zin (nI (12 * b + g)) 96 = true := zin_nI (by omega) (by decide)
  have c0 : Int32.toNatClampNeg (nI (12 * b + g)) = 12 * b + g := nI_clamp (by omega)
  have z1 : zin (nI (12 * b + 6 + g)) 96 = true := zin_nI (by omega) (by decide)
  have c1 : Int32.toNatClampNeg (nI (12 * b + 6 + g)) = 12 * b + 6 + g := nI_clamp (by omega)
  unfold f_X12_alike alk
  rw [q_12, nI_add, q_a6, nI_add, if_pos z0, if_pos z1, c0, c1, e, if_pos z0]
  by_cases c : I 164 (12 * b + g) = I 164 (12 * b + 6 + g)
  · rw [if_pos c, if_pos c]
  · rw [if_neg c, if_neg c]
/-- whether a bargain's gap is as both thought -/
def wIs (I : zM) (g : Nat) (A : Nat → Nat) (b : Nat) : Prop := ¬ alk I g b = 0 ∧ nI (dig (A b) g) = alk I g b
theorem l_wo22 (J : zJ) {I : zM} {o g mb : Nat} (v : Int32) {A : Nat → Nat} {G : zM → Prop} (ho : o < 4) (hg : g < 6) (hmb : mb ≤ 8) (hba : ∀ i, i < 8 → qBa I i) (hA : ∀ i, A i < 46656) (hG : ∀ I', G I' → zCl I I' ∧ I' 0 9 = nI mb) (hr : ∀ i I', i < 8 → G I' → ∃ I0 I1, f_X5_take J (99 + 6 * i) 6 I' = some I0 ∧ f_X5_read J (91 + 2 * o) I0 = some I1 ∧ I1 39 14 = nI (A i) ∧ G I1) : ∀ j i fuel x I', i + j = mb → j < fuel → G I' → ∃ y I'', f_X11_worthOf_22 J (nI o) (nI g) v fuel (nI x) (nI i) I' = some (.inr (nI (x + sCt (wIs I g A) j i), y, I'')) ∧ G I'' := by
  have z0 : zin (nI (o)) 4 = true := zin_nI (by omega) (by decide)
  have c0 : Int32.toNatClampNeg (nI (o)) = o := nI_clamp (by omega)
  intro j
  induction j with
  | zero =>
    intro i fuel x I' hi hf hI
    obtain ⟨n, rfl⟩ : ∃ n, fuel = n + 1 := ⟨fuel - 1, by omega⟩
    have e : i = mb := by omega
    subst e
    refine ⟨nI i, I', ?_, hI⟩
    unfold f_X11_worthOf_22
    rw [(hG I' hI).2, if_pos (nI_le (Nat.le_refl _) (by omega))]
    rfl
  | succ j ih =>
    intro i fuel x I' hi hf hI
    obtain ⟨n, rfl⟩ : ∃ n, fuel = n + 1 := ⟨fuel - 1, by omega⟩
    obtain ⟨hz, h9⟩ := hG I' hI
    have hi8 : i < 8 := by omega
    have z1 : zin (nI (i)) 8 = true := zin_nI (by omega) (by decide)
    have c1 : Int32.toNatClampNeg (nI (i)) = i := nI_clamp (by omega)
    have kc := l_common J (I' := I') (hba i hi8) hi8 hg (zCl_at hz (by omega)) (zCl_at hz (by omega))
    have ng : ¬ nI mb ≤ nI i := nI_ge (by omega) (by omega)
    by_cases a : alk I g i = 0
    · obtain ⟨y, I'', e1, e2⟩ := ih (i + 1) n x I' (by omega) (by omega) hI
      refine ⟨y, I'', ?_, e2⟩
      rw [sCt_n (P := wIs I g A) (fun q => q.1 a)]
      unfold f_X11_worthOf_22
      rw [h9, if_neg ng, if_pos z1, c1, zr_34 i hi8, kc, Option.bind_some, if_pos a, q_a1]
      exact e1
    · obtain ⟨I0, I1, k1, k2, k3, k4⟩ := hr i I' hi8 hI
      have kv := l_valueAt J I1 (hA i) hg
      by_cases c : nI (dig (A i) g) = alk I g i
      · obtain ⟨y, I'', e1, e2⟩ := ih (i + 1) n (x + 1) I1 (by omega) (by omega) k4
        refine ⟨y, I'', ?_, e2⟩
        rw [sCt_p (P := wIs I g A) ⟨a, c⟩, ← Nat.add_assoc]
        unfold f_X11_worthOf_22
        rw [h9, if_neg ng, if_pos z1, c1, zr_34 i hi8, kc, Option.bind_some, if_neg a, if_pos z1]
        show ((f_X5_take J (99 + 6 * i) 6 I').bind _) = _
        rw [k1, Option.bind_some, if_pos z0, c0, zr_33 o ho, k2, Option.bind_some, k3, kv, Option.bind_some, if_pos c, q_a1, q_a1]
        exact e1
      · obtain ⟨y, I'', e1, e2⟩ := ih (i + 1) n x I1 (by omega) (by omega) k4
        refine ⟨y, I'', ?_, e2⟩
        rw [sCt_n (P := wIs I g A) (fun q => c q.2)]
        unfold f_X11_worthOf_22
        rw [h9, if_neg ng, if_pos z1, c1, zr_34 i hi8, kc, Option.bind_some, if_neg a, if_pos z1]
        show ((f_X5_take J (99 + 6 * i) 6 I').bind _) = _
        rw [k1, Option.bind_some, if_pos z0, c0, zr_33 o ho, k2, Option.bind_some, k3, kv, Option.bind_some, if_neg c, q_a1, q_a0]
        exact e1
theorem t_wo16 (J : zJ) {I : zM} {o g mb : Nat} (v : Int32) {A : Nat → Nat} {G : Nat → zM → Prop} (hg : g < 6) (hmb : mb ≤ 8) (hba : ∀ i, i < 8 → qBa I i) (hG : ∀ S T, G S T → T 164 = I 164 ∧ T 147 25 = nI mb) (hr : ∀ i S T, i < 8 → S < 800000 → G S T → ∃ T', f_X12_readIt J (nI i) (nI o) T = some T' ∧ G (S + 1) T' ∧ ∀ h, h < 6 → T' 175 h = nI (dig (A i) h)) : ∀ j i fuel x S T, i + j = mb → j < fuel → S + j < 800000 → G S T → ∃ y T', f_X12_worthOf_16 J (nI o) (nI g) v fuel (nI x) (nI i) T = some (.inr (nI (x + sCt (wIs I g A) j i), y, T')) ∧ G (S + j) T' := by
  have z0 : zin (nI (g)) 6 = true := zin_nI (by omega) (by decide)
  have c0 : Int32.toNatClampNeg (nI (g)) = g := nI_clamp (by omega)
  intro j
  induction j with
  | zero =>
    intro i fuel x S T hi hf hS hT
    obtain ⟨n, rfl⟩ : ∃ n, fuel = n + 1 := ⟨fuel - 1, by omega⟩
    have e : i = mb := by omega
    subst e
    refine ⟨nI i, T, ?_, hT⟩
    unfold f_X12_worthOf_16
    rw [(hG S T hT).2, if_pos (nI_le (Nat.le_refl _) (by omega))]
    rfl
  | succ j ih =>
    intro i fuel x S T hi hf hS hT
    obtain ⟨n, rfl⟩ : ∃ n, fuel = n + 1 := ⟨fuel - 1, by omega⟩
    have hi8 : i < 8 := by omega
    obtain ⟨T1, k1, k2, k3⟩ := hr i S T hi8 (by omega) hT
    have ka := t_alike J (I := I) (T := T1) hi8 hg (hG _ T1 k2).1
    have ng : ¬ nI mb ≤ nI i := nI_ge (by omega) (by omega)
    have rg := alk_rg (hba i hi8) hg
    rw [show S + (j + 1) = S + 1 + j by omega]
    by_cases a : alk I g i = 0
    · obtain ⟨y, T', e1, e2⟩ := ih (i + 1) n x (S + 1) T1 (by omega) (by omega) (by omega) k2
      refine ⟨y, T', ?_, e2⟩
      rw [sCt_n (P := wIs I g A) (fun q => q.1 a)]
      unfold f_X12_worthOf_16
      rw [(hG S T hT).2, if_neg ng, k1, Option.bind_some, ka, Option.bind_some, if_pos (show alk I g i ≤ 0 by rw [a]; decide), q_a1, q_a0]
      exact e1
    · have na : ¬ alk I g i ≤ 0 := fun z => a ((rg_le0 rg).mp z)
      by_cases c : nI (dig (A i) g) = alk I g i
      · obtain ⟨y, T', e1, e2⟩ := ih (i + 1) n (x + 1) (S + 1) T1 (by omega) (by omega) (by omega) k2
        refine ⟨y, T', ?_, e2⟩
        rw [sCt_p (P := wIs I g A) ⟨a, c⟩, ← Nat.add_assoc]
        unfold f_X12_worthOf_16
        rw [(hG S T hT).2, if_neg ng, k1, Option.bind_some, ka, Option.bind_some, if_neg na, if_pos z0]
        show ((f_X12_alike J (nI i) (nI g) T1).bind _) = _
        rw [ka, Option.bind_some]
        show (if T1 175 (Int32.toNatClampNeg (nI g)) = alk I g i then _ else _) = _
        rw [c0, k3 g hg, if_pos c, q_a1, q_a1]
        exact e1
      · obtain ⟨y, T', e1, e2⟩ := ih (i + 1) n x (S + 1) T1 (by omega) (by omega) (by omega) k2
        refine ⟨y, T', ?_, e2⟩
        rw [sCt_n (P := wIs I g A) (fun q => c q.2)]
        unfold f_X12_worthOf_16
        rw [(hG S T hT).2, if_neg ng, k1, Option.bind_some, ka, Option.bind_some, if_neg na, if_pos z0]
        show ((f_X12_alike J (nI i) (nI g) T1).bind _) = _
        rw [ka, Option.bind_some]
        show (if T1 175 (Int32.toNatClampNeg (nI g)) = alk I g i then _ else _) = _
        rw [c0, k3 g hg, if_neg c, q_a1, q_a0]
        exact e1
/-- the twin beside the class's I: all but the readings' rows and the law ahead -/
def zTl (I T : zM) : Prop := (∀ p, 90 < p → p ≠ 147 → (p < 170 ∨ 178 ≤ p) → T p = I p) ∧ ∀ k, k < 39 → k ≠ 0 → k ≠ 32 → k ≠ 33 → T 147 k = I 147 k
theorem zTl.tw {I T T' : zM} (h : zTl I T) (g : zTv T T') : zTl I T' := ⟨fun p a b c => (g.1 p b c).trans (h.1 p a b c), fun k a b c d => (g.2 k a).trans (h.2 k a b c d)⟩
theorem zTl_g {I T : zM} {nn b : Nat} {lg lv : Int32} (hv : qDoi I) (w : vDo I 6 (I 152) nn) (h6 : I 147 6 = nI nn) (h : zTl I T) (h2 : T 147 32 = lg) (h3 : T 147 33 = lv) : zTg I b (fun g => I 162 (6 * b + g)) (I 152) nn (zbt (I 6 7)) lg lv T := by
  refine ⟨⟨h.1 148 (by decide) (by decide) (by decide), h.1 150 (by decide) (by decide) (by decide), h.1 151 (by decide) (by decide) (by decide), h.1 155 (by decide) (by decide) (by decide), h.1 159 (by decide) (by decide) (by decide), h.1 160 (by decide) (by decide) (by decide), h.1 161 (by decide) (by decide) (by decide), h.1 163 (by decide) (by decide) (by decide)⟩, fun g _ => by rw [h.1 162 (by decide) (by decide) (by decide)], ⟨h.1 152 (by decide) (by decide) (by decide), (h.2 6 (by decide) (by decide) (by decide) (by decide)).trans h6, fun i hi => by rw [h.1 153 (by decide) (by decide) (by decide)]; exact qDoi_told hv i hi⟩, ⟨h.2 15 (by decide) (by decide) (by decide) (by decide), h.2 8 (by decide) (by decide) (by decide) (by decide), h.2 9 (by decide) (by decide) (by decide) (by decide), h.2 10 (by decide) (by decide) (by decide) (by decide)⟩, h2, h3⟩
/-- THE WORTH, in both -/
theorem b_worth (J : zJ) {I : zM} (hv : zInw I J) {o g : Nat} (v : Int32) (ho : o < 4) (hg : g < 6) : ∃ N mb, N ≤ mb ∧ mb ≤ 8 ∧ (∀ I', zCl I I' → ∃ I'', f_X11_worthOf J (nI o) (nI g) v I' = some (nI N, I'') ∧ zCl I I'' ∧ I'' 39 3 = -9) ∧ ∀ S T, S < 700000 → zTl I T → tQ S T → ∃ T', f_X12_worthOf J (nI o) (nI g) v T = some (nI N, T') ∧ zTl I T' ∧ T' 147 32 = -9 ∧ (∀ p, p ≤ 90 → T' p = T p) ∧ tQ (S + mb) T' := by
  obtain ⟨nn, w, h6⟩ := vDo_of hv.2.2.2.2.1
  have hva := vVa_0 hv.2.2.2.2.1 w.2.1 w.1
  obtain ⟨mb, hm, g2, g25, gb⟩ := hv.2.2.2.2.2.2.2.2.2
  have hgr : zrg (nI g) 0 5 := zrg_of (Nat.zero_le _) (by omega) (by decide)
  have ex : ∀ i : Nat, ∃ A : Nat, A < 46656 ∧ (i < 8 → (∀ I', zCl I I' → I' 39 3 = nI g → (nI g = -9 ∨ I' 39 4 = v) → ∃ I0 I1, f_X5_take J (99 + 6 * i) 6 I' = some I0 ∧ f_X5_read J (91 + 2 * o) I0 = some I1 ∧ I1 39 14 = nI A ∧ zCl I' I1 ∧ I1 39 3 = nI g ∧ I1 39 4 = I' 39 4) ∧ ∀ T S, zTg I i (fun g => I 162 (6 * i + g)) (I 152) nn (zbt (I 6 7)) (nI g) v T → T 158 o = I 158 o → (∀ x, x < 20 → T 157 x = I 157 x) → tQ S T → S < 900000 → ∃ T', f_X12_readIt J (nI i) (nI o) T = some T' ∧ zTw T T' ∧ tQ (S + 1) T' ∧ ∀ g, g < 6 → T' 175 g = nI (dig A g)) := fun i => by
    by_cases hi : i < 8
    · obtain ⟨A, a1, a2, a3⟩ := rdG J hv hi ho w hva (Or.inl rfl) (nI g) v (Or.inr hgr)
      exact ⟨A, a1, fun _ => ⟨a2, a3⟩⟩
    · exact ⟨0, by decide, fun h => absurd h hi⟩
  obtain ⟨A, hA⟩ := Classical.axiomOfChoice ex
  refine ⟨sCt (wIs I g A) mb 0, mb, sCt_le _ _, hm, fun I' hz => ?_, fun S T hS hT hQ => ?_⟩
  · have hz1 : zCl I (zu (zu I' 39 3 (nI g)) 39 4 v) := hz.tr (fun p h1 _ _ _ => (zu_row (by omega)).trans (zu_row (by omega)))
    obtain ⟨y, I'', e1, e2⟩ := l_wo22 J (I := I) (o := o) (g := g) (mb := mb) v (A := A) (G := fun I' => zCl I I' ∧ I' 39 3 = nI g ∧ I' 39 4 = v) ho hg hm gb (fun i => (hA i).1) (fun I' h => ⟨h.1, by rw [h.1 0 (by decide) (by decide) (by decide) (by decide)]; exact g2⟩) (fun i I' hi h => by
      obtain ⟨I0, I1, k1, k2, k3, k4, k5, k6⟩ := ((hA i).2 hi).1 I' h.1 h.2.1 (Or.inr h.2.2)
      exact ⟨I0, I1, k1, k2, k3, h.1.tr k4, k5, k6.trans h.2.2⟩) mb 0 zF 0 (zu (zu I' 39 3 (nI g)) 39 4 v) (by omega) (by unfold zF; omega) ⟨hz1, by rw [zu_offk (by decide), zu_at, if_pos rfl], by rw [zu_at, if_pos rfl]⟩
    have e1' : f_X11_worthOf_22 J (nI o) (nI g) v zF 0 0 (zu (zu I' 39 3 (nI g)) 39 4 v) = _ := e1
    refine ⟨zu I'' 39 3 (-9), ?_, e2.1.tr (fun p h1 _ _ _ => zu_row (by omega)), by rw [zu_at, if_pos rfl]⟩
    unfold f_X11_worthOf
    rw [e1', Option.bind_some, Nat.zero_add]
    rfl
  · have hT1 : zTl I (zu (zu T 147 32 (nI g)) 147 33 v) := ⟨fun p h1 h2 h3 => (zu_row h2).trans ((zu_row h2).trans (hT.1 p h1 h2 h3)), fun k h1 h2 h3 h4 => (zu_offk h4 _ _ _).trans ((zu_offk h3 _ _ _).trans (hT.2 k h1 h2 h3 h4))⟩
    obtain ⟨y, T', e1, e2⟩ := t_wo16 J (I := I) (o := o) (g := g) (mb := mb) v (A := A) (G := fun S' T' => zTl I T' ∧ T' 147 32 = nI g ∧ T' 147 33 = v ∧ (∀ p, p ≤ 90 → T' p = T p) ∧ tQ S' T') hg hm gb (fun S T h => ⟨h.1.1 164 (by decide) (by decide) (by decide), (h.1.2 25 (by decide) (by decide) (by decide) (by decide)).trans g25⟩) (fun i S' T' hi hS' h => by
      obtain ⟨T'', k1, k2, k3, k4⟩ := ((hA i).2 hi).2 T' S' (zTl_g hv.2.2.2.2.1 w h6 h.1 h.2.1 h.2.2.1) (by rw [h.1.1 158 (by decide) (by decide) (by decide)]) (fun x _ => by rw [h.1.1 157 (by decide) (by decide) (by decide)]) h.2.2.2.2 (by omega)
      exact ⟨T'', k1, ⟨h.1.tw k2.v, (k2.2 32 (by decide)).trans h.2.1, (k2.2 33 (by decide)).trans h.2.2.1, fun p hp => (k2.1 p (by omega) (by omega)).trans (h.2.2.2.1 p hp), k3⟩, k4⟩) mb 0 zF 0 S (zu (zu T 147 32 (nI g)) 147 33 v) (by omega) (by unfold zF; omega) (by omega) ⟨hT1, by rw [zu_offk (by decide), zu_at, if_pos rfl], by rw [zu_at, if_pos rfl], fun p hp => (zu_row (by omega)).trans (zu_row (by omega)), tQ_7 (by decide) (tQ_7 (by decide) hQ)⟩
    have e1' : f_X12_worthOf_16 J (nI o) (nI g) v zF 0 0 (zu (zu T 147 32 (nI g)) 147 33 v) = _ := e1
    refine ⟨zu T' 147 32 (-9), ?_, ⟨fun p h1 h2 h3 => (zu_row h2).trans (e2.1.1 p h1 h2 h3), fun k h1 h2 h3 h4 => (zu_offk h3 _ _ _).trans (e2.1.2 k h1 h2 h3 h4)⟩, by rw [zu_at, if_pos rfl], fun p hp => (zu_row (by omega)).trans (e2.2.2.2.1 p hp), tQ_7 (by decide) e2.2.2.2.2⟩
    unfold f_X12_worthOf
    rw [e1', Option.bind_some, Nat.zero_add]
    rfl
theorem zTl_th {I I' : zM} (h : zCl I I') : zTl I (zu I' 147 0 0) := ⟨fun p h1 h2 _ => (zu_row h2).trans (zCl_at h h1), fun k _ h0 _ _ => by rw [zu_offk h0, zCl_at h (by decide)]⟩
theorem zInw_tl {I I1 T : zM} {J : zJ} (hv : zInw I J) (h1 : zCl I I1) (h2 : zTl I T) (h3 : ∀ p, p ≤ 90 → T p = I1 p) : zInw T J := by
  have e : ∀ p, (p < 35 ∨ 75 ≤ p) → p ≠ 13 → p ≠ 82 → p ≠ 90 → p ≠ 147 → (p < 170 ∨ 178 ≤ p) → T p = I p := fun p a b c d e f => by
    by_cases hp : p ≤ 90
    · exact (h3 p hp).trans (h1 p a b c d)
    · exact h2.1 p (by omega) e f
  obtain ⟨v1, v2, v3, v4, v5, v6, v7, v8, v9, v10⟩ := hv
  have z : ∀ lo hi, (hi ≤ 13 ∨ (13 < lo ∧ hi ≤ 35) ∨ (90 < lo ∧ hi ≤ 147) ∨ (147 < lo ∧ hi ≤ 170)) → zS I T lo hi := fun lo hi hh p a b => e p (by omega) (by omega) (by omega) (by omega) (by omega) (by omega)
  have k7 : ∀ k, k < 39 ∧ k ≠ 0 ∧ k ≠ 32 ∧ k ≠ 33 → T 147 k = I 147 k := fun k hk => h2.2 k hk.1 hk.2.1 hk.2.2.1 hk.2.2.2
  refine ⟨v1, v2, qGap_cg (z _ _ (by decide)) (z _ _ (by decide)) v3, qTm_cg (z _ _ (by decide)) (k7 8 (by decide)) (k7 9 (by decide)) (k7 10 (by decide)) v4, qDoi_cg (z _ _ (by decide)) (z _ _ (by decide)) (k7 6 (by decide)) v5, fun s hs => ?_, qTxt_cg (z _ _ (by decide)) (z _ _ (by decide)) (k7 12 (by decide)) v7, qRul_cg v1 (z _ _ (by decide)) (z _ _ (by decide)) (k7 15 (by decide)) v8, qOrd_cg (z _ _ (by decide)) (fun j _ => by rw [e 157 (by decide) (by decide) (by decide) (by decide) (by decide) (by decide)]) (fun j _ => by rw [e 158 (by decide) (by decide) (by decide) (by decide) (by decide) (by decide)]) v9, qBar_cg (z _ _ (by decide)) (z _ _ (by decide)) (z _ _ (by decide)) (k7 25 (by decide)) v10⟩
  obtain ⟨q1, q2, q3⟩ := v6 s hs
  refine ⟨qDo_cg (fun p a b => e p (by omega) (by omega) (by omega) (by omega) (by omega) (by omega)) (fun j _ _ => by rw [e 166 (by decide) (by decide) (by decide) (by decide) (by decide) (by decide)]) (by rw [e 167 (by decide) (by decide) (by decide) (by decide) (by decide) (by decide)]) (fun i _ => by rw [e 168 (by decide) (by decide) (by decide) (by decide) (by decide) (by decide)]) q1, ?_, ?_⟩
  · rw [e 15 (by decide) (by decide) (by decide) (by decide) (by decide) (by decide), e 169 (by decide) (by decide) (by decide) (by decide) (by decide) (by decide)]
    exact q2
  · rw [e 169 (by decide) (by decide) (by decide) (by decide) (by decide) (by decide)]
    exact q3
theorem zInv_tl {n S : Nat} {I I1 T : zM} {J : zJ} (hv : zInv n I J) (h1 : zCl I I1) (h1' : I1 39 3 = -9) (h2 : zTl I T) (h2' : T 147 32 = -9) (h3 : ∀ p, p ≤ 90 → T p = I1 p) (hQ : tQ S T) (hS : S ≤ 300 * (n + 1)) : zInv (n + 1) T J := zInv_of (zInw_tl (zInw_of hv) h1 h2 h3) (by rw [h3 39 (by decide)]; exact h1') h2' ⟨S, hS, hQ.1, hQ.2⟩
theorem ord_yn (J : zJ) (v : Int32) (I : zM) : (zrg v 0 3 → f_X11_isOrder J v I = some (1, I) ∧ f_X12_noOrder J v I = some (0, I)) ∧ (¬ zrg v 0 3 → f_X11_isOrder J v I = some (0, I) ∧ f_X12_noOrder J v I = some (1, I)) := by
  rw [l_isOrder, l_noOrder]
  constructor
  · intro h
    rw [← zb_t h, ← zb_f (P := ¬ zrg v 0 3) (fun q => q h)]
    exact ⟨rfl, rfl⟩
  · intro h
    rw [← zb_f h, ← zb_t (P := ¬ zrg v 0 3) h]
    exact ⟨rfl, rfl⟩
theorem q_worth : zS_worth zInv := by
  intro n I J v1 v2 v3 hn hv
  by_cases h1 : zrg v1 0 3
  case neg =>
    refine ⟨-1, I, zu I 147 0 0, ?_, ?_, zInv_thrown hv⟩
    · unfold f_X11_worth
      rw [((ord_yn J v1 I).2 h1).1, Option.bind_some, if_pos rfl]
    · unfold f_X12_worth
      rw [((ord_yn J v1 _).2 h1).2, Option.bind_some, if_neg i10]
  by_cases h2 : zrg v2 0 5
  case neg =>
    refine ⟨-1, I, zu I 147 0 0, ?_, ?_, zInv_thrown hv⟩
    · unfold f_X11_worth
      rw [((ord_yn J v1 I).1 h1).1, Option.bind_some, if_neg i10, (gap_no h2).1, Option.bind_some, if_pos rfl]
    · unfold f_X12_worth
      rw [((ord_yn J v1 _).1 h1).2, Option.bind_some, if_pos rfl, (gap_no h2).2, Option.bind_some, if_neg i10]
  by_cases h3 : zrg v3 1 5
  case neg =>
    refine ⟨-2, I, zu I 147 0 0, ?_, ?_, zInv_thrown hv⟩
    · unfold f_X11_worth
      rw [((ord_yn J v1 I).1 h1).1, Option.bind_some, if_neg i10, (gap_yes h2).1, Option.bind_some, if_neg i10, l_isValue, ← zb_f h3, Option.bind_some, if_pos rfl]
    · unfold f_X12_worth
      rw [((ord_yn J v1 _).1 h1).2, Option.bind_some, if_pos rfl, (gap_yes h2).2, Option.bind_some, if_pos rfl, l_in_1_5, ← zb_f h3, Option.bind_some, if_pos rfl]
  obtain ⟨o, -, ho, rfl⟩ := zrg_nI h1 (by decide)
  obtain ⟨g, -, hg, rfl⟩ := zrg_nI h2 (by decide)
  obtain ⟨N, mb, -, hm, c, t⟩ := b_worth J (zInw_of hv) v3 (show o < 4 by omega) (show g < 6 by omega)
  obtain ⟨I1, c1, c2, c3⟩ := c I zCl.rf
  obtain ⟨S, s1, s2⟩ := tQ_of hv c2
  obtain ⟨T, t1, t2, t3, t4, t5⟩ := t S (zu I1 147 0 0) (by omega) (zTl_th c2) s2
  refine ⟨nI N, I1, T, ?_, ?_, zInv_tl hv c2 c3 t2 t3 (fun p hp => (t4 p hp).trans (zu_row (by omega))) t5 (by omega)⟩
  · unfold f_X11_worth
    rw [((ord_yn J _ I).1 h1).1, Option.bind_some, if_neg i10, (gap_yes h2).1, Option.bind_some, if_neg i10, l_isValue, ← zb_t h3, Option.bind_some, if_neg i10, c1, Option.bind_some]
  · unfold f_X12_worth
    rw [((ord_yn J _ _).1 h1).2, Option.bind_some, if_pos rfl, (gap_yes h2).2, Option.bind_some, if_pos rfl, l_in_1_5, ← zb_t h3, Option.bind_some, if_neg i10, t1, Option.bind_some]
/-! best -/
def bSt (W : Nat → Nat) : Nat → Nat → Option (Nat × Nat) → Option (Nat × Nat)
  | 0, _, s => s
  | j + 1, v, s => bSt W j (v + 1) (match s with
    | none => some (v, W v)
    | some p => if p.2 < W v then some (v, W v) else s)
def bMo : Option (Nat × Nat) → Int32
  | none => -1
  | some p => nI p.2
theorem bMo_go {W : Nat → Nat} {v : Nat} {s : Option (Nat × Nat)} (hW : W v ≤ 8) (hs : ∀ p, s = some p → p.2 ≤ 8) : (nI (W v) ≤ bMo s ↔ ∃ p, s = some p ∧ W v ≤ p.2) := by
  cases s with
  | none =>
    constructor
    · intro h
      have h' : nI (W v) ≤ (-1 : Int32) := h
      rw [Int32.le_iff_toInt_le, nI_toInt (by omega)] at h'
      have e : (-1 : Int32).toInt = -1 := by decide +kernel
      omega
    · rintro ⟨p, h, -⟩
      cases h
  | some p =>
    have := hs p rfl
    show nI (W v) ≤ nI p.2 ↔ _
    rw [nI_leI (by omega) (by omega)]
    exact ⟨fun h => ⟨p, rfl, h⟩, fun ⟨p', h, h'⟩ => by cases h; exact h'⟩
theorem bSt_s {W : Nat → Nat} {j v : Nat} {s : Option (Nat × Nat)} (h : ∃ p, s = some p ∧ W v ≤ p.2) : bSt W (j + 1) v s = bSt W j (v + 1) s := by
  obtain ⟨p, rfl, h⟩ := h
  show bSt W j (v + 1) (if p.2 < W v then some (v, W v) else some p) = _
  rw [if_neg (by omega)]
theorem bSt_n {W : Nat → Nat} {j v : Nat} {s : Option (Nat × Nat)} (h : ¬ ∃ p, s = some p ∧ W v ≤ p.2) : bSt W (j + 1) v s = bSt W j (v + 1) (some (v, W v)) := by
  cases s with
  | none => rfl
  | some p =>
    show bSt W j (v + 1) (if p.2 < W v then some (v, W v) else some p) = _
    rw [if_pos (by
      by_cases c : p.2 < W v
      · exact c
      · exact absurd ⟨p, rfl, by omega⟩ h)]
theorem l_be (J : zJ) {I : zM} {o g k : Nat} {W : Nat → Nat} (hg : g < 6) (hk : k ≤ 5) (hW : ∀ v, W v ≤ 8) (hv : I 2 g = nI k) (hr : ∀ v I', zCl I I' → ∃ I'', f_X11_worthOf J (nI o) (nI g) (nI v) I' = some (nI (W v), I'') ∧ zCl I I'' ∧ I'' 39 3 = -9) : ∀ j v fuel s I', v + j = k + 1 → j < fuel → (∀ p, s = some p → p.2 ≤ 8) → zCl I I' → I' 39 3 = -9 → ∃ x y I'', f_X11_best_25 J (nI o) (nI g) fuel (cPl s) (bMo s) (nI v) I' = some (.inr (cPl (bSt W j v s), x, y, I'')) ∧ zCl I I'' ∧ I'' 39 3 = -9 := by
  have z0 : zin (nI (g)) 6 = true := zin_nI (by omega) (by decide)
  have c0 : Int32.toNatClampNeg (nI (g)) = g := nI_clamp (by omega)
  intro j
  induction j with
  | zero =>
    intro v fuel s I' hj hf hs hz h3
    obtain ⟨n, rfl⟩ : ∃ n, fuel = n + 1 := ⟨fuel - 1, by omega⟩
    have e : v = k + 1 := by omega
    subst e
    refine ⟨bMo s, nI (k + 1), I', ?_, hz, h3⟩
    unfold f_X11_best_25
    rw [if_pos z0, c0, hz 2 (by decide) (by decide) (by decide) (by decide), hv, if_pos (nI_lt (by omega) (by omega))]
    rfl
  | succ j ih =>
    intro v fuel s I' hj hf hs hz h3
    obtain ⟨n, rfl⟩ : ∃ n, fuel = n + 1 := ⟨fuel - 1, by omega⟩
    obtain ⟨I1, k1, k2, k3⟩ := hr v I' hz
    have ng : ¬ nI k < nI v := nI_nlt (by omega) (by omega)
    by_cases c : ∃ p, s = some p ∧ W v ≤ p.2
    · obtain ⟨x, y, I'', e1, e2⟩ := ih (v + 1) n s I1 (by omega) (by omega) hs k2 k3
      refine ⟨x, y, I'', ?_, e2⟩
      rw [bSt_s c]
      unfold f_X11_best_25
      rw [if_pos z0, c0, hz 2 (by decide) (by decide) (by decide) (by decide), hv, if_neg ng, k1, Option.bind_some, if_pos ((bMo_go (hW v) hs).mpr c), q_a1]
      exact e1
    · obtain ⟨x, y, I'', e1, e2⟩ := ih (v + 1) n (some (v, W v)) I1 (by omega) (by omega) (fun p hp => by cases hp; exact hW v) k2 k3
      refine ⟨x, y, I'', ?_, e2⟩
      rw [bSt_n c]
      unfold f_X11_best_25
      rw [if_pos z0, c0, hz 2 (by decide) (by decide) (by decide) (by decide), hv, if_neg ng, k1, Option.bind_some, if_neg (fun z => c ((bMo_go (hW v) hs).mp z)), q_a1]
      exact e1
theorem t_be (J : zJ) {I I1 : zM} {o g k : Nat} {W : Nat → Nat} (hg : g < 6) (hk : k ≤ 5) (hW : ∀ v, W v ≤ 8) (hv : I 148 g = nI k) (hr : ∀ v S T, S < 700000 → zTl I T → tQ S T → ∃ T', f_X12_worthOf J (nI o) (nI g) (nI v) T = some (nI (W v), T') ∧ zTl I T' ∧ T' 147 32 = -9 ∧ (∀ p, p ≤ 90 → T' p = T p) ∧ ∃ S', S' ≤ S + 8 ∧ tQ S' T') : ∀ j v fuel s S T, v + j = k + 1 → j < fuel → (∀ p, s = some p → p.2 ≤ 8) → S + 8 * j < 700000 → zTl I T → T 147 32 = -9 → (∀ p, p ≤ 90 → T p = I1 p) → tQ S T → ∃ x y T' S', f_X12_best_30 J (nI o) (nI g) fuel (cPl s) (bMo s) (nI v) T = some (.inr (cPl (bSt W j v s), x, y, T')) ∧ zTl I T' ∧ T' 147 32 = -9 ∧ (∀ p, p ≤ 90 → T' p = I1 p) ∧ S' ≤ S + 8 * j ∧ tQ S' T' := by
  have z0 : zin (nI (g)) 6 = true := zin_nI (by omega) (by decide)
  have c0 : Int32.toNatClampNeg (nI (g)) = g := nI_clamp (by omega)
  intro j
  induction j with
  | zero =>
    intro v fuel s S T hj hf hs hS hz h3 h4 hQ
    obtain ⟨n, rfl⟩ : ∃ n, fuel = n + 1 := ⟨fuel - 1, by omega⟩
    have e : v = k + 1 := by omega
    subst e
    refine ⟨bMo s, nI (k + 1), T, S, ?_, hz, h3, h4, by omega, hQ⟩
    unfold f_X12_best_30
    rw [if_pos z0, c0, hz.1 148 (by decide) (by decide) (by decide), hv, if_pos (nI_lt (by omega) (by omega))]
    rfl
  | succ j ih =>
    intro v fuel s S T hj hf hs hS hz h3 h4 hQ
    obtain ⟨n, rfl⟩ : ∃ n, fuel = n + 1 := ⟨fuel - 1, by omega⟩
    obtain ⟨T1, k1, k2, k3, k4, S1, k6, k5⟩ := hr v S T (by omega) hz hQ
    have ng : ¬ nI k < nI v := nI_nlt (by omega) (by omega)
    by_cases c : ∃ p, s = some p ∧ W v ≤ p.2
    · obtain ⟨x, y, T', S', e1, e2, e3, e4, e5, e6⟩ := ih (v + 1) n s S1 T1 (by omega) (by omega) hs (by omega) k2 k3 (fun p hp => (k4 p hp).trans (h4 p hp)) k5
      refine ⟨x, y, T', S', ?_, e2, e3, e4, by omega, e6⟩
      rw [bSt_s c]
      unfold f_X12_best_30
      rw [if_pos z0, c0, hz.1 148 (by decide) (by decide) (by decide), hv, if_neg ng, k1, Option.bind_some, if_pos ((bMo_go (hW v) hs).mpr c), q_a1]
      exact e1
    · obtain ⟨x, y, T', S', e1, e2, e3, e4, e5, e6⟩ := ih (v + 1) n (some (v, W v)) S1 T1 (by omega) (by omega) (fun p hp => by cases hp; exact hW v) (by omega) k2 k3 (fun p hp => (k4 p hp).trans (h4 p hp)) k5
      refine ⟨x, y, T', S', ?_, e2, e3, e4, by omega, e6⟩
      rw [bSt_n c]
      unfold f_X12_best_30
      rw [if_pos z0, c0, hz.1 148 (by decide) (by decide) (by decide), hv, if_neg ng, k1, Option.bind_some, if_neg (fun z => c ((bMo_go (hW v) hs).mp z)), q_a1]
      exact e1
theorem q_best : zS_best zInv := by
  intro n I J v1 v2 hn hv
  by_cases h1 : zrg v1 0 3
  case neg =>
    refine ⟨-1, I, zu I 147 0 0, ?_, ?_, zInv_thrown hv⟩
    · unfold f_X11_best
      rw [((ord_yn J v1 I).2 h1).1, Option.bind_some, if_pos rfl]
    · unfold f_X12_best
      rw [((ord_yn J v1 _).2 h1).2, Option.bind_some, if_neg i10]
  by_cases h2 : zrg v2 0 5
  case neg =>
    refine ⟨-1, I, zu I 147 0 0, ?_, ?_, zInv_thrown hv⟩
    · unfold f_X11_best
      rw [((ord_yn J v1 I).1 h1).1, Option.bind_some, if_neg i10, (gap_no h2).1, Option.bind_some, if_pos rfl]
    · unfold f_X12_best
      rw [((ord_yn J v1 _).1 h1).2, Option.bind_some, if_pos rfl, (gap_no h2).2, Option.bind_some, if_neg i10]
  obtain ⟨o, -, ho, rfl⟩ := zrg_nI h1 (by decide)
  obtain ⟨g, -, hg5, rfl⟩ := zrg_nI h2 (by decide)
  have hg : g < 6 := by omega
  obtain ⟨e2, r2⟩ := hv.gap.1 g hg
  obtain ⟨k, -, hk, ek⟩ := zrg_nI r2 (by decide)
  obtain ⟨W, hW⟩ := Classical.axiomOfChoice (fun v => b_worth J (zInw_of hv) (o := o) (g := g) (nI v) (show o < 4 by omega) hg)
  obtain ⟨mb, hm, -, g25, -⟩ := hv.bar
  have hmb : ∀ v : Nat, ∃ mb', W v ≤ mb' ∧ mb' ≤ 8 := fun v => by obtain ⟨mb', a, b, -⟩ := hW v; exact ⟨mb', a, b⟩
  have hW8 : ∀ v, W v ≤ 8 := fun v => by obtain ⟨mb', a, b⟩ := hmb v; omega
  obtain ⟨x, y, I1, c1, c2, c3⟩ := l_be J (I := I) (o := o) (W := W) hg hk hW8 (e2.trans ek) (fun v I' hz => by obtain ⟨mb', a, b, c, d⟩ := hW v; exact c I' hz) k 1 zF none I (by omega) (by unfold zF; omega) (fun p hp => by cases hp) zCl.rf hv.law.1
  have c1' : f_X11_best_25 J (nI o) (nI g) zF (-9) (-1) 1 I = _ := c1
  obtain ⟨S, s1, s2⟩ := tQ_of hv c2
  obtain ⟨x', y', T, S', t1, t2, t3, t4, t5, t6⟩ := t_be J (I := I) (I1 := I1) (o := o) (W := W) hg hk hW8 ek (fun v S T hS hz hQ => by
    obtain ⟨mb', a, b, c, d⟩ := hW v
    obtain ⟨T', d1, d2, d3, d4, d5⟩ := d S T hS hz hQ
    exact ⟨T', d1, d2, d3, d4, S + mb', by omega, d5⟩) k 1 zF none S (zu I1 147 0 0) (by omega) (by unfold zF; omega) (fun p hp => by cases hp) (by omega) (zTl_th c2) (by rw [zu_offk (by decide), zCl_at c2 (by decide)]; exact hv.law.2) (fun p hp => zu_row (by omega)) s2
  have t1' : f_X12_best_30 J (nI o) (nI g) zF (-9) (-1) 1 (zu I1 147 0 0) = _ := t1
  refine ⟨cPl (bSt W k 1 none), I1, T, ?_, ?_, zInv_tl hv c2 c3 t2 t3 t4 t6 (by omega)⟩
  · unfold f_X11_best
    rw [((ord_yn J _ I).1 h1).1, Option.bind_some, if_neg i10, (gap_yes h2).1, Option.bind_some, if_neg i10, c1', Option.bind_some]
    rfl
  · unfold f_X12_best
    rw [((ord_yn J _ _).1 h1).2, Option.bind_some, if_pos rfl, (gap_yes h2).2, Option.bind_some, if_pos rfl, t1', Option.bind_some]
    rfl
