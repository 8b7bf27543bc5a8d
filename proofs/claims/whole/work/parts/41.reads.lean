/-! ===== both read ===== -/
theorem zr_p1 {w : Nat} (hw : w < 4) : zR (91 + 2 * w) 0 = 91 + 2 * w + 1 := (zr_or w hw).trans (by omega)
theorem zCl_at {I I' : zM} (h : zCl I I') {p : Nat} (hp : 90 < p) : I' p = I p := h p (by omega) (by omega) (by omega) (by omega)
def LO (I : zM) (o : Nat) : Nat → Int32 := fun k => I 157 (5 * o + k)
noncomputable def eB (I : zM) (b nn tm le sh a c t : Nat) (L : Nat → Int32) : zM := eOf I (fun g => I 162 (6 * b + g)) L (I 152) nn (zbt (I 6 7)) tm le sh a c t (I 163 b) (-9) (I 147 33)
theorem eB_cT {I I0 : zM} {J : zJ} {b nn tm le sh a c t m : Nat} {L : Nat → Int32} (h : cT (eB I b nn tm le sh a c t L) m I0 J) (L' : Nat → Int32) : cT (eB I b nn tm le sh a c t L') m I0 J := h
/-- the twin's side of a state whose twin rows are those of I -/
theorem tE_th {E I I' : zM} {m q b o nn tm le sh : Nat} (hz : zCl I I') (te : tE E m q b o nn tm le sh I) : tE E m q b o nn tm le sh (zu I' 147 0 0) := by
  have g : ∀ p, 90 < p → I' p = I p := fun p hp => zCl_at hz hp
  have h147 : ∀ k, k ≠ 0 → (zu I' 147 0 0) 147 k = I 147 k := fun k hk => by rw [zu_offk hk, g 147 (by decide)]
  have hrow : ∀ p, 90 < p → p ≠ 147 → (zu I' 147 0 0) p = I p := fun p h1 h2 => (zu_row h2).trans (g p h1)
  unfold tE at te ⊢
  rw [hrow 148 (by decide) (by decide), hrow 150 (by decide) (by decide), hrow 151 (by decide) (by decide), hrow 152 (by decide) (by decide), hrow 153 (by decide) (by decide), hrow 155 (by decide) (by decide), hrow 157 (by decide) (by decide), hrow 158 (by decide) (by decide), hrow 159 (by decide) (by decide), hrow 160 (by decide) (by decide), hrow 161 (by decide) (by decide), hrow 162 (by decide) (by decide), hrow 163 (by decide) (by decide), h147 15 (by decide), h147 8 (by decide), h147 6 (by decide), h147 9 (by decide), h147 10 (by decide), h147 32 (by decide), h147 33 (by decide)]
  exact te
theorem r_base {n : Nat} {I : zM} {J : zJ} (hv : zInv n I J) {b : Nat} (hb : b < 8) : ∃ nn tm le sh a c t m, (∃ I0, f_X5_take J (99 + 6 * b) 6 I = some I0 ∧ zCl I I0 ∧ I0 39 3 = -9 ∧ ∀ L, cT (eB I b nn tm le sh a c t L) m I0 J) ∧ (∀ L q, oP L q → eW (eB I b nn tm le sh a c t L) m q) ∧ ∀ L q o, I 158 o = nI q → (∀ k, k < q → I 157 (5 * o + k) = L k) → tE (eB I b nn tm le sh a c t L) m q b o nn tm le sh I := by
  obtain ⟨mb, -, -, -, gb⟩ := hv.bar
  have hba := gb b hb
  obtain ⟨tm, le, sh, a, c, t, hp⟩ := eP_of hv.tm hba
  obtain ⟨m, hr⟩ := rP_of hv.rul
  obtain ⟨nn, w, h6⟩ := vDo_of hv.doi
  have hva := vVa_0 hv.doi w.2.1 w.1
  refine ⟨nn, tm, le, sh, a, c, t, m, ?_, fun L q hoq => eW_of hv.gap hr hba hoq (Or.inl rfl), fun L q o o2 hL => ?_⟩
  · obtain ⟨I0, k1, k2, k3, k4⟩ := c_take (L := LO I 0) hv.jok hv.gap hr hba hb hp w hva (Or.inl rfl) (lg := -9) (lv := I 147 33) hv.law.1 (Or.inl rfl)
    exact ⟨I0, k1, fun p h1 h2 h3 h4 => k3 p (by omega) (by omega) (by omega) (by omega) (by omega), (k4 3 (by decide) (by decide)).trans hv.law.1, fun L => k2⟩
  · have h := t_env (L := L) (q := q) (o := o) hr hp rfl h6 w.1 (qDoi_told hv.doi) o2 hL
    rw [hv.law.2] at h
    exact h
/-- an order of the four, in both -/
theorem r_ord {n : Nat} {I : zM} {J : zJ} (hv : zInv n I J) {o : Nat} (ho : o < 4) : ∃ q, oP (LO I o) q ∧ 1 ≤ q ∧ I 158 o = nI q ∧ ∀ I', zCl I I' → I' (91 + 2 * o) 1 = nI q ∧ ∀ k, k < q → I' (91 + 2 * o + 1) k = LO I o k := by
  obtain ⟨q, hoq, h1, o1, o2, o3⟩ := oP_of (hv.ord o ho)
  refine ⟨q, hoq, h1, o2, fun I' hz => ⟨?_, fun k hk => ?_⟩⟩
  · rw [hz (91 + 2 * o) (by omega) (by omega) (by omega) (by omega)]
    exact o1
  · rw [hz (91 + 2 * o + 1) (by omega) (by omega) (by omega) (by omega), show 91 + 2 * o + 1 = 92 + 2 * o by omega]
    exact o3 k hk
/-- the class reads the bargain that it took up, by an order of the four -/
theorem r_rd {J : zJ} {E I I1 : zM} {m q o mu lam : Nat} (ho : o < 4) (hw : eW E m q) (hc : cT E m I1 J) (h4 : E 8 4 = 0) (h7 : E 7 = LO I o) (hq : I1 (91 + 2 * o) 1 = nI q) (hL : ∀ k, k < q → I1 (91 + 2 * o + 1) k = LO I o k) (hR : isRing (eNx E m q) mu lam) (hml : mu + lam ≤ 46656) : ∃ I', f_X5_read J (91 + 2 * o) I1 = some I' ∧ zRe I1 I' ∧ rDn (eNx E m q) mu lam I' ∧ cF E m q I' ∧ cT E m I' J := c_read hw hc h4 (Or.inr (by omega)) (zr_p1 ho) hq (fun k hk => (hL k hk).trans (congrFun h7 k).symm) hR hml
theorem r_env {n : Nat} {I : zM} {J : zJ} (hv : zInv n I J) {b o : Nat} (hb : b < 8) (ho : o < 4) : ∃ E m q nn tm le sh mu lam, eW E m q ∧ isRing (eNx E m q) mu lam ∧ mu + lam ≤ 46656 ∧ E 8 2 = -9 ∧ (∃ I0, f_X5_take J (99 + 6 * b) 6 I = some I0 ∧ cT E m I0 J ∧ E 8 4 = 0 ∧ I0 (91 + 2 * o) 1 = nI q ∧ (∀ k, k < q → I0 (91 + 2 * o + 1) k = E 7 k) ∧ zCl I I0 ∧ I0 39 3 = -9) ∧ (∃ I1, f_X11_read J (nI b) (nI o) I = some I1 ∧ zCl I I1 ∧ I1 39 3 = -9 ∧ rDn (eNx E m q) mu lam I1 ∧ cF E m q I1 ∧ cT E m I1 J) ∧ tE E m q b o nn tm le sh I := by
  obtain ⟨nn, tm, le, sh, a, c, t, m, ⟨I0, k1, z0, l0, k2⟩, fw, ft⟩ := r_base hv hb
  obtain ⟨q, hoq, -, o2, o3⟩ := r_ord hv ho
  have hw := fw (LO I o) q hoq
  obtain ⟨mu, lam, hR, hml⟩ := ring_ex (eNx_lt hw.1 (m := m) (q := q))
  obtain ⟨q1, q2⟩ := o3 I0 z0
  obtain ⟨I1, r1, r2, r3, r4, r5⟩ := r_rd ho hw (k2 (LO I o)) rfl rfl q1 q2 hR hml
  refine ⟨_, m, q, nn, tm, le, sh, mu, lam, hw, hR, hml, rfl, ⟨I0, k1, k2 (LO I o), rfl, q1, q2, z0, l0⟩, ⟨I1, ?_, z0.tr (zCl.re r2), (r2.2 3 (by decide)).trans l0, r3, r4, r5⟩, ft (LO I o) q o o2 (fun _ _ => rfl)⟩
  have z0 : zin (nI (b)) 8 = true := zin_nI (by omega) (by decide)
  have c0 : Int32.toNatClampNeg (nI (b)) = b := nI_clamp (by omega)
  have z1 : zin (nI (o)) 4 = true := zin_nI (by omega) (by decide)
  have c1 : Int32.toNatClampNeg (nI (o)) = o := nI_clamp (by omega)
  unfold f_X11_read
  rw [if_pos z0, c0, zr_34 b hb, k1, Option.bind_some, if_pos z1, c1, zr_33 o ho, r1, Option.bind_some]
/-- the invariant behind class and twin -/
theorem zInv_end {n S : Nat} {I I1 I2 : zM} {J : zJ} {f : Nat → Nat} {mu lam : Nat} (hv : zInv n I J) (h1 : zCl I I1) (h2 : I1 39 3 = -9) (h3 : zTw (zu I1 147 0 0) I2) (h4 : tDn f mu lam S I2) (hS : S ≤ 300 * (n + 1)) : zInv (n + 1) I2 J := by
  refine zInv_of (zInw_tw h3 (zInw_th (zInw_cl h1 (zInw_of hv)))) ?_ ?_ ⟨S, hS, h4.1, h4.2.2.2.2.2.2⟩
  · rw [h3.1 39 (by decide) (by decide), zu_row (by decide)]
    exact h2
  · rw [h3.2 32 (by decide), zu_offk (by decide), zCl_at h1 (by decide)]
    exact hv.law.2
/-- rows of the twin that nobody keeps -/
theorem zInv_row {n : Nat} {I I' : zM} {J : zJ} (hv : zInv n I J) (h : ∀ p, p ≠ 170 → p ≠ 171 → p ≠ 172 → p ≠ 176 → I' p = I p) : zInv n I' J := by
  refine zInv_of (zInw_tv ⟨fun p h1 h2 => h p (by omega) (by omega) (by omega) (by omega), fun k hk => by rw [h 147 (by decide) (by decide) (by decide) (by decide)]⟩ (zInw_of hv)) ?_ ?_ ?_
  · rw [h 39 (by decide) (by decide) (by decide) (by decide)]
    exact hv.law.1
  · rw [h 147 (by decide) (by decide) (by decide) (by decide)]
    exact hv.law.2
  · obtain ⟨m, a, b, c⟩ := hv.stp
    refine ⟨m, a, ?_, ?_⟩
    · rw [h 147 (by decide) (by decide) (by decide) (by decide)]
      exact b
    · rw [h 173 (by decide) (by decide) (by decide) (by decide)]
      exact c
theorem r_twin {n : Nat} {I I' : zM} {J : zJ} (hv : zInv n I J) (hn : n < 512) {E : zM} {b o m q nn tm le sh mu lam : Nat} (hz : zCl I I') (h2 : I' 39 3 = -9) (hw : eW E m q) (ht : tE E m q b o nn tm le sh I) (hb : b < 8) (ho : o < 4) (hR : isRing (eNx E m q) mu lam) (hml : mu + lam ≤ 46656) : ∃ S I2, S ≤ 300 * n + 1 ∧ f_X12_readIt J (nI b) (nI o) (zu I' 147 0 0) = some I2 ∧ zTw (zu I' 147 0 0) I2 ∧ tDn (eNx E m q) mu lam S I2 ∧ zInv (n + 1) I2 J ∧ tE E m q b o nn tm le sh I2 := by
  obtain ⟨S, s1, s2, s3⟩ := hv.stp
  obtain ⟨I2, k1, k2, k3⟩ := t_readIt J hw (tE_th hz ht) hb (by omega) hR hml (S := S) (by omega) (by rw [zu_offk (by decide), zCl_at hz (by decide)]; exact s2) (fun a ha => by rw [zu_row (by decide), zCl_at hz (by decide)]; exact s3 a ha)
  exact ⟨S + 1, I2, by omega, k1, k2, k3, zInv_end hv hz h2 k2 k3 (by omega), tE_cg k2 (tE_th hz ht)⟩
theorem rd_no1 {I : zM} {J : zJ} {v w : Int32} {mb : Nat} (g2 : I 0 9 = nI mb) (hm : mb ≤ 8) (h : ¬ (zlt v mb ∧ zrg w 0 3)) : f_X11_canRead J v w I = some (0, I) := by
  rw [l_canRead J v w I g2 (by omega), ← zb_f h]
theorem rd_no2 {I : zM} {J : zJ} {v w : Int32} {mb : Nat} (g2 : I 147 25 = nI mb) (hm : mb ≤ 8) (h : ¬ (zlt v mb ∧ zrg w 0 3)) : f_X12_noReading J v w I = some (1, I) := by
  rw [l_noReading J v w I g2 (by omega), ← zb_t (P := ¬ (zlt v mb ∧ zrg w 0 3)) h]
theorem rd_yes1 {I : zM} {J : zJ} {v w : Int32} {mb : Nat} (g2 : I 0 9 = nI mb) (hm : mb ≤ 8) (h : zlt v mb ∧ zrg w 0 3) : f_X11_canRead J v w I = some (1, I) := by
  rw [l_canRead J v w I g2 (by omega), ← zb_t h]
theorem rd_yes2 {I : zM} {J : zJ} {v w : Int32} {mb : Nat} (g2 : I 147 25 = nI mb) (hm : mb ≤ 8) (h : zlt v mb ∧ zrg w 0 3) : f_X12_noReading J v w I = some (0, I) := by
  rw [l_noReading J v w I g2 (by omega), ← zb_f (P := ¬ (zlt v mb ∧ zrg w 0 3)) (fun q => q h)]
theorem i10 : ¬ (1 : Int32) = 0 := by decide
theorem q_rounds : zS_rounds zInv := by
  intro n I J v1 v2 v3 h3 hn hv
  obtain ⟨mb, hm, g2, g25, -⟩ := hv.bar
  by_cases h : zlt v1 mb ∧ zrg v2 0 3
  case neg =>
    refine ⟨-1, I, zu I 147 0 0, ?_, ?_, zInv_thrown hv⟩
    · unfold f_X11_rounds
      rw [rd_no1 g2 hm h, Option.bind_some, if_pos rfl]
    · unfold f_X12_rounds
      rw [rd_no2 (I := zu I 147 0 0) g25 hm h, Option.bind_some, if_neg i10]
  obtain ⟨b, hb, rfl⟩ := zlt_nI h.1 (by omega)
  obtain ⟨o, -, ho, rfl⟩ := zrg_nI h.2 (by decide)
  obtain ⟨E, m, q, nn, tm, le, sh, mu, lam, hw, hR, hml, hE, -, ⟨I1, k1, k2, k3, k4, k5, k6⟩, ht⟩ := r_env hv (show b < 8 by omega) (show o < 4 by omega)
  obtain ⟨S, I2, -, d1, d2, d3, d4, -⟩ := r_twin hv hn k2 k3 hw ht (by omega) (by omega) hR hml
  have e25 : (zu I1 147 0 0) 147 25 = nI mb := by rw [zu_offk (by decide), zCl_at k2 (by decide)]; exact g25
  by_cases c : v3 = 0
  · refine ⟨nI mu, I1, I2, ?_, ?_, d4⟩
    · unfold f_X11_rounds
      rw [rd_yes1 g2 hm h, Option.bind_some, if_neg i10, k1, Option.bind_some, if_pos c, k4.1]
    · unfold f_X12_rounds
      rw [rd_yes2 e25 hm h, Option.bind_some, if_pos rfl, d1, Option.bind_some, if_pos c, d3.2.2.2.1]
  · refine ⟨nI lam, I1, I2, ?_, ?_, d4⟩
    · unfold f_X11_rounds
      rw [rd_yes1 g2 hm h, Option.bind_some, if_neg i10, k1, Option.bind_some, if_neg c, k4.2.1]
    · unfold f_X12_rounds
      rw [rd_yes2 e25 hm h, Option.bind_some, if_pos rfl, d1, Option.bind_some, if_neg c, d3.2.1]
