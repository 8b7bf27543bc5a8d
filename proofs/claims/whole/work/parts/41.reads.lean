/-! ===== both read ===== -/
theorem zr_p1 {w : Nat} (hw : w < 4) : zR (91 + 2 * w) 0 = 91 + 2 * w + 1 := (zr_or w hw).trans (by omega)
theorem told_of {I : zM} (h : qDoi I) : ∀ i, i < 15 → I 153 i = zb (zbt (I 6 7) i) := qDoi_told h
theorem zCl_at {I I' : zM} (h : zCl I I') {p : Nat} (hp : 90 < p) : I' p = I p := h p (by omega) (by omega) (by omega) (by omega)
theorem r_env {n : Nat} {I : zM} {J : zJ} (hv : zInv n I J) {b o : Nat} (hb : b < 8) (ho : o < 4) : ∃ E m q nn tm le sh mu lam, eW E m q ∧ isRing (eNx E m q) mu lam ∧ mu + lam ≤ 46656 ∧ E 8 2 = -9 ∧ (∃ I0, f_X5_take J (99 + 6 * b) 6 I = some I0 ∧ cT E m I0 J ∧ E 8 4 = 0 ∧ I0 (91 + 2 * o) 1 = nI q ∧ (∀ k, k < q → I0 (91 + 2 * o + 1) k = E 7 k) ∧ zCl I I0 ∧ I0 39 3 = -9) ∧ (∃ I1, f_X11_read J (nI b) (nI o) I = some I1 ∧ zCl I I1 ∧ I1 39 3 = -9 ∧ rDn (eNx E m q) mu lam I1 ∧ cF E m q I1 ∧ cT E m I1 J) ∧ ∀ I', zCl I I' → tE E m q b o nn tm le sh (zu I' 147 0 0) := by
  obtain ⟨mb, -, -, -, gb⟩ := hv.bar
  have hba := gb b hb
  obtain ⟨tm, le, sh, a, c, t, hp⟩ := eP_of hv.tm hba
  obtain ⟨m, hr⟩ := rP_of hv.rul
  obtain ⟨q, hoq, -, o1, o2, o3⟩ := oP_of (hv.ord o ho)
  obtain ⟨nn, w, h6⟩ := vDo_of hv.doi
  have hva := vVa_0 hv.doi w.2.1 w.1
  have hw : eW (eOf I (fun g => I 162 (6 * b + g)) (fun k => I 157 (5 * o + k)) (I 152) nn (zbt (I 6 7)) tm le sh a c t (I 163 b) (-9) (I 147 33)) m q := eW_of hv.gap hr hba hoq (Or.inl rfl)
  obtain ⟨mu, lam, hR, hml⟩ := ring_ex (eNx_lt hw.1 (m := m) (q := q))
  obtain ⟨I0, k1, k2, k3, k4⟩ := c_take (L := fun k => I 157 (5 * o + k)) hv.jok hv.gap hr hba hb hp w hva (Or.inl rfl) (lg := -9) (lv := I 147 33) hv.law.1 (Or.inl rfl)
  have e1 : I0 (91 + 2 * o) = I (91 + 2 * o) := k3 _ (by omega) (by omega) (by omega) (by omega) (by omega)
  have e2 : I0 (91 + 2 * o + 1) = I (91 + 2 * o + 1) := k3 _ (by omega) (by omega) (by omega) (by omega) (by omega)
  have q1 : I0 (91 + 2 * o) 1 = nI q := by rw [e1]; exact o1
  have q2 : ∀ k, k < q → I0 (91 + 2 * o + 1) k = I 157 (5 * o + k) := fun k hk => by
    rw [e2, show 91 + 2 * o + 1 = 92 + 2 * o by omega]
    exact o3 k hk
  have z0 : zCl I I0 := fun p h1 h2 h3 h4 => k3 p (by omega) (by omega) (by omega) (by omega) (by omega)
  obtain ⟨I1, r1, r2, r3, r4, r5⟩ := c_read hw k2 rfl (p1 := 91 + 2 * o) (Or.inr (by omega)) (zr_p1 ho) q1 q2 hR hml
  have l0 : I0 39 3 = -9 := (k4 3 (by decide) (by decide)).trans hv.law.1
  refine ⟨_, m, q, nn, tm, le, sh, mu, lam, hw, hR, hml, rfl, ⟨I0, k1, k2, rfl, q1, q2, z0, l0⟩, ⟨I1, ?_, z0.tr (zCl.re r2), (r2.2 3 (by decide)).trans l0, r3, r4, r5⟩, fun I' hz => ?_⟩
  · @zc(0; b; 8)
    have z1 : zin (nI (o)) 4 = true := zin_nI (by omega) (by decide)
    have c1 : Int32.toNatClampNeg (nI (o)) = o := nI_clamp (by omega)
    unfold f_X11_read
    rw [if_pos z0, c0, zr_34 b hb, k1, Option.bind_some, if_pos z1, c1, zr_33 o ho, r1, Option.bind_some]
  · have g : ∀ p, 90 < p → I' p = I p := fun p hp => zCl_at hz hp
    have h147 : ∀ k, k ≠ 0 → (zu I' 147 0 0) 147 k = I 147 k := fun k hk => by rw [zu_offk hk, g 147 (by decide)]
    have hrow : ∀ p, 90 < p → p ≠ 147 → (zu I' 147 0 0) p = I p := fun p h1 h2 => (zu_row h2).trans (g p h1)
    have te : tE (eOf I (fun g => I 162 (6 * b + g)) (fun k => I 157 (5 * o + k)) (I 152) nn (zbt (I 6 7)) tm le sh a c t (I 163 b) (-9) (I 147 33)) m q b o nn tm le sh I := by
      have h := t_env (L := fun k => I 157 (5 * o + k)) (q := q) (o := o) hr hp rfl h6 w.1 (told_of hv.doi) o2 (fun _ _ => rfl)
      rw [hv.law.2] at h
      exact h
    unfold tE at te ⊢
    rw [hrow 148 (by decide) (by decide), hrow 150 (by decide) (by decide), hrow 151 (by decide) (by decide), hrow 152 (by decide) (by decide), hrow 153 (by decide) (by decide), hrow 155 (by decide) (by decide), hrow 157 (by decide) (by decide), hrow 158 (by decide) (by decide), hrow 159 (by decide) (by decide), hrow 160 (by decide) (by decide), hrow 161 (by decide) (by decide), hrow 162 (by decide) (by decide), hrow 163 (by decide) (by decide), h147 15 (by decide), h147 8 (by decide), h147 6 (by decide), h147 9 (by decide), h147 10 (by decide), h147 32 (by decide), h147 33 (by decide)]
    exact te
/-- the stamps of the invariant, one reading later -/
theorem zInv_end {n S : Nat} {I I1 I2 : zM} {J : zJ} {f : Nat → Nat} {mu lam : Nat} (hv : zInv n I J) (h1 : zCl I I1) (h2 : I1 39 3 = -9) (h3 : zTw (zu I1 147 0 0) I2) (h4 : tDn f mu lam S I2) (hS : S ≤ 300 * (n + 1)) : zInv (n + 1) I2 J := by
  refine zInv_of (zInw_tw h3 (zInw_th (zInw_cl h1 (zInw_of hv)))) ?_ ?_ ⟨S, hS, h4.1, h4.2.2.2.2.2.2⟩
  · rw [h3.1 39 (by decide) (by decide), zu_row (by decide)]
    exact h2
  · rw [h3.2 32 (by decide), zu_offk (by decide), zCl_at h1 (by decide)]
    exact hv.law.2
theorem r_twin {n : Nat} {I I' : zM} {J : zJ} (hv : zInv n I J) (hn : n < 512) {E : zM} {b o m q nn tm le sh mu lam : Nat} (hz : zCl I I') (hw : eW E m q) (ht : tE E m q b o nn tm le sh (zu I' 147 0 0)) (hb : b < 8) (ho : o < 4) (hR : isRing (eNx E m q) mu lam) (hml : mu + lam ≤ 46656) : ∃ S I2, S ≤ 300 * (n + 1) ∧ f_X12_readIt J (nI b) (nI o) (zu I' 147 0 0) = some I2 ∧ zTw (zu I' 147 0 0) I2 ∧ tDn (eNx E m q) mu lam S I2 := by
  obtain ⟨S, s1, s2, s3⟩ := hv.stp
  obtain ⟨I2, k1, k2, k3⟩ := t_readIt J hw ht hb (by omega) hR hml (S := S) (by omega) (by rw [zu_offk (by decide), zCl_at hz (by decide)]; exact s2) (fun a ha => by rw [zu_row (by decide), zCl_at hz (by decide)]; exact s3 a ha)
  exact ⟨S + 1, I2, by omega, k1, k2, k3⟩
theorem rd_no1 {I : zM} {J : zJ} {v w : Int32} {mb : Nat} (g2 : I 0 9 = nI mb) (hm : mb ≤ 8) (h : ¬ (zlt v mb ∧ zrg w 0 3)) : f_X11_canRead J v w I = some (0, I) := by
  rw [l_canRead J v w I g2 (by omega), ← zb_f h]
theorem rd_no2 {I : zM} {J : zJ} {v w : Int32} {mb : Nat} (g2 : I 147 25 = nI mb) (hm : mb ≤ 8) (h : ¬ (zlt v mb ∧ zrg w 0 3)) : f_X12_noReading J v w I = some (1, I) := by
  rw [l_noReading J v w I g2 (by omega), ← zb_t (P := ¬ (zlt v mb ∧ zrg w 0 3)) h]
theorem rd_yes1 {I : zM} {J : zJ} {v w : Int32} {mb : Nat} (g2 : I 0 9 = nI mb) (hm : mb ≤ 8) (h : zlt v mb ∧ zrg w 0 3) : f_X11_canRead J v w I = some (1, I) := by
  rw [l_canRead J v w I g2 (by omega), ← zb_t h]
theorem rd_yes2 {I : zM} {J : zJ} {v w : Int32} {mb : Nat} (g2 : I 147 25 = nI mb) (hm : mb ≤ 8) (h : zlt v mb ∧ zrg w 0 3) : f_X12_noReading J v w I = some (0, I) := by
  rw [l_noReading J v w I g2 (by omega), ← zb_f (P := ¬ (zlt v mb ∧ zrg w 0 3)) (fun q => q h)]
theorem i10 : (1 : Int32) = 0 ↔ False := ⟨fun h => absurd h (by decide), False.elim⟩
