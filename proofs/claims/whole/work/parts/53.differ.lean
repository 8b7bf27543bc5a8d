/-! ===== two answers ===== -/
noncomputable def rMu (f : Nat → Nat) : Nat := Classical.epsilon (fun mu => ∃ lam, isRing f mu lam ∧ mu + lam ≤ 46656)
noncomputable def rLa (f : Nat → Nat) : Nat := Classical.epsilon (fun lam => isRing f (rMu f) lam ∧ rMu f + lam ≤ 46656)
theorem r_is {f : Nat → Nat} (hf : ∀ a, f a < 46656) : isRing f (rMu f) (rLa f) ∧ rMu f + rLa f ≤ 46656 := Classical.epsilon_spec (p := fun lam => isRing f (rMu f) lam ∧ rMu f + lam ≤ 46656) (Classical.epsilon_spec (p := fun mu => ∃ lam, isRing f mu lam ∧ mu + lam ≤ 46656) (ring_ex hf))
/-- THE ANSWER, of the ring that there is -/
noncomputable def rA (f : Nat → Nat) : Nat := rAn f (rMu f) (rLa f - 1)
theorem rA_lt {f : Nat → Nat} : rA f < 46656 := rAn_lt
/-- so many stamps, none above -/
def tQ (S : Nat) (I : zM) : Prop := I 147 39 = nI S ∧ ∀ a, a < 46656 → ∃ s, s ≤ S ∧ I 173 a = nI s
theorem t_rdi (J : zJ) {E I : zM} {m q b o nn tm le sh S : Nat} (hw : eW E m q) (ht : tE E m q b o nn tm le sh I) (hb : b < 8) (ho : o < 5) (hS : S < 900000) (hQ : tQ S I) : ∃ I', f_X12_readIt J (nI b) (nI o) I = some I' ∧ zTw I I' ∧ tQ (S + 1) I' ∧ ∀ g, g < 6 → I' 175 g = nI (dig (rA (eNx E m q)) g) := by
  obtain ⟨hR, hml⟩ := r_is (eNx_lt hw.1 (m := m) (q := q))
  obtain ⟨I', k1, k2, k3⟩ := t_readIt J hw ht hb ho hR hml hS hQ.1 hQ.2
  exact ⟨I', k1, k2, ⟨k3.1, k3.2.2.2.2.2.2⟩, k3.2.2.2.2.1⟩
theorem c_rd {J : zJ} {E I : zM} {m q p1 : Nat} (hw : eW E m q) (hc : cT E m I J) (h4 : E 8 4 = 0) (hp : p1 + 1 < 39 ∨ 75 ≤ p1) (r1 : zR p1 0 = p1 + 1) (hq : I p1 1 = nI q) (hL : ∀ k, k < q → I (p1 + 1) k = E 7 k) : ∃ I', f_X5_read J p1 I = some I' ∧ zRe I I' ∧ I' 39 14 = nI (rA (eNx E m q)) ∧ cT E m I' J := by
  obtain ⟨hR, hml⟩ := r_is (eNx_lt hw.1 (m := m) (q := q))
  obtain ⟨I', k1, k2, k3, -, k5⟩ := c_read hw hc h4 hp r1 hq hL hR hml
  exact ⟨I', k1, k2, k3.2.2.1, k5⟩
theorem t_pu (J : zJ) {I0 : zM} : ∀ j k fuel I, k + j = 6 → j < fuel → (∀ q, q ≠ 176 → I q = I0 q) → (∀ g, g < k → I 176 g = I0 175 g) → ∃ y I', f_X12_put_2 J fuel (nI k) I = some (.inr (y, I')) ∧ (∀ q, q ≠ 176 → I' q = I0 q) ∧ ∀ g, g < 6 → I' 176 g = I0 175 g := by
  intro j
  induction j with
  | zero =>
    intro k fuel I hk hf h1 h2
    obtain ⟨n, rfl⟩ : ∃ n, fuel = n + 1 := ⟨fuel - 1, by omega⟩
    have e : k = 6 := by omega
    subst e
    refine ⟨nI 6, I, ?_, h1, h2⟩
    unfold f_X12_put_2
    rw [if_pos (show (6 : Int32) ≤ nI 6 by decide)]
  | succ j ih =>
    intro k fuel I hk hf h1 h2
    obtain ⟨n, rfl⟩ : ∃ n, fuel = n + 1 := ⟨fuel - 1, by omega⟩
    have h0 : ¬ (6 : Int32) ≤ nI k := nI_ge (b := 6) (by omega) (by decide)
    have z0 : zin (nI (k)) 6 = true := zin_nI (by omega) (by decide)
    have c0 : Int32.toNatClampNeg (nI (k)) = k := nI_clamp (by omega)
    obtain ⟨y, I', e1, e2⟩ := ih (k + 1) n (zu I 176 k (I0 175 k)) (by omega) (by omega) (fun q hq => (zu_row hq).trans (h1 q hq)) (fun g hg => by
      rw [zu_at]
      by_cases e : g = k
      · rw [if_pos e, e]
      · rw [if_neg e]
        exact h2 g (by omega))
    refine ⟨y, I', ?_, e2⟩
    unfold f_X12_put_2
    rw [if_neg h0, if_pos z0, if_pos z0, c0, h1 175 (by decide), q_a1]
    exact e1
theorem t_put (J : zJ) (I : zM) : ∃ I', f_X12_put J I = some I' ∧ (∀ q, q ≠ 176 → I' q = I q) ∧ ∀ g, g < 6 → I' 176 g = I 175 g := by
  obtain ⟨y, I', e1, e2, e3⟩ := t_pu J (I0 := I) 6 0 zF I rfl (by unfold zF; omega) (fun _ _ => rfl) (fun g h => absurd h (by omega))
  have e1' : f_X12_put_2 J zF 0 I = _ := e1
  refine ⟨I', ?_, e2, e3⟩
  unfold f_X12_put
  rw [e1', Option.bind_some]
  rfl
theorem t_un (J : zJ) {I : zM} {A B : Nat} (h175 : ∀ g, g < 6 → I 175 g = nI (dig B g)) (h176 : ∀ g, g < 6 → I 176 g = nI (dig A g)) : ∀ j g fuel, g + j = 6 → j < fuel → f_X12_unlike_4 J fuel (zset (fun i => i < g ∧ uNl A B i)) (nI g) I = some (.inr (zset (uNl A B), nI 6, I)) := by
  intro j
  induction j with
  | zero =>
    intro g fuel hk hf
    obtain ⟨n, rfl⟩ : ∃ n, fuel = n + 1 := ⟨fuel - 1, by omega⟩
    have e : g = 6 := by omega
    subst e
    unfold f_X12_unlike_4
    rw [if_pos (show (6 : Int32) ≤ nI 6 by decide), zset_6]
  | succ j ih =>
    intro g fuel hk hf
    obtain ⟨n, rfl⟩ : ∃ n, fuel = n + 1 := ⟨fuel - 1, by omega⟩
    have h0 : ¬ (6 : Int32) ≤ nI g := nI_ge (b := 6) (by omega) (by decide)
    have hg : g < 6 := by omega
    have z0 : zin (nI (g)) 6 = true := zin_nI (by omega) (by decide)
    have c0 : Int32.toNatClampNeg (nI (g)) = g := nI_clamp (by omega)
    have st := ih (g + 1) n (by omega) (by omega)
    have l1 := dig_lt A g
    have l2 := dig_lt B g
    unfold f_X12_unlike_4
    rw [if_neg h0, if_pos z0, if_pos z0, c0, h175 g hg, h176 g hg, q_a1, or_0]
    by_cases c : dig B g = dig A g
    · rw [if_pos (congrArg nI c), zs_no (P := uNl A B) (fun q => q c.symm)]
      exact st
    · rw [if_neg (fun z => c ((nI_eq (by omega) (by omega)).mp z)), zs_go (P := uNl A B) (fun q => c q.symm) hg]
      exact st
theorem t_unlike (J : zJ) {I : zM} {A B : Nat} (h175 : ∀ g, g < 6 → I 175 g = nI (dig B g)) (h176 : ∀ g, g < 6 → I 176 g = nI (dig A g)) : f_X12_unlike J I = some (zset (uNl A B), I) := by
  have k := t_un J h175 h176 6 0 zF rfl (by unfold zF; omega)
  rw [← zs_0] at k
  have k' : f_X12_unlike_4 J zF 0 0 I = _ := k
  unfold f_X12_unlike
  rw [k', Option.bind_some]
  rfl
theorem zTv.p176 {I I1 I2 : zM} (h : zTv I I1) (g : ∀ q, q ≠ 176 → I2 q = I1 q) : zTv I I2 := ⟨fun p h1 h2 => (g p (by omega)).trans (h.1 p h1 h2), fun k hk => by rw [g 147 (by decide)]; exact h.2 k hk⟩
theorem tQ_of {n : Nat} {I I' : zM} {J : zJ} (hv : zInv n I J) (hz : zCl I I') : ∃ S, S ≤ 300 * n ∧ tQ S (zu I' 147 0 0) := by
  obtain ⟨S, s1, s2, s3⟩ := hv.stp
  refine ⟨S, s1, ?_, fun a ha => ?_⟩
  · rw [zu_offk (by decide), zCl_at hz (by decide)]
    exact s2
  · rw [zu_row (by decide), zCl_at hz (by decide)]
    exact s3 a ha
theorem zInv_q {n S : Nat} {I I1 I2 : zM} {J : zJ} (hv : zInv n I J) (h1 : zCl I I1) (h2 : I1 39 3 = -9) (h3 : zTv (zu I1 147 0 0) I2) (h4 : tQ S I2) (hS : S ≤ 300 * (n + 1)) : zInv (n + 1) I2 J := by
  refine zInv_of (zInw_tv h3 (zInw_th (zInw_cl h1 (zInw_of hv)))) ?_ ?_ ⟨S, hS, h4.1, h4.2⟩
  · rw [h3.1 39 (by decide) (by decide), zu_row (by decide)]
    exact h2
  · rw [h3.2 32 (by decide), zu_offk (by decide), zCl_at h1 (by decide)]
    exact hv.law.2
theorem q_differ : zS_differ zInv := by
  intro n I J v1 v2 v3 hn hv
  obtain ⟨mb, hm, g2, g25, -⟩ := hv.bar
  by_cases h : zlt v1 mb ∧ zrg v2 0 3
  case neg =>
    refine ⟨-1, I, zu I 147 0 0, ?_, ?_, zInv_thrown hv⟩
    · unfold f_X11_differ
      rw [rd_no1 g2 hm h, Option.bind_some, if_pos rfl]
    · unfold f_X12_differ
      rw [rd_no2 (I := zu I 147 0 0) g25 hm h, Option.bind_some, if_neg i10]
  by_cases h3 : zrg v3 0 3
  case neg =>
    refine ⟨-1, I, zu I 147 0 0, ?_, ?_, zInv_thrown hv⟩
    · unfold f_X11_differ
      rw [rd_yes1 g2 hm h, Option.bind_some, if_neg i10, l_isOrder, ← zb_f h3, Option.bind_some, if_pos rfl]
    · unfold f_X12_differ
      rw [rd_yes2 (I := zu I 147 0 0) g25 hm h, Option.bind_some, if_pos rfl, l_noOrder, ← zb_t (P := ¬ zrg v3 0 3) h3, Option.bind_some, if_neg i10]
  obtain ⟨b, hb, rfl⟩ := zlt_nI h.1 (by omega)
  obtain ⟨o, -, ho, rfl⟩ := zrg_nI h.2 (by decide)
  obtain ⟨p, -, hp, rfl⟩ := zrg_nI h3 (by decide)
  obtain ⟨nn, tm, le, sh, a, c, t, m, ⟨I0, k1, z0, l0, k2⟩, fw, ft⟩ := r_base hv (show b < 8 by omega)
  obtain ⟨qo, oo, -, o2, o3⟩ := r_ord hv (show o < 4 by omega)
  obtain ⟨qp, pp, -, p2, p3⟩ := r_ord hv (show p < 4 by omega)
  have wo := fw (LO I o) qo oo
  have wp := fw (LO I p) qp pp
  obtain ⟨x1, x2⟩ := o3 I0 z0
  obtain ⟨I1, c1, c2, c3, c4⟩ := c_rd wo (k2 (LO I o)) rfl (Or.inr (show 75 ≤ 91 + 2 * o by omega)) (zr_p1 (by omega)) x1 x2
  have z1 : zCl I I1 := z0.tr (zCl.re c2)
  obtain ⟨y1, y2⟩ := p3 I1 z1
  obtain ⟨I2, d1, d2, d3, d4⟩ := c_rd wp (eB_cT c4 (LO I p)) rfl (Or.inr (show 75 ≤ 91 + 2 * p by omega)) (zr_p1 (by omega)) y1 y2
  have z2 : zCl I I2 := z1.tr (zCl.re d2)
  have l2 : I2 39 3 = -9 := (d2.2 3 (by decide)).trans ((c2.2 3 (by decide)).trans l0)
  have un := l_unlike J I2 (a := rA (eNx (eB I b nn tm le sh a c t (LO I o)) m qo)) (b := rA (eNx (eB I b nn tm le sh a c t (LO I p)) m qp)) rA_lt rA_lt
  obtain ⟨S, s1, s2⟩ := tQ_of hv z2
  have to := tE_th z2 (ft (LO I o) qo o o2 (fun _ _ => rfl))
  have tp := tE_th z2 (ft (LO I p) qp p p2 (fun _ _ => rfl))
  obtain ⟨T1, e1, e2, e3, e4⟩ := t_rdi J wo to (show b < 8 by omega) (show o < 5 by omega) (show S < 900000 by omega) s2
  obtain ⟨T2, f1, f2, f3⟩ := t_put J T1
  have w2 := e2.v.p176 f2
  obtain ⟨T3, i1, i2, i3, i4⟩ := t_rdi J wp (tE_cv w2 tp) (show b < 8 by omega) (show p < 5 by omega) (show S + 1 < 900000 by omega) ⟨by rw [f2 147 (by decide)]; exact e3.1, by rw [f2 173 (by decide)]; exact e3.2⟩
  have w3 := w2.tr i2.v
  have h176 : ∀ g, g < 6 → T3 176 g = nI (dig (rA (eNx (eB I b nn tm le sh a c t (LO I o)) m qo)) g) := fun g hg => by
    rw [i2.1 176 (by decide) (by decide), f3 g hg]
    exact e4 g hg
  have tu := t_unlike J i4 h176
  have e25 : (zu I2 147 0 0) 147 25 = nI mb := by rw [zu_offk (by decide), zCl_at z2 (by decide)]; exact g25
  have z7 : zin (nI (b)) 8 = true := zin_nI (by omega) (by decide)
  have c7 : Int32.toNatClampNeg (nI (b)) = b := nI_clamp (by omega)
  have z8 : zin (nI (o)) 4 = true := zin_nI (by omega) (by decide)
  have c8 : Int32.toNatClampNeg (nI (o)) = o := nI_clamp (by omega)
  have z9 : zin (nI (p)) 4 = true := zin_nI (by omega) (by decide)
  have c9 : Int32.toNatClampNeg (nI (p)) = p := nI_clamp (by omega)
  have rd : f_X11_read J (nI b) (nI o) I = some I1 := by
    unfold f_X11_read
    rw [if_pos z7, c7, zr_34 b (by omega), k1, Option.bind_some, if_pos z8, c8, zr_33 o (by omega), c1, Option.bind_some]
  refine ⟨zset (uNl (rA (eNx (eB I b nn tm le sh a c t (LO I o)) m qo)) (rA (eNx (eB I b nn tm le sh a c t (LO I p)) m qp))), I2, T3, ?_, ?_, zInv_q hv z2 l2 w3 i3 (by omega)⟩
  · unfold f_X11_differ
    rw [rd_yes1 g2 hm h, Option.bind_some, if_neg i10, l_isOrder, ← zb_t h3, Option.bind_some, if_neg i10, rd, Option.bind_some, if_pos z9, c9, zr_33 p (by omega), d1, Option.bind_some, c3, d3, un, Option.bind_some]
  · unfold f_X12_differ
    rw [rd_yes2 e25 hm h, Option.bind_some, if_pos rfl, l_noOrder, ← zb_f (P := ¬ zrg (nI p) 0 3) (fun q => q h3), Option.bind_some, if_pos rfl, e1, Option.bind_some, f1, Option.bind_some, i1, Option.bind_some, tu, Option.bind_some]
