/-! ===== the calls that read texts ===== -/
/-- the class's places that only reading uses: the rule behind the last, the spare order and sayings -/
def spN (J : zJ) (m q : Nat) : Prop := q = zrp J m ∨ q = 35 ∨ q = 36 ∨ q = 37 ∨ q = 38
theorem qRul_sp {I I' : zM} {J : zJ} {m : Nat} (hJ : zJok J) (hin : ∀ r s, r < 13 → s < 13 → zrp J r = zrp J s → r = s) (hr : rP I J m) (h : ∀ q, q ≠ zrp J m → q ≠ 35 → q ≠ 36 → q ≠ 37 → q ≠ 38 → q ≠ 147 → q ≠ 156 → q ≠ 165 → I' q = I q) (h15 : I' 147 15 = I 147 15) : rP I' J m := by
  obtain ⟨r1, r2, r3, r4⟩ := hr
  have hm := hJ.2 m (by omega)
  refine ⟨r1, ?_, h15.trans r3, fun r hrm => ?_⟩
  · rw [h 18 (by omega) (by omega) (by omega) (by omega) (by omega) (by omega) (by omega) (by omega)]
    exact r2
  · have hq := hJ.2 r (by omega)
    have ne : zrp J r ≠ zrp J m := fun e => by have := hin r m (by omega) (by omega) e; omega
    rw [h (zrp J r) ne (by omega) (by omega) (by omega) (by omega) (by omega) (by omega) (by omega), h 155 (by omega) (by omega) (by omega) (by omega) (by omega) (by omega) (by omega) (by omega)]
    exact r4 r hrm
theorem zInv_sp {n m : Nat} {I I' : zM} {J : zJ} (hv : zInv n I J) (hr : rP I J m) (h : ∀ q, q ≠ zrp J m → q ≠ 35 → q ≠ 36 → q ≠ 37 → q ≠ 38 → q ≠ 147 → q ≠ 156 → q ≠ 165 → I' q = I q) (h7' : ∀ k, k ≠ 0 → k ≠ 13 → k ≠ 27 → I' 147 k = I 147 k) : zInv (n + 1) I' J := by
  have hm := hv.jok.2 m (by have := hr.1; omega)
  have hh : ∀ q, (q < 20 ∨ 39 ≤ q) ∧ q ≠ 147 ∧ q ≠ 156 ∧ q ≠ 165 → I' q = I q := fun q hq => h q (by omega) (by omega) (by omega) (by omega) (by omega) (by omega) (by omega) (by omega)
  have h7 : ∀ k, k ≠ 0 ∧ k ≠ 13 ∧ k ≠ 27 → I' 147 k = I 147 k := fun k hk => h7' k hk.1 hk.2.1 hk.2.2
  exact zInv_mk hv.jok hv.jin (qGap_cg (fun p _ _ => hh p (by omega)) (fun p _ _ => hh p (by omega)) hv.gap) (qTm_cg (fun p _ _ => hh p (by omega)) (h7 8 (by omega)) (h7 9 (by omega)) (h7 10 (by omega)) hv.tm) (qDoi_cg (fun p _ _ => hh p (by omega)) (fun p _ _ => hh p (by omega)) (h7 6 (by omega)) hv.doi) (qKep_cg (fun p _ _ => hh p (by omega)) (fun p _ _ => hh p (by omega)) (fun j _ => by rw [hh 166 (by omega)]) (fun j _ => by rw [hh 167 (by omega)]) (fun j _ => by rw [hh 168 (by omega)]) (fun p _ _ => hh p (by omega)) hv.kep) (qTxt_cg (fun p _ _ => hh p (by omega)) (fun p _ _ => hh p (by omega)) (h7 12 (by omega)) hv.txt) ⟨m, qRul_sp hv.jok hv.jin hr h (h7 15 (by omega))⟩ (qOrd_cg (fun p _ _ => hh p (by omega)) (fun j _ => by rw [hh 157 (by omega)]) (fun j _ => by rw [hh 158 (by omega)]) hv.ord) (qBar_cg (fun p _ _ => hh p (by omega)) (fun p _ _ => hh p (by omega)) (fun p _ _ => hh p (by omega)) (h7 25 (by omega)) hv.bar) (qLaw_cg (by rw [hh 39 (by omega)]) (h7 32 (by omega)) hv.law) (qStp_cg (h7 39 (by omega)) (fun p _ _ => hh p (by omega)) hv.stp)
theorem l_spare {J : zJ} {I : zM} {m : Nat} (h : I 18 1 = nI m) (hm : m ≤ 12) : f_X7_spare J I = some (zrp J m, I) := by
  have z0 : zin (nI (m)) 13 = true := zin_nI (by omega) (by decide)
  have c0 : Int32.toNatClampNeg (nI (m)) = m := nI_clamp (by omega)
  unfold f_X7_spare
  rw [h, if_pos z0, c0]
/-- both have read the text as a rule; the class first -/
theorem b_rule {n : Nat} {I : zM} {J : zJ} (hv : zInv n I J) {m : Nat} (hr : rP I J m) : ∃ r I1 I2, f_X10_readFrom_X6 J (zrp J m) I = some (r, I1) ∧ f_X12_readRule J (zu I1 147 0 0) = some (r, I2) ∧ (∀ q, q ≠ zrp J m → I1 q = I q) ∧ zRr (zu I1 147 0 0) I2 ∧ (r = -9 → rOK (zrp J m) I1 I2) := by
  obtain ⟨L, t, hL, x, y, ht⟩ := txt_of hv.txt
  have hm := hv.jok.2 m (by have := hr.1; omega)
  obtain ⟨r, I1, I2, a1, a2, a3, a4, a5⟩ := rd_rule (J := J) hL ht hm.2.1 x y
  have y1 : xT (zu I1 147 0 0) L t := by
    unfold xT at y ⊢
    rw [zu_offk (by decide), zu_row (by decide), a3 147 (by omega), a3 154 (by omega)]
    exact y
  obtain ⟨r', J1, J2, b1, b2, b3, b4, b5⟩ := rd_rule (J := J) (p := zrp J m) hL ht hm.2.1 x y1
  have e := a1.symm.trans b1
  simp only [Option.some.injEq, Prod.mk.injEq] at e
  obtain ⟨rfl, rfl⟩ := e
  exact ⟨r, I1, J2, a1, b2, a3, b4, b5⟩
theorem b_order {n : Nat} {I : zM} {J : zJ} (hv : zInv n I J) : ∃ r I1 I2 L t, L ≤ 24 ∧ f_X10_readFrom_X4 J 35 I = some (r, I1) ∧ f_X12_readOrder J (zu I1 147 0 0) = some (r, I2) ∧ (∀ q, q ≠ 35 → q ≠ 36 → I1 q = I q) ∧ zRr (zu I1 147 0 0) I2 ∧ xT I2 L t ∧ (∀ i, i < L → t i < 256) ∧ (r = -9 → 1 ≤ L ∧ ∃ had, oS I1 I2 had t L) := by
  obtain ⟨L, t, hL, x, y, ht⟩ := txt_of hv.txt
  obtain ⟨r, I1, I2, a1, a2, a3, a4, a5⟩ := rd_order (J := J) hL ht x y
  have y1 : xT (zu I1 147 0 0) L t := by
    unfold xT at y ⊢
    rw [zu_offk (by decide), zu_row (by decide), a3 147 (by decide) (by decide), a3 154 (by decide) (by decide)]
    exact y
  obtain ⟨r', J1, J2, b1, b2, b3, b4, b5⟩ := rd_order (J := J) hL ht x y1
  have e := a1.symm.trans b1
  simp only [Option.some.injEq, Prod.mk.injEq] at e
  obtain ⟨rfl, rfl⟩ := e
  exact ⟨r, I1, J2, L, t, hL, a1, b2, a3, b4, b4.x y1, ht, b5⟩
theorem b_words {n : Nat} {I : zM} {J : zJ} (hv : zInv n I J) : ∃ r I1 I2, f_X10_readFrom_X8 J 37 I = some (r, I1) ∧ f_X12_readWords J (zu I1 147 0 0) = some (r, I2) ∧ (∀ q, q ≠ 37 → q ≠ 38 → I1 q = I q) ∧ zRr (zu I1 147 0 0) I2 ∧ (r = -9 → wOK I1 I2) := by
  obtain ⟨L, t, hL, x, y, ht⟩ := txt_of hv.txt
  obtain ⟨r, I1, I2, a1, a2, a3, a4, a5⟩ := rd_words (J := J) hL ht x y
  have y1 : xT (zu I1 147 0 0) L t := by
    unfold xT at y ⊢
    rw [zu_offk (by decide), zu_row (by decide), a3 147 (by decide) (by decide), a3 154 (by decide) (by decide)]
    exact y
  obtain ⟨r', J1, J2, b1, b2, b3, b4, b5⟩ := rd_words (J := J) hL ht x y1
  have e := a1.symm.trans b1
  simp only [Option.some.injEq, Prod.mk.injEq] at e
  obtain ⟨rfl, rfl⟩ := e
  exact ⟨r, I1, J2, a1, b2, a3, b4, b5⟩
/-- frames: from the class's state to the twin's -/
theorem fr_row {I I1 I2 : zM} {P : Nat → Prop} (h1 : ∀ q, ¬ P q → I1 q = I q) (h2 : zRr (zu I1 147 0 0) I2) {q : Nat} (hq : ¬ P q) (a : q ≠ 147) (b : q ≠ 156) (c : q ≠ 165) : I2 q = I q := (h2.1 q a b c).trans ((zu_row a).trans (h1 q hq))
theorem fr_147 {I I1 I2 : zM} (h1 : I1 147 = I 147) (h2 : zRr (zu I1 147 0 0) I2) {k : Nat} (a : k ≠ 0) (b : k ≠ 13) (c : k ≠ 27) : I2 147 k = I 147 k := (h2.2 k b c).trans ((zu_offk a I1 147 0).trans (by rw [h1]))
theorem zInv_rd {n m : Nat} {I I1 I2 : zM} {J : zJ} (hv : zInv n I J) (hr : rP I J m) (h : ∀ q, q ≠ zrp J m → q ≠ 35 → q ≠ 36 → q ≠ 37 → q ≠ 38 → I1 q = I q) (h2 : zRr (zu I1 147 0 0) I2) : zInv (n + 1) I2 J := by
  have hm := hv.jok.2 m (by have := hr.1; omega)
  exact zInv_sp hv hr (fun q a b c d e f g i => (h2.1 q f g i).trans ((zu_row f).trans (h q a b c d e))) (fun k a b c => fr_147 (h 147 (by omega) (by omega) (by omega) (by omega) (by omega)) h2 a b c)
theorem q_fault : zS_fault zInv := by
  intro n I J v1 hn hv
  obtain ⟨m, hr⟩ := rP_of hv.rul
  by_cases h0 : v1 = 0
  · obtain ⟨r, I1, I2, a1, a2, a3, a4, a5⟩ := b_rule hv hr
    refine ⟨r, I1, I2, ?_, ?_, zInv_rd hv hr (fun q q1 _ _ _ _ => a3 q q1) a4⟩
    · unfold f_X11_fault
      rw [if_pos h0, l_spare hr.2.1 hr.1, Option.bind_some, a1, Option.bind_some]
    · unfold f_X12_fault
      rw [if_pos h0, a2, Option.bind_some]
  by_cases h1 : v1 = 1
  · obtain ⟨r, I1, I2, L, t, hL, a1, a2, a3, a4, -, -, -⟩ := b_order hv
    refine ⟨r, I1, I2, ?_, ?_, zInv_rd hv hr (fun q _ q1 q2 _ _ => a3 q q1 q2) a4⟩
    · unfold f_X11_fault
      rw [if_neg h0, if_pos h1, a1, Option.bind_some]
    · unfold f_X12_fault
      rw [if_neg h0, if_pos h1, a2, Option.bind_some]
  by_cases h2 : v1 = 2
  · obtain ⟨r, I1, I2, a1, a2, a3, a4, a5⟩ := b_words hv
    refine ⟨r, I1, I2, ?_, ?_, zInv_rd hv hr (fun q _ _ _ q1 q2 => a3 q q1 q2) a4⟩
    · unfold f_X11_fault
      rw [if_neg h0, if_neg h1, if_pos h2, a1, Option.bind_some]
    · unfold f_X12_fault
      rw [if_neg h0, if_neg h1, if_pos h2, a2, Option.bind_some]
  · refine ⟨-1, I, zu I 147 0 0, ?_, ?_, zInv_thrown hv⟩
    · unfold f_X11_fault
      rw [if_neg h0, if_neg h1, if_neg h2]
    · unfold f_X12_fault
      rw [if_neg h0, if_neg h1, if_neg h2]
/-! rule -/
theorem t_ru (J : zJ) {I0 : zM} {m : Nat} (hm : m < 12) (h15 : I0 147 15 = nI m) : ∀ j k fuel I, k + j = 6 → j < fuel → (∀ q, q ≠ 155 → I q = I0 q) → (∀ x, x < 6 * m → I 155 x = I0 155 x) → (∀ f, f < k → I 155 (6 * m + f) = I0 156 f) → ∃ y I', f_X12_rule_31 J fuel (nI k) I = some (.inr (y, I')) ∧ (∀ q, q ≠ 155 → I' q = I0 q) ∧ (∀ x, x < 6 * m → I' 155 x = I0 155 x) ∧ ∀ f, f < 6 → I' 155 (6 * m + f) = I0 156 f := by
  intro j
  induction j with
  | zero =>
    intro k fuel I hk hf h1 h2 h3
    obtain ⟨n, rfl⟩ : ∃ n, fuel = n + 1 := ⟨fuel - 1, by omega⟩
    have e : k = 6 := by omega
    subst e
    refine ⟨nI 6, I, ?_, h1, h2, h3⟩
    unfold f_X12_rule_31
    rw [if_pos (show (6 : Int32) ≤ nI 6 by decide)]
  | succ j ih =>
    intro k fuel I hk hf h1 h2 h3
    obtain ⟨n, rfl⟩ : ∃ n, fuel = n + 1 := ⟨fuel - 1, by omega⟩
    have h0 : ¬ (6 : Int32) ≤ nI k := nI_ge (b := 6) (by omega) (by decide)
    have z0 : zin (nI (k)) 6 = true := zin_nI (by omega) (by decide)
    have c0 : Int32.toNatClampNeg (nI (k)) = k := nI_clamp (by omega)
    have z1 : zin (nI (6 * m + k)) 72 = true := zin_nI (by omega) (by decide)
    have c1 : Int32.toNatClampNeg (nI (6 * m + k)) = 6 * m + k := nI_clamp (by omega)
    have e15 : I 147 15 = nI m := by rw [h1 147 (by decide)]; exact h15
    obtain ⟨y, I', e1, e2⟩ := ih (k + 1) n (zu I 155 (6 * m + k) (I 156 k)) (by omega) (by omega) (fun q hq => (zu_row hq).trans (h1 q hq)) (fun x hx => (zu_offk (by omega) I 155 _).trans (h2 x hx)) (fun f hf => by
      rw [zu_at]
      by_cases e : f = k
      · rw [if_pos (by omega), e, h1 156 (by decide)]
      · rw [if_neg (by omega)]
        exact h3 f (by omega))
    refine ⟨y, I', ?_, e2⟩
    unfold f_X12_rule_31
    rw [if_neg h0, if_pos z0, e15, q_6, nI_add, if_pos z1, c1, c0, q_a1]
    exact e1
theorem q_rule : zS_rule zInv := by
  intro n I J hn hv
  obtain ⟨m, hr⟩ := rP_of hv.rul
  have hr' := hr
  obtain ⟨r1, r2, r3, r4⟩ := hr
  have hm := hv.jok.2 m (by omega)
  obtain ⟨r, I1, I2, a1, a2, a3, a4, a5⟩ := b_rule hv hr'
  have z2 : zInv (n + 1) I2 J := zInv_rd hv hr' (fun q q1 _ _ _ _ => a3 q q1) a4
  have e18 : I1 18 1 = nI m := by rw [a3 18 (by omega)]; exact r2
  have e15 : I2 147 15 = nI m := (fr_147 (a3 147 (by omega)) a4 (by decide) (by decide) (by decide)).trans r3
  by_cases c : r = -9
  case neg =>
    refine ⟨-3, I1, I2, ?_, ?_, z2⟩
    · unfold f_X11_rule
      rw [l_spare r2 r1, Option.bind_some, a1, Option.bind_some, if_neg c]
    · unfold f_X12_rule
      rw [a2, Option.bind_some, if_neg c]
  by_cases h12 : m = 12
  · refine ⟨-4, I1, I2, ?_, ?_, z2⟩
    · unfold f_X11_rule
      rw [l_spare r2 r1, Option.bind_some, a1, Option.bind_some, if_pos c]
      have nlt : ¬ nI m < 12 := nI_nlt (b := 12) (by omega) (by omega)
      simp only [e18, nlt, ↓reduceIte]
    · unfold f_X12_rule
      rw [a2, Option.bind_some, if_pos c]
      have eq12 : nI m = 12 := by rw [h12]; rfl
      simp only [e15, eq12, ↓reduceIte]
  obtain ⟨o1, o2, o3⟩ := a5 c
  obtain ⟨y, I3, b1, b2, b3, b4⟩ := t_ru J (I0 := I2) (show m < 12 by omega) e15 6 0 zF I2 rfl (by unfold zF; omega) (fun _ _ => rfl) (fun _ _ => rfl) (fun f hf => absurd hf (by omega))
  have b1' : f_X12_rule_31 J zF 0 I2 = _ := b1
  have n12 : ¬ nI m = 12 := fun e => h12 ((nI_eq (b := 12) (by omega) (by decide)).mp e)
  -- the class's last step comes before the twin's reading: read again behind it
  obtain ⟨L, t, hL, x, yt, ht⟩ := txt_of hv.txt
  have yc : xT (zu (zu I1 18 1 (nI (m + 1))) 147 0 0) L t := by
    unfold xT at yt ⊢
    rw [zu_offk (by decide), zu_row (by decide), zu_row (by decide), zu_row (by decide), a3 147 (by omega), a3 154 (by omega)]
    exact yt
  obtain ⟨r', J1, J2, d1, d2, d3, d4, d5⟩ := rd_rule (J := J) (p := zrp J m) hL ht hm.2.1 x yc
  have e := a1.symm.trans d1
  simp only [Option.some.injEq, Prod.mk.injEq] at e
  obtain ⟨e1, e2⟩ := e
  subst e1
  subst e2
  obtain ⟨o1, o2, o3⟩ := d5 c
  have f147 : ∀ k, k ≠ 0 → k ≠ 13 → k ≠ 27 → J2 147 k = I 147 k := fun k k0 k1 k2 => by
    rw [d4.2 k k1 k2, zu_offk k0, zu_row (by decide), a3 147 (by omega)]
  have frow : ∀ q, q ≠ zrp J m → q ≠ 18 → q ≠ 147 → q ≠ 156 → q ≠ 165 → J2 q = I q := fun q q1 q2 q3 q4 q5 => by
    rw [d4.1 q q3 q4 q5, zu_row q3, zu_row q2, a3 q q1]
  have e15' : J2 147 15 = nI m := (f147 15 (by decide) (by decide) (by decide)).trans r3
  obtain ⟨y, I3, b1, b2, b3, b4⟩ := t_ru J (I0 := J2) (show m < 12 by omega) e15' 6 0 zF J2 rfl (by unfold zF; omega) (fun _ _ => rfl) (fun _ _ => rfl) (fun f hf => absurd hf (by omega))
  have b1' : f_X12_rule_31 J zF 0 J2 = _ := b1
  have e3 : I3 147 15 = nI m := by rw [b2 147 (by decide)]; exact e15'
  refine ⟨nI m, zu I1 18 1 (nI (m + 1)), zu I3 147 15 (nI (m + 1)), ?_, ?_, ?_⟩
  · unfold f_X11_rule
    rw [l_spare r2 r1, Option.bind_some, a1, Option.bind_some, if_pos c]
    have ltm : nI m < 12 := nI_lt (b := 12) (by omega) (by decide)
    simp only [e18, ltm, q_a1, zu_at, nI_pred, ↓reduceIte]
  · unfold f_X12_rule
    rw [d2, Option.bind_some, if_pos c]
    simp only [e15', n12, b1', Option.bind_some, ↓reduceIte]
    show some ((zu I3 147 15 (I3 147 15 + 1)) 147 15 - 1, zu I3 147 15 (I3 147 15 + 1)) = _
    rw [e3, q_a1, zu_at, if_pos rfl, nI_pred]
  · have h : ∀ q, q ≠ zrp J m ∧ q ≠ 18 ∧ q ≠ 147 ∧ q ≠ 155 ∧ q ≠ 156 ∧ q ≠ 165 → (zu I3 147 15 (nI (m + 1))) q = I q := fun q hq => by
      rw [zu_row hq.2.2.1, b2 q hq.2.2.2.1, frow q hq.1 hq.2.1 hq.2.2.1 hq.2.2.2.2.1 hq.2.2.2.2.2]
    have hh : ∀ q, (q < 18 ∨ 33 ≤ q) ∧ q ≠ 147 ∧ q ≠ 155 ∧ q ≠ 156 ∧ q ≠ 165 → (zu I3 147 15 (nI (m + 1))) q = I q := fun q hq => h q (by omega)
    have h7 : ∀ k, k ≠ 0 ∧ k ≠ 13 ∧ k ≠ 15 ∧ k ≠ 27 → (zu I3 147 15 (nI (m + 1))) 147 k = I 147 k := fun k hk => by
      rw [zu_offk hk.2.2.1, b2 147 (by decide), f147 k hk.1 hk.2.1 hk.2.2.2]
    refine zInv_mk hv.jok hv.jin (qGap_cg (fun p _ _ => hh p (by omega)) (fun p _ _ => hh p (by omega)) hv.gap) (qTm_cg (fun p _ _ => hh p (by omega)) (h7 8 (by omega)) (h7 9 (by omega)) (h7 10 (by omega)) hv.tm) (qDoi_cg (fun p _ _ => hh p (by omega)) (fun p _ _ => hh p (by omega)) (h7 6 (by omega)) hv.doi) (qKep_cg (fun p _ _ => hh p (by omega)) (fun p _ _ => hh p (by omega)) (fun j _ => by rw [hh 166 (by omega)]) (fun j _ => by rw [hh 167 (by omega)]) (fun j _ => by rw [hh 168 (by omega)]) (fun p _ _ => hh p (by omega)) hv.kep) (qTxt_cg (fun p _ _ => hh p (by omega)) (fun p _ _ => hh p (by omega)) (h7 12 (by omega)) hv.txt) ⟨m + 1, by omega, ?_, ?_, fun r hrm => ?_⟩ (qOrd_cg (fun p _ _ => hh p (by omega)) (fun j _ => by rw [hh 157 (by omega)]) (fun j _ => by rw [hh 158 (by omega)]) hv.ord) (qBar_cg (fun p _ _ => hh p (by omega)) (fun p _ _ => hh p (by omega)) (fun p _ _ => hh p (by omega)) (h7 25 (by omega)) hv.bar) (qLaw_cg (by rw [hh 39 (by omega)]) (h7 32 (by omega)) hv.law) (qStp_cg (h7 39 (by omega)) (fun p _ _ => hh p (by omega)) hv.stp)
    · rw [zu_row (by decide), b2 18 (by decide), d4.1 18 (by decide) (by decide) (by decide), zu_row (by decide), zu_at, if_pos rfl]
    · rw [zu_at, if_pos rfl]
    · have hq := hv.jok.2 r (by omega)
      rw [zu_row (show zrp J r ≠ 147 by omega), zu_row (show 155 ≠ 147 by decide), b2 (zrp J r) (by omega)]
      by_cases er : r = m
      · subst er
        rw [b4 1 (by decide), b4 3 (by decide), d4.1 (zrp J r) (by omega) (by omega) (by omega), zu_row (by omega), zu_row (by omega)]
        exact ⟨fun f hf => by rw [b4 f hf]; exact o1 f hf, o2, o3⟩
      · have ne : zrp J r ≠ zrp J m := fun e => er (hv.jin r m (by omega) (by omega) e)
        have f155 : J2 155 = I 155 := frow 155 (by omega) (by decide) (by decide) (by decide) (by decide)
        rw [frow (zrp J r) ne (by omega) (by omega) (by omega) (by omega), b3 _ (by omega), b3 _ (by omega), f155]
        obtain ⟨g1, g2, g3⟩ := r4 r (by omega)
        exact ⟨fun f hf => by rw [b3 _ (by omega), f155]; exact g1 f hf, g2, g3⟩
