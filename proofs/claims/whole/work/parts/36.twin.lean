/-! ===== the twin's next filling ===== -/
/-- the same but for the rows that a reading of the twin uses -/
def zTw (I0 I : zM) : Prop := (∀ p, p ≠ 147 → (p < 170 ∨ p = 176 ∨ 178 ≤ p) → I p = I0 p) ∧ ∀ k, k < 39 → I 147 k = I0 147 k
theorem zTw.rf {I : zM} : zTw I I := ⟨fun _ _ _ => rfl, fun _ _ => rfl⟩
theorem zTw.tr {I I1 I2 : zM} (h : zTw I I1) (g : zTw I1 I2) : zTw I I2 := ⟨fun p h1 h2 => (g.1 p h1 h2).trans (h.1 p h1 h2), fun k hk => (g.2 k hk).trans (h.2 k hk)⟩
theorem zTw.up {I0 I : zM} {p k : Nat} {x : Int32} (h : zTw I0 I) (hp : 170 ≤ p) (hp2 : p < 176 ∨ p = 177) : zTw I0 (zu I p k x) := ⟨fun r h1 h2 => (zu_row (by omega)).trans (h.1 r h1 h2), fun j hj => by rw [zu_row (show 147 ≠ p by omega)]; exact h.2 j hj⟩
theorem zTw.u7 {I0 I : zM} {k : Nat} {x : Int32} (h : zTw I0 I) (hk : 39 ≤ k) : zTw I0 (zu I 147 k x) := ⟨fun r h1 h2 => (zu_row h1).trans (h.1 r h1 h2), fun j hj => (zu_offk (by omega) I 147 x).trans (h.2 j hj)⟩
/-- the same, the row that was put too may differ -/
def zTv (I0 I : zM) : Prop := (∀ p, p ≠ 147 → (p < 170 ∨ 178 ≤ p) → I p = I0 p) ∧ ∀ k, k < 39 → I 147 k = I0 147 k
theorem zTw.v {I0 I : zM} (h : zTw I0 I) : zTv I0 I := ⟨fun p h1 h2 => h.1 p h1 (by omega), h.2⟩
theorem zTv.tr {I I1 I2 : zM} (h : zTv I I1) (g : zTv I1 I2) : zTv I I2 := ⟨fun p h1 h2 => (g.1 p h1 h2).trans (h.1 p h1 h2), fun k hk => (g.2 k hk).trans (h.2 k hk)⟩
/-- the table as the twin has it: bargain b, order o, n doings -/
def tE (E : zM) (m q b o n tm le sh : Nat) (I : zM) : Prop :=
  (∀ g, g < 6 → I 148 g = E 0 g ∧ I 150 g = E 1 g ∧ I 151 g = E 2 g) ∧
  (I 147 15 = nI m ∧ ∀ j, j < 6 * m → I 155 j = E 3 j) ∧
  (∀ g, g < 6 → I 162 (6 * b + g) = E 4 g ∧ sBe (I 152) n (I 159 b) (I 160 b) (nI g) (I 147 8) = E 5 g) ∧
  (∃ a c t, a < 5 ∧ c < 5 ∧ t < 3 ∧ I 159 b = nI a ∧ I 160 b = nI c ∧ I 161 b = nI t ∧ E 8 0 = nI t ∧ ∃ B : Nat → Prop, (∀ i, i < 15 → I 153 i = zb (B i)) ∧ ∀ g, g < 6 → E 6 g = sCs (sKw (I 152) n B a t ∧ sKw (I 152) n B c t) (I 152) n t le sh g) ∧
  (I 147 6 = nI n ∧ n ≤ 24 ∧ I 147 8 = nI tm ∧ I 147 9 = nI le ∧ I 147 10 = nI sh ∧ 1 ≤ le ∧ le ≤ 9 ∧ 51 ≤ sh ∧ sh ≤ 100) ∧
  (I 158 o = nI q ∧ ∀ k, k < q → I 157 (5 * o + k) = E 7 k) ∧
  (I 163 b = E 8 1 ∧ I 147 32 = E 8 2 ∧ I 147 33 = E 8 3)
theorem tE_cv {E I0 I : zM} {m q b o n tm le sh : Nat} (h : zTv I0 I) (t : tE E m q b o n tm le sh I0) : tE E m q b o n tm le sh I := by
  unfold tE at t ⊢
  rw [h.1 148 (by omega) (by omega), h.1 150 (by omega) (by omega), h.1 151 (by omega) (by omega), h.1 152 (by omega) (by omega), h.1 153 (by omega) (by omega), h.1 155 (by omega) (by omega), h.1 157 (by omega) (by omega), h.1 158 (by omega) (by omega), h.1 159 (by omega) (by omega), h.1 160 (by omega) (by omega), h.1 161 (by omega) (by omega), h.1 162 (by omega) (by omega), h.1 163 (by omega) (by omega), h.2 15 (by decide), h.2 8 (by decide), h.2 6 (by decide), h.2 9 (by decide), h.2 10 (by decide), h.2 32 (by decide), h.2 33 (by decide)]
  exact t
theorem tE_cg {E I0 I : zM} {m q b o n tm le sh : Nat} (h : zTw I0 I) (t : tE E m q b o n tm le sh I0) : tE E m q b o n tm le sh I := tE_cv h.v t
theorem t_la (J : zJ) (u : Int32) : ∀ k fuel b (I : zM), k ≤ 6 → k < fuel → b < 46656 → ∃ y I', f_X12_lay_4 J u fuel (nI b) (nI k - 1) I = some (.inr (nI (b / 6 ^ k), y, I')) ∧ (∀ p, p ≠ 170 → I' p = I p) ∧ (∀ i, i < k → I' 170 i = nI (b / 6 ^ (k - 1 - i) % 6)) ∧ ∀ i, k ≤ i → I' 170 i = I 170 i := by
  intro k
  induction k with
  | zero =>
    intro fuel b I hk hf hb
    obtain ⟨n, rfl⟩ : ∃ n, fuel = n + 1 := ⟨fuel - 1, by omega⟩
    refine ⟨nI 0 - 1, I, ?_, fun _ _ => rfl, fun i hi => absurd hi (by omega), fun _ _ => rfl⟩
    unfold f_X12_lay_4
    rw [if_pos nI_m1_neg, Nat.pow_zero, Nat.div_one]
  | succ k ih =>
    intro fuel b I hk hf hb
    obtain ⟨n, rfl⟩ : ∃ n, fuel = n + 1 := ⟨fuel - 1, by omega⟩
    have hn : ¬ nI k < 0 := nI_pos (by omega)
    have z0 : zin (nI (k)) 6 = true := zin_nI (by omega) (by decide)
    have c0 : Int32.toNatClampNeg (nI (k)) = k := nI_clamp (by omega)
    obtain ⟨y, I', e, f1, f2, f3⟩ := ih n (b / 6) (zu I 170 k (nI (b % 6))) (by omega) (by omega) (by omega)
    refine ⟨y, I', ?_, fun p hp => (f1 p hp).trans (zu_row hp), fun i hi => ?_, fun i hi => ?_⟩
    · rw [Nat.div_div_eq_div_mul, Nat.mul_comm, ← Nat.pow_succ] at e
      unfold f_X12_lay_4
      rw [nI_pred, if_neg hn, if_pos z0, q_div6 (by omega), q_rem6 (by omega), c0, nI_dn]
      exact e
    · by_cases c : i = k
      · subst c
        rw [f3 i (Nat.le_refl _), zu_at, if_pos rfl, show i + 1 - 1 - i = 0 by omega, Nat.pow_zero, Nat.div_one]
      · rw [f2 i (by omega), Nat.div_div_eq_div_mul, Nat.mul_comm 6, ← Nat.pow_succ, show (k - 1 - i).succ = k + 1 - 1 - i by omega]
    · rw [f3 i (by omega), zu_at, if_neg (by omega)]
theorem t_layd (J : zJ) (I : zM) {a : Nat} (ha : a < 46656) : ∃ I', f_X12_lay J (nI a) I = some I' ∧ (∀ p, p ≠ 170 → I' p = I p) ∧ dN I' 170 (dig a) := by
  obtain ⟨y, I', e, f1, f2, -⟩ := t_la J (nI a) 6 zF a I (by omega) (by unfold zF; omega) ha
  have e' : f_X12_lay_4 J (nI a) zF (nI a) 5 I = _ := e
  refine ⟨I', ?_, f1, fun i hi => ?_⟩
  · unfold f_X12_lay
    rw [e', Option.bind_some]
    rfl
  · rw [f2 i hi, show 6 - 1 - i = 5 - i by omega]
    rfl
theorem t_there (J : zJ) {E I : zM} {g : Nat} (hg : g < 6) (h : I 148 g = E 0 g) (v : Int32) : f_X12_isThere J (nI g) v I = some (zb (eTh E g v), I) := by
  have z0 : zin (nI (g)) 6 = true := zin_nI (by omega) (by decide)
  have c0 : Int32.toNatClampNeg (nI (g)) = g := nI_clamp (by omega)
  have k : f_X12_in J (Int32.toInt64 v) 1 (Int32.toInt64 (E 0 g)) I = some (zb (eTh E g v), I) := l_inI J v (E 0 g) 1 I (by decide)
  unfold f_X12_isThere
  rw [if_pos z0, c0, h, k, Option.bind_some]
  exact if_pos (zb_01 _)
theorem t_asked (J : zJ) {E I : zM} {g : Nat} {d : Nat → Nat} (hg : g < 6) (h1 : I 148 g = E 0 g) (h2 : I 150 g = E 1 g) (h3 : I 151 g = E 2 g) (ho : E 1 g = -9 ∨ zrg (E 1 g) 0 5) (hd : dN I 170 d) : f_X12_isAsked J (nI g) I = some (zb (eAk E d g), I) := by
  have z0 : zin (nI (g)) 6 = true := zin_nI (by omega) (by decide)
  have c0 : Int32.toNatClampNeg (nI (g)) = g := nI_clamp (by omega)
  simp only [f_X12_isAsked, z0, c0, h1, h2, h3, ↓reduceIte]
  by_cases a : E 0 g ≤ 0
  · rw [if_pos a, ← zb_f (P := eAk E d g) (fun q => q.1 a)]
  · rw [if_neg a]
    rcases ho with o | o
    · rw [if_pos o, ← zb_t (P := eAk E d g) ⟨a, Or.inl o⟩]
    · obtain ⟨w, -, hw, ew⟩ := zrg_nI o (by decide)
      have z1 : zin (nI (w)) 6 = true := zin_nI (by omega) (by decide)
      have c1 : Int32.toNatClampNeg (nI (w)) = w := nI_clamp (by omega)
      have ne : ¬ E 1 g = -9 := fun e => m9_no (by rw [← e]; exact o)
      rw [if_neg ne, ew, if_pos z1, c1, hd w (by omega)]
      by_cases b : nI (d w) = E 2 g
      · rw [if_pos b, ← zb_t (P := eAk E d g) ⟨a, Or.inr (by rw [ew, c1]; exact b)⟩]
      · rw [if_neg b, ← zb_f (P := eAk E d g) (fun q => q.2.elim ne (fun q => b (by rw [ew, c1] at q; exact q)))]
theorem t_rf (J : zJ) {E I : zM} {m q b o nn tm le sh g : Nat} {d : Nat → Nat} (l : Int32) (hw : eW E m q) (ht : tE E m q b o nn tm le sh I) (hb : b < 8) (hg : g < 6) (hd : dN I 170 d) : ∀ j k fuel, k + j = m → j < fuel → ∃ r, ((f_X12_ruleFor_3 J l (nI b) (nI g) fuel (nI k) I).bind fun q => Sum.elim (fun a => some a) (fun a3 => some (((-9), a3.2))) q) = some (r, I) ∧ ((eFi d (eRl E l g j k) = none ∧ r = -9) ∨ ∃ i, i < m ∧ eFi d (eRl E l g j k) = some (eRe E i) ∧ r = nI i) := by
  have hm := hw.2.2.1
  obtain ⟨t1, ⟨t2, t3⟩, -, ⟨a, c, t, ha, hc, htt, -, -, t4, t5, -⟩, -, -, -⟩ := ht
  intro j
  induction j with
  | zero =>
    intro k fuel hk hf
    obtain ⟨n, rfl⟩ : ∃ n, fuel = n + 1 := ⟨fuel - 1, by omega⟩
    have e : k = m := by omega
    subst e
    refine ⟨-9, ?_, Or.inl ⟨rfl, rfl⟩⟩
    unfold f_X12_ruleFor_3
    rw [t2, if_pos (nI_le (Nat.le_refl _) (by omega))]
    rfl
  | succ j ih =>
    intro k fuel hk hf
    obtain ⟨n, rfl⟩ : ∃ n, fuel = n + 1 := ⟨fuel - 1, by omega⟩
    have h0 : ¬ nI m ≤ nI k := nI_ge (by omega) (by omega)
    have z0 : zin (nI (6 * k)) 72 = true := zin_nI (by omega) (by decide)
    have c0 : Int32.toNatClampNeg (nI (6 * k)) = 6 * k := nI_clamp (by omega)
    have z1 : zin (nI (6 * k + 1)) 72 = true := zin_nI (by omega) (by decide)
    have c1 : Int32.toNatClampNeg (nI (6 * k + 1)) = 6 * k + 1 := nI_clamp (by omega)
    have z2 : zin (nI (6 * k + 2)) 72 = true := zin_nI (by omega) (by decide)
    have c2 : Int32.toNatClampNeg (nI (6 * k + 2)) = 6 * k + 2 := nI_clamp (by omega)
    have z3 : zin (nI (6 * k + 3)) 72 = true := zin_nI (by omega) (by decide)
    have c3 : Int32.toNatClampNeg (nI (6 * k + 3)) = 6 * k + 3 := nI_clamp (by omega)
    have z4 : zin (nI (6 * k + 4)) 72 = true := zin_nI (by omega) (by decide)
    have c4 : Int32.toNatClampNeg (nI (6 * k + 4)) = 6 * k + 4 := nI_clamp (by omega)
    have z5 : zin (nI (6 * k + 5)) 72 = true := zin_nI (by omega) (by decide)
    have c5 : Int32.toNatClampNeg (nI (6 * k + 5)) = 6 * k + 5 := nI_clamp (by omega)
    have z8 : zin (nI (b)) 8 = true := zin_nI (by omega) (by decide)
    have c8 : Int32.toNatClampNeg (nI (b)) = b := nI_clamp (by omega)
    have f0 := t3 (6 * k) (by omega)
    have f1 := t3 (6 * k + 1) (by omega)
    have f2 := t3 (6 * k + 2) (by omega)
    have f3 := t3 (6 * k + 3) (by omega)
    have f4 := t3 (6 * k + 4) (by omega)
    have f5 := t3 (6 * k + 5) (by omega)
    have th := t_there J hg (t1 g hg).1 (E 3 (6 * k + 2))
    have t45 : I 161 b = E 8 0 := t4.trans t5.symm
    obtain ⟨r, e1, e2⟩ := ih (k + 1) n (by omega) (by omega)
    have no : (eFi d (eRl E l g (j + 1) k) = eFi d (eRl E l g j (k + 1))) → ∃ r, ((f_X12_ruleFor_3 J l (nI b) (nI g) n (nI (k + 1)) I).bind fun q => Sum.elim (fun a => some a) (fun a3 => some (((-9), a3.2))) q) = some (r, I) ∧ ((eFi d (eRl E l g (j + 1) k) = none ∧ r = -9) ∨ ∃ i, i < m ∧ eFi d (eRl E l g (j + 1) k) = some (eRe E i) ∧ r = nI i) := fun h => by
      rw [h]
      exact ⟨r, e1, e2⟩
    simp only [f_X12_ruleFor_3, t2, h0, q_6, q_a1, q_a2, q_a3, q_a4, q_a5, z0, z1, z2, z3, z4, z5, z8, c0, c1, c2, c3, c4, c5, c8, f0, f1, f2, f3, f4, f5, th, t45, Option.bind_some, ↓reduceIte]
    by_cases b0 : E 3 (6 * k) = l
    case neg =>
      rw [if_neg b0]
      exact no (by rw [eRl_n (fun q => b0 q.1)])
    rw [if_pos b0]
    by_cases b1 : E 3 (6 * k + 1) = nI g
    case neg =>
      rw [if_neg b1]
      exact no (by rw [eRl_n (fun q => b1 q.2.1)])
    rw [if_pos b1]
    by_cases b2 : eTh E g (E 3 (6 * k + 2))
    case neg =>
      rw [if_pos (zb_eq0.mpr b2)]
      exact no (by rw [eRl_n (fun q => b2 q.2.2.1)])
    rw [if_neg (fun z => zb_eq0.mp z b2)]
    have iff : (E 3 (6 * k + 5) = -9 ∨ E 3 (6 * k + 5) = E 8 0) → ∃ r, (((if E 3 (6 * k + 3) = -9 then some (Sum.inl (nI k, I)) else if zin (E 3 (6 * k + 3)) 6 = true then (if I 170 (Int32.toNatClampNeg (E 3 (6 * k + 3))) = E 3 (6 * k + 4) then some (Sum.inl (nI k, I)) else f_X12_ruleFor_3 J l (nI b) (nI g) n (nI (k + 1)) I) else none) : Option ((Int32 × zM) ⊕ (Int32 × zM))).bind fun q => Sum.elim (fun a => some a) (fun a3 => some (((-9), a3.2))) q) = some (r, I) ∧ ((eFi d (eRl E l g (j + 1) k) = none ∧ r = -9) ∨ ∃ i, i < m ∧ eFi d (eRl E l g (j + 1) k) = some (eRe E i) ∧ r = nI i) := fun b5 => by
      have yes : eRf E l g k := ⟨b0, b1, b2, b5⟩
      rcases (hw.2.2.2.1 k (by omega)).2 with b3 | b3
      · rw [if_pos b3]
        have ft : eFt d (eRe E k) := Or.inl (by show ¬ zrg (E 3 (6 * k + 3)) 0 5; rw [b3]; exact m9_no)
        exact ⟨nI k, rfl, Or.inr ⟨k, by omega, by rw [eRl_p yes, eFi_p ft], rfl⟩⟩
      · have ne : ¬ E 3 (6 * k + 3) = -9 := fun e => m9_no (by rw [← e]; exact b3)
        obtain ⟨w, -, hww, ew⟩ := zrg_nI b3 (by decide)
        have z9 : zin (nI (w)) 6 = true := zin_nI (by omega) (by decide)
        have c9 : Int32.toNatClampNeg (nI (w)) = w := nI_clamp (by omega)
        rw [if_neg ne, ew, if_pos z9, c9, hd w (by omega)]
        by_cases b4 : nI (d w) = E 3 (6 * k + 4)
        · rw [if_pos b4]
          have ft : eFt d (eRe E k) := Or.inr (by show nI (d (E 3 (6 * k + 3)).toNatClampNeg) = E 3 (6 * k + 4); rw [ew, c9]; exact b4)
          exact ⟨nI k, rfl, Or.inr ⟨k, by omega, by rw [eRl_p yes, eFi_p ft], rfl⟩⟩
        · rw [if_neg b4]
          have ft : ¬ eFt d (eRe E k) := fun q => q.elim (fun q => q b3) (fun q => b4 (by
            have q' : nI (d (E 3 (6 * k + 3)).toNatClampNeg) = E 3 (6 * k + 4) := q
            rw [ew, c9] at q'
            exact q'))
          exact no (by rw [eRl_p yes, eFi_n ft])
    by_cases b5 : E 3 (6 * k + 5) = -9
    · rw [if_pos b5]
      exact iff (Or.inl b5)
    · rw [if_neg b5]
      by_cases b6 : E 3 (6 * k + 5) = E 8 0
      · rw [if_pos b6]
        exact iff (Or.inr b6)
      · rw [if_neg b6]
        exact no (by rw [eRl_n (fun q => q.2.2.2.elim b5 b6)])
theorem t_ruleFor (J : zJ) {E I : zM} {m q b o nn tm le sh g : Nat} {d : Nat → Nat} (l : Int32) (hw : eW E m q) (ht : tE E m q b o nn tm le sh I) (hb : b < 8) (hg : g < 6) (hd : dN I 170 d) : ∃ r, f_X12_ruleFor J l (nI b) (nI g) I = some (r, I) ∧ ((eFi d (eRl E l g m 0) = none ∧ r = -9) ∨ ∃ i, i < m ∧ eFi d (eRl E l g m 0) = some (eRe E i) ∧ r = nI i) := by
  have hm := hw.2.2.1
  exact t_rf J l hw ht hb hg hd m 0 zF (by omega) (by unfold zF; omega)
