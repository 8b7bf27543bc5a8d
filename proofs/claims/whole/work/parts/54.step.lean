/-! ===== the step ===== -/
def sw (i k : Nat) : Nat := if k = i then i + 1 else if k = i + 1 then i else k
theorem sw_lt {i k q : Nat} (hi : i + 1 < q) (hk : k < q) : sw i k < q := by
  unfold sw
  by_cases a : k = i
  · rw [if_pos a]; omega
  · rw [if_neg a]
    by_cases b : k = i + 1
    · rw [if_pos b]; omega
    · rw [if_neg b]; exact hk
theorem sw_in {i j k : Nat} (h : sw i j = sw i k) : j = k := by
  unfold sw at h
  by_cases a : j = i
  · rw [if_pos a] at h
    by_cases b : k = i
    · omega
    · rw [if_neg b] at h
      by_cases c : k = i + 1
      · rw [if_pos c] at h; omega
      · rw [if_neg c] at h; omega
  · rw [if_neg a] at h
    by_cases a2 : j = i + 1
    · rw [if_pos a2] at h
      by_cases b : k = i
      · rw [if_pos b] at h; omega
      · rw [if_neg b] at h
        by_cases c : k = i + 1
        · omega
        · rw [if_neg c] at h; omega
    · rw [if_neg a2] at h
      by_cases b : k = i
      · rw [if_pos b] at h; omega
      · rw [if_neg b] at h
        by_cases c : k = i + 1
        · rw [if_pos c] at h; omega
        · rw [if_neg c] at h; exact h
def LSw (L : Nat → Int32) (i : Nat) : Nat → Int32 := fun k => L (sw i k)
theorem oP_sw {L : Nat → Int32} {q i : Nat} (h : oP L q) (hi : i + 1 < q) : oP (LSw L i) q := ⟨h.1, fun k hk => h.2.1 _ (sw_lt hi hk), fun j k hj hk e => sw_in (h.2.2 _ _ (sw_lt hi hj) (sw_lt hi hk) e)⟩
theorem pop_le (k : Nat) : pop k ≤ 6 := by
  unfold pop
  omega
/-- how many gaps a change moves -/
noncomputable def nMv (E : zM) (m q A : Nat) : Nat := pop (zsN (uNl A (rA (eNx E m q))))
theorem cT_off {E I I' : zM} {J : zJ} {m : Nat} (h : ∀ p, p ≠ 35 → p ≠ 36 → I' p = I p) (c : cT E m I J) : cT E m I' J := by
  obtain ⟨c1, ⟨c2, c3⟩, c4⟩ := c
  refine ⟨cG_cg (fun p h1 h2 => h p (by omega) (by omega)) c1, ⟨?_, fun r hr => ?_⟩, ?_⟩
  · rw [h 18 (by decide) (by decide)]
    exact c2
  · obtain ⟨a, b, d⟩ := c3 r hr
    refine ⟨a, b, ?_⟩
    rw [h (zrp J r) (by omega) (by omega)]
    exact d
  · unfold cS at c4 ⊢
    rw [h 40 (by decide) (by decide), h 41 (by decide) (by decide), h 42 (by decide) (by decide), h 39 (by decide) (by decide)]
    exact c4
theorem l_moved (J : zJ) {E I : zM} {m q o i A : Nat} {L : Nat → Int32} (ho : o < 4) (hA : A < 46656) (hw : eW E m q) (hc : cT E m I J) (h4 : E 8 4 = 0) (h7 : E 7 = LSw L i) (hi : i + 1 < q) (hq : I (91 + 2 * o) 1 = nI q) (hL : ∀ k, k < q → I (91 + 2 * o + 1) k = L k) : ∃ I', f_X11_movedBy J (91 + 2 * o) (nI i) (nI A) I = some (nI (nMv E m q A), I') ∧ zCl I I' ∧ I' 39 3 = I 39 3 ∧ cT E m I' J := by
  have hq5 := hw.2.2.2.2.1
  have r35 : zR 35 0 = 36 := by decide +kernel
  have rp := zr_p1 ho
  have z0 : zin (nI (i)) 5 = true := zin_nI (by omega) (by decide)
  have c0 : Int32.toNatClampNeg (nI (i)) = i := nI_clamp (by omega)
  have z1 : zin (nI (i + 1)) 5 = true := zin_nI (by omega) (by decide)
  have c1 : Int32.toNatClampNeg (nI (i + 1)) = i + 1 := nI_clamp (by omega)
  have cp : f_X4_copy J 35 (91 + 2 * o) I = some (zu (zcp I (91 + 2 * o + 1) 36 5) 35 1 (nI q)) := by
    unfold f_X4_copy
    rw [r35, rp, zcp_row (show 91 + 2 * o ≠ 36 by omega), hq]
  have e35 : (zu (zcp I (91 + 2 * o + 1) 36 5) 35 1 (nI q)) 35 1 = nI q := by rw [zu_at, if_pos rfl]
  have e36 : ∀ k, k < 5 → (zu (zcp I (91 + 2 * o + 1) 36 5) 35 1 (nI q)) 36 k = I (91 + 2 * o + 1) k := fun k hk => by rw [zu_row (by decide), zcp_at hk]
  have eo : ∀ p, p ≠ 35 → p ≠ 36 → (zu (zcp I (91 + 2 * o + 1) 36 5) 35 1 (nI q)) p = I p := fun p p1 p2 => (zu_row p1).trans (zcp_row p2)
  generalize zu (zcp I (91 + 2 * o + 1) 36 5) 35 1 (nI q) = I1 at cp e35 e36 eo
  have hn : ¬ nI i < 0 := nI_pos (by omega)
  have sp : f_X4_swap J 35 (nI i) I1 = some (zu (zu I1 36 i (I1 36 (i + 1))) 36 (i + 1) (I1 36 i)) := by
    unfold f_X4_swap
    rw [if_neg hn, e35, q_a1, if_neg (nI_ge hi (by omega)), if_pos z0, if_pos z1, if_pos z0, if_pos z1, r35, c0, c1]
  have f36 : ∀ k, k < q → (zu (zu I1 36 i (I1 36 (i + 1))) 36 (i + 1) (I1 36 i)) 36 k = E 7 k := fun k hk => by
    rw [zu_at, zu_at, h7, e36 i (by omega), e36 (i + 1) (by omega)]
    unfold LSw sw
    by_cases a : k = i
    · rw [if_neg (by omega), if_pos a, if_pos a]
      exact hL (i + 1) hi
    · rw [if_neg a]
      by_cases b : k = i + 1
      · rw [if_pos b, if_neg a, if_pos b]
        exact hL i (by omega)
      · rw [if_neg b, if_neg a, if_neg b, e36 k (by omega)]
        exact hL k hk
  have fo : ∀ p, p ≠ 35 → p ≠ 36 → (zu (zu I1 36 i (I1 36 (i + 1))) 36 (i + 1) (I1 36 i)) p = I p := fun p p1 p2 => (zu_row p2).trans ((zu_row p2).trans (eo p p1 p2))
  have f35 : (zu (zu I1 36 i (I1 36 (i + 1))) 36 (i + 1) (I1 36 i)) 35 1 = nI q := by rw [zu_row (by decide), zu_row (by decide)]; exact e35
  generalize zu (zu I1 36 i (I1 36 (i + 1))) 36 (i + 1) (I1 36 i) = I2 at sp f36 fo f35
  obtain ⟨I3, k1, k2, k3, k4⟩ := c_rd hw (cT_off fo hc) h4 (p1 := 35) (Or.inl (by decide)) r35 f35 f36
  have un := l_unlike J I3 hA (rA_lt (f := eNx E m q))
  have bc : f_J6_bitCount_0f7a4 J (zset (uNl A (rA (eNx E m q)))) I3 = some (nI (nMv E m q A), I3) := l_bc J I3 (zsN_lt _)
  refine ⟨I3, ?_, fun p h1 h2 h3 h5 => (k2.1 p (by omega) (by omega) (by omega)).trans (fo p (by omega) (by omega)), ?_, k4⟩
  · unfold f_X11_movedBy
    rw [cp, Option.bind_some, sp, Option.bind_some, k1, Option.bind_some, k3, un, Option.bind_some, bc, Option.bind_some]
  · rw [k2.2 3 (by decide), fo 39 (by decide) (by decide)]
/-- the first that moves most -/
def mo : Option (Nat × Nat) → Nat
  | none => 0
  | some p => p.2
def cPl : Option (Nat × Nat) → Int32
  | none => -9
  | some p => nI p.1
def fPl : Option (Nat × Nat) → Int32
  | none => -9
  | some p => nI (10 * p.1 + p.2)
def sSt (f : Nat → Nat) : Nat → Nat → Option (Nat × Nat) → Option (Nat × Nat)
  | 0, _, s => s
  | j + 1, i, s => sSt f j (i + 1) (if mo s < f i then some (i, f i) else s)
theorem sSt_p {f : Nat → Nat} {j i : Nat} {s : Option (Nat × Nat)} (h : mo s < f i) : sSt f (j + 1) i s = sSt f j (i + 1) (some (i, f i)) := congrArg (sSt f j (i + 1)) (if_pos h)
theorem sSt_n {f : Nat → Nat} {j i : Nat} {s : Option (Nat × Nat)} (h : ¬ mo s < f i) : sSt f (j + 1) i s = sSt f j (i + 1) s := congrArg (sSt f j (i + 1)) (if_neg h)
def stB (s : Option (Nat × Nat)) : Prop := mo s ≤ 6 ∧ ∀ p, s = some p → p.1 ≤ 5 ∧ 1 ≤ p.2
theorem sSt_B {f : Nat → Nat} (hf : ∀ i, f i ≤ 6) : ∀ j i s, i + j ≤ 5 → stB s → stB (sSt f j i s) := by
  intro j
  induction j with
  | zero => intro i s _ h; exact h
  | succ j ih =>
    intro i s hi h
    by_cases c : mo s < f i
    · rw [sSt_p c]
      exact ih (i + 1) _ (by omega) ⟨hf i, fun p hp => by cases hp; exact ⟨by omega, by show 1 ≤ f i; omega⟩⟩
    · rw [sSt_n c]
      exact ih (i + 1) s (by omega) h
theorem l_st (J : zJ) {I0 : zM} {f : Nat → Nat} {b o q A : Nat} {G : zM → Prop} (ho : o < 4) (hq5 : q ≤ 5) (hf : ∀ i, f i ≤ 6) (hq : ∀ I, G I → I (91 + 2 * o) 1 = nI q) (hm : ∀ i I, i + 1 < q → G I → ∃ I', f_X11_movedBy J (91 + 2 * o) (nI i) (nI A) I = some (nI (f i), I') ∧ G I') : ∀ j i fuel s I, i + j + 1 = q → j < fuel → mo s ≤ 6 → G I → (∃ x y I', f_X11_step_35 J (nI b) (nI o) (nI A) fuel (cPl s) (nI (mo s)) (nI i) I = some (.inr (cPl (sSt f j i s), x, y, I')) ∧ G I') ∧ ∃ y I', f_X11_moves_31 J (nI b) (nI o) (nI A) fuel (nI (mo s)) (nI i) I = some (.inr (nI (mo (sSt f j i s)), y, I')) ∧ G I' := by
  have z0 : zin (nI (o)) 4 = true := zin_nI (by omega) (by decide)
  have c0 : Int32.toNatClampNeg (nI (o)) = o := nI_clamp (by omega)
  have r33 := zr_33 o ho
  intro j
  induction j with
  | zero =>
    intro i fuel s I hi hfu hs hG
    obtain ⟨n, rfl⟩ : ∃ n, fuel = n + 1 := ⟨fuel - 1, by omega⟩
    have e : i + 1 = q := by omega
    refine ⟨⟨nI (mo s), nI i, I, ?_, hG⟩, nI i, I, ?_, hG⟩
    · unfold f_X11_step_35
      rw [if_pos z0, c0, r33, hq I hG, q_a1, e, if_pos (nI_le (Nat.le_refl _) (by omega))]
      rfl
    · unfold f_X11_moves_31
      rw [if_pos z0, c0, r33, hq I hG, q_a1, e, if_pos (nI_le (Nat.le_refl _) (by omega))]
      rfl
  | succ j ih =>
    intro i fuel s I hi hfu hs hG
    obtain ⟨n, rfl⟩ : ∃ n, fuel = n + 1 := ⟨fuel - 1, by omega⟩
    obtain ⟨I1, k1, k2⟩ := hm i I (by omega) hG
    have fi := hf i
    have h1 := ih (i + 1) n (some (i, f i)) I1 (by omega) (by omega) fi k2
    have h2 := ih (i + 1) n s I1 (by omega) (by omega) hs k2
    have ng : ¬ nI q ≤ nI (i + 1) := nI_ge (by omega) (by omega)
    by_cases c : mo s < f i
    · rw [sSt_p c]
      obtain ⟨⟨x, y, I', a1, a2⟩, y2, I'', a3, a4⟩ := h1
      refine ⟨⟨x, y, I', ?_, a2⟩, y2, I'', ?_, a4⟩
      · unfold f_X11_step_35
        rw [if_pos z0, c0, r33, hq I hG, q_a1, if_neg ng, if_pos z0, k1, Option.bind_some, if_neg (nI_ge c (by omega))]
        exact a1
      · unfold f_X11_moves_31
        rw [if_pos z0, c0, r33, hq I hG, q_a1, if_neg ng, if_pos z0, k1, Option.bind_some, if_pos (nI_lt c (by omega))]
        exact a3
    · rw [sSt_n c]
      obtain ⟨⟨x, y, I', a1, a2⟩, y2, I'', a3, a4⟩ := h2
      refine ⟨⟨x, y, I', ?_, a2⟩, y2, I'', ?_, a4⟩
      · unfold f_X11_step_35
        rw [if_pos z0, c0, r33, hq I hG, q_a1, if_neg ng, if_pos z0, k1, Option.bind_some, if_pos (nI_le (by omega) (by omega))]
        exact a1
      · unfold f_X11_moves_31
        rw [if_pos z0, c0, r33, hq I hG, q_a1, if_neg ng, if_pos z0, k1, Option.bind_some, if_neg (nI_nlt (by omega) (by omega))]
        exact a3
/-! the twin -/
theorem bit_n {k g : Nat} (hk : k < 64) (hg : g < 6) : (nI k >>> (nI g &&& 31)) &&& (1 : Int32) = nI (k / 2 ^ g % 2) := by
  have key : ∀ k, k < 64 → ∀ g, g < 6 → (nI k >>> (nI g &&& 31)) &&& (1 : Int32) = nI (k / 2 ^ g % 2) := by decide +kernel
  exact key k hk g hg
def popU (k : Nat) : Nat → Nat → Nat
  | 0, _ => 0
  | j + 1, g => k / 2 ^ g % 2 + popU k j (g + 1)
theorem t_bi (J : zJ) (I : zM) {k : Nat} (hk : k < 64) : ∀ j g fuel x, g + j = 6 → j < fuel → f_X12_bits_4 J (nI k) fuel (nI x) (nI g) I = some (.inr (nI (x + popU k j g), nI 6, I)) := by
  intro j
  induction j with
  | zero =>
    intro g fuel x hg hf
    obtain ⟨n, rfl⟩ : ∃ n, fuel = n + 1 := ⟨fuel - 1, by omega⟩
    have e : g = 6 := by omega
    subst e
    unfold f_X12_bits_4
    rw [if_pos (show (6 : Int32) ≤ nI 6 by decide)]
    rfl
  | succ j ih =>
    intro g fuel x hg hf
    obtain ⟨n, rfl⟩ : ∃ n, fuel = n + 1 := ⟨fuel - 1, by omega⟩
    have h0 : ¬ (6 : Int32) ≤ nI g := nI_ge (b := 6) (by omega) (by decide)
    have st := ih (g + 1) n (x + k / 2 ^ g % 2) (by omega) (by omega)
    unfold f_X12_bits_4
    rw [if_neg h0, bit_n hk (by omega), nI_add, q_a1, st]
    have e : popU k (j + 1) g = k / 2 ^ g % 2 + popU k j (g + 1) := rfl
    rw [e, Nat.add_assoc]
theorem t_bits (J : zJ) (I : zM) {k : Nat} (hk : k < 64) : f_X12_bits J (nI k) I = some (nI (pop k), I) := by
  have h := t_bi J I hk 6 0 zF 0 rfl (by unfold zF; omega)
  have h' : f_X12_bits_4 J (nI k) zF 0 0 I = _ := h
  have e : 0 + popU k 6 0 = pop k := by
    show 0 + (k / 2 ^ 0 % 2 + (k / 2 ^ 1 % 2 + (k / 2 ^ 2 % 2 + (k / 2 ^ 3 % 2 + (k / 2 ^ 4 % 2 + (k / 2 ^ 5 % 2 + 0)))))) = _
    unfold pop
    simp only [Nat.pow_zero, Nat.div_one, Nat.reducePow]
    omega
  rw [e] at h'
  unfold f_X12_bits
  rw [h', Option.bind_some]
  rfl
/-- the same, the spare order too may differ -/
def zTo (I0 I : zM) : Prop := (∀ p, p ≠ 147 → p ≠ 157 → p ≠ 158 → (p < 170 ∨ 178 ≤ p) → I p = I0 p) ∧ (∀ k, k < 39 → I 147 k = I0 147 k) ∧ (∀ x, x < 20 → I 157 x = I0 157 x) ∧ ∀ x, x < 4 → I 158 x = I0 158 x
theorem zTo.tr {I I1 I2 : zM} (h : zTo I I1) (g : zTo I1 I2) : zTo I I2 := ⟨fun p a b c d => (g.1 p a b c d).trans (h.1 p a b c d), fun k hk => (g.2.1 k hk).trans (h.2.1 k hk), fun x hx => (g.2.2.1 x hx).trans (h.2.2.1 x hx), fun x hx => (g.2.2.2 x hx).trans (h.2.2.2 x hx)⟩
theorem zTv.o {I I1 : zM} (h : zTv I I1) : zTo I I1 := ⟨fun p a _ _ d => h.1 p a d, h.2, fun x _ => by rw [h.1 157 (by decide) (by decide)], fun x _ => by rw [h.1 158 (by decide) (by decide)]⟩
theorem zInw_to {I I' : zM} {J : zJ} (h : zTo I I') (hv : zInw I J) : zInw I' J := by
  obtain ⟨v1, v2, v3, v4, v5, v6, v7, v8, v9, v10⟩ := hv
  have z : ∀ lo hi, hi ≤ 147 → zS I I' lo hi := fun lo hi hh p h1 h2 => h.1 p (by omega) (by omega) (by omega) (by omega)
  have z2 : ∀ lo hi, 147 < lo → hi ≤ 157 → zS I I' lo hi := fun lo hi hl hh p h1 h2 => h.1 p (by omega) (by omega) (by omega) (by omega)
  have z3 : ∀ lo hi, 158 < lo → hi ≤ 170 → zS I I' lo hi := fun lo hi hl hh p h1 h2 => h.1 p (by omega) (by omega) (by omega) (by omega)
  exact ⟨v1, v2, qGap_cg (z _ _ (by decide)) (z2 _ _ (by decide) (by decide)) v3, qTm_cg (z _ _ (by decide)) (h.2.1 8 (by decide)) (h.2.1 9 (by decide)) (h.2.1 10 (by decide)) v4, qDoi_cg (z _ _ (by decide)) (z2 _ _ (by decide) (by decide)) (h.2.1 6 (by decide)) v5, qKep_cg (z _ _ (by decide)) (z _ _ (by decide)) (fun j _ => by rw [h.1 166 (by decide) (by decide) (by decide) (by decide)]) (fun j _ => by rw [h.1 167 (by decide) (by decide) (by decide) (by decide)]) (fun j _ => by rw [h.1 168 (by decide) (by decide) (by decide) (by decide)]) (z3 _ _ (by decide) (by decide)) v6, qTxt_cg (z _ _ (by decide)) (z2 _ _ (by decide) (by decide)) (h.2.1 12 (by decide)) v7, qRul_cg v1 (z _ _ (by decide)) (z2 _ _ (by decide) (by decide)) (h.2.1 15 (by decide)) v8, qOrd_cg (z _ _ (by decide)) (fun j hj => h.2.2.1 j hj) (fun j hj => h.2.2.2 j hj) v9, qBar_cg (z _ _ (by decide)) (z _ _ (by decide)) (z3 _ _ (by decide) (by decide)) (h.2.1 25 (by decide)) v10⟩
theorem tE_sw {I0 I I' : zM} {L L' : Nat → Int32} {m q q' b o o' nn tm le sh a c t : Nat} (te : tE (eB I0 b nn tm le sh a c t L) m q b o nn tm le sh I) (h : zTo I I') (hq : I' 158 o' = nI q') (hL : ∀ k, k < q' → I' 157 (5 * o' + k) = L' k) : tE (eB I0 b nn tm le sh a c t L') m q' b o' nn tm le sh I' := by
  unfold tE at te ⊢
  rw [h.1 148 (by omega) (by omega) (by omega) (by omega), h.1 150 (by omega) (by omega) (by omega) (by omega), h.1 151 (by omega) (by omega) (by omega) (by omega), h.1 152 (by omega) (by omega) (by omega) (by omega), h.1 153 (by omega) (by omega) (by omega) (by omega), h.1 155 (by omega) (by omega) (by omega) (by omega), h.1 159 (by omega) (by omega) (by omega) (by omega), h.1 160 (by omega) (by omega) (by omega) (by omega), h.1 161 (by omega) (by omega) (by omega) (by omega), h.1 162 (by omega) (by omega) (by omega) (by omega), h.1 163 (by omega) (by omega) (by omega) (by omega), h.2.1 15 (by decide), h.2.1 8 (by decide), h.2.1 6 (by decide), h.2.1 9 (by decide), h.2.1 10 (by decide), h.2.1 32 (by decide), h.2.1 33 (by decide)]
  obtain ⟨a1, a2, a3, a4, a5, -, a7⟩ := te
  exact ⟨a1, a2, a3, a4, a5, ⟨hq, hL⟩, a7⟩
theorem t_47 (J : zJ) {I0 : zM} {b o q i : Nat} (u3 u4 : Int32) (ho : o < 4) (hq5 : q ≤ 5) (hi : i + 1 < q) (hq : I0 158 o = nI q) : ∀ j k fuel I, k + j = q → j < fuel → (∀ p, p ≠ 157 → I p = I0 p) → (∀ x, x < 20 → I 157 x = I0 157 x) → (∀ f, f < k → I 157 (20 + f) = I0 157 (5 * o + sw i f)) → ∃ y I', f_X12_findStep_47 J (nI b) (nI o) u3 u4 (nI i) fuel (nI k) I = some (.inr (y, I')) ∧ (∀ p, p ≠ 157 → I' p = I0 p) ∧ (∀ x, x < 20 → I' 157 x = I0 157 x) ∧ ∀ f, f < q → I' 157 (20 + f) = I0 157 (5 * o + sw i f) := by
  have z0 : zin (nI (o)) 5 = true := zin_nI (by omega) (by decide)
  have c0 : Int32.toNatClampNeg (nI (o)) = o := nI_clamp (by omega)
  intro j
  induction j with
  | zero =>
    intro k fuel I hk hf h1 h2 h3
    obtain ⟨n, rfl⟩ : ∃ n, fuel = n + 1 := ⟨fuel - 1, by omega⟩
    have e : k = q := by omega
    subst e
    refine ⟨nI k, I, ?_, h1, h2, h3⟩
    unfold f_X12_findStep_47
    rw [if_pos z0, c0, h1 158 (by decide), hq, if_pos (nI_le (Nat.le_refl _) (by omega))]
  | succ j ih =>
    intro k fuel I hk hf h1 h2 h3
    obtain ⟨n, rfl⟩ : ∃ n, fuel = n + 1 := ⟨fuel - 1, by omega⟩
    have q20 : (20 : Int32) + nI k = nI (20 + k) := nI_add 20 k
    have z1 : zin (nI (20 + k)) 25 = true := zin_nI (by omega) (by decide)
    have c1 : Int32.toNatClampNeg (nI (20 + k)) = 20 + k := nI_clamp (by omega)
    have st : ∀ x, x = I0 157 (5 * o + sw i k) → ∃ y I', f_X12_findStep_47 J (nI b) (nI o) u3 u4 (nI i) n (nI (k + 1)) (zu I 157 (20 + k) x) = some (.inr (y, I')) ∧ (∀ p, p ≠ 157 → I' p = I0 p) ∧ (∀ x, x < 20 → I' 157 x = I0 157 x) ∧ ∀ f, f < q → I' 157 (20 + f) = I0 157 (5 * o + sw i f) := fun x hx => ih (k + 1) n (zu I 157 (20 + k) x) (by omega) (by omega) (fun p hp => (zu_row hp).trans (h1 p hp)) (fun y hy => (zu_offk (by omega) I 157 _).trans (h2 y hy)) (fun f hf => by
      rw [zu_at]
      by_cases e : f = k
      · rw [if_pos (by omega), e]
        exact hx
      · rw [if_neg (by omega)]
        exact h3 f (by omega))
    have ng : ¬ nI q ≤ nI k := nI_ge (by omega) (by omega)
    by_cases a : k = i
    · have z2 : zin (nI (5 * o + (i + 1))) 25 = true := zin_nI (by omega) (by decide)
      have c2 : Int32.toNatClampNeg (nI (5 * o + (i + 1))) = 5 * o + (i + 1) := nI_clamp (by omega)
      obtain ⟨y, I', e1, e2⟩ := st (I 157 (5 * o + (i + 1))) (by rw [h2 _ (by omega)]; unfold sw; rw [if_pos a])
      refine ⟨y, I', ?_, e2⟩
      unfold f_X12_findStep_47
      rw [if_pos z0, c0, h1 158 (by decide), hq, if_neg ng, if_pos (congrArg nI a), q_5, q_a1, nI_add, if_pos z2, q20, if_pos z1, c1, c2, q_a1]
      exact e1
    · have na : ¬ nI k = nI i := fun e => a ((nI_eq (by omega) (by omega)).mp e)
      by_cases c : k = i + 1
      · have z2 : zin (nI (5 * o + i)) 25 = true := zin_nI (by omega) (by decide)
        have c2 : Int32.toNatClampNeg (nI (5 * o + i)) = 5 * o + i := nI_clamp (by omega)
        obtain ⟨y, I', e1, e2⟩ := st (I 157 (5 * o + i)) (by rw [h2 _ (by omega)]; unfold sw; rw [if_neg a, if_pos c])
        refine ⟨y, I', ?_, e2⟩
        unfold f_X12_findStep_47
        rw [if_pos z0, c0, h1 158 (by decide), hq, if_neg ng, if_neg na, q_a1, if_pos (congrArg nI c), q_5, nI_add, if_pos z2, q20, if_pos z1, c1, c2, q_a1]
        exact e1
      · have nc : ¬ nI k = nI (i + 1) := fun e => c ((nI_eq (by omega) (by omega)).mp e)
        have z2 : zin (nI (5 * o + k)) 25 = true := zin_nI (by omega) (by decide)
        have c2 : Int32.toNatClampNeg (nI (5 * o + k)) = 5 * o + k := nI_clamp (by omega)
        obtain ⟨y, I', e1, e2⟩ := st (I 157 (5 * o + k)) (by rw [h2 _ (by omega)]; unfold sw; rw [if_neg a, if_neg c])
        refine ⟨y, I', ?_, e2⟩
        unfold f_X12_findStep_47
        rw [if_pos z0, c0, h1 158 (by decide), hq, if_neg ng, if_neg na, q_a1, if_neg nc, q_5, nI_add, if_pos z2, q20, if_pos z1, c1, c2, q_a1]
        exact e1
/-- what the twin's search keeps -/
def zSo (I0 : zM) (q A S : Nat) (I : zM) : Prop := zTo I0 I ∧ I 158 4 = nI q ∧ (∀ g, g < 6 → I 176 g = nI (dig A g)) ∧ tQ S I
theorem t_31 (J : zJ) {I I0 : zM} {b o q A nn tm le sh a c t m : Nat} (hb : b < 8) (ho : o < 4) (hoq : oP (LO I o) q) (fw : ∀ L q, oP L q → eW (eB I b nn tm le sh a c t L) m q) (te : tE (eB I b nn tm le sh a c t (LO I o)) m q b o nn tm le sh I0) : ∀ j i fuel s T S, i + j + 1 = q → j < fuel → stB s → S + j < 800000 → zSo I0 q A S T → ∃ x y T', f_X12_findStep_31 J (nI b) (nI o) fuel (fPl s) (nI (mo s)) (nI i) T = some (.inr (fPl (sSt (fun i => nMv (eB I b nn tm le sh a c t (LSw (LO I o) i)) m q A) j i s), x, y, T')) ∧ zSo I0 q A (S + j) T' := by
  have hq5 := hoq.1
  obtain ⟨hqo, hLo⟩ := te.2.2.2.2.2.1
  have z0 : zin (nI (o)) 5 = true := zin_nI (by omega) (by decide)
  have c0 : Int32.toNatClampNeg (nI (o)) = o := nI_clamp (by omega)
  intro j
  induction j with
  | zero =>
    intro i fuel s T S hi hf hs hS hT
    obtain ⟨n, rfl⟩ : ∃ n, fuel = n + 1 := ⟨fuel - 1, by omega⟩
    have e : i + 1 = q := by omega
    refine ⟨nI (mo s), nI i, T, ?_, hT⟩
    unfold f_X12_findStep_31
    rw [if_pos z0, c0, hT.1.2.2.2 o ho, hqo, q_a1, e, if_pos (nI_le (Nat.le_refl _) (by omega))]
    rfl
  | succ j ih =>
    intro i fuel s T S hi hf hs hS hT
    obtain ⟨n, rfl⟩ : ∃ n, fuel = n + 1 := ⟨fuel - 1, by omega⟩
    obtain ⟨t1, t2, t3, t4⟩ := hT
    have hq1 : T 158 o = nI q := (t1.2.2.2 o ho).trans hqo
    obtain ⟨y, T1, a1, a2, a3, a4⟩ := t_47 J (I0 := T) (b := b) (fPl s) (nI (mo s)) ho hq5 (show i + 1 < q by omega) hq1 q 0 zF T (by omega) (by unfold zF; omega) (fun _ _ => rfl) (fun _ _ => rfl) (fun f hf => absurd hf (by omega))
    have a1' : f_X12_findStep_47 J (nI b) (nI o) (fPl s) (nI (mo s)) (nI i) zF 0 T = _ := a1
    have z1 : zTo I0 T1 := t1.tr ⟨fun p _ p2 _ _ => a2 p p2, fun k _ => by rw [a2 147 (by decide)], a3, fun x _ => by rw [a2 158 (by decide)]⟩
    have e4 : T1 158 4 = nI q := by rw [a2 158 (by decide)]; exact t2
    have hL4 : ∀ k, k < q → T1 157 (5 * 4 + k) = LSw (LO I o) i k := fun k hk => by
      rw [a4 k hk, t1.2.2.1 _ (by have := sw_lt (i := i) (show i + 1 < q by omega) hk; omega)]
      exact hLo _ (sw_lt (by omega) hk)
    have te4 := tE_sw te z1 e4 hL4
    have we := fw (LSw (LO I o) i) q (oP_sw hoq (by omega))
    obtain ⟨T2, b1, b2, b3, b4⟩ := t_rdi J we te4 hb (show 4 < 5 by decide) (show S < 900000 by omega) ⟨by rw [a2 147 (by decide)]; exact t4.1, by rw [a2 173 (by decide)]; exact t4.2⟩
    have b1' : f_X12_readIt J (nI b) 4 T1 = _ := b1
    have h176 : ∀ g, g < 6 → T2 176 g = nI (dig A g) := fun g hg => by
      rw [b2.1 176 (by decide) (by decide), a2 176 (by decide)]
      exact t3 g hg
    have un := t_unlike J b4 h176
    have bc : f_X12_bits J (zset (uNl A (rA (eNx (eB I b nn tm le sh a c t (LSw (LO I o) i)) m q)))) T2 = some (nI (nMv (eB I b nn tm le sh a c t (LSw (LO I o) i)) m q A), T2) := t_bits J T2 (zsN_lt _)
    have hT2 : zSo I0 q A (S + 1) T2 := ⟨z1.tr b2.v.o, by rw [b2.1 158 (by decide) (by decide)]; exact e4, h176, b3⟩
    have ng : ¬ nI q ≤ nI (i + 1) := nI_ge (by omega) (by omega)
    have le6 : nMv (eB I b nn tm le sh a c t (LSw (LO I o) i)) m q A ≤ 6 := pop_le _
    have hs6 := hs.1
    have q10 : (10 : Int32) * nI i = nI (10 * i) := (Int32.ofNat_mul 10 i).symm
    by_cases cc : mo s < nMv (eB I b nn tm le sh a c t (LSw (LO I o) i)) m q A
    · obtain ⟨x, y', T', d1, d2⟩ := ih (i + 1) n (some (i, nMv (eB I b nn tm le sh a c t (LSw (LO I o) i)) m q A)) T2 (S + 1) (by omega) (by omega) ⟨le6, fun p hp => by cases hp; exact ⟨by omega, by show 1 ≤ nMv _ _ _ _; omega⟩⟩ (by omega) hT2
      rw [show S + (j + 1) = S + 1 + j by omega]
      refine ⟨x, y', T', ?_, d2⟩
      rw [sSt_p (f := fun i => nMv (eB I b nn tm le sh a c t (LSw (LO I o) i)) m q A) cc]
      unfold f_X12_findStep_31
      rw [if_pos z0, c0, hq1, q_a1, if_neg ng, a1', Option.bind_some]
      show ((f_X12_readIt J (nI b) 4 T1).bind _) = _
      rw [b1', Option.bind_some, un, Option.bind_some, bc, Option.bind_some, if_neg (nI_ge cc (by omega)), q10, nI_add]
      exact d1
    · obtain ⟨x, y', T', d1, d2⟩ := ih (i + 1) n s T2 (S + 1) (by omega) (by omega) hs (by omega) hT2
      rw [show S + (j + 1) = S + 1 + j by omega]
      refine ⟨x, y', T', ?_, d2⟩
      rw [sSt_n (f := fun i => nMv (eB I b nn tm le sh a c t (LSw (LO I o) i)) m q A) cc]
      unfold f_X12_findStep_31
      rw [if_pos z0, c0, hq1, q_a1, if_neg ng, a1', Option.bind_some]
      show ((f_X12_readIt J (nI b) 4 T1).bind _) = _
      rw [b1', Option.bind_some, un, Option.bind_some, bc, Option.bind_some, if_pos (nI_le (by omega) (by omega))]
      exact d1
/-- both calls, up to what is made of what was found -/
theorem b_step {n : Nat} {I : zM} {J : zJ} (hv : zInv n I J) (hn : n < 512) {b o : Nat} (hb : b < 8) (ho : o < 4) : ∃ s I1 A, stB s ∧ f_X11_read J (nI b) (nI o) I = some I1 ∧ I1 39 14 = nI A ∧ (∃ x y I2, f_X11_step_35 J (nI b) (nI o) (nI A) zF (-9) 0 0 I1 = some (.inr (cPl s, x, y, I2)) ∧ zCl I I2 ∧ I2 39 3 = -9) ∧ (∃ y I2, f_X11_moves_31 J (nI b) (nI o) (nI A) zF 0 0 I1 = some (.inr (nI (mo s), y, I2)) ∧ zCl I I2 ∧ I2 39 3 = -9) ∧ ∀ I2, zCl I I2 → I2 39 3 = -9 → ∃ T, f_X12_findStep J (nI b) (nI o) (zu I2 147 0 0) = some (fPl s, T) ∧ zInv (n + 1) T J := by
  obtain ⟨nn, tm, le, sh, a, c, t, m, ⟨I0, k1, z0, l0, k2⟩, fw, ft⟩ := r_base hv hb
  obtain ⟨q, oo, hq1, o2, o3⟩ := r_ord hv ho
  have wo := fw (LO I o) q oo
  have hq5 := oo.1
  obtain ⟨x1, x2⟩ := o3 I0 z0
  obtain ⟨I1, c1, c2, c3, c4⟩ := c_rd wo (k2 (LO I o)) rfl (Or.inr (show 75 ≤ 91 + 2 * o by omega)) (zr_p1 ho) x1 x2
  have z1 : zCl I I1 := z0.tr (zCl.re c2)
  have l1 : I1 39 3 = -9 := (c2.2 3 (by decide)).trans l0
  have rd : f_X11_read J (nI b) (nI o) I = some I1 := by
    have z7 : zin (nI (b)) 8 = true := zin_nI (by omega) (by decide)
    have c7 : Int32.toNatClampNeg (nI (b)) = b := nI_clamp (by omega)
    have z8 : zin (nI (o)) 4 = true := zin_nI (by omega) (by decide)
    have c8 : Int32.toNatClampNeg (nI (o)) = o := nI_clamp (by omega)
    unfold f_X11_read
    rw [if_pos z7, c7, zr_34 b hb, k1, Option.bind_some, if_pos z8, c8, zr_33 o ho, c1, Option.bind_some]
  obtain ⟨A, hA⟩ : ∃ A, rA (eNx (eB I b nn tm le sh a c t (LO I o)) m q) = A := ⟨_, rfl⟩
  have hA6 : A < 46656 := by rw [← hA]; exact rA_lt
  rw [hA] at c3
  have hf : ∀ i, (fun i => nMv (eB I b nn tm le sh a c t (LSw (LO I o) i)) m q A) i ≤ 6 := fun i => pop_le _
  have st := l_st J (I0 := I) (f := fun i => nMv (eB I b nn tm le sh a c t (LSw (LO I o) i)) m q A) (b := b) (o := o) (q := q) (A := A) (G := fun I' => zCl I I' ∧ I' 39 3 = -9 ∧ cT (eB I b nn tm le sh a c t (LO I o)) m I' J) ho hq5 hf (fun I' hI => (o3 I' hI.1).1) (fun i I' hi hI => by
    obtain ⟨I'', d1, d2, d3, d4⟩ := l_moved J (L := LO I o) ho hA6 (fw (LSw (LO I o) i) q (oP_sw oo hi)) (eB_cT hI.2.2 (LSw (LO I o) i)) rfl rfl hi (o3 I' hI.1).1 (o3 I' hI.1).2
    exact ⟨I'', d1, hI.1.tr d2, d3.trans hI.2.1, eB_cT d4 (LO I o)⟩) (q - 1) 0 zF none I1 (by omega) (by unfold zF; omega) (by decide) ⟨z1, l1, c4⟩
  obtain ⟨⟨x, y, I2, s1, s2⟩, y', I2', s3, s4⟩ := st
  refine ⟨sSt (fun i => nMv (eB I b nn tm le sh a c t (LSw (LO I o) i)) m q A) (q - 1) 0 none, I1, A, sSt_B hf (q - 1) 0 none (by omega) ⟨by decide, fun p hp => by cases hp⟩, rd, c3, ⟨x, y, I2, s1, s2.1, s2.2.1⟩, ⟨y', I2', s3, s4.1, s4.2.1⟩, fun IC h1 h2 => ?_⟩
  obtain ⟨S, v1, v2⟩ := tQ_of hv h1
  have to := tE_th h1 (ft (LO I o) q o o2 (fun _ _ => rfl))
  obtain ⟨T1, e1, e2, e3, e4⟩ := t_rdi J wo to hb (show o < 5 by omega) (show S < 900000 by omega) v2
  obtain ⟨T2, f1, f2, f3⟩ := t_put J T1
  have w2 := e2.v.p176 f2
  rw [hA] at e4
  have z9 : zin (nI (o)) 5 = true := zin_nI (by omega) (by decide)
  have c9 : Int32.toNatClampNeg (nI (o)) = o := nI_clamp (by omega)
  have q158 : T2 158 o = nI q := by
    rw [f2 158 (by decide), e2.1 158 (by decide) (by decide), zu_row (by decide), zCl_at h1 (by decide)]
    exact o2
  have hz : zTo (zu IC 147 0 0) (zu T2 158 4 (nI q)) := w2.o.tr ⟨fun p _ _ p3 _ => zu_row p3, fun k _ => by rw [zu_row (by decide)], fun x _ => by rw [zu_row (by decide)], fun x hx => zu_offk (by omega) T2 158 _⟩
  obtain ⟨x, y, T3, g1, g2⟩ := t_31 J (I := I) (I0 := zu IC 147 0 0) (A := A) hb ho oo fw to (q - 1) 0 zF none (zu T2 158 4 (nI q)) (S + 1) (by omega) (by unfold zF; omega) ⟨by decide, fun p hp => by cases hp⟩ (by omega) ⟨hz, by rw [zu_at, if_pos rfl], fun g hg => by rw [zu_row (by decide), f3 g hg]; exact e4 g hg, by rw [zu_row (by decide), f2 147 (by decide)]; exact e3.1, by rw [zu_row (by decide), f2 173 (by decide)]; exact e3.2⟩
  have g1' : f_X12_findStep_31 J (nI b) (nI o) zF (-9) 0 0 (zu T2 158 4 (nI q)) = _ := g1
  refine ⟨T3, ?_, ?_⟩
  · unfold f_X12_findStep
    rw [e1, Option.bind_some, f1, Option.bind_some, if_pos z9, c9, q158, g1', Option.bind_some]
    rfl
  · refine zInv_of (zInw_to g2.1 (zInw_th (zInw_cl h1 (zInw_of hv)))) ?_ ?_ ⟨S + 1 + (q - 1), by omega, g2.2.2.2.1, g2.2.2.2.2⟩
    · rw [g2.1.1 39 (by decide) (by decide) (by decide) (by decide), zu_row (by decide)]
      exact h2
    · rw [g2.1.2.1 32 (by decide), zu_offk (by decide), zCl_at h1 (by decide)]
      exact hv.law.2
theorem q_step : zS_step zInv := by
  intro n I J v1 v2 hn hv
  obtain ⟨mb, hm, g2, g25, -⟩ := hv.bar
  by_cases h : zlt v1 mb ∧ zrg v2 0 3
  case neg =>
    refine ⟨-1, I, zu I 147 0 0, ?_, ?_, zInv_thrown hv⟩
    · unfold f_X11_step
      rw [rd_no1 g2 hm h, Option.bind_some, if_pos rfl]
    · unfold f_X12_step
      rw [rd_no2 (I := zu I 147 0 0) g25 hm h, Option.bind_some, if_neg i10]
  obtain ⟨b, hb, rfl⟩ := zlt_nI h.1 (by omega)
  obtain ⟨o, -, ho, rfl⟩ := zrg_nI h.2 (by decide)
  obtain ⟨s, I1, A, hs, k1, k2, ⟨x, y, I2, k3, k4, k5⟩, -, tw⟩ := b_step hv hn (show b < 8 by omega) (show o < 4 by omega)
  obtain ⟨T, t1, t2⟩ := tw I2 k4 k5
  have e25 : (zu I2 147 0 0) 147 25 = nI mb := by rw [zu_offk (by decide), zCl_at k4 (by decide)]; exact g25
  refine ⟨cPl s, I2, T, ?_, ?_, t2⟩
  · unfold f_X11_step
    rw [rd_yes1 g2 hm h, Option.bind_some, if_neg i10, k1, Option.bind_some, k2, k3, Option.bind_some]
    rfl
  · unfold f_X12_step
    rw [rd_yes2 e25 hm h, Option.bind_some, if_pos rfl, t1, Option.bind_some]
    cases s with
    | none => exact if_pos rfl
    | some p =>
      obtain ⟨p1, p2⟩ := hs.2 p rfl
      have p3 : p.2 ≤ 6 := hs.1
      show (if nI (10 * p.1 + p.2) = -9 then _ else some (nI (10 * p.1 + p.2) / (10 : Int32), T)) = some (nI p.1, T)
      have d : nI (10 * p.1 + p.2) / (10 : Int32) = nI ((10 * p.1 + p.2) / 10) := pk_div (d := 10) (by omega) (by decide) (by decide)
      rw [if_neg (m9_ne (by omega)), d, show (10 * p.1 + p.2) / 10 = p.1 by omega]
theorem q_moves : zS_moves zInv := by
  intro n I J v1 v2 hn hv
  obtain ⟨mb, hm, g2, g25, -⟩ := hv.bar
  by_cases h : zlt v1 mb ∧ zrg v2 0 3
  case neg =>
    refine ⟨-1, I, zu I 147 0 0, ?_, ?_, zInv_thrown hv⟩
    · unfold f_X11_moves
      rw [rd_no1 g2 hm h, Option.bind_some, if_pos rfl]
    · unfold f_X12_moves
      rw [rd_no2 (I := zu I 147 0 0) g25 hm h, Option.bind_some, if_neg i10]
  obtain ⟨b, hb, rfl⟩ := zlt_nI h.1 (by omega)
  obtain ⟨o, -, ho, rfl⟩ := zrg_nI h.2 (by decide)
  obtain ⟨s, I1, A, hs, k1, k2, -, ⟨y, I2, k3, k4, k5⟩, tw⟩ := b_step hv hn (show b < 8 by omega) (show o < 4 by omega)
  obtain ⟨T, t1, t2⟩ := tw I2 k4 k5
  have e25 : (zu I2 147 0 0) 147 25 = nI mb := by rw [zu_offk (by decide), zCl_at k4 (by decide)]; exact g25
  refine ⟨nI (mo s), I2, T, ?_, ?_, t2⟩
  · unfold f_X11_moves
    rw [rd_yes1 g2 hm h, Option.bind_some, if_neg i10, k1, Option.bind_some, k2, k3, Option.bind_some]
    rfl
  · unfold f_X12_moves
    rw [rd_yes2 e25 hm h, Option.bind_some, if_pos rfl, t1, Option.bind_some]
    cases s with
    | none => exact if_pos rfl
    | some p =>
      obtain ⟨p1, p2⟩ := hs.2 p rfl
      have p3 : p.2 ≤ 6 := hs.1
      show (if nI (10 * p.1 + p.2) = -9 then _ else some (nI (10 * p.1 + p.2) - nI (10 * p.1 + p.2) / (10 : Int32) * (10 : Int32), T)) = some (nI p.2, T)
      have d : nI (10 * p.1 + p.2) - nI (10 * p.1 + p.2) / (10 : Int32) * (10 : Int32) = nI ((10 * p.1 + p.2) % 10) := pk_rem (d := 10) (by omega) (by decide) (by decide)
      rw [if_neg (m9_ne (by omega)), d, show (10 * p.1 + p.2) % 10 = p.2 by omega]
