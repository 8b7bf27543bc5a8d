/-! ===== the class's next filling ===== -/
theorem q_div6 {a : Nat} (h : a < 2147483648) : nI a / (6 : Int32) = nI (a / 6) := pk_div (d := 6) h (by decide) (by decide)
theorem q_rem6 {a : Nat} (h : a < 2147483648) : nI a - nI (a / 6) * (6 : Int32) = nI (a % 6) := by
  have e := pk_rem (a := a) (d := 6) h (by decide) (by decide)
  have e2 : nI a / nI 6 = nI (a / 6) := q_div6 h
  rw [e2] at e
  exact e
theorem q_m6 (k : Nat) : nI k * (6 : Int32) = nI (k * 6) := (Int32.ofNat_mul k 6).symm
theorem l_sp (J : zJ) (u : Int32) : ∀ k fuel b (I : zM), k ≤ 6 → k < fuel → b < 46656 → ∃ y I', f_X11_spread_7 J u fuel (nI b) (nI k - 1) I = some (.inr (nI (b / 6 ^ k), y, I')) ∧ (∀ p, p ≠ 44 → I' p = I p) ∧ (∀ i, i < k → I' 44 i = nI (b / 6 ^ (k - 1 - i) % 6)) ∧ ∀ i, k ≤ i → I' 44 i = I 44 i := by
  intro k
  induction k with
  | zero =>
    intro fuel b I hk hf hb
    obtain ⟨n, rfl⟩ : ∃ n, fuel = n + 1 := ⟨fuel - 1, by omega⟩
    refine ⟨nI 0 - 1, I, ?_, fun _ _ => rfl, fun i hi => absurd hi (by omega), fun _ _ => rfl⟩
    unfold f_X11_spread_7
    rw [if_pos nI_m1_neg, Nat.pow_zero, Nat.div_one]
  | succ k ih =>
    intro fuel b I hk hf hb
    obtain ⟨n, rfl⟩ : ∃ n, fuel = n + 1 := ⟨fuel - 1, by omega⟩
    have hn : ¬ nI k < 0 := nI_pos (by omega)
    have z0 : zin (nI (k)) 6 = true := zin_nI (by omega) (by decide)
    have c0 : Int32.toNatClampNeg (nI (k)) = k := nI_clamp (by omega)
    obtain ⟨y, I', e, f1, f2, f3⟩ := ih n (b / 6) (zu I 44 k (nI (b % 6))) (by omega) (by omega) (by omega)
    refine ⟨y, I', ?_, fun p hp => (f1 p hp).trans (zu_row hp), fun i hi => ?_, fun i hi => ?_⟩
    · rw [Nat.div_div_eq_div_mul, Nat.mul_comm, ← Nat.pow_succ] at e
      unfold f_X11_spread_7
      rw [nI_pred, if_neg hn, if_pos z0, q_div6 (by omega), q_rem6 (by omega), c0, nI_dn]
      exact e
    · by_cases c : i = k
      · subst c
        rw [f3 i (Nat.le_refl _), zu_at, if_pos rfl, show i + 1 - 1 - i = 0 by omega, Nat.pow_zero, Nat.div_one]
      · rw [f2 i (by omega), Nat.div_div_eq_div_mul, Nat.mul_comm 6, ← Nat.pow_succ, show (k - 1 - i).succ = k + 1 - 1 - i by omega]
    · rw [f3 i (by omega), zu_at, if_neg (by omega)]
theorem l_spread (J : zJ) (I : zM) {a : Nat} (ha : a < 46656) : ∃ I', f_X11_spread J (nI a) I = some I' ∧ (∀ p, p ≠ 44 → I' p = I p) ∧ dN I' 44 (dig a) := by
  obtain ⟨y, I', e, f1, f2, -⟩ := l_sp J (nI a) 6 zF a I (by omega) (by unfold zF; omega) ha
  have e' : f_X11_spread_7 J (nI a) zF (nI a) ((6 : Int32) - (1 : Int32)) I = _ := e
  refine ⟨I', ?_, f1, fun i hi => ?_⟩
  · unfold f_X11_spread
    rw [e', Option.bind_some]
    rfl
  · rw [f2 i hi, show 6 - 1 - i = 5 - i by omega]
    rfl
def cG (E I : zM) : Prop := ∀ g, g < 6 → I 2 g = E 0 g ∧ I 3 g = E 1 g ∧ I 4 g = E 2 g
def cF (E : zM) (m q : Nat) (I : zM) : Prop := ∀ g, g < 6 → hL I (45 + 5 * g) (eFl E m q g)
theorem m9_no : ¬ zrg (-9) 0 5 := fun h => absurd h.1 (by decide)
theorem l_asked (J : zJ) {E I : zM} {g : Nat} {d : Nat → Nat} (hg : g < 6) (hc : cG E I) (ho : E 1 g = -9 ∨ zrg (E 1 g) 0 5) (hd : dN I 44 d) : f_X3_isAsked J (nI g) I = some (zb (eAk E d g), I) := by
  have z0 : zin (nI (g)) 6 = true := zin_nI (by omega) (by decide)
  have c0 : Int32.toNatClampNeg (nI (g)) = g := nI_clamp (by omega)
  obtain ⟨h1, h2, h3⟩ := hc g hg
  simp only [f_X3_isAsked, z0, c0, h1, h2, h3, l_isGap, Option.bind_some, ↓reduceIte]
  by_cases a : E 0 g ≤ 0
  · rw [if_pos a, ← zb_f (P := eAk E d g) (fun q => q.1 a)]
  · rw [if_neg a]
    rcases ho with o | o
    · rw [if_pos (zb_eq0.mpr (by rw [o]; exact m9_no)), ← zb_t (P := eAk E d g) ⟨a, Or.inl o⟩]
    · rw [if_neg (fun z => zb_eq0.mp z o)]
      obtain ⟨w, -, hw, ew⟩ := zrg_nI o (by decide)
      have z1 : zin (nI (w)) 6 = true := zin_nI (by omega) (by decide)
      have c1 : Int32.toNatClampNeg (nI (w)) = w := nI_clamp (by omega)
      have ne : ¬ E 1 g = -9 := fun e => m9_no (by rw [← e]; exact o)
      rw [ew, if_pos z1, c1, hd w (by omega)]
      by_cases b : nI (d w) = E 2 g
      · rw [if_pos b, ← zb_t (P := eAk E d g) ⟨a, Or.inr (by rw [ew, c1]; exact b)⟩]
      · rw [if_neg b, ← zb_f (P := eAk E d g) (fun q => q.2.elim ne (fun q => b (by rw [ew, c1] at q; exact q)))]
/-- the first digits as a number -/
def pf (f : Nat → Nat) : Nat → Nat
  | 0 => 0
  | g + 1 => pf f g * 6 + f g
theorem pf_6 (f : Nat → Nat) : pf f 6 = undig f := by
  show ((((((0 * 6 + f 0) * 6 + f 1) * 6 + f 2) * 6 + f 3) * 6 + f 4) * 6 + f 5) = _
  rw [Nat.zero_mul, Nat.zero_add]
  rfl
theorem l_fo (J : zJ) {E I : zM} {m q : Nat} {d : Nat → Nat} (u : Int32) (hw : eW E m q) (hc : cG E I) (hf : cF E m q I) (hd : dN I 44 d) : ∀ j g fuel, g + j = 6 → j < fuel → f_X5_follow_12 J u fuel (nI (pf (eNg E m q d) g)) (nI g) I = some (.inr (nI (undig (eNg E m q d)), nI 6, I)) := by
  intro j
  induction j with
  | zero =>
    intro g fuel hk hfu
    obtain ⟨n, rfl⟩ : ∃ n, fuel = n + 1 := ⟨fuel - 1, by omega⟩
    have e : g = 6 := by omega
    subst e
    unfold f_X5_follow_12
    rw [if_pos (show (6 : Int32) ≤ nI 6 by decide), pf_6]
  | succ j ih =>
    intro g fuel hk hfu
    obtain ⟨n, rfl⟩ : ∃ n, fuel = n + 1 := ⟨fuel - 1, by omega⟩
    have h0 : ¬ (6 : Int32) ≤ nI g := nI_ge (b := 6) (by omega) (by decide)
    have hg : g < 6 := by omega
    have z0 : zin (nI (g)) 6 = true := zin_nI (by omega) (by decide)
    have c0 : Int32.toNatClampNeg (nI (g)) = g := nI_clamp (by omega)
    have r := zr_43 g hg
    have ka := l_asked J hg hc (hw.2.1 g hg) hd
    obtain ⟨v, k1, k2, -⟩ := l_find J (zRf_of hg) (hf g hg) (eFl_len hw) hd
    have kv := (eNg_nI (E := E) (m := m) (q := q) (d := d) (hw.1 g hg)).1
    have st := ih (g + 1) n (by omega) (by omega)
    simp only [f_X5_follow_12, h0, ka, Option.bind_some, z0, c0, r, k1, k2, q_m6, q_a1, ↓reduceIte]
    by_cases a : eAk E d g
    · rw [if_neg (fun z => zb_eq0.mp z a)]
      rw [eGo_p a] at kv
      rw [kv, nI_add]
      exact st
    · rw [if_pos (zb_eq0.mpr a)]
      rw [eGo_n a] at kv
      have k9 : f_X2_valueOf J (45 + 5 * g) (-9) I = some (0, I) := if_pos (show (-9 : Int32) < 0 by decide)
      rw [k9, Option.bind_some]
      have kv' : (0 : Int32) = nI (eNg E m q d g) := kv
      rw [kv', nI_add]
      exact st
theorem cG_cg {E I I' : zM} (h : ∀ p, 2 ≤ p → p < 5 → I' p = I p) (c : cG E I) : cG E I' := fun g hg => by
  rw [h 2 (by omega) (by omega), h 3 (by omega) (by omega), h 4 (by omega) (by omega)]
  exact c g hg
theorem cF_cg {E I I' : zM} {m q : Nat} (h : ∀ p, 45 ≤ p → p < 75 → I' p = I p) (c : cF E m q I) : cF E m q I' := fun g hg => hL_cg (fun r h1 h2 => h r (by omega) (by omega)) (c g hg)
theorem l_follow (J : zJ) {E I : zM} {m q a : Nat} (hw : eW E m q) (hc : cG E I) (hf : cF E m q I) (ha : a < 46656) : ∃ I', f_X5_follow J (nI a) I = some (nI (eNx E m q a), I') ∧ ∀ p, p ≠ 44 → I' p = I p := by
  obtain ⟨I', e, f1, f2⟩ := l_spread J I ha
  refine ⟨I', ?_, f1⟩
  have k : f_X5_follow_12 J (nI a) zF 0 0 I' = _ := l_fo J (nI a) hw (cG_cg (fun p h1 h2 => f1 p (by omega)) hc) (cF_cg (fun p h1 h2 => f1 p (by omega)) hf) f2 6 0 zF rfl (by unfold zF; omega)
  unfold f_X5_follow
  rw [e, Option.bind_some, k, Option.bind_some]
  rfl
