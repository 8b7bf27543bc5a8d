/-! ===== unrule ===== -/
/-- where a place of the rules' row comes from, when the r-th of m + 1 goes -/
def sg (r m x : Nat) : Nat := if x < r then x else if x < m then x + 1 else if x = m then r else x
theorem sg_lt {r m x : Nat} (hr : r ≤ m) (hm : m < 13) (hx : x < 13) : sg r m x < 13 := by
  unfold sg
  by_cases a : x < r
  · rw [if_pos a]; exact hx
  · rw [if_neg a]
    by_cases b : x < m
    · rw [if_pos b]; omega
    · rw [if_neg b]
      by_cases c : x = m
      · rw [if_pos c]; omega
      · rw [if_neg c]; exact hx
theorem sg_in {r m x y : Nat} (hr : r ≤ m) (h : sg r m x = sg r m y) : x = y := by
  unfold sg at h
  by_cases a : x < r
  · rw [if_pos a] at h
    by_cases a2 : y < r
    · rw [if_pos a2] at h; exact h
    · rw [if_neg a2] at h
      by_cases b2 : y < m
      · rw [if_pos b2] at h; omega
      · rw [if_neg b2] at h
        by_cases c2 : y = m
        · rw [if_pos c2] at h; omega
        · rw [if_neg c2] at h; omega
  · rw [if_neg a] at h
    by_cases b : x < m
    · rw [if_pos b] at h
      by_cases a2 : y < r
      · rw [if_pos a2] at h; omega
      · rw [if_neg a2] at h
        by_cases b2 : y < m
        · rw [if_pos b2] at h; omega
        · rw [if_neg b2] at h
          by_cases c2 : y = m
          · rw [if_pos c2] at h; omega
          · rw [if_neg c2] at h; omega
    · rw [if_neg b] at h
      by_cases c : x = m
      · rw [if_pos c] at h
        by_cases a2 : y < r
        · rw [if_pos a2] at h; omega
        · rw [if_neg a2] at h
          by_cases b2 : y < m
          · rw [if_pos b2] at h; omega
          · rw [if_neg b2] at h
            by_cases c2 : y = m
            · omega
            · rw [if_neg c2] at h; omega
      · rw [if_neg c] at h
        by_cases a2 : y < r
        · rw [if_pos a2] at h; omega
        · rw [if_neg a2] at h
          by_cases b2 : y < m
          · rw [if_pos b2] at h; omega
          · rw [if_neg b2] at h
            by_cases c2 : y = m
            · rw [if_pos c2] at h; omega
            · rw [if_neg c2] at h; exact h
theorem l_rm {J : zJ} {I : zM} {r m q : Nat} (u1 : Int32) (hJ : ∀ x, x < 13 → J 19 x = some (zrp J x)) (hm : m < 12) (h18 : I 18 1 = nI m) : ∀ j k fuel (J' : zJ), k + j = m → r ≤ k → j < fuel → (∀ p, p ≠ 19 → J' p = J p) → (∀ x, x < k → J' 19 x = some (zrp J (if x < r then x else x + 1))) → (∀ x, k ≤ x → J' 19 x = J 19 x) → ∃ y J'', f_X7_remove_19 u1 q fuel (nI k) I J' = some (.inr (y, I, J'')) ∧ (∀ p, p ≠ 19 → J'' p = J p) ∧ (∀ x, x < m → J'' 19 x = some (zrp J (if x < r then x else x + 1))) ∧ ∀ x, m ≤ x → J'' 19 x = J 19 x := by
  intro j
  induction j with
  | zero =>
    intro k fuel J' hk hr hf h1 h2 h3
    obtain ⟨n, rfl⟩ : ∃ n, fuel = n + 1 := ⟨fuel - 1, by omega⟩
    have e : k = m := by omega
    subst e
    refine ⟨nI k, J', ?_, h1, h2, h3⟩
    unfold f_X7_remove_19
    rw [h18, if_pos (nI_le (Nat.le_refl _) (by omega))]
  | succ j ih =>
    intro k fuel J' hk hr hf h1 h2 h3
    obtain ⟨n, rfl⟩ : ∃ n, fuel = n + 1 := ⟨fuel - 1, by omega⟩
    have z0 : zin (nI (k)) 13 = true := zin_nI (by omega) (by decide)
    have c0 : Int32.toNatClampNeg (nI (k)) = k := nI_clamp (by omega)
    have z1 : zin (nI (k + 1)) 13 = true := zin_nI (by omega) (by decide)
    have c1 : Int32.toNatClampNeg (nI (k + 1)) = k + 1 := nI_clamp (by omega)
    have ek : zrp J' (k + 1) = zrp J (k + 1) := by
      unfold zrp
      rw [h3 (k + 1) (by omega)]
    have j19 : ∀ x, (zuJ J' 19 k (some (zrp J (k + 1)))) 19 x = if x = k then some (zrp J (k + 1)) else J' 19 x := fun x => by simp [zuJ]
    obtain ⟨y, J'', e1, e2⟩ := ih (k + 1) n (zuJ J' 19 k (some (zrp J (k + 1)))) (by omega) (by omega) (by omega) (fun p hp => by
      funext x
      have : (zuJ J' 19 k (some (zrp J (k + 1)))) p x = J' p x := by simp [zuJ, hp]
      rw [this, h1 p hp]) (fun x hx => by
      rw [j19]
      by_cases e : x = k
      · rw [if_pos e, e, if_neg (by omega)]
      · rw [if_neg e]
        exact h2 x (by omega)) (fun x hx => by
      rw [j19, if_neg (by omega)]
      exact h3 x (by omega))
    refine ⟨y, J'', ?_, e2⟩
    unfold f_X7_remove_19
    rw [h18, if_neg (nI_ge (by omega) (by omega)), q_a1, if_pos z1, if_pos z0, c1, c0, ek]
    exact e1
theorem t_ur (J : zJ) {I0 : zM} {r m : Nat} (u1 : Int32) (hm : m < 12) (h15 : I0 147 15 = nI (m + 1)) : ∀ j k fuel I, k + j = 6 * m → 6 * r ≤ k → j < fuel → (∀ q, q ≠ 155 → I q = I0 q) → (∀ x, x < k → I 155 x = I0 155 (if x < 6 * r then x else x + 6)) → (∀ x, k ≤ x → I 155 x = I0 155 x) → ∃ y I', f_X12_unrule_28 J u1 fuel (nI k) I = some (.inr (y, I')) ∧ (∀ q, q ≠ 155 → I' q = I0 q) ∧ ∀ x, x < 6 * m → I' 155 x = I0 155 (if x < 6 * r then x else x + 6) := by
  intro j
  induction j with
  | zero =>
    intro k fuel I hk hr hf h1 h2 h3
    obtain ⟨n, rfl⟩ : ∃ n, fuel = n + 1 := ⟨fuel - 1, by omega⟩
    have e : k = 6 * m := by omega
    subst e
    refine ⟨nI (6 * m), I, ?_, h1, h2⟩
    unfold f_X12_unrule_28
    rw [h1 147 (by decide), h15, nI_pred, q_6, if_pos (nI_le (Nat.le_refl _) (by omega))]
  | succ j ih =>
    intro k fuel I hk hr hf h1 h2 h3
    obtain ⟨n, rfl⟩ : ∃ n, fuel = n + 1 := ⟨fuel - 1, by omega⟩
    have z0 : zin (nI (k)) 72 = true := zin_nI (by omega) (by decide)
    have c0 : Int32.toNatClampNeg (nI (k)) = k := nI_clamp (by omega)
    have z1 : zin (nI (k + 6)) 72 = true := zin_nI (by omega) (by decide)
    have c1 : Int32.toNatClampNeg (nI (k + 6)) = k + 6 := nI_clamp (by omega)
    obtain ⟨y, I', e1, e2⟩ := ih (k + 1) n (zu I 155 k (I 155 (k + 6))) (by omega) (by omega) (by omega) (fun q hq => (zu_row hq).trans (h1 q hq)) (fun x hx => by
      rw [zu_at]
      by_cases e : x = k
      · rw [if_pos e, h3 (k + 6) (by omega), e, if_neg (by omega)]
      · rw [if_neg e]
        exact h2 x (by omega)) (fun x hx => by
      rw [zu_offk (by omega)]
      exact h3 x (by omega))
    refine ⟨y, I', ?_, e2⟩
    unfold f_X12_unrule_28
    rw [h1 147 (by decide), h15, nI_pred, q_6, if_neg (nI_ge (by omega) (by omega)), q_a6, if_pos z1, if_pos z0, c1, c0, q_a1]
    exact e1
theorem q_unrule0 {n : Nat} {I : zM} {J : zJ} {v1 : Int32} (hv : zInv n I J) : ∃ (r : Int32) (I1 : zM) (J1 : zJ) (I2 : zM), f_X11_unrule J v1 I = some (r, I1, J1) ∧ f_X12_unrule J1 v1 I1 = some (r, I2) ∧ zInv (n + 1) I2 J1 := by
  obtain ⟨m, hr⟩ := rP_of hv.rul
  obtain ⟨r1, r2, r3, r4⟩ := hr
  by_cases h1 : zlt v1 m
  case neg =>
    refine ⟨-1, I, J, zu I 147 0 0, ?_, ?_, zInv_thrown hv⟩
    · unfold f_X11_unrule
      rw [l_isRule J v1 I r2 (by omega), ← zb_f h1, Option.bind_some, if_pos rfl]
    · unfold f_X12_unrule
      rw [l_noRule J v1 (zu I 147 0 0) (m := m) r3 (by omega), ← zb_f h1, Option.bind_some, if_pos rfl]
  obtain ⟨r, hrm, rfl⟩ := zlt_nI h1 (by omega)
  obtain ⟨k, rfl⟩ : ∃ k, m = k + 1 := ⟨m - 1, by omega⟩
  have hJ : ∀ x, x < 13 → J 19 x = some (zrp J x) := fun x hx => (hv.jok.2 x hx).1
  have z0 : zin (nI (r)) 13 = true := zin_nI (by omega) (by decide)
  have c0 : Int32.toNatClampNeg (nI (r)) = r := nI_clamp (by omega)
  have z1 : zin (nI (k)) 13 = true := zin_nI (by omega) (by decide)
  have c1 : Int32.toNatClampNeg (nI (k)) = k := nI_clamp (by omega)
  have h18 : (zu I 18 1 (nI k)) 18 1 = nI k := by rw [zu_at, if_pos rfl]
  obtain ⟨y, J1, e1, e2, e3, e4⟩ := l_rm (q := zrp J r) (r := r) (nI r) hJ (show k < 12 by omega) h18 (k - r) r zF J (by omega) (by omega) (by unfold zF; omega) (fun _ _ => rfl) (fun x hx => by rw [if_pos hx]; exact hJ x (by omega)) (fun _ _ => rfl)
  have j19 : ∀ x, (zuJ J1 19 k (some (zrp J r))) 19 x = if x = k then some (zrp J r) else J1 19 x := fun x => by simp [zuJ]
  have jrow : ∀ p, p ≠ 19 → (zuJ J1 19 k (some (zrp J r))) p = J p := fun p hp => by
    funext x
    have : (zuJ J1 19 k (some (zrp J r))) p x = J1 p x := by simp [zuJ, hp]
    rw [this, e2 p hp]
  have jsg : ∀ x, x < 13 → (zuJ J1 19 k (some (zrp J r))) 19 x = some (zrp J (sg r k x)) := fun x hx => by
    rw [j19]
    unfold sg
    by_cases c : x = k
    · rw [if_pos c, if_neg (by omega), if_neg (by omega), if_pos c]
    · rw [if_neg c]
      by_cases d : x < k
      · rw [e3 x d]
        by_cases a : x < r
        · rw [if_pos a, if_pos a]
        · rw [if_neg a, if_neg a, if_pos d]
      · rw [e4 x (by omega), hJ x hx, if_neg (by omega), if_neg d, if_neg c]
  generalize hJ2 : zuJ J1 19 k (some (zrp J r)) = J2 at j19 jrow jsg
  have zsg : ∀ x, x < 13 → zrp J2 x = zrp J (sg r k x) := fun x hx => by
    show (J2 19 x).getD 0 = _
    rw [jsg x hx]
    rfl
  have jok2 : zJok J2 := ⟨fun p x hp => by rw [jrow p hp]; exact hv.jok.1 p x hp, fun x hx => by
    have h := hv.jok.2 (sg r k x) (sg_lt (by omega) (by omega) hx)
    rw [zsg x hx]
    exact ⟨jsg x hx, h.2⟩⟩
  have jin2 : ∀ x y, x < 13 → y < 13 → zrp J2 x = zrp J2 y → x = y := fun x y hx hy h => by
    rw [zsg x hx, zsg y hy] at h
    exact sg_in (by omega) (hv.jin _ _ (sg_lt (by omega) (by omega) hx) (sg_lt (by omega) (by omega) hy) h)
  have f15 : (zu (zu I 18 1 (nI k)) 147 0 0) 147 15 = nI (k + 1) := by rw [zu_offk (by decide), zu_row (by decide)]; exact r3
  obtain ⟨y2, I3, d1, d2, d3⟩ := t_ur J2 (I0 := zu (zu I 18 1 (nI k)) 147 0 0) (r := r) (nI r) (show k < 12 by omega) f15 (6 * k - 6 * r) (6 * r) zF (zu (zu I 18 1 (nI k)) 147 0 0) (by omega) (by omega) (by unfold zF; omega) (fun _ _ => rfl) (fun x hx => by rw [if_pos hx]) (fun _ _ => rfl)
  have y15 : I3 147 15 = nI (k + 1) := by rw [d2 147 (by decide)]; exact f15
  refine ⟨nI k, zu I 18 1 (nI k), J2, zu I3 147 15 (nI k), ?_, ?_, ?_⟩
  · unfold f_X11_unrule
    rw [l_isRule J (nI r) I r2 (by omega), ← zb_t h1, Option.bind_some, if_neg i10]
    unfold f_X7_remove
    dsimp only
    rw [if_pos z0, c0, r2, nI_pred, e1, Option.bind_some]
    show ((if zin ((zu I 18 1 (nI k)) 18 1) 13 = true then some (zu I 18 1 (nI k), zuJ J1 19 (Int32.toNatClampNeg ((zu I 18 1 (nI k)) 18 1)) (some (zrp J r))) else none).bind _) = _
    rw [h18, if_pos z1, c1, hJ2, Option.bind_some]
    show some ((zu I 18 1 (nI k)) 18 1, zu I 18 1 (nI k), J2) = _
    rw [h18]
  · unfold f_X12_unrule
    rw [l_noRule J2 (nI r) (zu (zu I 18 1 (nI k)) 147 0 0) (m := k + 1) f15 (by omega), ← zb_t h1, Option.bind_some, if_neg i10, q_6, d1, Option.bind_some]
    show some ((zu I3 147 15 (I3 147 15 - 1)) 147 15, zu I3 147 15 (I3 147 15 - 1)) = _
    rw [y15, nI_pred, zu_at, if_pos rfl]
  · have hh : ∀ q, q ≠ 18 ∧ q ≠ 147 ∧ q ≠ 155 → (zu I3 147 15 (nI k)) q = I q := fun q hq => by
      rw [zu_row hq.2.1, d2 q hq.2.2, zu_row hq.2.1, zu_row hq.1]
    have h7 : ∀ x, x ≠ 0 ∧ x ≠ 15 → (zu I3 147 15 (nI k)) 147 x = I 147 x := fun x hx => by
      rw [zu_offk hx.2, d2 147 (by decide), zu_offk hx.1, zu_row (by decide)]
    refine zInv_mk jok2 jin2 (qGap_cg (fun p _ _ => hh p (by omega)) (fun p _ _ => hh p (by omega)) hv.gap) (qTm_cg (fun p _ _ => hh p (by omega)) (h7 8 (by omega)) (h7 9 (by omega)) (h7 10 (by omega)) hv.tm) (qDoi_cg (fun p _ _ => hh p (by omega)) (fun p _ _ => hh p (by omega)) (h7 6 (by omega)) hv.doi) (qKep_cg (fun p _ _ => hh p (by omega)) (fun p _ _ => hh p (by omega)) (fun j _ => by rw [hh 166 (by omega)]) (fun j _ => by rw [hh 167 (by omega)]) (fun j _ => by rw [hh 168 (by omega)]) (fun p _ _ => hh p (by omega)) hv.kep) (qTxt_cg (fun p _ _ => hh p (by omega)) (fun p _ _ => hh p (by omega)) (h7 12 (by omega)) hv.txt) ⟨k, by omega, ?_, by rw [zu_at, if_pos rfl], fun x hx => ?_⟩ (qOrd_cg (fun p _ _ => hh p (by omega)) (fun j _ => by rw [hh 157 (by omega)]) (fun j _ => by rw [hh 158 (by omega)]) hv.ord) (qBar_cg (fun p _ _ => hh p (by omega)) (fun p _ _ => hh p (by omega)) (fun p _ _ => hh p (by omega)) (h7 25 (by omega)) hv.bar) (qLaw_cg (by rw [hh 39 (by omega)]) (h7 32 (by omega)) hv.law) (qStp_cg (h7 39 (by omega)) (fun p _ _ => hh p (by omega)) hv.stp)
    · rw [zu_row (by decide), d2 18 (by decide), zu_row (by decide)]
      exact h18
    · have r155 : ∀ f, f < 6 → (zu I3 147 15 (nI k)) 155 (6 * x + f) = I 155 (6 * sg r k x + f) := fun f hf => by
        rw [zu_row (by decide), d3 _ (by omega), zu_row (by decide), zu_row (by decide)]
        unfold sg
        by_cases a : x < r
        · rw [if_pos a, if_pos (by omega)]
        · rw [if_neg a, if_pos hx, if_neg (by omega), show 6 * x + f + 6 = 6 * (x + 1) + f by omega]
      have hs : sg r k x < k + 1 := by
        unfold sg
        by_cases a : x < r
        · rw [if_pos a]; omega
        · rw [if_neg a, if_pos hx]; omega
      obtain ⟨g1, g2, g3⟩ := r4 (sg r k x) hs
      have hp := hv.jok.2 (sg r k x) (by omega)
      rw [zsg x (by omega), r155 1 (by decide), r155 3 (by decide), hh (zrp J (sg r k x)) (by omega)]
      exact ⟨fun f hf => by rw [r155 f hf]; exact g1 f hf, g2, g3⟩
theorem q_unrule : zS_unrule zInv := fun _ _ _ _ _ hv => q_unrule0 hv
/-- a rule taken back leaves the rules that stand in place -/
theorem q_unrule_ok {n : Nat} {I : zM} {J : zJ} {v1 : Int32} {q : Int32 × zM × zJ} (hv : zInv n I J) (h : f_X11_unrule J v1 I = some q) : zJok q.2.2 := by
  obtain ⟨r, I1, J1, I2, e, -, h1⟩ := q_unrule0 (v1 := v1) hv
  have z := Option.some.inj (e.symm.trans h)
  rw [← z]
  exact h1.jok
/-! ===== keep, again ===== -/
theorem fit01 {v : Int32} (h : zrg v 0 1) : fits .boolean (.int v) = true := by
  obtain ⟨j, -, hj, rfl⟩ := zrg_nI h (by decide)
  match j, hj with
  | 0, _ => decide +kernel
  | 1, _ => decide +kernel
  | k + 2, hj => exact absurd hj (by omega)
theorem zfit_of {f : Nat → Int32} (h : ∀ k, k < 24 → zrg (f k) 0 1) : zfit f 24 = true := List.all_eq_true.mpr fun i hi => fit01 (h i (List.mem_range.mp hi))
/-- one block of doings laid over another -/
theorem l_dcp (J : zJ) {I : zM} {d e : Nat} (hd : ∀ f, f < 6 → zR d f = d + 1 + f) (he : ∀ f, f < 6 → zR e f = e + 1 + f) (hde : d + 8 ≤ e ∨ e + 8 ≤ d) (hf : ∀ k, k < 24 → zrg (I (e + 6) k) 0 1) : ∃ I', f_X1_copy J d e I = some I' ∧ (∀ q, (q < d ∨ d + 7 ≤ q) → I' q = I q) ∧ I' d 6 = I e 6 ∧ I' d 7 = I e 7 ∧ ∀ k f, k < 24 → f < 6 → I' (d + 1 + f) k = I (e + 1 + f) k := by
  have d0 := hd 0 (by decide); have d1 := hd 1 (by decide); have d2 := hd 2 (by decide); have d3 := hd 3 (by decide); have d4 := hd 4 (by decide); have d5 := hd 5 (by decide)
  have e0 := he 0 (by decide); have e1 := he 1 (by decide); have e2 := he 2 (by decide); have e3 := he 3 (by decide); have e4 := he 4 (by decide); have e5 := he 5 (by decide)
  have fit : zfit ((zcp (zcp (zcp (zcp (zcp I (e + 1 + 0) (d + 1 + 0) 24) (e + 1 + 1) (d + 1 + 1) 24) (e + 1 + 2) (d + 1 + 2) 24) (e + 1 + 3) (d + 1 + 3) 24) (e + 1 + 4) (d + 1 + 4) 24) (e + 1 + 5)) 24 = true := zfit_of (fun k hk => by
    rw [zcp_row (by omega), zcp_row (by omega), zcp_row (by omega), zcp_row (by omega), zcp_row (by omega)]
    exact hf k hk)
  have key : ∀ M : zM, M = zcp (zcp (zcp (zcp (zcp (zcp I (e + 1 + 0) (d + 1 + 0) 24) (e + 1 + 1) (d + 1 + 1) 24) (e + 1 + 2) (d + 1 + 2) 24) (e + 1 + 3) (d + 1 + 3) 24) (e + 1 + 4) (d + 1 + 4) 24) (e + 1 + 5) (d + 1 + 5) 24 → (∀ q, (q < d + 1 ∨ d + 7 ≤ q) → M q = I q) ∧ ∀ k f, k < 24 → f < 6 → M (d + 1 + f) k = I (e + 1 + f) k := fun M hM => by
    subst hM
    refine ⟨fun q hq => ?_, fun k f hk hf6 => ?_⟩
    · rw [zcp_row (by omega), zcp_row (by omega), zcp_row (by omega), zcp_row (by omega), zcp_row (by omega), zcp_row (by omega)]
    · match f, hf6 with
      | 0, _ => rw [zcp_row (by omega), zcp_row (by omega), zcp_row (by omega), zcp_row (by omega), zcp_row (by omega), zcp_at hk]
      | 1, _ => rw [zcp_row (by omega), zcp_row (by omega), zcp_row (by omega), zcp_row (by omega), zcp_at hk, zcp_row (by omega)]
      | 2, _ => rw [zcp_row (by omega), zcp_row (by omega), zcp_row (by omega), zcp_at hk, zcp_row (by omega), zcp_row (by omega)]
      | 3, _ => rw [zcp_row (by omega), zcp_row (by omega), zcp_at hk, zcp_row (by omega), zcp_row (by omega), zcp_row (by omega)]
      | 4, _ => rw [zcp_row (by omega), zcp_at hk, zcp_row (by omega), zcp_row (by omega), zcp_row (by omega), zcp_row (by omega)]
      | 5, _ => rw [zcp_at hk, zcp_row (by omega), zcp_row (by omega), zcp_row (by omega), zcp_row (by omega), zcp_row (by omega)]
      | f + 6, h => exact absurd h (by omega)
  obtain ⟨k1, k2⟩ := key _ rfl
  have st : f_X1_copy J d e I = some (zu (zu (zcp (zcp (zcp (zcp (zcp (zcp I (e + 1 + 0) (d + 1 + 0) 24) (e + 1 + 1) (d + 1 + 1) 24) (e + 1 + 2) (d + 1 + 2) 24) (e + 1 + 3) (d + 1 + 3) 24) (e + 1 + 4) (d + 1 + 4) 24) (e + 1 + 5) (d + 1 + 5) 24) d 6 ((zcp (zcp (zcp (zcp (zcp (zcp I (e + 1 + 0) (d + 1 + 0) 24) (e + 1 + 1) (d + 1 + 1) 24) (e + 1 + 2) (d + 1 + 2) 24) (e + 1 + 3) (d + 1 + 3) 24) (e + 1 + 4) (d + 1 + 4) 24) (e + 1 + 5) (d + 1 + 5) 24) e 6)) d 7 ((zu (zcp (zcp (zcp (zcp (zcp (zcp I (e + 1 + 0) (d + 1 + 0) 24) (e + 1 + 1) (d + 1 + 1) 24) (e + 1 + 2) (d + 1 + 2) 24) (e + 1 + 3) (d + 1 + 3) 24) (e + 1 + 4) (d + 1 + 4) 24) (e + 1 + 5) (d + 1 + 5) 24) d 6 ((zcp (zcp (zcp (zcp (zcp (zcp I (e + 1 + 0) (d + 1 + 0) 24) (e + 1 + 1) (d + 1 + 1) 24) (e + 1 + 2) (d + 1 + 2) 24) (e + 1 + 3) (d + 1 + 3) 24) (e + 1 + 4) (d + 1 + 4) 24) (e + 1 + 5) (d + 1 + 5) 24) e 6)) e 7)) := by
    unfold f_X1_copy
    rw [d0, d1, d2, d3, d4, d5, e0, e1, e2, e3, e4, e5, if_pos fit]
  generalize zcp (zcp (zcp (zcp (zcp (zcp I (e + 1 + 0) (d + 1 + 0) 24) (e + 1 + 1) (d + 1 + 1) 24) (e + 1 + 2) (d + 1 + 2) 24) (e + 1 + 3) (d + 1 + 3) 24) (e + 1 + 4) (d + 1 + 4) 24) (e + 1 + 5) (d + 1 + 5) 24 = M at st k1 k2
  refine ⟨_, st, fun q hq => ?_, ?_, ?_, fun k f hk hf6 => ?_⟩
  · rw [zu_row (by omega), zu_row (by omega)]
    exact k1 q (by omega)
  · rw [zu_at, if_neg (by decide), zu_at, if_pos rfl, k1 e (by omega)]
  · rw [zu_at, if_pos rfl, zu_row (by omega), k1 e (by omega)]
  · rw [zu_row (by omega), zu_row (by omega)]
    exact k2 k f hk hf6
theorem qDo_mv {I I' : zM} {d t o b bo d2 t2 o2 b2 bo2 : Nat} {sz sz2 : Int32} (q : qDo I d t o sz b bo) (h6 : I' d2 6 = I d 6) (h7 : I' d2 7 = I d 7) (hs : sz2 = sz) (hf : ∀ k f, k < 24 → f < 6 → I' (d2 + 1 + f) k = I (d + 1 + f) k) (ht : ∀ j, j < 144 → I' t2 (o2 + j) = I t (o + j)) (hb : ∀ i, i < 15 → I' b2 (bo2 + i) = I b (bo + i)) : qDo I' d2 t2 o2 sz2 b2 bo2 := by
  obtain ⟨m, q1, q2, q3, q4, q5, q6, q7⟩ := q
  have r : ∀ k f, k < 24 → f < 6 → I' t2 (o2 + 6 * k + f) = I t (o + 6 * k + f) := fun k f hk hf6 => by
    rw [Nat.add_assoc, ht (6 * k + f) (by omega), Nat.add_assoc]
  refine ⟨m, q1, h6.trans q2, hs.trans q3, fun k f hk hf6 => ?_, fun k hk => ?_, fun k hk => ?_, fun i hi => ?_⟩
  · rw [hf k f hk hf6, r k f hk hf6]
    exact q4 k f hk hf6
  · have r0 := r k 0 (by omega) (by decide)
    rw [Nat.add_zero, Nat.add_zero] at r0
    rw [r0, r k 1 (by omega) (by decide), r k 2 (by omega) (by decide), r k 3 (by omega) (by decide), r k 4 (by omega) (by decide)]
    exact q5 k hk
  · rw [r k 5 hk (by decide)]
    exact q6 k hk
  · rw [hb i hi, h7]
    exact q7 i hi
theorem obj_of {I : zM} {d t o b bo : Nat} {sz : Int32} (q : qDo I d t o sz b bo) : ∀ k, k < 24 → zrg (I (d + 6) k) 0 1 := by
  obtain ⟨m, q1, q2, q3, q4, q5, q6, q7⟩ := q
  intro k hk
  have h := q4 k 5 hk (by decide)
  rw [show d + 6 = d + 1 + 5 by omega, h]
  exact q6 k hk
theorem nar_zb (P : Prop) : vp_nar .boolean (zb P) = zb P := nar01 (zb_01 P)
theorem t_sv2 (J : zJ) {I0 : zM} {s : Nat} (hs : s < 3) : ∀ j k fuel I, k + j = 144 → j < fuel → (∀ q, q ≠ 166 → I q = I0 q) → (∀ x, (x < 144 * s ∨ 144 * s + 144 ≤ x) → I 166 x = I0 166 x) → (∀ f, f < k → I 166 (144 * s + f) = I0 152 f) → ∃ y I', f_X12_save_2 J (nI s) fuel (nI k) I = some (.inr (y, I')) ∧ (∀ q, q ≠ 166 → I' q = I0 q) ∧ (∀ x, (x < 144 * s ∨ 144 * s + 144 ≤ x) → I' 166 x = I0 166 x) ∧ ∀ f, f < 144 → I' 166 (144 * s + f) = I0 152 f := by
  intro j
  induction j with
  | zero =>
    intro k fuel I hk hf h1 h2 h3
    obtain ⟨n, rfl⟩ : ∃ n, fuel = n + 1 := ⟨fuel - 1, by omega⟩
    have e : k = 144 := by omega
    subst e
    refine ⟨nI 144, I, ?_, h1, h2, h3⟩
    unfold f_X12_save_2
    rw [if_pos (show (144 : Int32) ≤ nI 144 by decide)]
  | succ j ih =>
    intro k fuel I hk hf h1 h2 h3
    obtain ⟨n, rfl⟩ : ∃ n, fuel = n + 1 := ⟨fuel - 1, by omega⟩
    have h0 : ¬ (144 : Int32) ≤ nI k := nI_ge (b := 144) (by omega) (by decide)
    have z0 : zin (nI (k)) 144 = true := zin_nI (by omega) (by decide)
    have c0 : Int32.toNatClampNeg (nI (k)) = k := nI_clamp (by omega)
    have z1 : zin (nI (144 * s + k)) 432 = true := zin_nI (by omega) (by decide)
    have c1 : Int32.toNatClampNeg (nI (144 * s + k)) = 144 * s + k := nI_clamp (by omega)
    have es : I 152 = I0 152 := h1 152 (by decide)
    obtain ⟨y, I', e1, e2⟩ := ih (k + 1) n (zu I 166 (144 * s + k) (I0 152 k)) (by omega) (by omega) (fun q hq => (zu_row hq).trans (h1 q hq)) (fun x hx => (zu_offk (by omega) I 166 _).trans (h2 x hx)) (fun f hf => by
      rw [zu_at]
      by_cases e : f = k
      · rw [if_pos (by omega), e]
      · rw [if_neg (by omega)]
        exact h3 f (by omega))
    refine ⟨y, I', ?_, e2⟩
    unfold f_X12_save_2
    rw [if_neg h0, q_144, nI_add, if_pos z0, if_pos z1, c1, c0, es, q_a1]
    exact e1
theorem t_sv35 (J : zJ) {I0 : zM} {s : Nat} (hs : s < 3) (hb : ∀ x, x < 15 → vp_nar .boolean (I0 153 x) = I0 153 x) : ∀ j k fuel I, k + j = 15 → j < fuel → (∀ q, q ≠ 168 → I q = I0 q) → (∀ x, (x < 15 * s ∨ 15 * s + 15 ≤ x) → I 168 x = I0 168 x) → (∀ f, f < k → I 168 (15 * s + f) = I0 153 f) → ∃ y I', f_X12_save_35 J (nI s) fuel (nI k) I = some (.inr (y, I')) ∧ (∀ q, q ≠ 168 → I' q = I0 q) ∧ (∀ x, (x < 15 * s ∨ 15 * s + 15 ≤ x) → I' 168 x = I0 168 x) ∧ ∀ f, f < 15 → I' 168 (15 * s + f) = I0 153 f := by
  intro j
  induction j with
  | zero =>
    intro k fuel I hk hf h1 h2 h3
    obtain ⟨n, rfl⟩ : ∃ n, fuel = n + 1 := ⟨fuel - 1, by omega⟩
    have e : k = 15 := by omega
    subst e
    refine ⟨nI 15, I, ?_, h1, h2, h3⟩
    unfold f_X12_save_35
    rw [if_pos (show (15 : Int32) ≤ nI 15 by decide)]
  | succ j ih =>
    intro k fuel I hk hf h1 h2 h3
    obtain ⟨n, rfl⟩ : ∃ n, fuel = n + 1 := ⟨fuel - 1, by omega⟩
    have h0 : ¬ (15 : Int32) ≤ nI k := nI_ge (b := 15) (by omega) (by decide)
    have z0 : zin (nI (k)) 15 = true := zin_nI (by omega) (by decide)
    have c0 : Int32.toNatClampNeg (nI (k)) = k := nI_clamp (by omega)
    have z1 : zin (nI (15 * s + k)) 45 = true := zin_nI (by omega) (by decide)
    have c1 : Int32.toNatClampNeg (nI (15 * s + k)) = 15 * s + k := nI_clamp (by omega)
    have es : I 153 = I0 153 := h1 153 (by decide)
    obtain ⟨y, I', e1, e2⟩ := ih (k + 1) n (zu I 168 (15 * s + k) (I0 153 k)) (by omega) (by omega) (fun q hq => (zu_row hq).trans (h1 q hq)) (fun x hx => (zu_offk (by omega) I 168 _).trans (h2 x hx)) (fun f hf => by
      rw [zu_at]
      by_cases e : f = k
      · rw [if_pos (by omega), e]
      · rw [if_neg (by omega)]
        exact h3 f (by omega))
    refine ⟨y, I', ?_, e2⟩
    unfold f_X12_save_35
    rw [if_neg h0, q_15, nI_add, if_pos z0, if_pos z1, c1, c0, es, if_pos (hb k (by omega)), q_a1]
    exact e1
theorem t_ld2 (J : zJ) {I0 : zM} {s : Nat} (hs : s < 3) : ∀ j k fuel I, k + j = 144 → j < fuel → (∀ q, q ≠ 152 → I q = I0 q) → (∀ x, 144 ≤ x → I 152 x = I0 152 x) → (∀ f, f < k → I 152 f = I0 166 (144 * s + f)) → ∃ y I', f_X12_load_2 J (nI s) fuel (nI k) I = some (.inr (y, I')) ∧ (∀ q, q ≠ 152 → I' q = I0 q) ∧ (∀ x, 144 ≤ x → I' 152 x = I0 152 x) ∧ ∀ f, f < 144 → I' 152 f = I0 166 (144 * s + f) := by
  intro j
  induction j with
  | zero =>
    intro k fuel I hk hf h1 h2 h3
    obtain ⟨n, rfl⟩ : ∃ n, fuel = n + 1 := ⟨fuel - 1, by omega⟩
    have e : k = 144 := by omega
    subst e
    refine ⟨nI 144, I, ?_, h1, h2, h3⟩
    unfold f_X12_load_2
    rw [if_pos (show (144 : Int32) ≤ nI 144 by decide)]
  | succ j ih =>
    intro k fuel I hk hf h1 h2 h3
    obtain ⟨n, rfl⟩ : ∃ n, fuel = n + 1 := ⟨fuel - 1, by omega⟩
    have h0 : ¬ (144 : Int32) ≤ nI k := nI_ge (b := 144) (by omega) (by decide)
    have z0 : zin (nI (k)) 144 = true := zin_nI (by omega) (by decide)
    have c0 : Int32.toNatClampNeg (nI (k)) = k := nI_clamp (by omega)
    have z1 : zin (nI (144 * s + k)) 432 = true := zin_nI (by omega) (by decide)
    have c1 : Int32.toNatClampNeg (nI (144 * s + k)) = 144 * s + k := nI_clamp (by omega)
    have es : I 166 = I0 166 := h1 166 (by decide)
    obtain ⟨y, I', e1, e2⟩ := ih (k + 1) n (zu I 152 k (I0 166 (144 * s + k))) (by omega) (by omega) (fun q hq => (zu_row hq).trans (h1 q hq)) (fun x hx => (zu_offk (by omega) I 152 _).trans (h2 x hx)) (fun f hf => by
      rw [zu_at]
      by_cases e : f = k
      · rw [if_pos (by omega), e]
      · rw [if_neg (by omega)]
        exact h3 f (by omega))
    refine ⟨y, I', ?_, e2⟩
    unfold f_X12_load_2
    rw [if_neg h0, q_144, nI_add, if_pos z1, if_pos z0, c1, c0, es, q_a1]
    exact e1
theorem t_ld35 (J : zJ) {I0 : zM} {s : Nat} (hs : s < 3) (hb : ∀ x, x < 15 → vp_nar .boolean (I0 168 (15 * s + x)) = I0 168 (15 * s + x)) : ∀ j k fuel I, k + j = 15 → j < fuel → (∀ q, q ≠ 153 → I q = I0 q) → (∀ x, 15 ≤ x → I 153 x = I0 153 x) → (∀ f, f < k → I 153 f = I0 168 (15 * s + f)) → ∃ y I', f_X12_load_35 J (nI s) fuel (nI k) I = some (.inr (y, I')) ∧ (∀ q, q ≠ 153 → I' q = I0 q) ∧ (∀ x, 15 ≤ x → I' 153 x = I0 153 x) ∧ ∀ f, f < 15 → I' 153 f = I0 168 (15 * s + f) := by
  intro j
  induction j with
  | zero =>
    intro k fuel I hk hf h1 h2 h3
    obtain ⟨n, rfl⟩ : ∃ n, fuel = n + 1 := ⟨fuel - 1, by omega⟩
    have e : k = 15 := by omega
    subst e
    refine ⟨nI 15, I, ?_, h1, h2, h3⟩
    unfold f_X12_load_35
    rw [if_pos (show (15 : Int32) ≤ nI 15 by decide)]
  | succ j ih =>
    intro k fuel I hk hf h1 h2 h3
    obtain ⟨n, rfl⟩ : ∃ n, fuel = n + 1 := ⟨fuel - 1, by omega⟩
    have h0 : ¬ (15 : Int32) ≤ nI k := nI_ge (b := 15) (by omega) (by decide)
    have z0 : zin (nI (k)) 15 = true := zin_nI (by omega) (by decide)
    have c0 : Int32.toNatClampNeg (nI (k)) = k := nI_clamp (by omega)
    have z1 : zin (nI (15 * s + k)) 45 = true := zin_nI (by omega) (by decide)
    have c1 : Int32.toNatClampNeg (nI (15 * s + k)) = 15 * s + k := nI_clamp (by omega)
    have es : I 168 = I0 168 := h1 168 (by decide)
    obtain ⟨y, I', e1, e2⟩ := ih (k + 1) n (zu I 153 k (I0 168 (15 * s + k))) (by omega) (by omega) (fun q hq => (zu_row hq).trans (h1 q hq)) (fun x hx => (zu_offk (by omega) I 153 _).trans (h2 x hx)) (fun f hf => by
      rw [zu_at]
      by_cases e : f = k
      · rw [if_pos (by omega), e]
      · rw [if_neg (by omega)]
        exact h3 f (by omega))
    refine ⟨y, I', ?_, e2⟩
    unfold f_X12_load_35
    rw [if_neg h0, q_15, nI_add, if_pos z1, if_pos z0, c1, c0, es, if_pos (hb k (by omega)), q_a1]
    exact e1
theorem t_save (J : zJ) {I : zM} {s : Nat} (hs : s < 3) (hb : ∀ x, x < 15 → vp_nar .boolean (I 153 x) = I 153 x) : ∃ I', f_X12_save J (nI s) I = some I' ∧ (∀ q, q ≠ 166 → q ≠ 167 → q ≠ 168 → I' q = I q) ∧ (∀ x, (x < 144 * s ∨ 144 * s + 144 ≤ x) → I' 166 x = I 166 x) ∧ (∀ x, (x < 15 * s ∨ 15 * s + 15 ≤ x) → I' 168 x = I 168 x) ∧ (∀ x, x ≠ s → I' 167 x = I 167 x) ∧ (∀ j, j < 144 → I' 166 (144 * s + j) = I 152 j) ∧ (∀ i, i < 15 → I' 168 (15 * s + i) = I 153 i) ∧ I' 167 s = I 147 6 := by
  obtain ⟨y, I1, a1, a2, a3, a4⟩ := t_sv2 J hs 144 0 zF I rfl (by unfold zF; omega) (fun _ _ => rfl) (fun _ _ => rfl) (fun f hf => absurd hf (by omega))
  obtain ⟨z, I2, b1, b2, b3, b4⟩ := t_sv35 J (I0 := I1) hs (by rw [a2 153 (by decide)]; exact hb) 15 0 zF I1 rfl (by unfold zF; omega) (fun _ _ => rfl) (fun _ _ => rfl) (fun f hf => absurd hf (by omega))
  have a1' : f_X12_save_2 J (nI s) zF 0 I = _ := a1
  have b1' : f_X12_save_35 J (nI s) zF 0 I1 = _ := b1
  have z0 : zin (nI (s)) 3 = true := zin_nI (by omega) (by decide)
  have c0 : Int32.toNatClampNeg (nI (s)) = s := nI_clamp (by omega)
  refine ⟨zu I2 167 s (I 147 6), ?_, fun q q1 q2 q3 => (zu_row q2).trans ((b2 q q3).trans (a2 q q1)), fun x hx => ?_, fun x hx => ?_, fun x hx => ?_, fun j hj => ?_, fun i hi => ?_, by rw [zu_at, if_pos rfl]⟩
  · unfold f_X12_save
    rw [a1', Option.bind_some]
    show ((f_X12_save_35 J (nI s) zF 0 I1).bind _) = _
    rw [b1', Option.bind_some]
    show (if zin (nI s) 3 = true then some (zu I2 167 (Int32.toNatClampNeg (nI s)) (I2 147 6)) else none) = _
    rw [if_pos z0, c0, b2 147 (by decide), a2 147 (by decide)]
  · rw [zu_row (by decide), b2 166 (by decide)]
    exact a3 x hx
  · rw [zu_row (by decide), b3 x hx, a2 168 (by decide)]
  · rw [zu_offk hx, b2 167 (by decide), a2 167 (by decide)]
  · rw [zu_row (by decide), b2 166 (by decide)]
    exact a4 j hj
  · rw [zu_row (by decide), b4 i hi, a2 153 (by decide)]
theorem t_load (J : zJ) {I : zM} {s : Nat} (hs : s < 3) (hb : ∀ x, x < 15 → vp_nar .boolean (I 168 (15 * s + x)) = I 168 (15 * s + x)) : ∃ I', f_X12_load J (nI s) I = some I' ∧ (∀ q, q ≠ 147 → q ≠ 152 → q ≠ 153 → I' q = I q) ∧ (∀ x, x ≠ 6 → I' 147 x = I 147 x) ∧ (∀ j, j < 144 → I' 152 j = I 166 (144 * s + j)) ∧ (∀ i, i < 15 → I' 153 i = I 168 (15 * s + i)) ∧ I' 147 6 = I 167 s ∧ (∀ x, 144 ≤ x → I' 152 x = I 152 x) ∧ ∀ x, 15 ≤ x → I' 153 x = I 153 x := by
  obtain ⟨y, I1, a1, a2, a3, a4⟩ := t_ld2 J hs 144 0 zF I rfl (by unfold zF; omega) (fun _ _ => rfl) (fun _ _ => rfl) (fun f hf => absurd hf (by omega))
  obtain ⟨z, I2, b1, b2, b3, b4⟩ := t_ld35 J (I0 := I1) hs (by rw [a2 168 (by decide)]; exact hb) 15 0 zF I1 rfl (by unfold zF; omega) (fun _ _ => rfl) (fun _ _ => rfl) (fun f hf => absurd hf (by omega))
  have a1' : f_X12_load_2 J (nI s) zF 0 I = _ := a1
  have b1' : f_X12_load_35 J (nI s) zF 0 I1 = _ := b1
  have z0 : zin (nI (s)) 3 = true := zin_nI (by omega) (by decide)
  have c0 : Int32.toNatClampNeg (nI (s)) = s := nI_clamp (by omega)
  refine ⟨zu I2 147 6 (I 167 s), ?_, fun q q1 q2 q3 => (zu_row q1).trans ((b2 q q3).trans (a2 q q2)), fun x hx => ?_, fun j hj => ?_, fun i hi => ?_, by rw [zu_at, if_pos rfl], fun x hx => by rw [zu_row (by decide), b2 152 (by decide)]; exact a3 x hx, fun x hx => by rw [zu_row (by decide), b3 x hx, a2 153 (by decide)]⟩
  · unfold f_X12_load
    rw [a1', Option.bind_some]
    show ((f_X12_load_35 J (nI s) zF 0 I1).bind _) = _
    rw [b1', Option.bind_some]
    show (if zin (nI s) 3 = true then some (zu I2 147 6 (I2 167 (Int32.toNatClampNeg (nI s)))) else none) = _
    rw [if_pos z0, c0, b2 167 (by decide), a2 167 (by decide)]
  · rw [zu_offk hx, b2 147 (by decide), a2 147 (by decide)]
  · rw [zu_row (by decide), b2 152 (by decide)]
    exact a4 j hj
  · rw [zu_row (by decide), b4 i hi, a2 168 (by decide)]
theorem zr_14 : ∀ s, s < 2 → zR 14 s = 75 + 8 * s := by decide +kernel
theorem q_keep : zS_keep zInv := by
  intro n I J v1 hn hv
  by_cases h1 : zrg v1 0 1
  case neg =>
    refine ⟨-1, I, zu I 147 0 0, ?_, ?_, zInv_thrown hv⟩
    · unfold f_X11_keep
      rw [l_isSlot, ← zb_f h1, Option.bind_some, if_pos rfl]
    · unfold f_X12_keep
      rw [l_noSlot, ← zb_t (P := ¬ zrg v1 0 1) h1, Option.bind_some, if_neg i10]
  obtain ⟨s, -, hs1, rfl⟩ := zrg_nI h1 (by decide)
  have hs : s < 2 := by omega
  have z0 : zin (nI (s)) 2 = true := zin_nI (by omega) (by decide)
  have c0 : Int32.toNatClampNeg (nI (s)) = s := nI_clamp (by omega)
  have z3 : zin (nI (s)) 3 = true := zin_nI (by omega) (by decide)
  have hd := hv.doi
  have hd' : qDo I 6 152 0 (I 147 6) 153 0 := hd
  obtain ⟨nn, w, h6⟩ := vDo_of hd
  obtain ⟨I1, a1, a2, a3, a4, a5⟩ := l_dcp J (I := I) (d := 75 + 8 * s) (e := 6) (zr_d7 s hs) zr_do (by omega) (obj_of hd')
  have f147 : (zu (zu I1 15 s 1) 147 0 0) 147 6 = I 147 6 := by rw [zu_offk (by decide), zu_row (by decide), a2 147 (by omega)]
  have f153 : (zu (zu I1 15 s 1) 147 0 0) 153 = I 153 := (zu_row (by decide)).trans ((zu_row (by decide)).trans (a2 153 (by omega)))
  have f152 : (zu (zu I1 15 s 1) 147 0 0) 152 = I 152 := (zu_row (by decide)).trans ((zu_row (by decide)).trans (a2 152 (by omega)))
  obtain ⟨I2, b1, b2, b3, b4, b5, b6, b7, b8⟩ := t_save J (I := zu (zu I1 15 s 1) 147 0 0) (s := s) (by omega) (fun x hx => by rw [f153, qDoi_told hd x hx]; exact nar_zb _)
  refine ⟨nI nn, zu I1 15 s 1, zu I2 169 s 1, ?_, ?_, ?_⟩
  · unfold f_X11_keep
    rw [l_isSlot, ← zb_t h1, Option.bind_some, if_neg i10, if_pos z0, c0, zr_14 s hs, a1, Option.bind_some, if_pos z0]
    show some ((zu I1 15 (Int32.toNatClampNeg (nI s)) 1) 6 6, _) = _
    rw [c0, zu_row (by decide), a2 6 (by omega), w.2.1]
  · unfold f_X12_keep
    rw [l_noSlot, ← zb_f (P := ¬ zrg (nI s) 0 1) (fun q => q h1), Option.bind_some, if_pos rfl, b1, Option.bind_some, if_pos z3, c0, zu_row (by decide), b2 147 (by decide) (by decide) (by decide), f147, h6]
  · have hh : ∀ q, (q < 75 ∨ 90 < q) ∧ q ≠ 15 ∧ q ≠ 147 ∧ q ≠ 166 ∧ q ≠ 167 ∧ q ≠ 168 ∧ q ≠ 169 → (zu I2 169 s 1) q = I q := fun q hq => by
      rw [zu_row (by omega), b2 q (by omega) (by omega) (by omega), zu_row (by omega), zu_row (by omega), a2 q (by omega)]
    have h7 : ∀ k, k ≠ 0 → (zu I2 169 s 1) 147 k = I 147 k := fun k hk => by
      rw [zu_row (by decide), b2 147 (by decide) (by decide) (by decide), zu_offk hk, zu_row (by decide), a2 147 (by omega)]
    have hblk : ∀ q, 75 ≤ q → q ≤ 90 → (zu I2 169 s 1) q = I1 q := fun q q1 q2 => by
      rw [zu_row (by omega), b2 q (by omega) (by omega) (by omega), zu_row (by omega), zu_row (by omega)]
    refine zInv_mk hv.jok hv.jin (qGap_cg (fun p _ _ => hh p (by omega)) (fun p _ _ => hh p (by omega)) hv.gap) (qTm_cg (fun p _ _ => hh p (by omega)) (h7 8 (by omega)) (h7 9 (by omega)) (h7 10 (by omega)) hv.tm) (qDoi_cg (fun p _ _ => hh p (by omega)) (fun p _ _ => hh p (by omega)) (h7 6 (by omega)) hv.doi) (fun u hu => ?_) (qTxt_cg (fun p _ _ => hh p (by omega)) (fun p _ _ => hh p (by omega)) (h7 12 (by omega)) hv.txt) (qRul_cg hv.jok (fun p _ _ => hh p (by omega)) (fun p _ _ => hh p (by omega)) (h7 15 (by omega)) hv.rul) (qOrd_cg (fun p _ _ => hh p (by omega)) (fun j _ => by rw [hh 157 (by omega)]) (fun j _ => by rw [hh 158 (by omega)]) hv.ord) (qBar_cg (fun p _ _ => hh p (by omega)) (fun p _ _ => hh p (by omega)) (fun p _ _ => hh p (by omega)) (h7 25 (by omega)) hv.bar) (qLaw_cg (by rw [hh 39 (by omega)]) (h7 32 (by omega)) hv.law) (qStp_cg (h7 39 (by omega)) (fun p _ _ => hh p (by omega)) hv.stp)
    have e15 : (zu I2 169 s 1) 15 = (zu I1 15 s 1) 15 := by rw [zu_row (by decide), b2 15 (by decide) (by decide) (by decide), zu_row (by decide)]
    have e169 : I2 169 = I 169 := by rw [b2 169 (by decide) (by decide) (by decide), zu_row (by decide), zu_row (by decide), a2 169 (by omega)]
    have e166 : ∀ x, (zu I2 169 s 1) 166 x = I2 166 x := fun x => by rw [zu_row (by decide)]
    by_cases e : u = s
    · subst e
      refine ⟨qDo_mv hd' ?_ ?_ ?_ (fun k f hk hf => ?_) (fun j hj => ?_) (fun i hi => ?_), ?_, ?_⟩
      · rw [hblk _ (by omega) (by omega)]; exact a3
      · rw [hblk _ (by omega) (by omega)]; exact a4
      · rw [zu_row (by decide), b8]; exact f147
      · rw [hblk _ (by omega) (by omega)]; exact a5 k f hk hf
      · rw [e166, b6 j hj, f152, Nat.zero_add]
      · rw [zu_row (by decide), b7 i hi, f153, Nat.zero_add]
      · rw [e15, zu_at, if_pos rfl, zu_at, if_pos rfl]
      · rw [zu_at, if_pos rfl]
        exact ⟨by decide, by decide⟩
    · obtain ⟨g1, g2, g3⟩ := hv.kep u hu
      refine ⟨qDo_mv g1 ?_ ?_ ?_ (fun k f hk hf => ?_) (fun j hj => ?_) (fun i hi => ?_), ?_, ?_⟩
      · rw [hblk _ (by omega) (by omega), a2 _ (by omega)]
      · rw [hblk _ (by omega) (by omega), a2 _ (by omega)]
      · rw [zu_row (by decide), b5 u e, zu_row (by decide), zu_row (by decide), a2 167 (by omega)]
      · rw [hblk _ (by omega) (by omega), a2 _ (by omega)]
      · rw [e166, b3 _ (by omega), zu_row (by decide), zu_row (by decide), a2 166 (by omega)]
      · rw [zu_row (by decide), b4 _ (by omega), zu_row (by decide), zu_row (by decide), a2 168 (by omega)]
      · rw [e15, zu_offk e, a2 15 (by omega), zu_offk e, e169]
        exact g2
      · rw [zu_offk e, e169]
        exact g3
theorem q_again : zS_again zInv := by
  intro n I J v1 hn hv
  by_cases h1 : zrg v1 0 1
  case neg =>
    refine ⟨-1, I, zu I 147 0 0, ?_, ?_, zInv_thrown hv⟩
    · unfold f_X11_again
      rw [l_isSlot, ← zb_f h1, Option.bind_some, if_pos rfl]
    · unfold f_X12_again
      rw [l_noSlot, ← zb_t (P := ¬ zrg v1 0 1) h1, Option.bind_some, if_neg i10]
  obtain ⟨s, -, hs1, rfl⟩ := zrg_nI h1 (by decide)
  have hs : s < 2 := by omega
  have z0 : zin (nI (s)) 2 = true := zin_nI (by omega) (by decide)
  have c0 : Int32.toNatClampNeg (nI (s)) = s := nI_clamp (by omega)
  have z3 : zin (nI (s)) 3 = true := zin_nI (by omega) (by decide)
  obtain ⟨g1, g2, g3⟩ := hv.kep s hs
  by_cases c : I 169 s = 0
  · refine ⟨-3, I, zu I 147 0 0, ?_, ?_, zInv_thrown hv⟩
    · unfold f_X11_again
      rw [l_isSlot, ← zb_t h1, Option.bind_some, if_neg i10, if_pos z0, c0, if_pos (g2.trans c)]
    · unfold f_X12_again
      rw [l_noSlot, ← zb_f (P := ¬ zrg (nI s) 0 1) (fun q => q h1), Option.bind_some, if_pos rfl, if_pos z3, c0, if_pos (show (zu I 147 0 0) 169 s = 0 by rw [zu_row (by decide)]; exact c)]
  obtain ⟨I1, a1, a2, a3, a4, a5⟩ := l_dcp J (I := I) (d := 6) (e := 75 + 8 * s) zr_do (zr_d7 s hs) (by omega) (obj_of g1)
  have g1' := g1
  obtain ⟨m, q1, q2, q3, q4, q5, q6, q7⟩ := g1
  have f168 : (zu I1 147 0 0) 168 = I 168 := (zu_row (by decide)).trans (a2 168 (by omega))
  have f166 : (zu I1 147 0 0) 166 = I 166 := (zu_row (by decide)).trans (a2 166 (by omega))
  have f167 : (zu I1 147 0 0) 167 = I 167 := (zu_row (by decide)).trans (a2 167 (by omega))
  obtain ⟨I2, b1, b2, b3, b4, b5, b6, -, -⟩ := t_load J (I := zu I1 147 0 0) (s := s) (by omega) (fun x hx => by rw [f168, q7 x hx]; exact nar_zb _)
  rw [f167] at b6
  refine ⟨nI m, I1, I2, ?_, ?_, ?_⟩
  · unfold f_X11_again
    rw [l_isSlot, ← zb_t h1, Option.bind_some, if_neg i10, if_pos z0, c0, if_neg (fun e => c (g2.symm.trans e)), if_pos z0, zr_14 s hs, a1, Option.bind_some, a3, q2]
  · unfold f_X12_again
    rw [l_noSlot, ← zb_f (P := ¬ zrg (nI s) 0 1) (fun q => q h1), Option.bind_some, if_pos rfl, if_pos z3, c0, if_neg (show ¬ (zu I1 147 0 0) 169 s = 0 by rw [zu_row (by decide), a2 169 (by omega)]; exact c), b1, Option.bind_some, b6, q3]
  · have hh : ∀ q, (q < 6 ∨ 12 < q) ∧ q ≠ 147 ∧ q ≠ 152 ∧ q ≠ 153 → I2 q = I q := fun q hq => by
      rw [b2 q (by omega) (by omega) (by omega), zu_row (by omega), a2 q (by omega)]
    have h7 : ∀ k, k ≠ 0 ∧ k ≠ 6 → I2 147 k = I 147 k := fun k hk => by
      rw [b3 k hk.2, zu_offk hk.1, a2 147 (by omega)]
    have hblk : ∀ q, q ≤ 12 → I2 q = I1 q := fun q q1 => by
      rw [b2 q (by omega) (by omega) (by omega), zu_row (by omega)]
    refine zInv_mk hv.jok hv.jin (qGap_cg (fun p _ _ => hh p (by omega)) (fun p _ _ => hh p (by omega)) hv.gap) (qTm_cg (fun p _ _ => hh p (by omega)) (h7 8 (by omega)) (h7 9 (by omega)) (h7 10 (by omega)) hv.tm) (qDo_mv g1' ?_ ?_ b6 (fun k f hk hf => ?_) (fun j hj => ?_) (fun i hi => ?_)) (qKep_cg (fun p _ _ => hh p (by omega)) (fun p _ _ => hh p (by omega)) (fun j _ => by rw [hh 166 (by omega)]) (fun j _ => by rw [hh 167 (by omega)]) (fun j _ => by rw [hh 168 (by omega)]) (fun p _ _ => hh p (by omega)) hv.kep) (qTxt_cg (fun p _ _ => hh p (by omega)) (fun p _ _ => hh p (by omega)) (h7 12 (by omega)) hv.txt) (qRul_cg hv.jok (fun p _ _ => hh p (by omega)) (fun p _ _ => hh p (by omega)) (h7 15 (by omega)) hv.rul) (qOrd_cg (fun p _ _ => hh p (by omega)) (fun j _ => by rw [hh 157 (by omega)]) (fun j _ => by rw [hh 158 (by omega)]) hv.ord) (qBar_cg (fun p _ _ => hh p (by omega)) (fun p _ _ => hh p (by omega)) (fun p _ _ => hh p (by omega)) (h7 25 (by omega)) hv.bar) (qLaw_cg (by rw [hh 39 (by omega)]) (h7 32 (by omega)) hv.law) (qStp_cg (h7 39 (by omega)) (fun p _ _ => hh p (by omega)) hv.stp)
    · rw [hblk _ (by omega)]; exact a3
    · rw [hblk _ (by omega)]; exact a4
    · rw [hblk _ (by omega)]; exact a5 k f hk hf
    · rw [Nat.zero_add, b4 j hj, f166]
    · rw [Nat.zero_add, b5 i hi, f168]
