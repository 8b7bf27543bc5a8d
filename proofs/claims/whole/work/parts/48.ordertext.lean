/-! ===== the text of an order ===== -/
theorem l_has (J : zJ) {I : zM} {i : Nat} {x : Int32} (hi : i ≤ 5) (h1 : I 35 1 = nI i) : ∀ j k fuel, k + j = i → j < fuel → ((f_X4_has_2 J 35 x fuel (nI k) I).bind fun q => Sum.elim (fun a => some a) (fun a3 => some ((0, a3.2))) q) = some (zb (∃ h, k ≤ h ∧ h < i ∧ I 36 h = x), I) := by
  have r0 : zR 35 0 = 36 := by decide +kernel
  intro j
  induction j with
  | zero =>
    intro k fuel hk hf
    obtain ⟨n, rfl⟩ : ∃ n, fuel = n + 1 := ⟨fuel - 1, by omega⟩
    have e : k = i := by omega
    subst e
    unfold f_X4_has_2
    rw [h1, if_pos (nI_le (Nat.le_refl _) (by omega)), ← zb_f (P := ∃ h, k ≤ h ∧ h < k ∧ I 36 h = x) (fun ⟨h, a, b, _⟩ => by omega)]
    rfl
  | succ j ih =>
    intro k fuel hk hf
    obtain ⟨n, rfl⟩ : ∃ n, fuel = n + 1 := ⟨fuel - 1, by omega⟩
    have z0 : zin (nI (k)) 5 = true := zin_nI (by omega) (by decide)
    have c0 : Int32.toNatClampNeg (nI (k)) = k := nI_clamp (by omega)
    unfold f_X4_has_2
    rw [h1, if_neg (nI_ge (by omega) (by omega)), if_pos z0, r0, c0, q_a1]
    by_cases e : I 36 k = x
    · rw [if_pos e, ← zb_t (P := ∃ h, k ≤ h ∧ h < i ∧ I 36 h = x) ⟨k, Nat.le_refl _, by omega, e⟩]
      rfl
    · rw [if_neg e, zb_cg (show (∃ h, k ≤ h ∧ h < i ∧ I 36 h = x) ↔ (∃ h, k + 1 ≤ h ∧ h < i ∧ I 36 h = x) from ⟨fun ⟨h, a, b, c⟩ => ⟨h, by
        by_cases hk : h = k
        · exact absurd (hk ▸ c) e
        · omega, b, c⟩, fun ⟨h, a, b, c⟩ => ⟨h, by omega, b, c⟩⟩)]
      exact ih (k + 1) n (by omega) (by omega)
/-- what the order that is read must be so far -/
def oS (I I' : zM) (had : Int32) (t : Nat → Nat) (i : Nat) : Prop := i ≤ 5 ∧ I 35 1 = nI i ∧ I' 147 13 = nI i ∧ ∃ a : Nat → Nat, (∀ k, k < i → a k < 5 ∧ I 36 k = nI (a k) ∧ lt0 (t k) = nI (a k)) ∧ (∀ h k, h < k → k < i → a h ≠ a k) ∧ ∀ x, x < 5 → (zbt had x ↔ ∃ k, k < i ∧ a k = x)
def oEnd (I I' : zM) (L : Nat) (t : Nat → Nat) (c w : Option (Int32 × zM)) : Prop := ∃ r I1 I2, c = some (r, I1) ∧ w = some (r, I2) ∧ (∀ q, q ≠ 35 → q ≠ 36 → I1 q = I q) ∧ zRr I' I2 ∧ (r = -9 → 1 ≤ L ∧ ∃ had, oS I1 I2 had t L)
theorem rd_ord (J : zJ) {I0 I0' : zM} {L : Nat} {t : Nat → Nat} (hL : L ≤ 24) (ht : ∀ i, i < L → t i < 256) : ∀ j i n n' (I I' : zM) had, i + j = L → j < n → j < n' → xC I L t → xT I' L t → (∀ q, q ≠ 35 → q ≠ 36 → I q = I0 q) → zRr I0' I' → oS I I' had t i → oEnd I0 I0' L t ((f_X10_readFrom_X4_8 J 35 n 0 (nI i) I).bind fun q => Sum.elim (fun a => some a) (fun a5 => ((f_X4_isWhole J 35 a5.1 a5.2.2).bind fun q6 => (if q6.1 = 0 then some ((q6.2 16 1, q6.2)) else some (((-9), q6.2))))) q) ((f_X12_readOrder_7 J n' had I').bind fun q => Sum.elim (fun a => some a) (fun a3 => (if a3.2 147 12 = 0 then some ((0, a3.2)) else some (((-9), a3.2)))) q) := by
  have r0 : zR 35 0 = 36 := by decide +kernel
  intro j
  induction j with
  | zero =>
    intro i n n' I I' had hi hn hn' x y fc fr hS
    obtain ⟨m, rfl⟩ : ∃ m, n = m + 1 := ⟨n - 1, by omega⟩
    obtain ⟨m', rfl⟩ : ∃ m', n' = m' + 1 := ⟨n' - 1, by omega⟩
    have e : i = L := by omega
    subst e
    have hS' := hS
    obtain ⟨s1, s2, s3, -⟩ := hS
    have tw : f_X12_readOrder_7 J (m' + 1) had I' = some (.inr (had, I')) := by
      unfold f_X12_readOrder_7
      rw [y.1, s3, if_pos (nI_le (Nat.le_refl _) (by omega))]
    have cl : f_X10_readFrom_X4_8 J 35 (m + 1) 0 (nI i) I = some (.inr (0, nI i, I)) := by
      unfold f_X10_readFrom_X4_8
      rw [x.1, if_pos (nI_le (Nat.le_refl _) (by omega))]
    rw [tw, cl, Option.bind_some, Option.bind_some]
    show oEnd _ _ _ _ ((f_X4_isWhole J 35 0 I).bind _) (if I' 147 12 = 0 then _ else _)
    unfold f_X4_isWhole
    rw [s2, y.1]
    by_cases c : i = 0
    · subst c
      rw [if_pos (show nI 0 ≤ 0 by decide), if_pos (show nI 0 = 0 by decide), Option.bind_some, if_pos rfl]
      refine ⟨0, I, I', ?_, rfl, fc, fr, fun h => absurd h (by decide)⟩
      show some (I 16 1, I) = _
      rw [x.1]
      rfl
    · rw [if_neg (nI_nle (by omega) (by omega)), if_neg (nI_ne0 (by omega) (by omega)), Option.bind_some, if_neg i10]
      exact ⟨-9, I, I', rfl, rfl, fc, fr, fun _ => ⟨by omega, had, hS'⟩⟩
  | succ j ih =>
    intro i n n' I I' had hi hn hn' x y fc fr hS
    obtain ⟨m, rfl⟩ : ∃ m, n = m + 1 := ⟨n - 1, by omega⟩
    obtain ⟨m', rfl⟩ : ∃ m', n' = m' + 1 := ⟨n' - 1, by omega⟩
    obtain ⟨s1, s2, s3, a, s4, s5, s6⟩ := hS
    have hiL : i < L := by omega
    have lt := ht i hiL
    have z0 : zin (nI (i)) 24 = true := zin_nI (by omega) (by decide)
    have c0 : Int32.toNatClampNeg (nI (i)) = i := nI_clamp (by omega)
    have h24 : ¬ (24 : Int32) ≤ nI i := nI_ge (b := 24) (by omega) (by decide)
    have cl : f_X10_readFrom_X4_8 J 35 (m + 1) 0 (nI i) I = (f_X4_accept J 35 0 (nI (t i)) I).bind fun q6 => (if q6.1 = (-9) then some (.inl ((nI i, q6.2))) else f_X10_readFrom_X4_8 J 35 m q6.1 (nI (i + 1)) q6.2) := by
      conv => lhs; unfold f_X10_readFrom_X4_8
      rw [x.1, if_neg (nI_ge hiL (by omega)), if_neg h24, if_pos z0, c0, x.2 i hiL, q_a1]
    have tw : ∀ R, (if lt0 (t i) = -9 then some (.inl ((nI i, I'))) else (if (had >>> (lt0 (t i) &&& 31)) &&& (1 : Int32) = 1 then some (.inl ((nI i, I'))) else f_X12_readOrder_7 J m' (had ||| ((1 : Int32) <<< (lt0 (t i) &&& 31))) (zu I' 147 13 (nI (i + 1))))) = R → f_X12_readOrder_7 J (m' + 1) had I' = R := fun R hR => by
      conv => lhs; unfold f_X12_readOrder_7
      rw [y.1, s3, if_neg (nI_ge hiL (by omega)), if_pos z0, c0, y.2 i hiL, t_letterOf J I' lt, Option.bind_some]
      simp only [s3, q_a1]
      exact hR
    have bad : ∀ I1, (∀ q, q ≠ 35 → q ≠ 36 → I1 q = I0 q) → f_X4_accept J 35 0 (nI (t i)) I = some (-9, I1) → f_X12_readOrder_7 J (m' + 1) had I' = some (.inl (nI i, I')) → oEnd I0 I0' L t ((f_X10_readFrom_X4_8 J 35 (m + 1) 0 (nI i) I).bind fun q => Sum.elim (fun a => some a) (fun a5 => ((f_X4_isWhole J 35 a5.1 a5.2.2).bind fun q6 => (if q6.1 = 0 then some ((q6.2 16 1, q6.2)) else some (((-9), q6.2))))) q) ((f_X12_readOrder_7 J (m' + 1) had I').bind fun q => Sum.elim (fun a => some a) (fun a3 => (if a3.2 147 12 = 0 then some ((0, a3.2)) else some (((-9), a3.2)))) q) := fun I1 f1 e1 e2 => by
      rw [cl, e1, Option.bind_some, if_pos rfl, e2]
      exact ⟨nI i, I1, I', rfl, rfl, f1, fr, fun h => absurd h (m9_ne (by omega))⟩
    rcases lt_ix (t i) with ⟨v, hv, w1, w2⟩ | ⟨w1, w2⟩
    case inr =>
      refine bad I fc ?_ (tw _ (if_pos w2))
      unfold f_X4_accept
      rw [l_ix0 J I lt, Option.bind_some, w1, if_pos (show (-1 : Int32) < 0 by decide)]
    have bt := zbit_eq had (show v < 32 by omega)
    have hs := l_has J (x := nI v) s1 s2 i 0 zF (by omega) (by unfold zF; omega)
    have ex : (∃ h, 0 ≤ h ∧ h < i ∧ I 36 h = nI v) ↔ ∃ k, k < i ∧ a k = v := ⟨fun ⟨h, _, b, c⟩ => ⟨h, b, (nI_eq (by have := (s4 h b).1; omega) (by omega)).mp ((s4 h b).2.1.symm.trans c)⟩, fun ⟨k, b, c⟩ => ⟨k, Nat.zero_le _, b, by rw [(s4 k b).2.1, c]⟩⟩
    rw [zb_cg ex] at hs
    have hs' : f_X4_has J 35 (nI v) I = some (zb (∃ k, k < i ∧ a k = v), I) := hs
    have hn0 : ¬ nI v < 0 := nI_pos (by omega)
    by_cases c5 : i = 5
    · have ev : ∃ k, k < i ∧ a k = v := by
        by_cases c : ∃ k, k < i ∧ a k = v
        · exact c
        · exfalso
          have := pg 5 6 (fun k => if k < 5 then a k else v) (fun k hk => by
            show (if k < 5 then a k else v) < 5
            by_cases h : k < 5
            · rw [if_pos h]; exact (s4 k (by omega)).1
            · rw [if_neg h]; exact hv) (fun h k hhk hk => by
            show (if h < 5 then a h else v) ≠ (if k < 5 then a k else v)
            rw [if_pos (show h < 5 by omega)]
            by_cases k5 : k < 5
            · rw [if_pos k5]; exact s5 h k hhk (by omega)
            · rw [if_neg k5]; exact fun e => c ⟨h, by omega, e⟩)
          omega
      refine bad I fc ?_ (tw _ ?_)
      · unfold f_X4_accept
        rw [l_ix0 J I lt, Option.bind_some, w1, if_neg hn0]
        show (if 5 ≤ I 35 1 then _ else _) = _
        rw [s2, if_pos (show (5 : Int32) ≤ nI i by rw [c5]; decide)]
      · rw [w2, if_neg (m9_ne (by omega)), bt, if_pos (zb_eq1.mpr ((s6 v hv).mpr ev))]
    have h5 : ¬ (5 : Int32) ≤ nI i := nI_ge (b := 5) (by omega) (by decide)
    by_cases ev : ∃ k, k < i ∧ a k = v
    · refine bad I fc ?_ (tw _ ?_)
      · unfold f_X4_accept
        rw [l_ix0 J I lt, Option.bind_some, w1, if_neg hn0]
        show (if 5 ≤ I 35 1 then _ else _) = _
        rw [s2, if_neg h5, hs', Option.bind_some, if_neg (fun z => zb_eq0.mp z ev)]
      · rw [w2, if_neg (m9_ne (by omega)), bt, if_pos (zb_eq1.mpr ((s6 v hv).mpr ev))]
    · have z1 : zin (nI (i)) 5 = true := zin_nI (by omega) (by decide)
      have ac : f_X4_accept J 35 0 (nI (t i)) I = some (0, zu (zu I 36 i (nI v)) 35 1 (nI (i + 1))) := by
        unfold f_X4_accept
        rw [l_ix0 J I lt, Option.bind_some, w1, if_neg hn0]
        show (if 5 ≤ I 35 1 then _ else _) = _
        rw [s2, if_neg h5, hs', Option.bind_some, if_pos (zb_eq0.mpr ev)]
        show (if zin (I 35 1) 5 = true then some (0, zu (zu I (zR 35 0) (Int32.toNatClampNeg (I 35 1)) (nI v)) 35 1 ((zu I (zR 35 0) (Int32.toNatClampNeg (I 35 1)) (nI v)) 35 1 + 1)) else none) = _
        rw [s2, if_pos z1, r0, c0, zu_row (show 35 ≠ 36 by decide), s2, q_a1]
      have t2 := tw _ (show _ = f_X12_readOrder_7 J m' (had ||| ((1 : Int32) <<< (nI v &&& 31))) (zu I' 147 13 (nI (i + 1))) by
        rw [w2, if_neg (m9_ne (by omega)), bt, if_neg (fun z => ev ((s6 v hv).mp (zb_eq1.mp z)))])
      rw [cl, ac, Option.bind_some, if_neg (show ¬ (0 : Int32) = -9 by decide), t2]
      refine ih (i + 1) m m' (zu (zu I 36 i (nI v)) 35 1 (nI (i + 1))) (zu I' 147 13 (nI (i + 1))) _ (by omega) (by omega) (by omega) ?_ (zRr.rf.p.x y) (fun q q1 q2 => (zu_row q1).trans ((zu_row q2).trans (fc q q1 q2))) fr.p ⟨by omega, by rw [zu_at, if_pos rfl], by rw [zu_at, if_pos rfl], fun k => if k = i then v else a k, fun k hk => ?_, fun h k hhk hk => ?_, fun z hz => ?_⟩
      · unfold xC at x ⊢
        rw [zu_row (show 16 ≠ 35 by decide), zu_row (show 16 ≠ 36 by decide), zu_row (show 17 ≠ 35 by decide), zu_row (show 17 ≠ 36 by decide)]
        exact x
      · show (if k = i then v else a k) < 5 ∧ _ = nI (if k = i then v else a k) ∧ _ = nI (if k = i then v else a k)
        rw [zu_row (show 36 ≠ 35 by decide), zu_at]
        by_cases e : k = i
        · rw [if_pos e, if_pos e, e]
          exact ⟨hv, rfl, w2⟩
        · rw [if_neg e, if_neg e]
          exact s4 k (by omega)
      · show (if h = i then v else a h) ≠ (if k = i then v else a k)
        rw [if_neg (show ¬ h = i by omega)]
        by_cases e : k = i
        · rw [if_pos e]
          exact fun z => ev ⟨h, by omega, z⟩
        · rw [if_neg e]
          exact s5 h k hhk (by omega)
      · rw [zbt_or, s6 z hz]
        have h1 : zbt ((1 : Int32) <<< (nI v &&& 31)) z ↔ z = v := by
          unfold zbt
          rw [zbt_one v (by omega) z (by omega)]
          exact decide_eq_true_iff
        rw [h1]
        constructor
        · rintro (⟨k, b1, b2⟩ | e)
          · exact ⟨k, by omega, by show (if k = i then v else a k) = z; rw [if_neg (by omega)]; exact b2⟩
          · exact ⟨i, by omega, by show (if i = i then v else a i) = z; rw [if_pos rfl]; exact e.symm⟩
        · rintro ⟨k, b1, b2⟩
          have b2' : (if k = i then v else a k) = z := b2
          by_cases e : k = i
          · rw [if_pos e] at b2'
            exact Or.inr b2'.symm
          · rw [if_neg e] at b2'
            exact Or.inl ⟨k, by omega, b2'⟩
theorem rd_order {J : zJ} {L : Nat} {t : Nat → Nat} (hL : L ≤ 24) (ht : ∀ i, i < L → t i < 256) {I I' : zM} (x : xC I L t) (y : xT I' L t) : oEnd I I' L t (f_X10_readFrom_X4 J 35 I) (f_X12_readOrder J I') := by
  have h := rd_ord J (I0 := I) (I0' := I') hL ht L 0 zF zF (zu I 35 1 0) (zu I' 147 13 0) 0 (by omega) (by unfold zF; omega) (by unfold zF; omega) (by
    unfold xC at x ⊢
    rw [zu_row (show 16 ≠ 35 by decide), zu_row (show 17 ≠ 35 by decide)]
    exact x) (zRr.rf.p.x y) (fun q q1 _ => zu_row q1) zRr.rf.p ⟨by omega, by rw [zu_at, if_pos rfl]; rfl, by rw [zu_at, if_pos rfl]; rfl, fun _ => 0, fun k hk => absurd hk (by omega), fun h k _ hk => absurd hk (by omega), fun x _ => ⟨fun z => absurd z (zbt_0 x), fun ⟨k, hk, _⟩ => absurd hk (by omega)⟩⟩
  exact h
