/-! ===== the text of sayings ===== -/
noncomputable def cR8 (J : zJ) (fuel : Nat) (s i : Int32) (I : zM) : Option (Int32 × zM) := (f_X10_readFrom_X8_8 J 37 fuel s i I).bind fun q => Sum.elim (fun a => some a) (fun a5 => ((f_X8_isWhole J 37 a5.1 a5.2.2).bind fun q6 => (if q6.1 = 0 then some ((q6.2 16 1, q6.2)) else some (((-9), q6.2))))) q
theorem c8_end {J : zJ} {n L s : Nat} {I : zM} {t : Nat → Nat} (hL : L ≤ 24) (x : xC I L t) : cR8 J (n + 1) (nI s) (nI L) I = (f_X8_isWhole J 37 (nI s) I).bind fun q6 => (if q6.1 = 0 then some ((q6.2 16 1, q6.2)) else some (((-9), q6.2))) := by
  unfold cR8 f_X10_readFrom_X8_8
  rw [x.1, if_pos (nI_le (Nat.le_refl _) (by omega))]
  rfl
theorem c8_step {J : zJ} {n L s i : Nat} {I : zM} {t : Nat → Nat} (hL : L ≤ 24) (x : xC I L t) (hi : i < L) : f_X10_readFrom_X8_8 J 37 (n + 1) (nI s) (nI i) I = (f_X8_accept J 37 (nI s) (nI (t i)) I).bind fun q6 => (if q6.1 = (-9) then some (.inl ((nI i, q6.2))) else f_X10_readFrom_X8_8 J 37 n q6.1 (nI (i + 1)) q6.2) := by
  have z0 : zin (nI (i)) 24 = true := zin_nI (by omega) (by decide)
  have c0 : Int32.toNatClampNeg (nI (i)) = i := nI_clamp (by omega)
  have h24 : ¬ (24 : Int32) ≤ nI i := nI_ge (b := 24) (by omega) (by decide)
  conv => lhs; unfold f_X10_readFrom_X8_8
  rw [x.1, if_neg (nI_ge hi (by omega)), if_neg h24, if_pos z0, c0, x.2 i hi, q_a1]
theorem c8_go {J : zJ} {n L s s' i : Nat} {I I1 : zM} {t : Nat → Nat} (hL : L ≤ 24) (x : xC I L t) (hi : i < L) (hs : s' < 100) (h : f_X8_accept J 37 (nI s) (nI (t i)) I = some (nI s', I1)) : cR8 J (n + 1) (nI s) (nI i) I = cR8 J n (nI s') (nI (i + 1)) I1 := by
  unfold cR8
  rw [c8_step hL x hi, h, Option.bind_some, if_neg (show ¬ (nI s', I1).1 = -9 from m9_ne (by omega))]
theorem c8_no {J : zJ} {n L s i : Nat} {I I1 : zM} {t : Nat → Nat} (hL : L ≤ 24) (x : xC I L t) (hi : i < L) (h : f_X8_accept J 37 (nI s) (nI (t i)) I = some (-9, I1)) : cR8 J (n + 1) (nI s) (nI i) I = some (nI i, I1) := by
  unfold cR8
  rw [c8_step hL x hi, h, Option.bind_some, if_pos rfl]
  rfl
theorem c8_half {J : zJ} {n L s : Nat} {I : zM} {t : Nat → Nat} (hL : L ≤ 24) (x : xC I L t) (h : 0 < s) (hs : s < 100) : cR8 J (n + 1) (nI s) (nI L) I = some (nI L, I) := by
  have w : f_X8_isWhole J 37 (nI s) I = some (0, I) := if_neg (nI_ne0 h (by omega))
  rw [c8_end hL x, w, Option.bind_some, if_pos rfl]
  show some (I 16 1, I) = _
  rw [x.1]
theorem c8_whole {J : zJ} {n L : Nat} {I : zM} {t : Nat → Nat} (hL : L ≤ 24) (x : xC I L t) : cR8 J (n + 1) (nI 0) (nI L) I = some (-9, I) := by
  have w : f_X8_isWhole J 37 (nI 0) I = some (1, I) := if_pos (show nI 0 = 0 by decide)
  rw [c8_end hL x, w, Option.bind_some, if_neg i10]
theorem a8_0 (J : zJ) (I : zM) (v : Int32) : f_X8_accept J 37 (nI 0) v I = (f_X8_acceptItem J 37 v I).bind fun q2 => some ((q2.1, q2.2)) := by
  unfold f_X8_accept
  rw [if_pos (show nI 0 = 0 by decide)]
theorem a8_1 (J : zJ) (I : zM) {t : Nat} (ht : t < 256) : (t = 61 → f_X8_accept J 37 (nI 1) (nI t) I = some (nI 2, I)) ∧ (¬ t = 61 → f_X8_accept J 37 (nI 1) (nI t) I = some (-9, I)) := by
  constructor
  · intro h
    unfold f_X8_accept
    rw [if_neg (show ¬ nI 1 = 0 by decide), if_pos (show nI 1 = 1 by decide), if_pos (show nI t = 61 from congrArg nI h)]
    rfl
  · intro h
    unfold f_X8_accept
    rw [if_neg (show ¬ nI 1 = 0 by decide), if_pos (show nI 1 = 1 by decide), if_neg (show ¬ nI t = 61 from fun e => h ((nI_is ht (show 61 < 256 by decide)).mp e))]
theorem a8_2 (J : zJ) (I : zM) {t g : Nat} (ht : t < 256) (hg : g < 6) (hv : I 37 2 = nI g) : (fg t 1 5 → f_X8_accept J 37 (nI 2) (nI t) I = some (nI 0, zu I 38 g (nI (t - 48)))) ∧ (¬ fg t 1 5 → f_X8_accept J 37 (nI 2) (nI t) I = some (-9, I)) := by
  have r0 : zR 37 0 = 38 := by decide +kernel
  have z0 : zin (nI (g)) 6 = true := zin_nI (by omega) (by decide)
  have c0 : Int32.toNatClampNeg (nI (g)) = g := nI_clamp (by omega)
  have k := l_figure J I (t := t) (lo := 1) (hi := 5) ht (by decide) (by decide)
  constructor
  · intro h
    have k' : f_X11_figure J (nI t) 1 5 I = _ := k.1 h
    unfold f_X8_accept
    rw [if_neg (show ¬ nI 2 = 0 by decide), if_neg (show ¬ nI 2 = 1 by decide), if_pos (show nI 2 = 2 by decide)]
    unfold f_X8_acceptValue
    rw [k', Option.bind_some, if_neg (show ¬ (nI (t - 48), I).1 = -9 from m9_ne (by omega))]
    show ((if zin (I 37 2) 6 = true then some ((0 : Int32), zu I (zR 37 0) (Int32.toNatClampNeg (I 37 2)) (nI (t - 48))) else none).bind fun q7 => some (q7.1, q7.2)) = _
    rw [hv, if_pos z0, c0, r0]
    rfl
  · intro h
    have k' : f_X11_figure J (nI t) 1 5 I = _ := k.2 h
    unfold f_X8_accept
    rw [if_neg (show ¬ nI 2 = 0 by decide), if_neg (show ¬ nI 2 = 1 by decide), if_pos (show nI 2 = 2 by decide)]
    unfold f_X8_acceptValue
    rw [k', Option.bind_some, if_pos rfl, Option.bind_some]
theorem a8_3 (J : zJ) (I : zM) (v : Int32) : f_X8_accept J 37 (nI 3) v I = (f_X8_acceptCrossed J 37 v I).bind fun q10 => some ((q10.1, q10.2)) := by
  unfold f_X8_accept
  rw [if_neg (show ¬ nI 3 = 0 by decide), if_neg (show ¬ nI 3 = 1 by decide), if_neg (show ¬ nI 3 = 2 by decide), if_pos (show nI 3 = 3 by decide)]
theorem lit14 : ∀ x, x < 5 → ((14 : Int32).toBitVec.getLsbD x = decide (1 ≤ x ∧ x ≤ 3)) := by decide +kernel
theorem bit14 {y : Int32} {x : Nat} (hx : x < 5) : zbt ((14 : Int32) &&& (y ^^^ (-1))) x ↔ ((1 ≤ x ∧ x ≤ 3) ∧ ¬ zbt y x) := by
  rw [zbt_and, zbt_not y (by omega)]
  refine and_congr ?_ Iff.rfl
  unfold zbt
  rw [lit14 x hx]
  exact decide_eq_true_iff
theorem x2k : ∀ c, c < 8 → ∀ y, y < 3 → (nI (2 * c) ||| ((1 : Int32) <<< (nI (y + 1) &&& 31)) = nI (2 * (c ||| 2 ^ y))) := by decide +kernel
theorem x2l : ∀ c, c < 8 → ∀ y, y < 3 → c ||| 2 ^ y < 8 := by decide +kernel
theorem x2c : ∀ c, c < 8 → ∀ x, x < 5 → 1 ≤ x → x ≤ 3 → ∃ d, d < 8 ∧ nI (2 * c) ||| ((1 : Int32) <<< (nI x &&& 31)) = nI (2 * d) := by
  intro c hc x hx h1 h3
  obtain ⟨y, rfl⟩ : ∃ y, x = y + 1 := ⟨x - 1, by omega⟩
  exact ⟨c ||| 2 ^ y, x2l c hc y (by omega), x2k c hc y (by omega)⟩
/-- both have read the same sayings -/
def wOK (I I' : zM) : Prop := (∀ g, g < 6 → I 38 g = I' 165 g ∧ zrg (I' 165 g) 0 5) ∧ I 37 1 = I' 147 27 ∧ ∃ c, c < 8 ∧ I' 147 27 = nI (2 * c)
def wEnd (I I' : zM) (c t : Option (Int32 × zM)) : Prop := ∃ r I1 I2, c = some (r, I1) ∧ t = some (r, I2) ∧ (∀ q, q ≠ 37 → q ≠ 38 → I1 q = I q) ∧ zRr I' I2 ∧ (r = -9 → wOK I1 I2)
theorem wEnd_f {e : Nat} {I I' I1 I2 : zM} (he : e < 1000) (h1 : ∀ q, q ≠ 37 → q ≠ 38 → I1 q = I q) (h2 : zRr I' I2) {c t : Option (Int32 × zM)} (hc : c = some (nI e, I1)) (ht : t = some (nI e, I2)) : wEnd I I' c t := ⟨nI e, I1, I2, hc, ht, h1, h2, fun h => absurd h (m9_ne (by omega))⟩
theorem wEnd_tr {I I' J1 J2 : zM} {c t : Option (Int32 × zM)} (h1 : ∀ q, q ≠ 37 → q ≠ 38 → J1 q = I q) (h2 : zRr I' J2) (h : wEnd J1 J2 c t) : wEnd I I' c t := by
  obtain ⟨r, I1, I2, a, b, d, e, f⟩ := h
  exact ⟨r, I1, I2, a, b, fun q q1 q2 => (d q q1 q2).trans (h1 q q1 q2), h2.tr e, f⟩
theorem xC_8 {I : zM} {L p k : Nat} {t : Nat → Nat} {v : Int32} (hp : p = 37 ∨ p = 38) (x : xC I L t) : xC (zu I p k v) L t := xC_row (by omega) x
/-- the twin reads on -/
noncomputable def tW (J : zJ) (fuel : Nat) (y : Int32) (I : zM) : Option (Int32 × zM) := (f_X12_readWords_31 J fuel y I).bind fun q => Sum.elim (fun a => some a) (fun a6 => some (((-9), a6.2))) q
theorem rd_say (J : zJ) {L : Nat} {t : Nat → Nat} (hL : L ≤ 24) (ht : ∀ i, i < L → t i < 256) : ∀ j i n n' (I I' : zM) (y : Int32), L ≤ i + j → i ≤ L → 3 * j + 4 < n → j + 1 < n' → xC I L t → xT I' L t → I' 147 13 = nI i → wOK I I' → wEnd I I' (cR8 J n (nI 0) (nI i) I) (tW J n' y I') := by
  have r0 : zR 37 0 = 38 := by decide +kernel
  intro j
  induction j with
  | zero =>
    intro i n n' I I' y hj hi hn hn' x yt hp ok
    obtain ⟨m, rfl⟩ : ∃ m, n = m + 1 := ⟨n - 1, by omega⟩
    obtain ⟨m', rfl⟩ : ∃ m', n' = m' + 1 := ⟨n' - 1, by omega⟩
    have e : i = L := by omega
    subst e
    have tw : tW J (m' + 1) y I' = some (-9, I') := by
      unfold tW f_X12_readWords_31
      rw [yt.1, hp, if_pos (nI_le (Nat.le_refl _) (by omega))]
      rfl
    exact ⟨-9, I, I', c8_whole hL x, tw, fun _ _ _ => rfl, zRr.rf, fun _ => ok⟩
  | succ j ih =>
    intro i n n' I I' y hj hi hn hn' x yt hp ok
    by_cases hiL : i = L
    · obtain ⟨m, rfl⟩ : ∃ m, n = m + 1 := ⟨n - 1, by omega⟩
      obtain ⟨m', rfl⟩ : ∃ m', n' = m' + 1 := ⟨n' - 1, by omega⟩
      subst hiL
      have tw : tW J (m' + 1) y I' = some (-9, I') := by
        unfold tW f_X12_readWords_31
        rw [yt.1, hp, if_pos (nI_le (Nat.le_refl _) (by omega))]
        rfl
      exact ⟨-9, I, I', c8_whole hL x, tw, fun _ _ _ => rfl, zRr.rf, fun _ => ok⟩
    have hl : i < L := by omega
    obtain ⟨m, rfl⟩ : ∃ m, n = m + 4 := ⟨n - 4, by omega⟩
    obtain ⟨m', rfl⟩ : ∃ m', n' = m' + 1 := ⟨n' - 1, by omega⟩
    have lt := ht i hl
    have z0 : zin (nI (i)) 24 = true := zin_nI (by omega) (by decide)
    have c0 : Int32.toNatClampNeg (nI (i)) = i := nI_clamp (by omega)
    have ok' := ok
    obtain ⟨o1, o2, c, o3, o4⟩ := ok
    have z13 : ∀ x, (zu I' 147 13 x) 147 13 = x := fun x => by rw [zu_at, if_pos rfl]
    have z12 : ∀ x, (zu I' 147 13 x) 147 12 = nI L := fun x => by rw [zu_offk (by decide)]; exact yt.1
    have z27 : ∀ x, (zu I' 147 13 x) 147 27 = nI (2 * c) := fun x => by rw [zu_offk (by decide)]; exact o4
    have r154 : ∀ x, (zu I' 147 13 x) 154 = I' 154 := fun x => zu_row (by decide)
    have r165 : ∀ x, (zu I' 147 13 x) 165 = I' 165 := fun x => zu_row (by decide)
    by_cases cX : t i = 88
    · -- X and a letter
      have e88 : nI (t i) = 88 := congrArg nI cX
      by_cases c14 : 2 * c = 14
      · have i14 : I 37 1 = 14 := by rw [o2, o4, c14]; rfl
        have i14' : I' 147 27 = 14 := by rw [o4, c14]; rfl
        have ac : f_X8_accept J 37 (nI 0) (nI (t i)) I = some (-9, I) := by
          rw [a8_0]
          unfold f_X8_acceptItem
          rw [if_pos e88, if_pos i14, Option.bind_some]
        have tw : tW J (m' + 1) y I' = some (nI i, I') := by
          unfold tW f_X12_readWords_31
          rw [yt.1, hp, if_neg (nI_ge hl (by omega)), if_pos z0, c0, yt.2 i hl, if_pos e88, if_pos i14']
          rfl
        exact wEnd_f (e := i) (by omega) (fun _ _ _ => rfl) zRr.rf (c8_no hL x hl ac) tw
      have i14 : ¬ I 37 1 = 14 := by rw [o2, o4]; exact fun e => c14 ((nI_eq (b := 14) (by omega) (by decide)).mp e)
      have i14' : ¬ I' 147 27 = 14 := by rw [o4]; exact fun e => c14 ((nI_eq (b := 14) (by omega) (by decide)).mp e)
      have ac : f_X8_accept J 37 (nI 0) (nI (t i)) I = some (nI 3, I) := by
        rw [a8_0]
        unfold f_X8_acceptItem
        rw [if_pos e88, if_neg i14, Option.bind_some]
        rfl
      have st := c8_go (J := J) (n := m + 3) hL x hl (by decide) ac
      by_cases e1 : i + 1 = L
      · have tw : tW J (m' + 1) y I' = some (nI L, zu I' 147 13 (nI L)) := by
          have kin : f_X12_in J (Int32.toInt64 ((-9) : Int32)) 1 3 (zu I' 147 13 (nI L)) = some (0, zu I' 147 13 (nI L)) := by
            rw [l_in_1_3, ← zb_f (fun q : zrg (-9) 1 3 => absurd q.1 (by decide))]
          unfold tW f_X12_readWords_31
          rw [yt.1, hp, if_neg (nI_ge hl (by omega)), if_pos z0, c0, yt.2 i hl, if_pos e88, if_neg i14']
          simp only [q_a1, e1, z13, z12, nI_le (Nat.le_refl L) (show L < 2 ^ 31 by omega), kin, Option.bind_some, ↓reduceIte]
          rfl
        rw [e1] at st
        exact wEnd_f (e := L) (by omega) (fun _ _ _ => rfl) zRr.rf.p (st.trans (c8_half hL x (by decide) (by decide))) tw
      have hl1 : i + 1 < L := by omega
      have lt1 := ht (i + 1) hl1
      have z1 : zin (nI (i + 1)) 24 = true := zin_nI (by omega) (by decide)
      have c1 : Int32.toNatClampNeg (nI (i + 1)) = i + 1 := nI_clamp (by omega)
      have kt := t_letterOf J (zu I' 147 13 (nI (i + 1))) lt1
      have tw : ∀ R, ((f_X12_in J (Int32.toInt64 (lt0 (t (i + 1)))) 1 3 (zu I' 147 13 (nI (i + 1)))).bind fun q28 => (if q28.1 = 0 then some (.inl ((q28.2 147 13, q28.2))) else (if ((q28.2 147 27) >>> (lt0 (t (i + 1)) &&& 31)) &&& (1 : Int32) = 1 then some (.inl ((q28.2 147 13, q28.2))) else f_X12_readWords_31 J m' (lt0 (t (i + 1))) (zu (zu q28.2 147 27 ((q28.2 147 27) ||| ((1 : Int32) <<< (lt0 (t (i + 1)) &&& 31)))) 147 13 (((zu q28.2 147 27 ((q28.2 147 27) ||| ((1 : Int32) <<< (lt0 (t (i + 1)) &&& 31)))) 147 13) + (1 : Int32)))))) = R → f_X12_readWords_31 J (m' + 1) y I' = R := fun R hR => by
        conv => lhs; unfold f_X12_readWords_31
        rw [yt.1, hp, if_neg (nI_ge hl (by omega)), if_pos z0, c0, yt.2 i hl, if_pos e88, if_neg i14']
        simp only [q_a1, z13, z12, nI_ge hl1 (show L < 2 ^ 31 by omega), z1, c1, r154, yt.2 (i + 1) hl1, kt, Option.bind_some, ↓reduceIte]
        exact hR
      rcases lt_ix (t (i + 1)) with ⟨v, hv, w1, w2⟩ | ⟨w1, w2⟩
      case inr =>
        have ac1 : f_X8_accept J 37 (nI 3) (nI (t (i + 1))) I = some (-9, I) := by
          rw [a8_3]
          unfold f_X8_acceptCrossed
          rw [l_ix0 J I lt1, Option.bind_some, w1, if_pos (show (-1 : Int32) < 0 by decide), Option.bind_some]
        have kin : f_X12_in J (Int32.toInt64 ((-9) : Int32)) 1 3 (zu I' 147 13 (nI (i + 1))) = some (0, zu I' 147 13 (nI (i + 1))) := by
          rw [l_in_1_3, ← zb_f (fun q : zrg (-9) 1 3 => absurd q.1 (by decide))]
        have tw2 : tW J (m' + 1) y I' = some (nI (i + 1), zu I' 147 13 (nI (i + 1))) := by
          unfold tW
          rw [tw _ (show _ = some (.inl (nI (i + 1), zu I' 147 13 (nI (i + 1)))) by rw [w2, kin, Option.bind_some, if_pos rfl]; simp only [z13])]
          rfl
        exact wEnd_f (e := i + 1) (by omega) (fun _ _ _ => rfl) zRr.rf.p (st.trans (c8_no (n := m + 2) hL x hl1 ac1)) tw2
      have kin : f_X12_in J (Int32.toInt64 (nI v)) 1 3 (zu I' 147 13 (nI (i + 1))) = some (zb (zrg (nI v) 1 3), zu I' 147 13 (nI (i + 1))) := l_in_1_3 J (nI v) _
      have vr : zrg (nI v) 1 3 ↔ (1 ≤ v ∧ v ≤ 3) := by
        unfold zrg
        rw [nI_toInt (by omega)]
        omega
      have hn0 : ¬ nI v < 0 := nI_pos (by omega)
      have kb := l_bit J ((14 : Int32) &&& (I 37 1 ^^^ ((-1) : Int32))) I (j := v) (by omega)
      rw [zb_cg (bit14 hv)] at kb
      have bt := zbit_eq (nI (2 * c)) (show v < 32 by omega)
      by_cases vok : 1 ≤ v ∧ v ≤ 3
      case neg =>
        have ac1 : f_X8_accept J 37 (nI 3) (nI (t (i + 1))) I = some (-9, I) := by
          rw [a8_3]
          unfold f_X8_acceptCrossed
          rw [l_ix0 J I lt1, Option.bind_some, w1, if_neg hn0]
          show (((f_X11_bit J ((14 : Int32) &&& (I 37 1 ^^^ ((-1) : Int32))) (nI v) I).bind fun q5 => (if q5.1 = 0 then some (((-9), q5.2)) else _)).bind _) = _
          rw [kb, Option.bind_some, if_pos (zb_eq0.mpr (fun q => vok q.1)), Option.bind_some]
        have tw2 : tW J (m' + 1) y I' = some (nI (i + 1), zu I' 147 13 (nI (i + 1))) := by
          unfold tW
          rw [tw _ (show _ = some (.inl (nI (i + 1), zu I' 147 13 (nI (i + 1)))) by rw [w2, kin, Option.bind_some, if_pos (zb_eq0.mpr (fun q => vok (vr.mp q)))]; simp only [z13])]
          rfl
        exact wEnd_f (e := i + 1) (by omega) (fun _ _ _ => rfl) zRr.rf.p (st.trans (c8_no (n := m + 2) hL x hl1 ac1)) tw2
      by_cases vh : zbt (nI (2 * c)) v
      · have ac1 : f_X8_accept J 37 (nI 3) (nI (t (i + 1))) I = some (-9, I) := by
          rw [a8_3]
          unfold f_X8_acceptCrossed
          rw [l_ix0 J I lt1, Option.bind_some, w1, if_neg hn0]
          show (((f_X11_bit J ((14 : Int32) &&& (I 37 1 ^^^ ((-1) : Int32))) (nI v) I).bind fun q5 => (if q5.1 = 0 then some (((-9), q5.2)) else _)).bind _) = _
          rw [kb, Option.bind_some, if_pos (zb_eq0.mpr (fun q => q.2 (by rw [o2, o4]; exact vh))), Option.bind_some]
        have tw2 : tW J (m' + 1) y I' = some (nI (i + 1), zu I' 147 13 (nI (i + 1))) := by
          unfold tW
          rw [tw _ (show _ = some (.inl (nI (i + 1), zu I' 147 13 (nI (i + 1)))) by
            rw [w2, kin, Option.bind_some, if_neg (fun z => zb_eq0.mp z (vr.mpr vok))]
            simp only [z27, z13, bt]
            rw [if_pos (zb_eq1.mpr vh)])]
          rfl
        exact wEnd_f (e := i + 1) (by omega) (fun _ _ _ => rfl) zRr.rf.p (st.trans (c8_no (n := m + 2) hL x hl1 ac1)) tw2
      · obtain ⟨dd, hd, ed⟩ := x2c c o3 v hv vok.1 vok.2
        have ac1 : f_X8_accept J 37 (nI 3) (nI (t (i + 1))) I = some (nI 0, zu I 37 1 (nI (2 * dd))) := by
          rw [a8_3]
          unfold f_X8_acceptCrossed
          rw [l_ix0 J I lt1, Option.bind_some, w1, if_neg hn0]
          show (((f_X11_bit J ((14 : Int32) &&& (I 37 1 ^^^ ((-1) : Int32))) (nI v) I).bind fun q5 => (if q5.1 = 0 then some (((-9), q5.2)) else some ((0, zu q5.2 37 1 ((q5.2 37 1) ||| ((1 : Int32) <<< (nI v &&& 31))))))).bind _) = _
          rw [kb, Option.bind_some, if_neg (fun z => zb_eq0.mp z ⟨vok, by rw [o2, o4]; exact vh⟩)]
          show ((some ((0 : Int32), zu I 37 1 ((I 37 1) ||| ((1 : Int32) <<< (nI v &&& 31))))).bind _) = _
          rw [o2, o4, ed, Option.bind_some]
          rfl
        have t2 := tw _ (show _ = f_X12_readWords_31 J m' (nI v) (zu (zu (zu I' 147 13 (nI (i + 1))) 147 27 (nI (2 * dd))) 147 13 (nI (i + 1 + 1))) by
          rw [w2, kin, Option.bind_some, if_neg (fun z => zb_eq0.mp z (vr.mpr vok))]
          simp only [z27, bt]
          rw [if_neg (fun z => vh (zb_eq1.mp z)), ed, zu_offk (show 13 ≠ 27 by decide), z13, q_a1])
        have e2 : tW J (m' + 1) y I' = tW J m' (nI v) (zu (zu (zu I' 147 13 (nI (i + 1))) 147 27 (nI (2 * dd))) 147 13 (nI (i + 1 + 1))) := by
          unfold tW
          rw [t2]
        rw [e2, st, c8_go (n := m + 2) hL x hl1 (by decide) ac1]
        refine wEnd_tr (J1 := zu I 37 1 (nI (2 * dd))) (fun q q1 _ => zu_row q1) zRr.rf.p.o.p (ih (i + 1 + 1) (m + 2) m' _ _ _ (by omega) (by omega) (by omega) (by omega) (xC_8 (Or.inl rfl) x) (zRr.rf.p.o.p.x yt) (by rw [zu_at, if_pos rfl]) ⟨fun g hg => ?_, ?_, dd, hd, ?_⟩)
        · rw [zu_row (show 38 ≠ 37 by decide), zu_row (show 165 ≠ 147 by decide), zu_row (show 165 ≠ 147 by decide), zu_row (show 165 ≠ 147 by decide)]
          exact o1 g hg
        · rw [zu_at, if_pos rfl, zu_offk (by decide), zu_at, if_pos rfl]
        · rw [zu_offk (by decide), zu_at, if_pos rfl]
    -- a gap, = and a value
    have n88 : ¬ nI (t i) = 88 := fun e => cX ((nI_is lt (show 88 < 256 by decide)).mp e)
    have kf := l_figure J I (t := t i) (lo := 0) (hi := 5) lt (by decide) (by decide)
    have kt := t_figure J (lo := 0) (hi := 5) hL yt ht hp (by omega) (by decide) (by decide)
    by_cases f1 : fg (t i) 0 5
    case neg =>
      have kf' : f_X11_figure J (nI (t i)) 0 5 I = _ := kf.2 f1
      have kt' : f_X12_figure J 0 5 I' = _ := kt.2 (fun q => f1 q.2)
      have ac : f_X8_accept J 37 (nI 0) (nI (t i)) I = some (-9, I) := by
        rw [a8_0]
        unfold f_X8_acceptItem
        rw [if_neg n88, kf', Option.bind_some, if_pos rfl, Option.bind_some]
      have tw : tW J (m' + 1) y I' = some (nI i, I') := by
        unfold tW f_X12_readWords_31
        rw [yt.1, hp, if_neg (nI_ge hl (by omega)), if_pos z0, c0, yt.2 i hl, if_neg n88, kt', Option.bind_some, if_pos rfl]
        show some (I' 147 13, I') = _
        rw [hp]
      exact wEnd_f (e := i) (by omega) (fun _ _ _ => rfl) zRr.rf (c8_no hL x hl ac) tw
    have kf' : f_X11_figure J (nI (t i)) 0 5 I = _ := kf.1 f1
    have kt' : f_X12_figure J 0 5 I' = _ := kt.1 ⟨hl, f1⟩
    obtain ⟨g, eg⟩ : ∃ g, t i - 48 = g := ⟨_, rfl⟩
    rw [eg] at kf' kt'
    have hg : g < 6 := by have := f1.2; omega
    have z2 : zin (nI (g)) 6 = true := zin_nI (by omega) (by decide)
    have c2 : Int32.toNatClampNeg (nI (g)) = g := nI_clamp (by omega)
    have tw : ∀ R, (if I' 165 g ≤ 0 then ((f_X12_sign J 61 (zu I' 147 13 (nI (i + 1)))).bind fun q12 => (if q12.1 = 0 then some (.inl ((q12.2 147 13, q12.2))) else ((f_X12_figure J 1 5 q12.2).bind fun q15 => (if q15.1 = (-9) then some (.inl ((q15.2 147 13, q15.2))) else f_X12_readWords_31 J m' (nI g) (zu q15.2 165 g q15.1))))) else some (.inl (nI i, zu I' 147 13 (nI (i + 1))))) = R → f_X12_readWords_31 J (m' + 1) y I' = R := fun R hR => by
      conv => lhs; unfold f_X12_readWords_31
      rw [yt.1, hp, if_neg (nI_ge hl (by omega)), if_pos z0, c0, yt.2 i hl, if_neg n88, kt', Option.bind_some, if_neg (show ¬ (nI g, zu I' 147 13 (nI (i + 1))).1 = -9 from m9_ne (by omega))]
      simp only [z2, c2, r165, z13, nI_pred, ↓reduceIte]
      exact hR
    obtain ⟨og1, og2⟩ := o1 g hg
    by_cases cv : I' 165 g = 0
    case neg =>
      have ac : f_X8_accept J 37 (nI 0) (nI (t i)) I = some (-9, I) := by
        rw [a8_0]
        unfold f_X8_acceptItem
        rw [if_neg n88, kf', Option.bind_some, if_neg (show ¬ (nI g, I).1 = -9 from m9_ne (by omega)), if_pos z2]
        show ((if I (zR 37 0) (Int32.toNatClampNeg (nI g)) = 0 then _ else _ : Option (Int32 × zM)).bind _) = _
        rw [r0, c2, og1, if_neg cv, Option.bind_some]
      have tw2 : tW J (m' + 1) y I' = some (nI i, zu I' 147 13 (nI (i + 1))) := by
        unfold tW
        rw [tw _ (if_neg (fun z => cv ((rg_le0 og2).mp z)))]
        rfl
      exact wEnd_f (e := i) (by omega) (fun _ _ _ => rfl) zRr.rf.p (c8_no hL x hl ac) tw2
    have ac : f_X8_accept J 37 (nI 0) (nI (t i)) I = some (nI 1, zu I 37 2 (nI g)) := by
      rw [a8_0]
      unfold f_X8_acceptItem
      rw [if_neg n88, kf', Option.bind_some, if_neg (show ¬ (nI g, I).1 = -9 from m9_ne (by omega)), if_pos z2]
      show ((if I (zR 37 0) (Int32.toNatClampNeg (nI g)) = 0 then _ else _ : Option (Int32 × zM)).bind _) = _
      rw [r0, c2, og1, if_pos cv, Option.bind_some]
      rfl
    have x1 : xC (zu I 37 2 (nI g)) L t := xC_8 (Or.inl rfl) x
    have st := c8_go (J := J) (n := m + 3) hL x hl (by decide) ac
    have le0 : I' 165 g ≤ 0 := by rw [cv]; decide
    have y1 : xT (zu I' 147 13 (nI (i + 1))) L t := zRr.rf.p.x yt
    have ks := t_sign J (c := 61) hL y1 ht (z13 (nI (i + 1))) (show i + 1 ≤ L by omega) (by decide)
    by_cases s1 : i + 1 < L ∧ t (i + 1) = 61
    case neg =>
      have ks' : f_X12_sign J 61 (zu I' 147 13 (nI (i + 1))) = _ := ks.2 s1
      have tw2 : tW J (m' + 1) y I' = some (nI (i + 1), zu (zu I' 147 13 (nI (i + 1))) 147 13 (nI (i + 1))) := by
        unfold tW
        rw [tw _ (show _ = some (.inl (nI (i + 1), zu (zu I' 147 13 (nI (i + 1))) 147 13 (nI (i + 1)))) by
          rw [if_pos le0, ks', Option.bind_some, if_pos rfl]
          show some (Sum.inl ((zu (zu I' 147 13 (nI (i + 1))) 147 13 (nI (i + 1))) 147 13, _)) = _
          rw [zu_at, if_pos rfl])]
        rfl
      by_cases c : i + 1 < L
      · exact wEnd_f (e := i + 1) (by omega) (fun q q1 _ => zu_row q1) zRr.rf.p.p (st.trans (c8_no (n := m + 2) hL x1 c ((a8_1 J _ (ht _ c)).2 (fun q => s1 ⟨c, q⟩)))) tw2
      · have e : i + 1 = L := by omega
        rw [e] at st tw2
        exact wEnd_f (e := L) (by omega) (fun q q1 _ => zu_row q1) zRr.rf.p.p (st.trans (c8_half (n := m + 2) hL x1 (by decide) (by decide))) tw2
    have ks' : f_X12_sign J 61 (zu I' 147 13 (nI (i + 1))) = _ := ks.1 s1
    have st2 := st.trans (c8_go (n := m + 2) hL x1 s1.1 (by decide) ((a8_1 J _ (ht _ s1.1)).1 s1.2))
    have y2 : xT (zu (zu I' 147 13 (nI (i + 1))) 147 13 (nI (i + 1 + 1))) L t := zRr.rf.p.x y1
    have hp2 : (zu (zu I' 147 13 (nI (i + 1))) 147 13 (nI (i + 1 + 1))) 147 13 = nI (i + 1 + 1) := by rw [zu_at, if_pos rfl]
    have kv := t_figure J (lo := 1) (hi := 5) hL y2 ht hp2 (show i + 1 + 1 ≤ L by omega) (by decide) (by decide)
    have hv : (zu I 37 2 (nI g)) 37 2 = nI g := by rw [zu_at, if_pos rfl]
    by_cases v1 : i + 1 + 1 < L ∧ fg (t (i + 1 + 1)) 1 5
    case neg =>
      have kv' : f_X12_figure J 1 5 (zu (zu I' 147 13 (nI (i + 1))) 147 13 (nI (i + 1 + 1))) = _ := kv.2 v1
      have tw2 : tW J (m' + 1) y I' = some (nI (i + 1 + 1), zu (zu I' 147 13 (nI (i + 1))) 147 13 (nI (i + 1 + 1))) := by
        unfold tW
        rw [tw _ (show _ = some (.inl (nI (i + 1 + 1), zu (zu I' 147 13 (nI (i + 1))) 147 13 (nI (i + 1 + 1)))) by
          rw [if_pos le0, ks', Option.bind_some, if_neg i10, kv', Option.bind_some, if_pos rfl]
          show some (Sum.inl ((zu (zu I' 147 13 (nI (i + 1))) 147 13 (nI (i + 1 + 1))) 147 13, _)) = _
          rw [hp2])]
        rfl
      by_cases c : i + 1 + 1 < L
      · exact wEnd_f (e := i + 1 + 1) (by omega) (fun q q1 _ => zu_row q1) zRr.rf.p.p (st2.trans (c8_no (n := m + 1) hL x1 c ((a8_2 J _ (ht _ c) hg hv).2 (fun q => v1 ⟨c, q⟩)))) tw2
      · have e : i + 1 + 1 = L := by omega
        rw [e] at st2 tw2
        exact wEnd_f (e := L) (by omega) (fun q q1 _ => zu_row q1) zRr.rf.p.p (st2.trans (c8_half (n := m + 1) hL x1 (by decide) (by decide))) tw2
    have kv' : f_X12_figure J 1 5 (zu (zu I' 147 13 (nI (i + 1))) 147 13 (nI (i + 1 + 1))) = _ := kv.1 v1
    have st3 := st2.trans (c8_go (n := m + 1) hL x1 v1.1 (by decide) ((a8_2 J _ (ht _ v1.1) hg hv).1 v1.2))
    have lt3 := ht _ v1.1
    have t2 := tw _ (show _ = f_X12_readWords_31 J m' (nI g) (zu (zu (zu (zu I' 147 13 (nI (i + 1))) 147 13 (nI (i + 1 + 1))) 147 13 (nI (i + 1 + 1 + 1))) 165 g (nI (t (i + 1 + 1) - 48))) by
      rw [if_pos le0, ks', Option.bind_some, if_neg i10, kv', Option.bind_some, if_neg (show ¬ (nI (t (i + 1 + 1) - 48), zu (zu (zu I' 147 13 (nI (i + 1))) 147 13 (nI (i + 1 + 1))) 147 13 (nI (i + 1 + 1 + 1))).1 = -9 from m9_ne (by omega))])
    have e2 : tW J (m' + 1) y I' = tW J m' (nI g) (zu (zu (zu (zu I' 147 13 (nI (i + 1))) 147 13 (nI (i + 1 + 1))) 147 13 (nI (i + 1 + 1 + 1))) 165 g (nI (t (i + 1 + 1) - 48))) := by
      unfold tW
      rw [t2]
    rw [e2, st3]
    refine wEnd_tr (J1 := zu (zu I 37 2 (nI g)) 38 g (nI (t (i + 1 + 1) - 48))) (fun q q1 q2 => (zu_row q2).trans (zu_row q1)) zRr.rf.p.p.p.w (ih (i + 1 + 1 + 1) (m + 1) m' _ _ _ (by omega) (by omega) (by omega) (by omega) (xC_8 (Or.inr rfl) x1) (zRr.rf.p.p.p.w.x yt) ?_ ⟨fun h hh => ?_, ?_, c, o3, ?_⟩)
    · rw [zu_row (by decide), zu_at, if_pos rfl]
    · rw [zu_at, zu_at, zu_row (show 38 ≠ 37 by decide), zu_row (show 165 ≠ 147 by decide), zu_row (show 165 ≠ 147 by decide), zu_row (show 165 ≠ 147 by decide)]
      by_cases e : h = g
      · rw [if_pos e, if_pos e]
        have := v1.2.2
        exact ⟨rfl, zrg_of (Nat.zero_le _) (by omega) (by decide)⟩
      · rw [if_neg e, if_neg e]
        exact o1 h hh
    · rw [zu_row (show 37 ≠ 38 by decide), zu_offk (by decide), zu_row (show 147 ≠ 165 by decide), zu_offk (by decide), zu_offk (by decide), zu_offk (by decide)]
      exact o2
    · rw [zu_row (show 147 ≠ 165 by decide), zu_offk (by decide), zu_offk (by decide), zu_offk (by decide)]
      exact o4
theorem l_cl8 (J : zJ) {I0 : zM} : ∀ j k fuel I, k + j = 6 → j < fuel → (∀ q, q ≠ 38 → I q = I0 q) → (∀ g, g < k → I 38 g = 0) → ∃ y I', f_X8_clear_2 J 37 fuel (nI k) I = some (.inr (y, I')) ∧ (∀ q, q ≠ 38 → I' q = I0 q) ∧ ∀ g, g < 6 → I' 38 g = 0 := by
  have r0 : zR 37 0 = 38 := by decide +kernel
  intro j
  induction j with
  | zero =>
    intro k fuel I hk hf h1 h2
    obtain ⟨n, rfl⟩ : ∃ n, fuel = n + 1 := ⟨fuel - 1, by omega⟩
    have e : k = 6 := by omega
    subst e
    refine ⟨nI 6, I, ?_, h1, h2⟩
    unfold f_X8_clear_2
    rw [if_pos (show (6 : Int32) ≤ nI 6 by decide)]
  | succ j ih =>
    intro k fuel I hk hf h1 h2
    obtain ⟨n, rfl⟩ : ∃ n, fuel = n + 1 := ⟨fuel - 1, by omega⟩
    have h0 : ¬ (6 : Int32) ≤ nI k := nI_ge (b := 6) (by omega) (by decide)
    have z0 : zin (nI (k)) 6 = true := zin_nI (by omega) (by decide)
    have c0 : Int32.toNatClampNeg (nI (k)) = k := nI_clamp (by omega)
    obtain ⟨y, I', e1, e2⟩ := ih (k + 1) n (zu I 38 k 0) (by omega) (by omega) (fun q hq => (zu_row hq).trans (h1 q hq)) (fun g hg => by
      rw [zu_at]
      by_cases e : g = k
      · rw [if_pos e]
      · rw [if_neg e]
        exact h2 g (by omega))
    refine ⟨y, I', ?_, e2⟩
    unfold f_X8_clear_2
    rw [if_neg h0, if_pos z0, c0, r0, q_a1]
    exact e1
theorem t_w7 (J : zJ) {I0 : zM} : ∀ j k fuel I, k + j = 6 → j < fuel → (∀ q, q ≠ 165 → I q = I0 q) → (∀ g, g < k → I 165 g = 0) → ∃ y I', f_X12_readWords_7 J fuel (nI k) I = some (.inr (y, I')) ∧ (∀ q, q ≠ 165 → I' q = I0 q) ∧ ∀ g, g < 6 → I' 165 g = 0 := by
  intro j
  induction j with
  | zero =>
    intro k fuel I hk hf h1 h2
    obtain ⟨n, rfl⟩ : ∃ n, fuel = n + 1 := ⟨fuel - 1, by omega⟩
    have e : k = 6 := by omega
    subst e
    refine ⟨nI 6, I, ?_, h1, h2⟩
    unfold f_X12_readWords_7
    rw [if_pos (show (6 : Int32) ≤ nI 6 by decide)]
  | succ j ih =>
    intro k fuel I hk hf h1 h2
    obtain ⟨n, rfl⟩ : ∃ n, fuel = n + 1 := ⟨fuel - 1, by omega⟩
    have h0 : ¬ (6 : Int32) ≤ nI k := nI_ge (b := 6) (by omega) (by decide)
    have z0 : zin (nI (k)) 6 = true := zin_nI (by omega) (by decide)
    have c0 : Int32.toNatClampNeg (nI (k)) = k := nI_clamp (by omega)
    obtain ⟨y, I', e1, e2⟩ := ih (k + 1) n (zu I 165 k 0) (by omega) (by omega) (fun q hq => (zu_row hq).trans (h1 q hq)) (fun g hg => by
      rw [zu_at]
      by_cases e : g = k
      · rw [if_pos e]
      · rw [if_neg e]
        exact h2 g (by omega))
    refine ⟨y, I', ?_, e2⟩
    unfold f_X12_readWords_7
    rw [if_neg h0, if_pos z0, c0, q_a1]
    exact e1
theorem rd_words {J : zJ} {L : Nat} {t : Nat → Nat} (hL : L ≤ 24) (ht : ∀ i, i < L → t i < 256) {I I' : zM} (x : xC I L t) (y : xT I' L t) : wEnd I I' (f_X10_readFrom_X8 J 37 I) (f_X12_readWords J I') := by
  obtain ⟨y1, I1, a1, a2, a3⟩ := l_cl8 J 6 0 zF I rfl (by unfold zF; omega) (fun _ _ => rfl) (fun g h => absurd h (by omega))
  obtain ⟨y2, I2, b1, b2, b3⟩ := t_w7 J 6 0 zF (zu I' 147 27 0) rfl (by unfold zF; omega) (fun _ _ => rfl) (fun g h => absurd h (by omega))
  have a1' : f_X8_clear_2 J 37 zF 0 I = _ := a1
  have b1' : f_X12_readWords_7 J zF 0 (zu I' 147 27 0) = _ := b1
  have ec : f_X10_readFrom_X8 J 37 I = cR8 J zF (nI 0) (nI 0) (zu I1 37 1 0) := by
    unfold f_X10_readFrom_X8 f_X8_clear
    rw [a1', Option.bind_some]
    rfl
  have et : f_X12_readWords J I' = tW J zF y2 (zu I2 147 13 0) := by
    unfold f_X12_readWords
    rw [b1', Option.bind_some]
    rfl
  have R : zRr I' (zu I2 147 13 0) := by
    refine zRr.p ⟨fun p p1 p2 p3 => (b2 p p3).trans (zu_row p1), fun k k1 k2 => ?_⟩
    rw [b2 147 (by decide)]
    exact zu_offk k2 I' 147 0
  have xc : xC (zu I1 37 1 0) L t := by
    refine xC_row (by decide) ?_
    unfold xC at x ⊢
    rw [a2 16 (by decide), a2 17 (by decide)]
    exact x
  rw [ec, et]
  refine wEnd_tr (J1 := zu I1 37 1 0) (J2 := zu I2 147 13 0) (fun q q1 q2 => (zu_row q1).trans (a2 q q2)) R (rd_say J hL ht L 0 zF zF _ _ _ (by omega) (by omega) (by unfold zF; omega) (by unfold zF; omega) xc (R.x y) (by rw [zu_at, if_pos rfl]; rfl) ⟨fun g hg => ?_, ?_, 0, by decide, ?_⟩)
  · rw [zu_row (show 38 ≠ 37 by decide), zu_row (show 165 ≠ 147 by decide), a3 g hg, b3 g hg]
    exact ⟨rfl, by decide, by decide⟩
  · rw [zu_at, if_pos rfl, zu_offk (by decide), b2 147 (by decide), zu_at, if_pos rfl]
  · rw [zu_offk (by decide), b2 147 (by decide), zu_at, if_pos rfl]
    rfl
