/-! ===== the text of a rule ===== -/
theorem m9_ne {k : Nat} (h : k < 1000000) : ¬ nI k = -9 := fun e => by
  have h1 := congrArg Int32.toInt e
  rw [nI_toInt (by omega)] at h1
  have h9 : (-9 : Int32).toInt = -9 := by decide +kernel
  omega
theorem ac_1 (J : zJ) (p : Nat) (I : zM) {t : Nat} (ht : t < 256) : (fg t 0 5 → f_X6_accept J p (nI 1) (nI t) I = some (nI 2, zu I p 1 (nI (t - 48)))) ∧ (¬ fg t 0 5 → f_X6_accept J p (nI 1) (nI t) I = some (-9, zu I p 1 (-9))) := by
  have k := l_figure J I (t := t) (lo := 0) (hi := 5) ht (by decide) (by decide)
  constructor
  · intro h
    have k' : f_X11_figure J (nI t) 0 5 I = _ := k.1 h
    unfold f_X6_accept
    rw [if_neg (show ¬ nI 1 = 0 by decide), if_pos (show nI 1 = 1 by decide), k', Option.bind_some]
    show (if (zu I p 1 (nI (t - 48))) p 1 = -9 then _ else _) = _
    rw [zu_at, if_pos rfl, if_neg (m9_ne (by omega))]
    rfl
  · intro h
    have k' : f_X11_figure J (nI t) 0 5 I = _ := k.2 h
    unfold f_X6_accept
    rw [if_neg (show ¬ nI 1 = 0 by decide), if_pos (show nI 1 = 1 by decide), k', Option.bind_some]
    show (if (zu I p 1 (-9)) p 1 = -9 then _ else _) = _
    rw [zu_at, if_pos rfl, if_pos rfl]
theorem ac_3 (J : zJ) (p : Nat) (I : zM) {t : Nat} (ht : t < 256) : (fg t 1 5 → f_X6_accept J p (nI 3) (nI t) I = some (nI 4, zu I p 2 (nI (t - 48)))) ∧ (¬ fg t 1 5 → f_X6_accept J p (nI 3) (nI t) I = some (-9, zu I p 2 (-9))) := by
  have k := l_figure J I (t := t) (lo := 1) (hi := 5) ht (by decide) (by decide)
  constructor
  · intro h
    have k' : f_X11_figure J (nI t) 1 5 I = _ := k.1 h
    unfold f_X6_accept
    rw [if_neg (show ¬ nI 3 = 0 by decide), if_neg (show ¬ nI 3 = 1 by decide), if_neg (show ¬ nI 3 = 2 by decide), if_pos (show nI 3 = 3 by decide), k', Option.bind_some]
    show (if (zu I p 2 (nI (t - 48))) p 2 = -9 then _ else _) = _
    rw [zu_at, if_pos rfl, if_neg (m9_ne (by omega))]
    rfl
  · intro h
    have k' : f_X11_figure J (nI t) 1 5 I = _ := k.2 h
    unfold f_X6_accept
    rw [if_neg (show ¬ nI 3 = 0 by decide), if_neg (show ¬ nI 3 = 1 by decide), if_neg (show ¬ nI 3 = 2 by decide), if_pos (show nI 3 = 3 by decide), k', Option.bind_some]
    show (if (zu I p 2 (-9)) p 2 = -9 then _ else _) = _
    rw [zu_at, if_pos rfl, if_pos rfl]
theorem ac_5 (J : zJ) (p : Nat) (I : zM) {t : Nat} (ht : t < 256) : (fg t 0 5 → f_X6_accept J p (nI 5) (nI t) I = some (nI 6, zu I p 3 (nI (t - 48)))) ∧ (¬ fg t 0 5 → f_X6_accept J p (nI 5) (nI t) I = some (-9, zu I p 3 (-9))) := by
  have k := l_figure J I (t := t) (lo := 0) (hi := 5) ht (by decide) (by decide)
  constructor
  · intro h
    have k' : f_X11_figure J (nI t) 0 5 I = _ := k.1 h
    unfold f_X6_accept
    rw [if_neg (show ¬ nI 5 = 0 by decide), if_neg (show ¬ nI 5 = 1 by decide), if_neg (show ¬ nI 5 = 2 by decide), if_neg (show ¬ nI 5 = 3 by decide), if_neg (show ¬ nI 5 = 4 by decide), if_pos (show nI 5 = 5 by decide), k', Option.bind_some]
    show (if (zu I p 3 (nI (t - 48))) p 3 = -9 then _ else _) = _
    rw [zu_at, if_pos rfl, if_neg (m9_ne (by omega))]
    rfl
  · intro h
    have k' : f_X11_figure J (nI t) 0 5 I = _ := k.2 h
    unfold f_X6_accept
    rw [if_neg (show ¬ nI 5 = 0 by decide), if_neg (show ¬ nI 5 = 1 by decide), if_neg (show ¬ nI 5 = 2 by decide), if_neg (show ¬ nI 5 = 3 by decide), if_neg (show ¬ nI 5 = 4 by decide), if_pos (show nI 5 = 5 by decide), k', Option.bind_some]
    show (if (zu I p 3 (-9)) p 3 = -9 then _ else _) = _
    rw [zu_at, if_pos rfl, if_pos rfl]
theorem ac_7 (J : zJ) (p : Nat) (I : zM) {t : Nat} (ht : t < 256) : (fg t 0 5 → f_X6_accept J p (nI 7) (nI t) I = some (nI 8, zu I p 4 (nI (t - 48)))) ∧ (¬ fg t 0 5 → f_X6_accept J p (nI 7) (nI t) I = some (-9, zu I p 4 (-9))) := by
  have k := l_figure J I (t := t) (lo := 0) (hi := 5) ht (by decide) (by decide)
  constructor
  · intro h
    have k' : f_X11_figure J (nI t) 0 5 I = _ := k.1 h
    unfold f_X6_accept
    rw [if_neg (show ¬ nI 7 = 0 by decide), if_neg (show ¬ nI 7 = 1 by decide), if_neg (show ¬ nI 7 = 2 by decide), if_neg (show ¬ nI 7 = 3 by decide), if_neg (show ¬ nI 7 = 4 by decide), if_neg (show ¬ nI 7 = 5 by decide), if_neg (show ¬ nI 7 = 6 by decide), if_pos (show nI 7 = 7 by decide), k', Option.bind_some]
    show (if (zu I p 4 (nI (t - 48))) p 4 = -9 then _ else _) = _
    rw [zu_at, if_pos rfl, if_neg (m9_ne (by omega))]
    rfl
  · intro h
    have k' : f_X11_figure J (nI t) 0 5 I = _ := k.2 h
    unfold f_X6_accept
    rw [if_neg (show ¬ nI 7 = 0 by decide), if_neg (show ¬ nI 7 = 1 by decide), if_neg (show ¬ nI 7 = 2 by decide), if_neg (show ¬ nI 7 = 3 by decide), if_neg (show ¬ nI 7 = 4 by decide), if_neg (show ¬ nI 7 = 5 by decide), if_neg (show ¬ nI 7 = 6 by decide), if_pos (show nI 7 = 7 by decide), k', Option.bind_some]
    show (if (zu I p 4 (-9)) p 4 = -9 then _ else _) = _
    rw [zu_at, if_pos rfl, if_pos rfl]
theorem ac_9 (J : zJ) (p : Nat) (I : zM) {t : Nat} (ht : t < 256) : (fg t 0 2 → f_X6_accept J p (nI 9) (nI t) I = some (nI 10, zu I p 5 (nI (t - 48)))) ∧ (¬ fg t 0 2 → f_X6_accept J p (nI 9) (nI t) I = some (-9, zu I p 5 (-9))) := by
  have k := l_figure J I (t := t) (lo := 0) (hi := 2) ht (by decide) (by decide)
  constructor
  · intro h
    have k' : f_X11_figure J (nI t) 0 2 I = _ := k.1 h
    unfold f_X6_accept
    rw [if_neg (show ¬ nI 9 = 0 by decide), if_neg (show ¬ nI 9 = 1 by decide), if_neg (show ¬ nI 9 = 2 by decide), if_neg (show ¬ nI 9 = 3 by decide), if_neg (show ¬ nI 9 = 4 by decide), if_neg (show ¬ nI 9 = 5 by decide), if_neg (show ¬ nI 9 = 6 by decide), if_neg (show ¬ nI 9 = 7 by decide), if_neg (show ¬ nI 9 = 8 by decide), if_pos (show nI 9 = 9 by decide), k', Option.bind_some]
    show (if (zu I p 5 (nI (t - 48))) p 5 = -9 then _ else _) = _
    rw [zu_at, if_pos rfl, if_neg (m9_ne (by omega))]
    rfl
  · intro h
    have k' : f_X11_figure J (nI t) 0 2 I = _ := k.2 h
    unfold f_X6_accept
    rw [if_neg (show ¬ nI 9 = 0 by decide), if_neg (show ¬ nI 9 = 1 by decide), if_neg (show ¬ nI 9 = 2 by decide), if_neg (show ¬ nI 9 = 3 by decide), if_neg (show ¬ nI 9 = 4 by decide), if_neg (show ¬ nI 9 = 5 by decide), if_neg (show ¬ nI 9 = 6 by decide), if_neg (show ¬ nI 9 = 7 by decide), if_neg (show ¬ nI 9 = 8 by decide), if_pos (show nI 9 = 9 by decide), k', Option.bind_some]
    show (if (zu I p 5 (-9)) p 5 = -9 then _ else _) = _
    rw [zu_at, if_pos rfl, if_pos rfl]
theorem ac_2 (J : zJ) (p : Nat) (I : zM) {t : Nat} (ht : t < 256) : (t = 61 → f_X6_accept J p (nI 2) (nI t) I = some (nI 3, I)) ∧ (¬ t = 61 → f_X6_accept J p (nI 2) (nI t) I = some (-9, I)) := by
  constructor
  · intro h
    unfold f_X6_accept
    rw [if_neg (show ¬ nI 2 = 0 by decide), if_neg (show ¬ nI 2 = 1 by decide), if_pos (show nI 2 = 2 by decide), if_pos (show nI t = 61 from congrArg nI h)]
    rfl
  · intro h
    unfold f_X6_accept
    rw [if_neg (show ¬ nI 2 = 0 by decide), if_neg (show ¬ nI 2 = 1 by decide), if_pos (show nI 2 = 2 by decide), if_neg (show ¬ nI t = 61 from fun e => h ((nI_is ht (show 61 < 256 by decide)).mp e))]
theorem ac_6 (J : zJ) (p : Nat) (I : zM) {t : Nat} (ht : t < 256) : (t = 61 → f_X6_accept J p (nI 6) (nI t) I = some (nI 7, I)) ∧ (¬ t = 61 → f_X6_accept J p (nI 6) (nI t) I = some (-9, I)) := by
  constructor
  · intro h
    unfold f_X6_accept
    rw [if_neg (show ¬ nI 6 = 0 by decide), if_neg (show ¬ nI 6 = 1 by decide), if_neg (show ¬ nI 6 = 2 by decide), if_neg (show ¬ nI 6 = 3 by decide), if_neg (show ¬ nI 6 = 4 by decide), if_neg (show ¬ nI 6 = 5 by decide), if_pos (show nI 6 = 6 by decide), if_pos (show nI t = 61 from congrArg nI h)]
    rfl
  · intro h
    unfold f_X6_accept
    rw [if_neg (show ¬ nI 6 = 0 by decide), if_neg (show ¬ nI 6 = 1 by decide), if_neg (show ¬ nI 6 = 2 by decide), if_neg (show ¬ nI 6 = 3 by decide), if_neg (show ¬ nI 6 = 4 by decide), if_neg (show ¬ nI 6 = 5 by decide), if_pos (show nI 6 = 6 by decide), if_neg (show ¬ nI t = 61 from fun e => h ((nI_is ht (show 61 < 256 by decide)).mp e))]
theorem ac_bi (J : zJ) (I : zM) {t : Nat} (ht : t < 256) : (t = 64 → f_X6_acceptBehindIf J (nI t) I = some (nI 9, I)) ∧ (¬ t = 64 → f_X6_acceptBehindIf J (nI t) I = some (-9, I)) := by
  constructor
  · intro h
    unfold f_X6_acceptBehindIf
    rw [if_pos (show nI t = 64 from congrArg nI h)]
    rfl
  · intro h
    unfold f_X6_acceptBehindIf
    rw [if_neg (show ¬ nI t = 64 from fun e => h ((nI_is ht (show 64 < 256 by decide)).mp e))]
theorem ac_8 (J : zJ) (p : Nat) (I : zM) (v : Int32) : f_X6_accept J p (nI 8) v I = (f_X6_acceptBehindIf J v I).bind fun q31 => some ((q31.1, q31.2)) := by
  unfold f_X6_accept
  rw [if_neg (show ¬ nI 8 = 0 by decide), if_neg (show ¬ nI 8 = 1 by decide), if_neg (show ¬ nI 8 = 2 by decide), if_neg (show ¬ nI 8 = 3 by decide), if_neg (show ¬ nI 8 = 4 by decide), if_neg (show ¬ nI 8 = 5 by decide), if_neg (show ¬ nI 8 = 6 by decide), if_neg (show ¬ nI 8 = 7 by decide), if_pos (show nI 8 = 8 by decide)]
theorem ac_4y (J : zJ) (p : Nat) (I : zM) : f_X6_accept J p (nI 4) (nI 63) I = some (nI 5, I) := by
  unfold f_X6_accept
  rw [if_neg (show ¬ nI 4 = 0 by decide), if_neg (show ¬ nI 4 = 1 by decide), if_neg (show ¬ nI 4 = 2 by decide), if_neg (show ¬ nI 4 = 3 by decide), if_pos (show nI 4 = 4 by decide), if_pos (show nI 63 = 63 by decide)]
  rfl
theorem ac_4n (J : zJ) (p : Nat) (I : zM) {t : Nat} (ht : t < 256) (h : ¬ t = 63) : f_X6_accept J p (nI 4) (nI t) I = f_X6_accept J p (nI 8) (nI t) I := by
  rw [ac_8]
  unfold f_X6_accept
  rw [if_neg (show ¬ nI 4 = 0 by decide), if_neg (show ¬ nI 4 = 1 by decide), if_neg (show ¬ nI 4 = 2 by decide), if_neg (show ¬ nI 4 = 3 by decide), if_pos (show nI 4 = 4 by decide), if_neg (show ¬ nI t = 63 from fun e => h ((nI_is ht (show 63 < 256 by decide)).mp e))]
theorem ac_10 (J : zJ) (p : Nat) (I : zM) (v : Int32) : f_X6_accept J p (nI 10) v I = some (-9, I) := by
  unfold f_X6_accept
  rw [if_neg (show ¬ nI 10 = 0 by decide), if_neg (show ¬ nI 10 = 1 by decide), if_neg (show ¬ nI 10 = 2 by decide), if_neg (show ¬ nI 10 = 3 by decide), if_neg (show ¬ nI 10 = 4 by decide), if_neg (show ¬ nI 10 = 5 by decide), if_neg (show ¬ nI 10 = 6 by decide), if_neg (show ¬ nI 10 = 7 by decide), if_neg (show ¬ nI 10 = 8 by decide), if_neg (show ¬ nI 10 = 9 by decide)]
/-- the class reads on from a state and a place -/
noncomputable def cR6 (J : zJ) (p fuel : Nat) (s i : Int32) (I : zM) : Option (Int32 × zM) := (f_X10_readFrom_X6_8 J p fuel s i I).bind fun q => Sum.elim (fun a => some a) (fun a5 => ((f_X6_isWhole J p a5.1 a5.2.2).bind fun q6 => (if q6.1 = 0 then some ((q6.2 16 1, q6.2)) else some (((-9), q6.2))))) q
theorem c6_end {J : zJ} {p n L s : Nat} {I : zM} {t : Nat → Nat} (hL : L ≤ 24) (x : xC I L t) : cR6 J p (n + 1) (nI s) (nI L) I = (f_X6_isWhole J p (nI s) I).bind fun q6 => (if q6.1 = 0 then some ((q6.2 16 1, q6.2)) else some (((-9), q6.2))) := by
  unfold cR6 f_X10_readFrom_X6_8
  rw [x.1, if_pos (nI_le (Nat.le_refl _) (by omega))]
  rfl
theorem c6_step {J : zJ} {p n L s i : Nat} {I : zM} {t : Nat → Nat} (hL : L ≤ 24) (x : xC I L t) (hi : i < L) : f_X10_readFrom_X6_8 J p (n + 1) (nI s) (nI i) I = (f_X6_accept J p (nI s) (nI (t i)) I).bind fun q6 => (if q6.1 = (-9) then some (.inl ((nI i, q6.2))) else f_X10_readFrom_X6_8 J p n q6.1 (nI (i + 1)) q6.2) := by
  have z0 : zin (nI (i)) 24 = true := zin_nI (by omega) (by decide)
  have c0 : Int32.toNatClampNeg (nI (i)) = i := nI_clamp (by omega)
  have h24 : ¬ (24 : Int32) ≤ nI i := nI_ge (b := 24) (by omega) (by decide)
  conv => lhs; unfold f_X10_readFrom_X6_8
  rw [x.1, if_neg (nI_ge hi (by omega)), if_neg h24, if_pos z0, c0, x.2 i hi, q_a1]
theorem c6_go {J : zJ} {p n L s s' i : Nat} {I I1 : zM} {t : Nat → Nat} (hL : L ≤ 24) (x : xC I L t) (hi : i < L) (hs : s' < 100) (h : f_X6_accept J p (nI s) (nI (t i)) I = some (nI s', I1)) : cR6 J p (n + 1) (nI s) (nI i) I = cR6 J p n (nI s') (nI (i + 1)) I1 := by
  unfold cR6
  rw [c6_step hL x hi, h, Option.bind_some, if_neg (show ¬ (nI s', I1).1 = -9 from m9_ne (by omega))]
theorem c6_no {J : zJ} {p n L s i : Nat} {I I1 : zM} {t : Nat → Nat} (hL : L ≤ 24) (x : xC I L t) (hi : i < L) (h : f_X6_accept J p (nI s) (nI (t i)) I = some (-9, I1)) : cR6 J p (n + 1) (nI s) (nI i) I = some (nI i, I1) := by
  unfold cR6
  rw [c6_step hL x hi, h, Option.bind_some, if_pos rfl]
  rfl
theorem c6_half {J : zJ} {p n L s : Nat} {I : zM} {t : Nat → Nat} (hL : L ≤ 24) (x : xC I L t) (h : f_X6_isWhole J p (nI s) I = some (0, I)) : cR6 J p (n + 1) (nI s) (nI L) I = some (nI L, I) := by
  rw [c6_end hL x, h, Option.bind_some, if_pos rfl]
  show some (I 16 1, I) = _
  rw [x.1]
theorem c6_whole {J : zJ} {p n L s : Nat} {I : zM} {t : Nat → Nat} (hL : L ≤ 24) (x : xC I L t) (h : f_X6_isWhole J p (nI s) I = some (1, I)) : cR6 J p (n + 1) (nI s) (nI L) I = some (-9, I) := by
  rw [c6_end hL x, h, Option.bind_some, if_neg i10]
theorem xC_row {I : zM} {L p k : Nat} {t : Nat → Nat} {v : Int32} (hp : 20 ≤ p) (x : xC I L t) : xC (zu I p k v) L t := by
  unfold xC at x ⊢
  rw [zu_row (show 16 ≠ p by omega), zu_row (show 17 ≠ p by omega)]
  exact x
theorem iw_0 (J : zJ) (p : Nat) (I : zM) : f_X6_isWhole J p (nI 0) I = some (0, I) := by
  unfold f_X6_isWhole
  rw [if_neg (show ¬ nI 0 = 4 by decide), if_neg (show ¬ nI 0 = 8 by decide), if_neg (show ¬ nI 0 = 10 by decide)]
theorem iw_1 (J : zJ) (p : Nat) (I : zM) : f_X6_isWhole J p (nI 1) I = some (0, I) := by
  unfold f_X6_isWhole
  rw [if_neg (show ¬ nI 1 = 4 by decide), if_neg (show ¬ nI 1 = 8 by decide), if_neg (show ¬ nI 1 = 10 by decide)]
theorem iw_2 (J : zJ) (p : Nat) (I : zM) : f_X6_isWhole J p (nI 2) I = some (0, I) := by
  unfold f_X6_isWhole
  rw [if_neg (show ¬ nI 2 = 4 by decide), if_neg (show ¬ nI 2 = 8 by decide), if_neg (show ¬ nI 2 = 10 by decide)]
theorem iw_3 (J : zJ) (p : Nat) (I : zM) : f_X6_isWhole J p (nI 3) I = some (0, I) := by
  unfold f_X6_isWhole
  rw [if_neg (show ¬ nI 3 = 4 by decide), if_neg (show ¬ nI 3 = 8 by decide), if_neg (show ¬ nI 3 = 10 by decide)]
theorem iw_4 (J : zJ) (p : Nat) (I : zM) : f_X6_isWhole J p (nI 4) I = some (1, I) := by
  unfold f_X6_isWhole
  rw [if_pos (show nI 4 = 4 by decide)]
theorem iw_5 (J : zJ) (p : Nat) (I : zM) : f_X6_isWhole J p (nI 5) I = some (0, I) := by
  unfold f_X6_isWhole
  rw [if_neg (show ¬ nI 5 = 4 by decide), if_neg (show ¬ nI 5 = 8 by decide), if_neg (show ¬ nI 5 = 10 by decide)]
theorem iw_6 (J : zJ) (p : Nat) (I : zM) : f_X6_isWhole J p (nI 6) I = some (0, I) := by
  unfold f_X6_isWhole
  rw [if_neg (show ¬ nI 6 = 4 by decide), if_neg (show ¬ nI 6 = 8 by decide), if_neg (show ¬ nI 6 = 10 by decide)]
theorem iw_7 (J : zJ) (p : Nat) (I : zM) : f_X6_isWhole J p (nI 7) I = some (0, I) := by
  unfold f_X6_isWhole
  rw [if_neg (show ¬ nI 7 = 4 by decide), if_neg (show ¬ nI 7 = 8 by decide), if_neg (show ¬ nI 7 = 10 by decide)]
theorem iw_8 (J : zJ) (p : Nat) (I : zM) : f_X6_isWhole J p (nI 8) I = some (1, I) := by
  unfold f_X6_isWhole
  rw [if_neg (show ¬ nI 8 = 4 by decide), if_pos (show nI 8 = 8 by decide)]
theorem iw_9 (J : zJ) (p : Nat) (I : zM) : f_X6_isWhole J p (nI 9) I = some (0, I) := by
  unfold f_X6_isWhole
  rw [if_neg (show ¬ nI 9 = 4 by decide), if_neg (show ¬ nI 9 = 8 by decide), if_neg (show ¬ nI 9 = 10 by decide)]
theorem iw_10 (J : zJ) (p : Nat) (I : zM) : f_X6_isWhole J p (nI 10) I = some (1, I) := by
  unfold f_X6_isWhole
  rw [if_neg (show ¬ nI 10 = 4 by decide), if_neg (show ¬ nI 10 = 8 by decide), if_pos (show nI 10 = 10 by decide)]
/-! what the twin does behind each place -/
noncomputable def tK10 (I : zM) : Option (Int32 × zM) := if I 147 13 = I 147 12 then some (((-9), I)) else some ((I 147 13, I))
noncomputable def tK9 (J : zJ) (I : zM) : Option (Int32 × zM) := (f_X12_figure J 0 2 I).bind fun q21 => (if (zu q21.2 156 5 q21.1) 156 5 = (-9) then some (((zu q21.2 156 5 q21.1) 147 13, zu q21.2 156 5 q21.1)) else tK10 (zu q21.2 156 5 q21.1))
noncomputable def tK8 (J : zJ) (I : zM) : Option (Int32 × zM) := (f_X12_sign J 64 I).bind fun q17 => (if q17.1 = 0 then tK10 q17.2 else tK9 J q17.2)
noncomputable def tK4 (J : zJ) (I : zM) : Option (Int32 × zM) := (f_X12_sign J 63 I).bind fun q14 => (if q14.1 = 0 then tK8 J q14.2 else ((f_X12_readPair J 3 0 q14.2).bind fun q25 => (if q25.1 = 0 then some ((q25.2 147 13, q25.2)) else tK8 J q25.2)))
noncomputable def tK1 (J : zJ) (v : Int32) (I : zM) : Option (Int32 × zM) := if (zu I 156 0 v) 156 0 = (-9) then some (((zu I 156 0 v) 147 13, zu I 156 0 v)) else ((f_X12_readPair J 1 1 (zu I 156 0 v)).bind fun q11 => (if q11.1 = 0 then some ((q11.2 147 13, q11.2)) else tK4 J q11.2))
theorem t_rr (J : zJ) (I : zM) : f_X12_readRule J I = (f_X12_sign J 76 (zu (zu (zu (zu I 147 13 0) 156 3 (-9)) 156 4 (-9)) 156 5 (-9))).bind fun q1 => (if q1.1 = 0 then ((f_X12_sign J 66 q1.2).bind fun q4 => (if q4.1 = 0 then ((f_X12_sign J 77 q4.2).bind fun q7 => (if q7.1 = 0 then tK1 J (-9) q7.2 else tK1 J 2 q7.2)) else tK1 J 1 q4.2)) else tK1 J 0 q1.2) := rfl
/-- both have read the same rule -/
def rOK (p : Nat) (I I' : zM) : Prop := (∀ f, f < 6 → I p f = I' 156 f) ∧ zrg (I' 156 1) 0 5 ∧ (I' 156 3 = -9 ∨ zrg (I' 156 3) 0 5)
/-- what comes out of both -/
def rEnd (p : Nat) (I I' : zM) (c t : Option (Int32 × zM)) : Prop := ∃ r I1 I2, c = some (r, I1) ∧ t = some (r, I2) ∧ (∀ q, q ≠ p → I1 q = I q) ∧ zRr I' I2 ∧ (r = -9 → rOK p I1 I2)
theorem rEnd_f {p e : Nat} {I I' I1 I2 : zM} (he : e < 1000) (h1 : ∀ q, q ≠ p → I1 q = I q) (h2 : zRr I' I2) {c t : Option (Int32 × zM)} (hc : c = some (nI e, I1)) (ht : t = some (nI e, I2)) : rEnd p I I' c t := ⟨nI e, I1, I2, hc, ht, h1, h2, fun h => absurd h (m9_ne (by omega))⟩
theorem rEnd_tr {p : Nat} {I I' J1 J2 : zM} {c t : Option (Int32 × zM)} (h1 : ∀ q, q ≠ p → J1 q = I q) (h2 : zRr I' J2) (h : rEnd p J1 J2 c t) : rEnd p I I' c t := by
  obtain ⟨r, I1, I2, a, b, d, e, f⟩ := h
  exact ⟨r, I1, I2, a, b, fun q hq => (d q hq).trans (h1 q hq), h2.tr e, f⟩
theorem rOK_p {p : Nat} {I I' : zM} {x : Int32} (h : rOK p I I') : rOK p I (zu I' 147 13 x) := by
  unfold rOK at h ⊢
  rw [zu_row (show 156 ≠ 147 by decide)]
  exact h
theorem S10 {J : zJ} {p L : Nat} {t : Nat → Nat} (hL : L ≤ 24) {i n : Nat} {I I' : zM} (x : xC I L t) (y : xT I' L t) (hp : I' 147 13 = nI i) (hi : i ≤ L) (ok : rOK p I I') : rEnd p I I' (cR6 J p (n + 1) (nI 10) (nI i) I) (tK10 I') := by
  unfold tK10
  rw [hp, y.1]
  by_cases a : i = L
  · subst a
    rw [if_pos rfl]
    exact ⟨-9, I, I', c6_whole hL x (iw_10 J p I), rfl, fun _ _ => rfl, zRr.rf, fun _ => ok⟩
  · rw [if_neg (fun e => a ((nI_eq (by omega) (by omega)).mp e))]
    exact rEnd_f (e := i) (by omega) (fun _ _ => rfl) zRr.rf (c6_no hL x (by omega) (ac_10 J p I _)) rfl
theorem S9 {J : zJ} {p L : Nat} {t : Nat → Nat} (hL : L ≤ 24) (ht : ∀ i, i < L → t i < 256) (h20 : 20 ≤ p) {i n : Nat} {I I' : zM} (x : xC I L t) (y : xT I' L t) (hp : I' 147 13 = nI i) (hi : i ≤ L) (ok : rOK p I I') : rEnd p I I' (cR6 J p (n + 2) (nI 9) (nI i) I) (tK9 J I') := by
  have k := t_figure J (lo := 0) (hi := 2) hL y ht hp hi (by decide) (by decide)
  by_cases a : i < L ∧ fg (t i) 0 2
  · have k1 : f_X12_figure J 0 2 I' = _ := k.1 a
    have b := (ac_9 J p I (ht i a.1)).1 a.2
    rw [c6_go hL x a.1 (by decide) b]
    refine rEnd_tr (J1 := zu I p 5 (nI (t i - 48))) (J2 := zu (zu I' 147 13 (nI (i + 1))) 156 5 (nI (t i - 48))) (fun q hq => zu_row hq) zRr.rf.p.r ?_
    unfold tK9
    rw [k1, Option.bind_some]
    show rEnd _ _ _ _ (if (zu (zu I' 147 13 (nI (i + 1))) 156 5 (nI (t i - 48))) 156 5 = -9 then _ else _)
    have lt := ht i a.1
    rw [zu_at, if_pos rfl, if_neg (m9_ne (by omega))]
    refine S10 hL (xC_row h20 x) ((zRr.rf.p.r).x y) (by rw [zu_row (by decide), zu_at, if_pos rfl]) (by omega) ?_
    obtain ⟨o1, o2, o3⟩ := ok
    refine ⟨fun f hf => ?_, ?_, ?_⟩
    · rw [zu_at, zu_at, zu_row (show 156 ≠ 147 by decide)]
      by_cases e : f = 5
      · rw [if_pos e, if_pos e]
      · rw [if_neg e, if_neg e]
        exact o1 f hf
    · rw [zu_offk (by decide), zu_row (by decide)]
      exact o2
    · rw [zu_offk (by decide), zu_row (by decide)]
      exact o3
  · have k1 : f_X12_figure J 0 2 I' = _ := k.2 a
    have tw : tK9 J I' = some (nI i, zu I' 156 5 (-9)) := by
      unfold tK9
      rw [k1, Option.bind_some]
      show (if (zu I' 156 5 (-9)) 156 5 = -9 then some ((zu I' 156 5 (-9)) 147 13, zu I' 156 5 (-9)) else _) = _
      rw [zu_at, if_pos rfl, if_pos rfl, zu_row (by decide), hp]
    by_cases c : i < L
    · exact rEnd_f (e := i) (by omega) (fun q hq => zu_row hq) zRr.rf.r (c6_no hL x c ((ac_9 J p I (ht i c)).2 (fun q => a ⟨c, q⟩))) tw
    · have e : i = L := by omega
      subst e
      exact rEnd_f (e := i) (by omega) (fun _ _ => rfl) zRr.rf.r (c6_half hL x (iw_9 J p I)) tw
theorem S8 {J : zJ} {p L : Nat} {t : Nat → Nat} (hL : L ≤ 24) (ht : ∀ i, i < L → t i < 256) (h20 : 20 ≤ p) {i n : Nat} {I I' : zM} (x : xC I L t) (y : xT I' L t) (hp : I' 147 13 = nI i) (hi : i ≤ L) (ok : rOK p I I') : rEnd p I I' (cR6 J p (n + 3) (nI 8) (nI i) I) (tK8 J I') := by
  have k := t_sign J (c := 64) hL y ht hp hi (by decide)
  unfold tK8
  by_cases a : i < L ∧ t i = 64
  · have k1 : f_X12_sign J 64 I' = _ := k.1 a
    rw [k1, Option.bind_some, if_neg (show ¬ ((1 : Int32), zu I' 147 13 (nI (i + 1))).1 = 0 from i10)]
    have b : f_X6_accept J p (nI 8) (nI (t i)) I = some (nI 9, I) := by
      rw [ac_8, (ac_bi J I (ht i a.1)).1 a.2, Option.bind_some]
    rw [c6_go hL x a.1 (by decide) b]
    exact rEnd_tr (fun _ _ => rfl) (zRr.rf.p (x := nI (i + 1))) (S9 hL ht h20 x (zRr.rf.p.x y) (by rw [zu_at, if_pos rfl]) (by omega) (rOK_p ok))
  · have k1 : f_X12_sign J 64 I' = _ := k.2 a
    rw [k1, Option.bind_some, if_pos rfl]
    have hz : (zu I' 147 13 (nI i)) 147 13 = nI i := by rw [zu_at, if_pos rfl]
    have h12 : (zu I' 147 13 (nI i)) 147 12 = nI L := by rw [zu_offk (by decide)]; exact y.1
    show rEnd _ _ _ _ (tK10 (zu I' 147 13 (nI i)))
    unfold tK10
    rw [hz, h12]
    by_cases c : i = L
    · subst c
      rw [if_pos rfl]
      exact ⟨-9, I, zu I' 147 13 (nI i), c6_whole hL x (iw_8 J p I), rfl, fun _ _ => rfl, zRr.rf.p, fun _ => rOK_p ok⟩
    · rw [if_neg (fun e => c ((nI_eq (by omega) (by omega)).mp e))]
      have b : f_X6_accept J p (nI 8) (nI (t i)) I = some (-9, I) := by
        rw [ac_8, (ac_bi J I (ht i (by omega))).2 (fun q => a ⟨by omega, q⟩), Option.bind_some]
      exact rEnd_f (e := i) (by omega) (fun _ _ => rfl) zRr.rf.p (c6_no hL x (by omega) b) rfl
theorem r_pair1 {J : zJ} {p L : Nat} {t : Nat → Nat} (hL : L ≤ 24) (ht : ∀ i, i < L → t i < 256) (h20 : 20 ≤ p) {i n : Nat} {I I' : zM} (x : xC I L t) (y : xT I' L t) (hp : I' 147 13 = nI i) (hi : i ≤ L) : (∃ e I1 I2, e < 1000 ∧ cR6 J p (n + 4) (nI 1) (nI i) I = some (nI e, I1) ∧ (∀ q, q ≠ p → I1 q = I q) ∧ f_X12_readPair J 1 1 I' = some (0, I2) ∧ I2 147 13 = nI e ∧ zRr I' I2) ∨ (∃ a b I2, i + 3 ≤ L ∧ a ≤ 5 ∧ cR6 J p (n + 4) (nI 1) (nI i) I = cR6 J p (n + 1) (nI 4) (nI (i + 3)) (zu (zu I p 1 (nI a)) p 2 (nI b)) ∧ f_X12_readPair J 1 1 I' = some (1, I2) ∧ I2 147 13 = nI (i + 3) ∧ I2 156 = (zu (zu I' 156 1 (nI a)) 156 2 (nI b)) 156 ∧ zRr I' I2) := by
  have zf : zin 1 6 = true := zin_nI (j := 1) (by decide) (by decide)
  have zf1 : zin ((1 : Int32) + (1 : Int32)) 6 = true := zin_nI (j := 2) (by decide) (by decide)
  have cf : Int32.toNatClampNeg (1 : Int32) = 1 := nI_clamp (n := 1) (by decide)
  have cf1 : Int32.toNatClampNeg ((1 : Int32) + (1 : Int32)) = 2 := nI_clamp (n := 2) (by decide)
  have k1 := t_figure J (lo := 0) (hi := 5) hL y ht hp hi (by decide) (by decide)
  by_cases a1 : i < L ∧ fg (t i) 0 5
  case neg =>
    have k1' : f_X12_figure J 0 5 I' = _ := k1.2 a1
    have tw : f_X12_readPair J 1 1 I' = some (0, zu I' 156 1 (-9)) := by
      unfold f_X12_readPair
      rw [k1', Option.bind_some, if_pos zf, if_pos zf]
      show (if (zu I' 156 (Int32.toNatClampNeg 1) (-9)) 156 (Int32.toNatClampNeg 1) = -9 then _ else _) = _
      rw [cf, zu_at, if_pos rfl, if_pos rfl]
    by_cases c : i < L
    · exact Or.inl ⟨i, _, _, by omega, c6_no hL x c ((ac_1 J p I (ht i c)).2 (fun q => a1 ⟨c, q⟩)), fun q hq => zu_row hq, tw, by rw [zu_row (by decide)]; exact hp, zRr.rf.r⟩
    · have e : i = L := by omega
      subst e
      exact Or.inl ⟨i, _, _, by omega, c6_half hL x (iw_1 J p I), fun _ _ => rfl, tw, by rw [zu_row (by decide)]; exact hp, zRr.rf.r⟩
  have k1' : f_X12_figure J 0 5 I' = _ := k1.1 a1
  have l1 := ht i a1.1
  have g1 := (ac_1 J p I l1).1 a1.2
  have x1 : xC (zu I p 1 (nI (t i - 48))) L t := xC_row h20 x
  have c1 := c6_go (n := n + 3) hL x a1.1 (by decide) g1
  have R1 : zRr I' (zu (zu I' 147 13 (nI (i + 1))) 156 1 (nI (t i - 48))) := zRr.rf.p.r
  have hp1 : (zu (zu I' 147 13 (nI (i + 1))) 156 1 (nI (t i - 48))) 147 13 = nI (i + 1) := by rw [zu_row (by decide), zu_at, if_pos rfl]
  have k2 := t_sign J (c := 61) hL (R1.x y) ht hp1 (by omega) (by decide)
  have st1 : ∀ R, ((f_X12_sign J 61 (zu (zu I' 147 13 (nI (i + 1))) 156 1 (nI (t i - 48)))).bind fun q6 => (if q6.1 = 0 then some ((0, q6.2)) else ((f_X12_figure J 1 5 q6.2).bind fun q9 => (if zin ((1 : Int32) + (1 : Int32)) 6 = true then (if zin ((1 : Int32) + (1 : Int32)) 6 = true then (if (zu q9.2 156 (Int32.toNatClampNeg ((1 : Int32) + (1 : Int32))) q9.1) 156 (Int32.toNatClampNeg ((1 : Int32) + (1 : Int32))) = (-9) then some ((0, zu q9.2 156 (Int32.toNatClampNeg ((1 : Int32) + (1 : Int32))) q9.1)) else some ((1, zu q9.2 156 (Int32.toNatClampNeg ((1 : Int32) + (1 : Int32))) q9.1))) else none) else none)))) = R → f_X12_readPair J 1 1 I' = R := fun R hR => by
    unfold f_X12_readPair
    rw [k1', Option.bind_some, if_pos zf, if_pos zf]
    show (if (zu (zu I' 147 13 (nI (i + 1))) 156 (Int32.toNatClampNeg 1) (nI (t i - 48))) 156 (Int32.toNatClampNeg 1) = -9 then _ else _) = _
    rw [cf, zu_at, if_pos rfl, if_neg (m9_ne (by omega))]
    exact hR
  by_cases a2 : i + 1 < L ∧ t (i + 1) = 61
  case neg =>
    have k2' : f_X12_sign J 61 (zu (zu I' 147 13 (nI (i + 1))) 156 1 (nI (t i - 48))) = _ := k2.2 a2
    have tw : f_X12_readPair J 1 1 I' = some (0, zu (zu (zu I' 147 13 (nI (i + 1))) 156 1 (nI (t i - 48))) 147 13 (nI (i + 1))) := st1 _ (by rw [k2', Option.bind_some, if_pos rfl])
    by_cases c : i + 1 < L
    · exact Or.inl ⟨i + 1, _, _, by omega, c1.trans (c6_no hL x1 c ((ac_2 J p _ (ht _ c)).2 (fun q => a2 ⟨c, q⟩))), fun q hq => zu_row hq, tw, by rw [zu_at, if_pos rfl], R1.p⟩
    · have e : i + 1 = L := by omega
      rw [e] at c1
      exact Or.inl ⟨L, _, _, by omega, c1.trans (c6_half hL x1 (iw_2 J p _)), fun q hq => zu_row hq, tw, by rw [zu_at, if_pos rfl, e], R1.p⟩
  have k2' : f_X12_sign J 61 (zu (zu I' 147 13 (nI (i + 1))) 156 1 (nI (t i - 48))) = _ := k2.1 a2
  have g2 := (ac_2 J p (zu I p 1 (nI (t i - 48))) (ht _ a2.1)).1 a2.2
  have c2 := c1.trans (c6_go (n := n + 2) hL x1 a2.1 (by decide) g2)
  have R2 : zRr I' (zu (zu (zu I' 147 13 (nI (i + 1))) 156 1 (nI (t i - 48))) 147 13 (nI (i + 1 + 1))) := R1.p
  have hp2 : (zu (zu (zu I' 147 13 (nI (i + 1))) 156 1 (nI (t i - 48))) 147 13 (nI (i + 1 + 1))) 147 13 = nI (i + 1 + 1) := by rw [zu_at, if_pos rfl]
  have k3 := t_figure J (lo := 1) (hi := 5) hL (R2.x y) ht hp2 (by omega) (by decide) (by decide)
  by_cases a3 : i + 1 + 1 < L ∧ fg (t (i + 1 + 1)) 1 5
  case neg =>
    have k3' : f_X12_figure J 1 5 (zu (zu (zu I' 147 13 (nI (i + 1))) 156 1 (nI (t i - 48))) 147 13 (nI (i + 1 + 1))) = _ := k3.2 a3
    have tw : f_X12_readPair J 1 1 I' = some (0, zu (zu (zu (zu I' 147 13 (nI (i + 1))) 156 1 (nI (t i - 48))) 147 13 (nI (i + 1 + 1))) 156 2 (-9)) := st1 _ (by
      rw [k2', Option.bind_some, if_neg i10, k3', Option.bind_some, if_pos zf1, if_pos zf1]
      show (if (zu (zu (zu (zu I' 147 13 (nI (i + 1))) 156 1 (nI (t i - 48))) 147 13 (nI (i + 1 + 1))) 156 (Int32.toNatClampNeg ((1 : Int32) + (1 : Int32))) (-9)) 156 (Int32.toNatClampNeg ((1 : Int32) + (1 : Int32))) = -9 then _ else _) = _
      rw [cf1, zu_at, if_pos rfl, if_pos rfl])
    by_cases c : i + 1 + 1 < L
    · exact Or.inl ⟨i + 1 + 1, _, _, by omega, c2.trans (c6_no hL x1 c ((ac_3 J p _ (ht _ c)).2 (fun q => a3 ⟨c, q⟩))), fun q hq => (zu_row hq).trans (zu_row hq), tw, by rw [zu_row (by decide)]; exact hp2, R2.r⟩
    · have e : i + 1 + 1 = L := by omega
      rw [e] at c2
      exact Or.inl ⟨L, _, _, by omega, c2.trans (c6_half hL x1 (iw_3 J p _)), fun q hq => zu_row hq, tw, by rw [zu_row (by decide), hp2, e], R2.r⟩
  have k3' : f_X12_figure J 1 5 (zu (zu (zu I' 147 13 (nI (i + 1))) 156 1 (nI (t i - 48))) 147 13 (nI (i + 1 + 1))) = _ := k3.1 a3
  have l3 := ht _ a3.1
  have g3 := (ac_3 J p (zu I p 1 (nI (t i - 48))) l3).1 a3.2
  have c3 := c2.trans (c6_go (n := n + 1) hL x1 a3.1 (by decide) g3)
  refine Or.inr ⟨t i - 48, t (i + 1 + 1) - 48, zu (zu (zu (zu (zu I' 147 13 (nI (i + 1))) 156 1 (nI (t i - 48))) 147 13 (nI (i + 1 + 1))) 147 13 (nI (i + 1 + 1 + 1))) 156 2 (nI (t (i + 1 + 1) - 48)), by omega, by have := a1.2.2; omega, c3, st1 _ ?_, by rw [zu_row (by decide), zu_at, if_pos rfl], ?_, R2.p.r⟩
  · rw [k2', Option.bind_some, if_neg i10, k3', Option.bind_some, if_pos zf1, if_pos zf1]
    show (if (zu (zu (zu (zu (zu I' 147 13 (nI (i + 1))) 156 1 (nI (t i - 48))) 147 13 (nI (i + 1 + 1))) 147 13 (nI (i + 1 + 1 + 1))) 156 (Int32.toNatClampNeg ((1 : Int32) + (1 : Int32))) (nI (t (i + 1 + 1) - 48))) 156 (Int32.toNatClampNeg ((1 : Int32) + (1 : Int32))) = -9 then _ else _) = _
    rw [cf1, zu_at, if_pos rfl, if_neg (m9_ne (by omega))]
  · funext k
    rw [zu_at, zu_at, zu_row (show 156 ≠ 147 by decide), zu_row (show 156 ≠ 147 by decide), zu_at, zu_at, zu_row (show 156 ≠ 147 by decide)]
theorem r_pair5 {J : zJ} {p L : Nat} {t : Nat → Nat} (hL : L ≤ 24) (ht : ∀ i, i < L → t i < 256) (h20 : 20 ≤ p) {i n : Nat} {I I' : zM} (x : xC I L t) (y : xT I' L t) (hp : I' 147 13 = nI i) (hi : i ≤ L) : (∃ e I1 I2, e < 1000 ∧ cR6 J p (n + 4) (nI 5) (nI i) I = some (nI e, I1) ∧ (∀ q, q ≠ p → I1 q = I q) ∧ f_X12_readPair J 3 0 I' = some (0, I2) ∧ I2 147 13 = nI e ∧ zRr I' I2) ∨ (∃ a b I2, i + 3 ≤ L ∧ a ≤ 5 ∧ cR6 J p (n + 4) (nI 5) (nI i) I = cR6 J p (n + 1) (nI 8) (nI (i + 3)) (zu (zu I p 3 (nI a)) p 4 (nI b)) ∧ f_X12_readPair J 3 0 I' = some (1, I2) ∧ I2 147 13 = nI (i + 3) ∧ I2 156 = (zu (zu I' 156 3 (nI a)) 156 4 (nI b)) 156 ∧ zRr I' I2) := by
  have zf : zin 3 6 = true := zin_nI (j := 3) (by decide) (by decide)
  have zf1 : zin ((3 : Int32) + (1 : Int32)) 6 = true := zin_nI (j := 4) (by decide) (by decide)
  have cf : Int32.toNatClampNeg (3 : Int32) = 3 := nI_clamp (n := 3) (by decide)
  have cf1 : Int32.toNatClampNeg ((3 : Int32) + (1 : Int32)) = 4 := nI_clamp (n := 4) (by decide)
  have k1 := t_figure J (lo := 0) (hi := 5) hL y ht hp hi (by decide) (by decide)
  by_cases a1 : i < L ∧ fg (t i) 0 5
  case neg =>
    have k1' : f_X12_figure J 0 5 I' = _ := k1.2 a1
    have tw : f_X12_readPair J 3 0 I' = some (0, zu I' 156 3 (-9)) := by
      unfold f_X12_readPair
      rw [k1', Option.bind_some, if_pos zf, if_pos zf]
      show (if (zu I' 156 (Int32.toNatClampNeg 3) (-9)) 156 (Int32.toNatClampNeg 3) = -9 then _ else _) = _
      rw [cf, zu_at, if_pos rfl, if_pos rfl]
    by_cases c : i < L
    · exact Or.inl ⟨i, _, _, by omega, c6_no hL x c ((ac_5 J p I (ht i c)).2 (fun q => a1 ⟨c, q⟩)), fun q hq => zu_row hq, tw, by rw [zu_row (by decide)]; exact hp, zRr.rf.r⟩
    · have e : i = L := by omega
      subst e
      exact Or.inl ⟨i, _, _, by omega, c6_half hL x (iw_5 J p I), fun _ _ => rfl, tw, by rw [zu_row (by decide)]; exact hp, zRr.rf.r⟩
  have k1' : f_X12_figure J 0 5 I' = _ := k1.1 a1
  have l1 := ht i a1.1
  have g1 := (ac_5 J p I l1).1 a1.2
  have x1 : xC (zu I p 3 (nI (t i - 48))) L t := xC_row h20 x
  have c1 := c6_go (n := n + 3) hL x a1.1 (by decide) g1
  have R1 : zRr I' (zu (zu I' 147 13 (nI (i + 1))) 156 3 (nI (t i - 48))) := zRr.rf.p.r
  have hp1 : (zu (zu I' 147 13 (nI (i + 1))) 156 3 (nI (t i - 48))) 147 13 = nI (i + 1) := by rw [zu_row (by decide), zu_at, if_pos rfl]
  have k2 := t_sign J (c := 61) hL (R1.x y) ht hp1 (by omega) (by decide)
  have st1 : ∀ R, ((f_X12_sign J 61 (zu (zu I' 147 13 (nI (i + 1))) 156 3 (nI (t i - 48)))).bind fun q6 => (if q6.1 = 0 then some ((0, q6.2)) else ((f_X12_figure J 0 5 q6.2).bind fun q9 => (if zin ((3 : Int32) + (1 : Int32)) 6 = true then (if zin ((3 : Int32) + (1 : Int32)) 6 = true then (if (zu q9.2 156 (Int32.toNatClampNeg ((3 : Int32) + (1 : Int32))) q9.1) 156 (Int32.toNatClampNeg ((3 : Int32) + (1 : Int32))) = (-9) then some ((0, zu q9.2 156 (Int32.toNatClampNeg ((3 : Int32) + (1 : Int32))) q9.1)) else some ((1, zu q9.2 156 (Int32.toNatClampNeg ((3 : Int32) + (1 : Int32))) q9.1))) else none) else none)))) = R → f_X12_readPair J 3 0 I' = R := fun R hR => by
    unfold f_X12_readPair
    rw [k1', Option.bind_some, if_pos zf, if_pos zf]
    show (if (zu (zu I' 147 13 (nI (i + 1))) 156 (Int32.toNatClampNeg 3) (nI (t i - 48))) 156 (Int32.toNatClampNeg 3) = -9 then _ else _) = _
    rw [cf, zu_at, if_pos rfl, if_neg (m9_ne (by omega))]
    exact hR
  by_cases a2 : i + 1 < L ∧ t (i + 1) = 61
  case neg =>
    have k2' : f_X12_sign J 61 (zu (zu I' 147 13 (nI (i + 1))) 156 3 (nI (t i - 48))) = _ := k2.2 a2
    have tw : f_X12_readPair J 3 0 I' = some (0, zu (zu (zu I' 147 13 (nI (i + 1))) 156 3 (nI (t i - 48))) 147 13 (nI (i + 1))) := st1 _ (by rw [k2', Option.bind_some, if_pos rfl])
    by_cases c : i + 1 < L
    · exact Or.inl ⟨i + 1, _, _, by omega, c1.trans (c6_no hL x1 c ((ac_6 J p _ (ht _ c)).2 (fun q => a2 ⟨c, q⟩))), fun q hq => zu_row hq, tw, by rw [zu_at, if_pos rfl], R1.p⟩
    · have e : i + 1 = L := by omega
      rw [e] at c1
      exact Or.inl ⟨L, _, _, by omega, c1.trans (c6_half hL x1 (iw_6 J p _)), fun q hq => zu_row hq, tw, by rw [zu_at, if_pos rfl, e], R1.p⟩
  have k2' : f_X12_sign J 61 (zu (zu I' 147 13 (nI (i + 1))) 156 3 (nI (t i - 48))) = _ := k2.1 a2
  have g2 := (ac_6 J p (zu I p 3 (nI (t i - 48))) (ht _ a2.1)).1 a2.2
  have c2 := c1.trans (c6_go (n := n + 2) hL x1 a2.1 (by decide) g2)
  have R2 : zRr I' (zu (zu (zu I' 147 13 (nI (i + 1))) 156 3 (nI (t i - 48))) 147 13 (nI (i + 1 + 1))) := R1.p
  have hp2 : (zu (zu (zu I' 147 13 (nI (i + 1))) 156 3 (nI (t i - 48))) 147 13 (nI (i + 1 + 1))) 147 13 = nI (i + 1 + 1) := by rw [zu_at, if_pos rfl]
  have k3 := t_figure J (lo := 0) (hi := 5) hL (R2.x y) ht hp2 (by omega) (by decide) (by decide)
  by_cases a3 : i + 1 + 1 < L ∧ fg (t (i + 1 + 1)) 0 5
  case neg =>
    have k3' : f_X12_figure J 0 5 (zu (zu (zu I' 147 13 (nI (i + 1))) 156 3 (nI (t i - 48))) 147 13 (nI (i + 1 + 1))) = _ := k3.2 a3
    have tw : f_X12_readPair J 3 0 I' = some (0, zu (zu (zu (zu I' 147 13 (nI (i + 1))) 156 3 (nI (t i - 48))) 147 13 (nI (i + 1 + 1))) 156 4 (-9)) := st1 _ (by
      rw [k2', Option.bind_some, if_neg i10, k3', Option.bind_some, if_pos zf1, if_pos zf1]
      show (if (zu (zu (zu (zu I' 147 13 (nI (i + 1))) 156 3 (nI (t i - 48))) 147 13 (nI (i + 1 + 1))) 156 (Int32.toNatClampNeg ((3 : Int32) + (1 : Int32))) (-9)) 156 (Int32.toNatClampNeg ((3 : Int32) + (1 : Int32))) = -9 then _ else _) = _
      rw [cf1, zu_at, if_pos rfl, if_pos rfl])
    by_cases c : i + 1 + 1 < L
    · exact Or.inl ⟨i + 1 + 1, _, _, by omega, c2.trans (c6_no hL x1 c ((ac_7 J p _ (ht _ c)).2 (fun q => a3 ⟨c, q⟩))), fun q hq => (zu_row hq).trans (zu_row hq), tw, by rw [zu_row (by decide)]; exact hp2, R2.r⟩
    · have e : i + 1 + 1 = L := by omega
      rw [e] at c2
      exact Or.inl ⟨L, _, _, by omega, c2.trans (c6_half hL x1 (iw_7 J p _)), fun q hq => zu_row hq, tw, by rw [zu_row (by decide), hp2, e], R2.r⟩
  have k3' : f_X12_figure J 0 5 (zu (zu (zu I' 147 13 (nI (i + 1))) 156 3 (nI (t i - 48))) 147 13 (nI (i + 1 + 1))) = _ := k3.1 a3
  have l3 := ht _ a3.1
  have g3 := (ac_7 J p (zu I p 3 (nI (t i - 48))) l3).1 a3.2
  have c3 := c2.trans (c6_go (n := n + 1) hL x1 a3.1 (by decide) g3)
  refine Or.inr ⟨t i - 48, t (i + 1 + 1) - 48, zu (zu (zu (zu (zu I' 147 13 (nI (i + 1))) 156 3 (nI (t i - 48))) 147 13 (nI (i + 1 + 1))) 147 13 (nI (i + 1 + 1 + 1))) 156 4 (nI (t (i + 1 + 1) - 48)), by omega, by have := a1.2.2; omega, c3, st1 _ ?_, by rw [zu_row (by decide), zu_at, if_pos rfl], ?_, R2.p.r⟩
  · rw [k2', Option.bind_some, if_neg i10, k3', Option.bind_some, if_pos zf1, if_pos zf1]
    show (if (zu (zu (zu (zu (zu I' 147 13 (nI (i + 1))) 156 3 (nI (t i - 48))) 147 13 (nI (i + 1 + 1))) 147 13 (nI (i + 1 + 1 + 1))) 156 (Int32.toNatClampNeg ((3 : Int32) + (1 : Int32))) (nI (t (i + 1 + 1) - 48))) 156 (Int32.toNatClampNeg ((3 : Int32) + (1 : Int32))) = -9 then _ else _) = _
    rw [cf1, zu_at, if_pos rfl, if_neg (m9_ne (by omega))]
  · funext k
    rw [zu_at, zu_at, zu_row (show 156 ≠ 147 by decide), zu_row (show 156 ≠ 147 by decide), zu_at, zu_at, zu_row (show 156 ≠ 147 by decide)]
theorem S4 {J : zJ} {p L : Nat} {t : Nat → Nat} (hL : L ≤ 24) (ht : ∀ i, i < L → t i < 256) (h20 : 20 ≤ p) {i n : Nat} {I I' : zM} (x : xC I L t) (y : xT I' L t) (hp : I' 147 13 = nI i) (hi : i ≤ L) (ok : rOK p I I') : rEnd p I I' (cR6 J p (n + 8) (nI 4) (nI i) I) (tK4 J I') := by
  have k := t_sign J (c := 63) hL y ht hp hi (by decide)
  unfold tK4
  by_cases a : i < L ∧ t i = 63
  · have k1 : f_X12_sign J 63 I' = _ := k.1 a
    rw [k1, Option.bind_some, if_neg (show ¬ ((1 : Int32), zu I' 147 13 (nI (i + 1))).1 = 0 from i10)]
    have b : f_X6_accept J p (nI 4) (nI (t i)) I = some (nI 5, I) := by rw [a.2]; exact ac_4y J p I
    rw [c6_go hL x a.1 (by decide) b]
    refine rEnd_tr (fun _ _ => rfl) (zRr.rf.p (x := nI (i + 1))) ?_
    rcases r_pair5 (J := J) (p := p) (n := n + 3) hL ht h20 x (zRr.rf.p.x y) (show (zu I' 147 13 (nI (i + 1))) 147 13 = nI (i + 1) by rw [zu_at, if_pos rfl]) (show i + 1 ≤ L by omega) with ⟨e, I1, I2, he, d1, d2, d3, d4, d5⟩ | ⟨a', b', I2, h3, ha, d1, d2, d3, d4, d5⟩
    · show rEnd _ _ _ _ ((f_X12_readPair J 3 0 (zu I' 147 13 (nI (i + 1)))).bind _)
      rw [d3, Option.bind_some, if_pos rfl]
      exact rEnd_f he d2 d5 d1 (by rw [← d4])
    · show rEnd _ _ _ _ ((f_X12_readPair J 3 0 (zu I' 147 13 (nI (i + 1)))).bind _)
      rw [d2, Option.bind_some, if_neg (show ¬ ((1 : Int32), I2).1 = 0 from i10), d1]
      refine rEnd_tr (J1 := zu (zu I p 3 (nI a')) p 4 (nI b')) (fun q hq => (zu_row hq).trans (zu_row hq)) d5 (S8 hL ht h20 (xC_row h20 (xC_row h20 x)) (d5.x (zRr.rf.p.x y)) d3 h3 ?_)
      obtain ⟨o1, o2, o3⟩ := ok
      have r156 : (zu I' 147 13 (nI (i + 1))) 156 = I' 156 := zu_row (by decide)
      refine ⟨fun f hf => ?_, ?_, ?_⟩
      · rw [d4, zu_at, zu_at, zu_at, zu_at, r156]
        by_cases e : f = 4
        · rw [if_pos e, if_pos e]
        · rw [if_neg e, if_neg e]
          by_cases e2 : f = 3
          · rw [if_pos e2, if_pos e2]
          · rw [if_neg e2, if_neg e2]
            exact o1 f hf
      · rw [d4, zu_at, if_neg (by decide), zu_at, if_neg (by decide), r156]
        exact o2
      · rw [d4, zu_at, if_neg (by decide), zu_at, if_pos rfl]
        exact Or.inr (zrg_of (Nat.zero_le _) ha (by decide))
  · have k1 : f_X12_sign J 63 I' = _ := k.2 a
    rw [k1, Option.bind_some, if_pos rfl]
    have e48 : cR6 J p (n + 8) (nI 4) (nI i) I = cR6 J p (n + 8) (nI 8) (nI i) I := by
      by_cases c : i < L
      · unfold cR6
        rw [c6_step hL x c, c6_step hL x c, ac_4n J p I (ht i c) (fun q => a ⟨c, q⟩)]
      · have e : i = L := by omega
        subst e
        rw [c6_whole hL x (iw_4 J p I), c6_whole hL x (iw_8 J p I)]
    rw [e48]
    exact rEnd_tr (fun _ _ => rfl) (zRr.rf.p (x := nI i)) (S8 (n := n + 5) hL ht h20 x (zRr.rf.p.x y) (by rw [zu_at, if_pos rfl]) hi (rOK_p ok))
/-- behind the letter -/
theorem S1 {J : zJ} {p L x0 : Nat} {t : Nat → Nat} (hL : L ≤ 24) (ht : ∀ i, i < L → t i < 256) (h20 : 20 ≤ p) {n : Nat} {I I' : zM} (x : xC I L t) (y : xT I' L t) (hp : I' 147 13 = nI 1) (hi : 1 ≤ L) (h0 : I p 0 = nI x0) (hx : x0 < 3) (h3 : I p 3 = -9 ∧ I p 4 = -9 ∧ I p 5 = -9) (h3' : I' 156 3 = -9 ∧ I' 156 4 = -9 ∧ I' 156 5 = -9) : rEnd p I I' (cR6 J p (n + 12) (nI 1) (nI 1) I) (tK1 J (nI x0) I') := by
  unfold tK1
  rw [zu_at, if_pos rfl, if_neg (m9_ne (by omega))]
  have y1 : xT (zu I' 156 0 (nI x0)) L t := (zRr.rf.r).x y
  refine rEnd_tr (fun _ _ => rfl) (zRr.rf.r (k := 0) (x := nI x0)) ?_
  rcases r_pair1 (J := J) (p := p) (n := n + 8) hL ht h20 x y1 (show (zu I' 156 0 (nI x0)) 147 13 = nI 1 by rw [zu_row (by decide)]; exact hp) hi with ⟨e, I1, I2, he, d1, d2, d3, d4, d5⟩ | ⟨a', b', I2, h4, ha, d1, d2, d3, d4, d5⟩
  · rw [d3, Option.bind_some, if_pos rfl]
    exact rEnd_f he d2 d5 d1 (by rw [← d4])
  · rw [d2, Option.bind_some, if_neg (show ¬ ((1 : Int32), I2).1 = 0 from i10), d1]
    refine rEnd_tr (J1 := zu (zu I p 1 (nI a')) p 2 (nI b')) (fun q hq => (zu_row hq).trans (zu_row hq)) d5 (S4 (n := n + 1) hL ht h20 (xC_row h20 (xC_row h20 x)) (d5.x y1) d3 h4 ?_)
    refine ⟨fun f hf => ?_, ?_, ?_⟩
    · rw [d4, zu_at, zu_at, zu_at, zu_at, zu_at]
      match f, hf with
      | 0, _ => exact h0
      | 1, _ => rfl
      | 2, _ => rfl
      | 3, _ => exact h3.1.trans h3'.1.symm
      | 4, _ => exact h3.2.1.trans h3'.2.1.symm
      | 5, _ => exact h3.2.2.trans h3'.2.2.symm
      | f + 6, hf => exact absurd hf (by omega)
    · rw [d4, zu_at, if_neg (by decide), zu_at, if_pos rfl]
      exact zrg_of (Nat.zero_le _) ha (by decide)
    · rw [d4, zu_at, if_neg (by decide), zu_at, if_neg (by decide), zu_at, if_neg (by decide)]
      exact Or.inl h3'.1
theorem ac_0 (J : zJ) (p : Nat) (I : zM) {t : Nat} (ht : t < 256) : (∀ x, ix1 t = nI x → x < 3 → f_X6_accept J p (nI 0) (nI t) I = some (nI 1, zu I p 0 (nI x))) ∧ (ix1 t = -1 → f_X6_accept J p (nI 0) (nI t) I = some (-9, zu I p 0 (-1))) := by
  constructor
  · intro x hx h3
    unfold f_X6_accept
    rw [if_pos (show nI 0 = 0 by decide), l_ix1 J I ht, Option.bind_some]
    show (if 0 ≤ (zu I p 0 (ix1 t)) p 0 then _ else _) = _
    rw [hx, zu_at, if_pos rfl, if_pos (show 0 ≤ nI x from nI_pos' (by omega))]
    rfl
  · intro hx
    unfold f_X6_accept
    rw [if_pos (show nI 0 = 0 by decide), l_ix1 J I ht, Option.bind_some]
    show (if 0 ≤ (zu I p 0 (ix1 t)) p 0 then _ else _) = _
    rw [hx, zu_at, if_pos rfl, if_neg (show ¬ (0 : Int32) ≤ -1 by decide)]
theorem rd_rule {J : zJ} {p L : Nat} {t : Nat → Nat} (hL : L ≤ 24) (ht : ∀ i, i < L → t i < 256) (h20 : 20 ≤ p) {I I' : zM} (x : xC I L t) (y : xT I' L t) : rEnd p I I' (f_X10_readFrom_X6 J p I) (f_X12_readRule J I') := by
  have xc : xC (zu (zu (zu I p 3 (-9)) p 4 (-9)) p 5 (-9)) L t := xC_row h20 (xC_row h20 (xC_row h20 x))
  have ec : f_X10_readFrom_X6 J p I = cR6 J p zF (nI 0) (nI 0) (zu (zu (zu I p 3 (-9)) p 4 (-9)) p 5 (-9)) := rfl
  rw [ec, t_rr]
  have R0 : zRr I' (zu (zu (zu (zu I' 147 13 0) 156 3 (-9)) 156 4 (-9)) 156 5 (-9)) := zRr.rf.p.r.r.r
  have hp0 : (zu (zu (zu (zu I' 147 13 0) 156 3 (-9)) 156 4 (-9)) 156 5 (-9)) 147 13 = nI 0 := by rw [zu_row (by decide), zu_row (by decide), zu_row (by decide), zu_at, if_pos rfl]; rfl
  have q3 : (zu (zu (zu (zu I' 147 13 0) 156 3 (-9)) 156 4 (-9)) 156 5 (-9)) 156 3 = -9 ∧ (zu (zu (zu (zu I' 147 13 0) 156 3 (-9)) 156 4 (-9)) 156 5 (-9)) 156 4 = -9 ∧ (zu (zu (zu (zu I' 147 13 0) 156 3 (-9)) 156 4 (-9)) 156 5 (-9)) 156 5 = -9 := ⟨rfl, rfl, rfl⟩
  have p3 : (zu (zu (zu I p 3 (-9)) p 4 (-9)) p 5 (-9)) p 3 = -9 ∧ (zu (zu (zu I p 3 (-9)) p 4 (-9)) p 5 (-9)) p 4 = -9 ∧ (zu (zu (zu I p 3 (-9)) p 4 (-9)) p 5 (-9)) p 5 = -9 := by
    refine ⟨?_, ?_, ?_⟩
    · rw [zu_at, if_neg (by decide), zu_at, if_neg (by decide), zu_at, if_pos rfl]
    · rw [zu_at, if_neg (by decide), zu_at, if_pos rfl]
    · rw [zu_at, if_pos rfl]
  have fc : ∀ q, q ≠ p → (zu (zu (zu I p 3 (-9)) p 4 (-9)) p 5 (-9)) q = I q := fun q hq => (zu_row hq).trans ((zu_row hq).trans (zu_row hq))
  generalize hIc : zu (zu (zu I p 3 (-9)) p 4 (-9)) p 5 (-9) = Ic at xc p3 fc ⊢
  generalize hIt : zu (zu (zu (zu I' 147 13 0) 156 3 (-9)) 156 4 (-9)) 156 5 (-9) = It at R0 hp0 q3 ⊢
  have y0 := R0.x y
  obtain ⟨n, hn⟩ : ∃ n, zF = n + 13 := ⟨1999987, rfl⟩
  rw [hn]
  have go : ∀ (x0 : Nat) (Iu : zM), x0 < 3 → 0 < L → ix1 (t 0) = nI x0 → zRr It Iu → Iu 147 13 = nI 1 → (Iu 156 3 = -9 ∧ Iu 156 4 = -9 ∧ Iu 156 5 = -9) → rEnd p I I' (cR6 J p (n + 13) (nI 0) (nI 0) Ic) (tK1 J (nI x0) Iu) := fun x0 Iu hx h0 e R hp h156 => by
    rw [c6_go (n := n + 12) hL xc h0 (by decide) ((ac_0 J p Ic (ht 0 h0)).1 x0 e hx)]
    refine rEnd_tr (J1 := zu Ic p 0 (nI x0)) (fun q hq => (zu_row hq).trans (fc q hq)) (R0.tr R) (S1 hL ht h20 (xC_row h20 xc) (R.x y0) hp h0 (by rw [zu_at, if_pos rfl]) hx ?_ h156)
    rw [zu_offk (by decide), zu_offk (by decide), zu_offk (by decide)]
    exact p3
  have k76 := t_sign J (c := 76) hL y0 ht hp0 (Nat.zero_le _) (by decide)
  by_cases a1 : 0 < L ∧ t 0 = 76
  · have k1 : f_X12_sign J 76 It = _ := k76.1 a1
    rw [k1, Option.bind_some, if_neg (show ¬ ((1 : Int32), zu It 147 13 (nI (0 + 1))).1 = 0 from i10)]
    exact go 0 (zu It 147 13 (nI (0 + 1))) (by decide) a1.1 (by rw [a1.2]; rfl) zRr.rf.p (by rw [zu_at, if_pos rfl]) (by rw [zu_row (by decide)]; exact q3)
  have k1 : f_X12_sign J 76 It = _ := k76.2 a1
  rw [k1, Option.bind_some, if_pos rfl]
  have y1 : xT (zu It 147 13 (nI 0)) L t := (zRr.rf.p).x y0
  have k66 := t_sign J (c := 66) hL y1 ht (show (zu It 147 13 (nI 0)) 147 13 = nI 0 by rw [zu_at, if_pos rfl]) (Nat.zero_le _) (by decide)
  by_cases a2 : 0 < L ∧ t 0 = 66
  · have k2 : f_X12_sign J 66 (zu It 147 13 (nI 0)) = _ := k66.1 a2
    show rEnd _ _ _ _ ((f_X12_sign J 66 (zu It 147 13 (nI 0))).bind _)
    rw [k2, Option.bind_some, if_neg (show ¬ ((1 : Int32), zu (zu It 147 13 (nI 0)) 147 13 (nI (0 + 1))).1 = 0 from i10)]
    exact go 1 (zu (zu It 147 13 (nI 0)) 147 13 (nI (0 + 1))) (by decide) a2.1 (by rw [a2.2]; rfl) zRr.rf.p.p (by rw [zu_at, if_pos rfl]) (by rw [zu_row (by decide), zu_row (by decide)]; exact q3)
  have k2 : f_X12_sign J 66 (zu It 147 13 (nI 0)) = _ := k66.2 a2
  show rEnd _ _ _ _ ((f_X12_sign J 66 (zu It 147 13 (nI 0))).bind _)
  rw [k2, Option.bind_some, if_pos rfl]
  have y2 : xT (zu (zu It 147 13 (nI 0)) 147 13 (nI 0)) L t := (zRr.rf.p).x y1
  have k77 := t_sign J (c := 77) hL y2 ht (show (zu (zu It 147 13 (nI 0)) 147 13 (nI 0)) 147 13 = nI 0 by rw [zu_at, if_pos rfl]) (Nat.zero_le _) (by decide)
  by_cases a3 : 0 < L ∧ t 0 = 77
  · have k3 : f_X12_sign J 77 (zu (zu It 147 13 (nI 0)) 147 13 (nI 0)) = _ := k77.1 a3
    show rEnd _ _ _ _ ((f_X12_sign J 77 (zu (zu It 147 13 (nI 0)) 147 13 (nI 0))).bind _)
    rw [k3, Option.bind_some, if_neg (show ¬ ((1 : Int32), zu (zu (zu It 147 13 (nI 0)) 147 13 (nI 0)) 147 13 (nI (0 + 1))).1 = 0 from i10)]
    exact go 2 (zu (zu (zu It 147 13 (nI 0)) 147 13 (nI 0)) 147 13 (nI (0 + 1))) (by decide) a3.1 (by rw [a3.2]; rfl) zRr.rf.p.p.p (by rw [zu_at, if_pos rfl]) (by rw [zu_row (by decide), zu_row (by decide), zu_row (by decide)]; exact q3)
  have k3 : f_X12_sign J 77 (zu (zu It 147 13 (nI 0)) 147 13 (nI 0)) = _ := k77.2 a3
  show rEnd _ _ _ _ ((f_X12_sign J 77 (zu (zu It 147 13 (nI 0)) 147 13 (nI 0))).bind _)
  rw [k3, Option.bind_some, if_pos rfl]
  have tw : tK1 J (-9) (zu (zu (zu It 147 13 (nI 0)) 147 13 (nI 0)) 147 13 (nI 0)) = some (nI 0, zu (zu (zu (zu It 147 13 (nI 0)) 147 13 (nI 0)) 147 13 (nI 0)) 156 0 (-9)) := by
    unfold tK1
    rw [zu_at, if_pos rfl, if_pos rfl, zu_row (by decide), zu_at, if_pos rfl]
  by_cases c : 0 < L
  · have e1 : ix1 (t 0) = -1 := by
      unfold ix1
      rw [if_neg (fun q => a1 ⟨c, q⟩), if_neg (fun q => a2 ⟨c, q⟩), if_neg (fun q => a3 ⟨c, q⟩)]
    exact rEnd_f (e := 0) (by decide) (fun q hq => (zu_row hq).trans (fc q hq)) (R0.tr zRr.rf.p.p.p.r) (c6_no (n := n + 12) hL xc c ((ac_0 J p Ic (ht 0 c)).2 e1)) tw
  · have e : L = 0 := by omega
    subst e
    exact rEnd_f (e := 0) (by decide) fc (R0.tr zRr.rf.p.p.p.r) (c6_half (n := n + 12) hL xc (iw_0 J p Ic)) tw
