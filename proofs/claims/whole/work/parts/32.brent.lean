/-! ===== the class's search for the ring ===== -/
/-- the same but for the row that is now and the reading's own numbers -/
def zRd (I0 I : zM) : Prop := (∀ p, p ≠ 39 → p ≠ 44 → I p = I0 p) ∧ ∀ k, k < 12 → I 39 k = I0 39 k
theorem zRd.rf {I : zM} : zRd I I := ⟨fun _ _ _ => rfl, fun _ _ => rfl⟩
theorem zRd.fo {I0 I I' : zM} (h : zRd I0 I) (f : ∀ p, p ≠ 44 → I' p = I p) : zRd I0 I' := ⟨fun p h1 h2 => (f p h2).trans (h.1 p h1 h2), fun k hk => by rw [f 39 (by decide)]; exact h.2 k hk⟩
theorem zRd.up {I0 I : zM} {k : Nat} {x : Int32} (h : zRd I0 I) (hk : 12 ≤ k) : zRd I0 (zu I 39 k x) := ⟨fun p h1 h2 => (zu_row h1).trans (h.1 p h1 h2), fun j hj => (zu_offk (by omega) I 39 x).trans (h.2 j hj)⟩
theorem zRd.g {E I0 I : zM} (h : zRd I0 I) (c : cG E I0) : cG E I := cG_cg (fun p h1 h2 => h.1 p (by omega) (by omega)) c
theorem zRd.f {E I0 I : zM} {m q : Nat} (h : zRd I0 I) (c : cF E m q I0) : cF E m q I := cF_cg (fun p h1 h2 => h.1 p (by omega) (by omega)) c
theorem q_2r (k : Nat) : nI k * (2 : Int32) = nI (k * 2) := (Int32.ofNat_mul k 2).symm
theorem l_br (J : zJ) {E I0 : zM} {m q mu lam : Nat} (hw : eW E m q) (hc : cG E I0) (hf : cF E m q I0) (hR : isRing (eNx E m q) mu lam) (hml : mu + lam ≤ 46656) : ∀ j s r w fuel I, s + r + j = 200000 → j < fuel → s + 1 = w → 1 ≤ r → r ≤ w → (∃ e, e ≤ 16 ∧ w = 2 ^ e) → (∀ t, 1 ≤ t → t < r → it (eNx E m q) s ≠ it (eNx E m q) (s + t)) → zRd I0 I → I 39 13 = nI r → ∃ x y z u I', f_X5_findRing_18 J fuel (nI (it (eNx E m q) s)) (nI (it (eNx E m q) (s + r))) (nI w) (nI (s + r - 1)) I = some (.inr (x, y, z, u, I')) ∧ zRd I0 I' ∧ I' 39 13 = nI lam := by
  have lt := it_lt (f := eNx E m q) (eNx_lt hw.1)
  intro j
  induction j with
  | zero =>
    intro s r w fuel I hj hfu hs h1 h2 ⟨e, he, hwe⟩ hn hI hr
    have := Nat.pow_le_pow_right (show 0 < 2 by decide) he
    omega
  | succ j ih =>
    intro s r w fuel I hj hfu hs h1 h2 ⟨e, he, hwe⟩ hn hI hr
    obtain ⟨n, rfl⟩ : ∃ n, fuel = n + 1 := ⟨fuel - 1, by omega⟩
    have hw16 : w ≤ 65536 := by
      rw [hwe]
      exact Nat.pow_le_pow_right (show 0 < 2 by decide) he
    have hM : ¬ (1000000 : Int32) ≤ nI (s + r - 1) := nI_ge (b := 1000000) (by omega) (by decide)
    have ls := lt s
    have lsr := lt (s + r)
    by_cases eq : it (eNx E m q) (s + r) = it (eNx E m q) s
    · refine ⟨nI (it (eNx E m q) s), nI (it (eNx E m q) (s + r)), nI w, nI (s + r - 1), I, ?_, hI, ?_⟩
      · unfold f_X5_findRing_18
        rw [if_neg hM, if_pos (congrArg nI eq)]
      · rw [hr, (ring_one hR h1 eq.symm hn).2]
    · have ne : ¬ nI (it (eNx E m q) (s + r)) = nI (it (eNx E m q) s) := fun z => eq ((nI_eq (by omega) (by omega)).mp z)
      have ei : nI (s + r - 1) + 1 = nI (s + r) := by rw [q_a1, show s + r - 1 + 1 = s + r by omega]
      by_cases hrw : r = w
      · obtain ⟨I', k1, k2⟩ := l_follow J hw ((hI.up (k := 13) (x := 0) (by omega)).g hc) ((hI.up (k := 13) (x := 0) (by omega)).f hf) lsr
        have hI' := (hI.up (k := 13) (x := 0) (by omega)).fo k2
        have h13 : I' 39 13 = 0 := by rw [k2 39 (by decide), zu_at, if_pos rfl]
        have e16 : e + 1 ≤ 16 := by
          by_cases c : e = 16
          · exfalso
            subst c
            have hw' : w = 65536 := hwe
            have hp := it_p hR (show mu ≤ s by omega)
            by_cases cl : lam < r
            · exact hn lam hR.1 cl hp.symm
            · have : lam = r := by omega
              subst this
              exact eq hp
          · omega
        obtain ⟨x, y, z, u, I'', a1, a2, a3⟩ := ih (s + r) 1 (w * 2) n (zu I' 39 13 1) (by omega) (by omega) (by omega) (by omega) (by omega) ⟨e + 1, e16, by rw [hwe, Nat.pow_succ]⟩ (fun t h1 h2 => absurd h2 (by omega)) (hI'.up (by omega)) (by rw [zu_at, if_pos rfl]; rfl)
        refine ⟨x, y, z, u, I'', ?_, a2, a3⟩
        unfold f_X5_findRing_18
        rw [if_neg hM, if_neg ne, if_pos (show I 39 13 = nI w by rw [hr, hrw]), k1, Option.bind_some]
        simp only [h13, ei, q_2r]
        exact a1
      · obtain ⟨I', k1, k2⟩ := l_follow J hw (hI.g hc) (hI.f hf) lsr
        have hI' := hI.fo k2
        have h13 : I' 39 13 = nI r := by rw [k2 39 (by decide)]; exact hr
        obtain ⟨x, y, z, u, I'', a1, a2, a3⟩ := ih s (r + 1) w n (zu I' 39 13 (nI (r + 1))) (by omega) (by omega) (by omega) (by omega) (by omega) ⟨e, he, hwe⟩ (fun t h3 h4 => by
          by_cases c : t = r
          · subst c
            exact fun z => eq z.symm
          · exact hn t h3 (by omega)) (hI'.up (by omega)) (by rw [zu_at, if_pos rfl])
        refine ⟨x, y, z, u, I'', ?_, a2, a3⟩
        unfold f_X5_findRing_18
        rw [if_neg hM, if_neg ne, if_neg (show ¬ I 39 13 = nI w from fun z => hrw ((nI_eq (by omega) (by omega)).mp (hr.symm.trans z))), k1, Option.bind_some]
        simp only [h13, ei, q_a1]
        exact a1
theorem l_findRing (J : zJ) {E I0 : zM} {m q mu lam : Nat} (hw : eW E m q) (hc : cG E I0) (hf : cF E m q I0) (hR : isRing (eNx E m q) mu lam) (hml : mu + lam ≤ 46656) : ∃ I', f_X5_findRing J I0 = some I' ∧ zRd I0 I' ∧ I' 39 13 = nI lam := by
  obtain ⟨I1, k1, k2⟩ := l_follow J (a := 0) hw hc hf (by decide)
  obtain ⟨x, y, z, u, I2, a1, a2, a3⟩ := l_br J hw hc hf hR hml 199999 0 1 1 zF (zu I1 39 13 1) (by omega) (by unfold zF; omega) (by omega) (by omega) (by omega) ⟨0, by omega, rfl⟩ (fun t h1 h2 => absurd h2 (by omega)) ((zRd.rf.fo k2).up (by omega)) (by rw [zu_at, if_pos rfl]; rfl)
  refine ⟨I2, ?_, a2, a3⟩
  have k1' : f_X5_follow J 0 I0 = _ := k1
  have a1' : f_X5_findRing_18 J zF 0 (nI (eNx E m q 0)) 1 0 (zu I1 39 13 1) = _ := a1
  unfold f_X5_findRing
  rw [k1', Option.bind_some]
  show (f_X5_findRing_18 J zF 0 (nI (eNx E m q 0)) 1 0 (zu I1 39 13 1)).bind _ = _
  rw [a1', Option.bind_some]
  rfl
theorem l_fr4 (J : zJ) {E I0 : zM} {m q mu lam : Nat} (hw : eW E m q) (hc : cG E I0) (hf : cF E m q I0) (hl : lam ≤ 46656) : ∀ j k fuel I, k + j = lam → j < fuel → zRd I0 I → I 39 13 = nI lam → ∃ y I', f_X5_findRounds_4 J fuel (nI (it (eNx E m q) k)) (nI k) I = some (.inr (nI (it (eNx E m q) lam), y, I')) ∧ zRd I0 I' ∧ I' 39 13 = nI lam := by
  have lt := it_lt (f := eNx E m q) (eNx_lt hw.1)
  intro j
  induction j with
  | zero =>
    intro k fuel I hk hfu hI hr
    obtain ⟨n, rfl⟩ : ∃ n, fuel = n + 1 := ⟨fuel - 1, by omega⟩
    have e : k = lam := by omega
    subst e
    refine ⟨nI k, I, ?_, hI, hr⟩
    unfold f_X5_findRounds_4
    rw [hr, if_pos (nI_le (Nat.le_refl _) (by omega))]
  | succ j ih =>
    intro k fuel I hk hfu hI hr
    obtain ⟨n, rfl⟩ : ∃ n, fuel = n + 1 := ⟨fuel - 1, by omega⟩
    obtain ⟨I', k1, k2⟩ := l_follow J hw (hI.g hc) (hI.f hf) (lt k)
    obtain ⟨y, I'', a1, a2, a3⟩ := ih (k + 1) n I' (by omega) (by omega) (hI.fo k2) (by rw [k2 39 (by decide)]; exact hr)
    refine ⟨y, I'', ?_, a2, a3⟩
    unfold f_X5_findRounds_4
    rw [hr, if_neg (nI_ge (by omega) (by omega)), k1, Option.bind_some, q_a1]
    exact a1
theorem l_fr33 (J : zJ) {E I0 : zM} {m q mu lam : Nat} (hw : eW E m q) (hc : cG E I0) (hf : cF E m q I0) (hR : isRing (eNx E m q) mu lam) (hml : mu + lam ≤ 46656) : ∀ j t fuel I, t + j = mu → j < fuel → zRd I0 I → I 39 13 = nI lam → I 39 12 = nI t → ∃ x u I', f_X5_findRounds_33 J fuel (nI (it (eNx E m q) (t + lam))) (nI (it (eNx E m q) t)) (nI t) I = some (.inr (x, nI (it (eNx E m q) mu), u, I')) ∧ zRd I0 I' ∧ I' 39 13 = nI lam ∧ I' 39 12 = nI mu := by
  have lt := it_lt (f := eNx E m q) (eNx_lt hw.1)
  intro j
  induction j with
  | zero =>
    intro t fuel I hk hfu hI hr ht
    obtain ⟨n, rfl⟩ : ∃ n, fuel = n + 1 := ⟨fuel - 1, by omega⟩
    have e : t = mu := by omega
    subst e
    refine ⟨nI (it (eNx E m q) (t + lam)), nI t, I, ?_, hI, hr, ht⟩
    unfold f_X5_findRounds_33
    rw [if_neg (show ¬ (1000000 : Int32) ≤ nI t from nI_ge (b := 1000000) (by omega) (by decide)), if_pos (congrArg nI hR.2.1.symm)]
  | succ j ih =>
    intro t fuel I hk hfu hI hr ht
    obtain ⟨n, rfl⟩ : ∃ n, fuel = n + 1 := ⟨fuel - 1, by omega⟩
    have l1 := lt t
    have l2 := lt (t + lam)
    have hl1 := hR.1
    have ne : ¬ nI (it (eNx E m q) t) = nI (it (eNx E m q) (t + lam)) := fun z => by
      have := (it_eq hR (show t < t + lam by omega) ((nI_eq (by omega) (by omega)).mp z)).1
      omega
    obtain ⟨I1, k1, k2⟩ := l_follow J hw (hI.g hc) (hI.f hf) l1
    obtain ⟨I2, k3, k4⟩ := l_follow J hw ((hI.fo k2).g hc) ((hI.fo k2).f hf) l2
    have h12 : I2 39 12 = nI t := by rw [k4 39 (by decide), k2 39 (by decide)]; exact ht
    have h13 : I2 39 13 = nI lam := by rw [k4 39 (by decide), k2 39 (by decide)]; exact hr
    obtain ⟨x, u, I', a1, a2, a3, a4⟩ := ih (t + 1) n (zu I2 39 12 (nI (t + 1))) (by omega) (by omega) (((hI.fo k2).fo k4).up (by omega)) (by rw [zu_at, if_neg (by decide)]; exact h13) (by rw [zu_at, if_pos rfl])
    refine ⟨x, u, I', ?_, a2, a3, a4⟩
    unfold f_X5_findRounds_33
    rw [if_neg (show ¬ (1000000 : Int32) ≤ nI t from nI_ge (b := 1000000) (by omega) (by decide)), if_neg ne, k1, Option.bind_some]
    simp only [k3, Option.bind_some, h12, q_a1]
    rw [show t + 1 + lam = (t + lam) + 1 by omega] at a1
    exact a1
theorem l_findRounds (J : zJ) {E I0 : zM} {m q mu lam : Nat} (hw : eW E m q) (hc : cG E I0) (hf : cF E m q I0) (hR : isRing (eNx E m q) mu lam) (hml : mu + lam ≤ 46656) (hr : I0 39 13 = nI lam) : ∃ I', f_X5_findRounds J I0 = some (nI (it (eNx E m q) mu), I') ∧ zRd I0 I' ∧ I' 39 13 = nI lam ∧ I' 39 12 = nI mu := by
  obtain ⟨y, I1, a1, a2, a3⟩ := l_fr4 J (mu := mu) (lam := lam) hw hc hf (by omega) lam 0 zF I0 (by omega) (by unfold zF; omega) zRd.rf hr
  obtain ⟨x, u, I2, b1, b2, b3, b4⟩ := l_fr33 J hw hc hf hR hml mu 0 zF (zu I1 39 12 0) (by omega) (by unfold zF; omega) (a2.up (by omega)) (by rw [zu_at, if_neg (by decide)]; exact a3) (by rw [zu_at, if_pos rfl]; rfl)
  refine ⟨I2, ?_, b2, b3, b4⟩
  have a1' : f_X5_findRounds_4 J zF 0 0 I0 = _ := a1
  rw [Nat.zero_add] at b1
  have b1' : f_X5_findRounds_33 J zF (nI (it (eNx E m q) lam)) 0 0 (zu I1 39 12 0) = _ := b1
  unfold f_X5_findRounds
  rw [a1', Option.bind_some]
  show (f_X5_findRounds_33 J zF (nI (it (eNx E m q) lam)) 0 0 (zu I1 39 12 0)).bind _ = _
  rw [b1', Option.bind_some]
  rfl
