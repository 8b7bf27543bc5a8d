/-! ===== the two programs' cells, side by side ===== -/
def qGap (I : zM) : Prop := (∀ k, k < 6 → I 2 k = I 148 k ∧ zrg (I 148 k) 0 5) ∧ (∀ k, k < 6 → I 149 k = zb (zbt (I 1 1) k)) ∧ (∀ k, k < 6 → I 3 k = I 150 k ∧ I 4 k = I 151 k ∧ (I 150 k = -9 ∨ zrg (I 150 k) 0 5))
def qTm (I : zM) : Prop := (I 5 0 = I 147 8 ∧ zrg (I 147 8) 1 5) ∧ (I 5 1 = I 147 9 ∧ zrg (I 147 9) 1 9) ∧ (I 5 2 = I 147 10 ∧ zrg (I 147 10) 51 100)
def qDo (I : zM) (d t o : Nat) (sz : Int32) (b bo : Nat) : Prop := ∃ m, m ≤ 24 ∧ I d 6 = nI m ∧ sz = nI m ∧ (∀ k f, k < 24 → f < 6 → I (d + 1 + f) k = I t (o + 6 * k + f)) ∧ (∀ k, k < m → zrg (I t (o + 6 * k)) 0 4 ∧ zrg (I t (o + 6 * k + 1)) 0 4 ∧ zrg (I t (o + 6 * k + 2)) 0 2 ∧ zrg (I t (o + 6 * k + 3)) 0 5 ∧ zrg (I t (o + 6 * k + 4)) 1 5) ∧ (∀ k, k < 24 → zrg (I t (o + 6 * k + 5)) 0 1) ∧ (∀ i, i < 15 → I b (bo + i) = zb (zbt (I d 7) i))
def qDoi (I : zM) : Prop := qDo I 6 152 0 (I 147 6) 153 0
def qKep (I : zM) : Prop := ∀ s, s < 2 → qDo I (75 + 8 * s) 166 (144 * s) (I 167 s) 168 (15 * s) ∧ I 15 s = I 169 s ∧ zrg (I 169 s) 0 1
def qTxt (I : zM) : Prop := ∃ m, m ≤ 24 ∧ I 16 1 = nI m ∧ I 147 12 = nI m ∧ ∀ k, k < m → I 17 k = I 154 k ∧ zrg (I 154 k) 0 255
def qRul (I : zM) (J : zJ) : Prop := ∃ m, m ≤ 12 ∧ I 18 1 = nI m ∧ I 147 15 = nI m ∧ ∀ r, r < m → (∀ f, f < 6 → I (zrp J r) f = I 155 (6 * r + f)) ∧ zrg (I 155 (6 * r + 1)) 0 5 ∧ (I 155 (6 * r + 3) = -9 ∨ zrg (I 155 (6 * r + 3)) 0 5)
def qOr (I : zM) (w : Nat) : Prop := ∃ m, 1 ≤ m ∧ m ≤ 5 ∧ I (91 + 2 * w) 1 = nI m ∧ I 158 w = nI m ∧ (∀ k, k < m → I (92 + 2 * w) k = I 157 (5 * w + k) ∧ zrg (I 157 (5 * w + k)) 0 4) ∧ ∀ i j, i < m → j < m → I 157 (5 * w + i) = I 157 (5 * w + j) → i = j
def qOrd (I : zM) : Prop := ∀ w, w < 4 → qOr I w
def qBa (I : zM) (i : Nat) : Prop := (I (99 + 6 * i) 0 = I 159 i ∧ zrg (I 159 i) 0 4) ∧ (I (99 + 6 * i) 1 = I 160 i ∧ zrg (I 160 i) 0 4) ∧ (I (99 + 6 * i) 2 = I 161 i ∧ zrg (I 161 i) 0 2) ∧ (∀ g, g < 6 → I (101 + 6 * i) g = I 162 (6 * i + g) ∧ zrg (I 162 (6 * i + g)) 0 5) ∧ (I (100 + 6 * i) 1 = I 163 i ∧ ∃ c, c < 8 ∧ I 163 i = nI (2 * c)) ∧ (∀ g, g < 6 → I (103 + 6 * i) g = I 164 (12 * i + g) ∧ zrg (I 164 (12 * i + g)) 0 5) ∧ (∀ g, g < 6 → I (104 + 6 * i) g = I 164 (12 * i + 6 + g) ∧ zrg (I 164 (12 * i + 6 + g)) 0 5)
def qBar (I : zM) : Prop := ∃ m, m ≤ 8 ∧ I 0 9 = nI m ∧ I 147 25 = nI m ∧ ∀ i, i < 8 → qBa I i
def qLaw (I : zM) : Prop := I 39 3 = -9 ∧ I 147 32 = -9
def qStp (n : Nat) (I : zM) : Prop := ∃ m, m ≤ 300 * n ∧ I 147 39 = nI m ∧ ∀ k, k < 46656 → ∃ s, s ≤ m ∧ I 173 k = nI s
theorem qGap_cg {I I' : zM} (h : zS I I' 1 5) (h2 : zS I I' 148 152) (q : qGap I) : qGap I' := by
  unfold qGap at q ⊢
  rw [h 1 (by decide) (by decide), h 2 (by decide) (by decide), h 3 (by decide) (by decide), h 4 (by decide) (by decide), h2 148 (by decide) (by decide), h2 149 (by decide) (by decide), h2 150 (by decide) (by decide), h2 151 (by decide) (by decide)]
  exact q
theorem qTm_cg {I I' : zM} (h : zS I I' 5 6) (h8 : I' 147 8 = I 147 8) (h9 : I' 147 9 = I 147 9) (h10 : I' 147 10 = I 147 10) (q : qTm I) : qTm I' := by
  unfold qTm at q ⊢
  rw [h 5 (by decide) (by decide), h8, h9, h10]
  exact q
theorem qDo_cg {I I' : zM} {d t o b bo : Nat} {sz sz' : Int32} (h : zS I I' d (d + 7)) (ht : ∀ j, o ≤ j → j < o + 144 → I' t j = I t j) (hs : sz' = sz) (hb : ∀ i, i < 15 → I' b (bo + i) = I b (bo + i)) (q : qDo I d t o sz b bo) : qDo I' d t o sz' b bo := by
  obtain ⟨m, h1, h2, h3, h4, h5, h6, h7⟩ := q
  refine ⟨m, h1, by rw [h d (by omega) (by omega)]; exact h2, by rw [hs]; exact h3, fun k f hk hf => ?_, fun k hk => ?_, fun k hk => ?_, fun i hi => ?_⟩
  · rw [h (d + 1 + f) (by omega) (by omega), ht _ (by omega) (by omega)]
    exact h4 k f hk hf
  · rw [ht (o + 6 * k) (by omega) (by omega), ht (o + 6 * k + 1) (by omega) (by omega), ht (o + 6 * k + 2) (by omega) (by omega), ht (o + 6 * k + 3) (by omega) (by omega), ht (o + 6 * k + 4) (by omega) (by omega)]
    exact h5 k hk
  · rw [ht (o + 6 * k + 5) (by omega) (by omega)]
    exact h6 k hk
  · rw [hb i hi, h d (by omega) (by omega)]
    exact h7 i hi
theorem qDoi_cg {I I' : zM} (h : zS I I' 6 13) (h2 : zS I I' 152 154) (h6 : I' 147 6 = I 147 6) (q : qDoi I) : qDoi I' := qDo_cg h (fun j _ _ => by rw [h2 152 (by decide) (by decide)]) h6 (fun i _ => by rw [h2 153 (by decide) (by decide)]) q
theorem qKep_cg {I I' : zM} (h : zS I I' 75 91) (h15 : zS I I' 15 16) (h6 : ∀ j, j < 288 → I' 166 j = I 166 j) (h7 : ∀ s, s < 2 → I' 167 s = I 167 s) (h8 : ∀ j, j < 30 → I' 168 j = I 168 j) (h9 : zS I I' 169 170) (q : qKep I) : qKep I' := by
  intro s hs
  obtain ⟨q1, q2, q3⟩ := q s hs
  refine ⟨qDo_cg (h.sub (by omega) (by omega)) (fun j _ _ => h6 j (by omega)) (h7 s hs) (fun i _ => h8 _ (by omega)) q1, ?_, ?_⟩
  · rw [h15 15 (by decide) (by decide), h9 169 (by decide) (by decide)]
    exact q2
  · rw [h9 169 (by decide) (by decide)]
    exact q3
theorem qTxt_cg {I I' : zM} (h : zS I I' 16 18) (h2 : zS I I' 154 155) (h12 : I' 147 12 = I 147 12) (q : qTxt I) : qTxt I' := by
  unfold qTxt at q ⊢
  rw [h 16 (by decide) (by decide), h 17 (by decide) (by decide), h2 154 (by decide) (by decide), h12]
  exact q
theorem qRul_cg {I I' : zM} {J : zJ} (hJ : zJok J) (h : zS I I' 18 33) (h2 : zS I I' 155 156) (h15 : I' 147 15 = I 147 15) (q : qRul I J) : qRul I' J := by
  obtain ⟨m, h3, h4, h5, h6⟩ := q
  refine ⟨m, h3, by rw [h 18 (by decide) (by decide)]; exact h4, by rw [h15]; exact h5, fun r hr => ?_⟩
  obtain ⟨-, g2, g3⟩ := hJ.2 r (by omega)
  rw [h (zrp J r) (by omega) (by omega), h2 155 (by decide) (by decide)]
  exact h6 r hr
theorem qOrd_cg {I I' : zM} (h : zS I I' 91 99) (h7 : ∀ j, j < 20 → I' 157 j = I 157 j) (h8 : ∀ j, j < 4 → I' 158 j = I 158 j) (q : qOrd I) : qOrd I' := by
  intro w hw
  obtain ⟨m, h1, h2, h3, h4, h5, h6⟩ := q w hw
  refine ⟨m, h1, h2, by rw [h (91 + 2 * w) (by omega) (by omega)]; exact h3, by rw [h8 w hw]; exact h4, fun k hk => ?_, fun i j hi hj => ?_⟩
  · rw [h (92 + 2 * w) (by omega) (by omega), h7 _ (by omega)]
    exact h5 k hk
  · rw [h7 _ (by omega), h7 _ (by omega)]
    exact h6 i j hi hj
theorem qBa_cg {I I' : zM} {i : Nat} (h : zS I I' (99 + 6 * i) (105 + 6 * i)) (h1 : I' 159 i = I 159 i) (h2 : I' 160 i = I 160 i) (h3 : I' 161 i = I 161 i) (h4 : ∀ g, g < 6 → I' 162 (6 * i + g) = I 162 (6 * i + g)) (h5 : I' 163 i = I 163 i) (h6 : ∀ g, g < 12 → I' 164 (12 * i + g) = I 164 (12 * i + g)) (q : qBa I i) : qBa I' i := by
  obtain ⟨q1, q2, q3, q4, q5, q6, q7⟩ := q
  refine ⟨?_, ?_, ?_, fun g hg => ?_, ?_, fun g hg => ?_, fun g hg => ?_⟩
  · rw [h (99 + 6 * i) (by omega) (by omega), h1]; exact q1
  · rw [h (99 + 6 * i) (by omega) (by omega), h2]; exact q2
  · rw [h (99 + 6 * i) (by omega) (by omega), h3]; exact q3
  · rw [h (101 + 6 * i) (by omega) (by omega), h4 g hg]; exact q4 g hg
  · rw [h (100 + 6 * i) (by omega) (by omega), h5]; exact q5
  · rw [h (103 + 6 * i) (by omega) (by omega), h6 g (by omega)]; exact q6 g hg
  · have e := h6 (6 + g) (by omega)
    rw [← Nat.add_assoc] at e
    rw [h (104 + 6 * i) (by omega) (by omega), e]; exact q7 g hg
theorem qBar_cg {I I' : zM} (h0 : zS I I' 0 1) (h : zS I I' 99 147) (h2 : zS I I' 159 165) (h25 : I' 147 25 = I 147 25) (q : qBar I) : qBar I' := by
  obtain ⟨m, g1, g2, g3, g4⟩ := q
  exact ⟨m, g1, by rw [h0 0 (by decide) (by decide)]; exact g2, by rw [h25]; exact g3, fun i hi => qBa_cg (h.sub (by omega) (by omega)) (by rw [h2 159 (by decide) (by decide)]) (by rw [h2 160 (by decide) (by decide)]) (by rw [h2 161 (by decide) (by decide)]) (fun g _ => by rw [h2 162 (by decide) (by decide)]) (by rw [h2 163 (by decide) (by decide)]) (fun g _ => by rw [h2 164 (by decide) (by decide)]) (g4 i hi)⟩
theorem qLaw_cg {I I' : zM} (h : I' 39 3 = I 39 3) (h2 : I' 147 32 = I 147 32) (q : qLaw I) : qLaw I' := ⟨h.trans q.1, h2.trans q.2⟩
theorem qStp_cg {n : Nat} {I I' : zM} (h : I' 147 39 = I 147 39) (h2 : zS I I' 173 174) (q : qStp n I) : qStp (n + 1) I' := by
  obtain ⟨m, g1, g2, g3⟩ := q
  refine ⟨m, by omega, h.trans g2, fun k hk => ?_⟩
  rw [h2 173 (by decide) (by decide)]
  exact g3 k hk
def zInv (n : Nat) (I : zM) (J : zJ) : Prop := (zJok J) ∧ (∀ r s, r < 13 → s < 13 → zrp J r = zrp J s → r = s) ∧ (qGap I) ∧ (qTm I) ∧ (qDoi I) ∧ (qKep I) ∧ (qTxt I) ∧ (qRul I J) ∧ (qOrd I) ∧ (qBar I) ∧ (qLaw I) ∧ (qStp n I)
theorem zInv.jok {n : Nat} {I : zM} {J : zJ} (h : zInv n I J) : zJok J := h.1
theorem zInv.jin {n : Nat} {I : zM} {J : zJ} (h : zInv n I J) : ∀ r s, r < 13 → s < 13 → zrp J r = zrp J s → r = s := h.2.1
theorem zInv.gap {n : Nat} {I : zM} {J : zJ} (h : zInv n I J) : qGap I := h.2.2.1
theorem zInv.tm {n : Nat} {I : zM} {J : zJ} (h : zInv n I J) : qTm I := h.2.2.2.1
theorem zInv.doi {n : Nat} {I : zM} {J : zJ} (h : zInv n I J) : qDoi I := h.2.2.2.2.1
theorem zInv.kep {n : Nat} {I : zM} {J : zJ} (h : zInv n I J) : qKep I := h.2.2.2.2.2.1
theorem zInv.txt {n : Nat} {I : zM} {J : zJ} (h : zInv n I J) : qTxt I := h.2.2.2.2.2.2.1
theorem zInv.rul {n : Nat} {I : zM} {J : zJ} (h : zInv n I J) : qRul I J := h.2.2.2.2.2.2.2.1
theorem zInv.ord {n : Nat} {I : zM} {J : zJ} (h : zInv n I J) : qOrd I := h.2.2.2.2.2.2.2.2.1
theorem zInv.bar {n : Nat} {I : zM} {J : zJ} (h : zInv n I J) : qBar I := h.2.2.2.2.2.2.2.2.2.1
theorem zInv.law {n : Nat} {I : zM} {J : zJ} (h : zInv n I J) : qLaw I := h.2.2.2.2.2.2.2.2.2.2.1
theorem zInv.stp {n : Nat} {I : zM} {J : zJ} (h : zInv n I J) : qStp n I := h.2.2.2.2.2.2.2.2.2.2.2
theorem zInv_mk {n : Nat} {I : zM} {J : zJ} (qjok : zJok J) (qjin : ∀ r s, r < 13 → s < 13 → zrp J r = zrp J s → r = s) (qgap : qGap I) (qtm : qTm I) (qdoi : qDoi I) (qkep : qKep I) (qtxt : qTxt I) (qrul : qRul I J) (qord : qOrd I) (qbar : qBar I) (qlaw : qLaw I) (qstp : qStp n I) : zInv n I J := ⟨qjok, qjin, qgap, qtm, qdoi, qkep, qtxt, qrul, qord, qbar, qlaw, qstp⟩
theorem zInv_up {n : Nat} {I : zM} {J : zJ} (h : zInv n I J) : zInv (n + 1) I J := zInv_mk h.jok h.jin h.gap h.tm h.doi h.kep h.txt h.rul h.ord h.bar h.law (qStp_cg rfl zS.rf h.stp)
theorem zInv_thrown {n : Nat} {I : zM} {J : zJ} (hv : zInv n I J) : zInv (n + 1) (zu I 147 0 0) J := (zInv_mk hv.jok hv.jin (qGap_cg (I := I) ((zS.zu (by omega) zS.rf)) ((zS.zu (by omega) zS.rf)) hv.gap) (qTm_cg (I := I) ((zS.zu (by omega) zS.rf)) rfl rfl rfl hv.tm) (qDoi_cg (I := I) ((zS.zu (by omega) zS.rf)) ((zS.zu (by omega) zS.rf)) rfl hv.doi) (qKep_cg (I := I) ((zS.zu (by omega) zS.rf)) ((zS.zu (by omega) zS.rf)) (fun _ _ => rfl) (fun _ _ => rfl) (fun _ _ => rfl) ((zS.zu (by omega) zS.rf)) hv.kep) (qTxt_cg (I := I) ((zS.zu (by omega) zS.rf)) ((zS.zu (by omega) zS.rf)) rfl hv.txt) (qRul_cg (I := I) hv.jok ((zS.zu (by omega) zS.rf)) ((zS.zu (by omega) zS.rf)) rfl hv.rul) (qOrd_cg (I := I) ((zS.zu (by omega) zS.rf)) (fun _ _ => rfl) (fun _ _ => rfl) hv.ord) (qBar_cg (I := I) ((zS.zu (by omega) zS.rf)) ((zS.zu (by omega) zS.rf)) ((zS.zu (by omega) zS.rf)) rfl hv.bar) (qLaw_cg (I := I) rfl rfl hv.law) (qStp_cg (I := I) rfl ((zS.zu (by omega) zS.rf)) hv.stp))
theorem q_gap : zS_gap zInv := by
  intro n I J v1 v2 hn hv
  by_cases h1 : zrg v1 0 5
  · obtain ⟨j, -, hj, rfl⟩ := zrg_nI h1 (by decide)
    have zj : zin (nI j) 6 = true := zin_nI (by omega) (by decide)
    have cj : Int32.toNatClampNeg (nI j) = j := nI_clamp (by omega)
    by_cases h2 : zrg v2 0 5
    · obtain ⟨g1, g2, g3⟩ := hv.gap
      have c1 : ¬ v2 < 0 := zrg_lo h2
      have c2 : v2 ≤ 5 := zrg_hi h2 (by decide)
      have e1 : f_X11_gap J (nI j) v2 I = some (I 2 j, zu I 2 j v2) := by
        simp only [f_X11_gap, l_isGap, Option.bind_some, zb_eq0, zb_eq1, not_true_eq_false, not_false_eq_true, Classical.not_not, ↓reduceIte, h1, c1, c2, zj, cj]
      have e2 : f_X12_gap J (nI j) v2 (zu I 2 j v2) = some (I 148 j, zu (zu (zu I 2 j v2) 147 0 0) 148 j v2) := by
        simp only [f_X12_gap, l_noGap, l_in_0_5, Option.bind_some, zb_eq0, zb_eq1, not_true_eq_false, not_false_eq_true, Classical.not_not, ↓reduceIte, h1, h2, zj, cj]
        rfl
      rw [← (g1 j (by omega)).1] at e2
      refine ⟨_, _, _, e1, e2, ?_⟩
      refine (zInv_mk hv.jok hv.jin (⟨fun k hk => ?_, g2, g3⟩) (qTm_cg (I := I) ((zS.zu (by omega) (zS.zu (by omega) (zS.zu (by omega) zS.rf)))) rfl rfl rfl hv.tm) (qDoi_cg (I := I) ((zS.zu (by omega) (zS.zu (by omega) (zS.zu (by omega) zS.rf)))) ((zS.zu (by omega) (zS.zu (by omega) (zS.zu (by omega) zS.rf)))) rfl hv.doi) (qKep_cg (I := I) ((zS.zu (by omega) (zS.zu (by omega) (zS.zu (by omega) zS.rf)))) ((zS.zu (by omega) (zS.zu (by omega) (zS.zu (by omega) zS.rf)))) (fun _ _ => rfl) (fun _ _ => rfl) (fun _ _ => rfl) ((zS.zu (by omega) (zS.zu (by omega) (zS.zu (by omega) zS.rf)))) hv.kep) (qTxt_cg (I := I) ((zS.zu (by omega) (zS.zu (by omega) (zS.zu (by omega) zS.rf)))) ((zS.zu (by omega) (zS.zu (by omega) (zS.zu (by omega) zS.rf)))) rfl hv.txt) (qRul_cg (I := I) hv.jok ((zS.zu (by omega) (zS.zu (by omega) (zS.zu (by omega) zS.rf)))) ((zS.zu (by omega) (zS.zu (by omega) (zS.zu (by omega) zS.rf)))) rfl hv.rul) (qOrd_cg (I := I) ((zS.zu (by omega) (zS.zu (by omega) (zS.zu (by omega) zS.rf)))) (fun _ _ => rfl) (fun _ _ => rfl) hv.ord) (qBar_cg (I := I) ((zS.zu (by omega) (zS.zu (by omega) (zS.zu (by omega) zS.rf)))) ((zS.zu (by omega) (zS.zu (by omega) (zS.zu (by omega) zS.rf)))) ((zS.zu (by omega) (zS.zu (by omega) (zS.zu (by omega) zS.rf)))) rfl hv.bar) (qLaw_cg (I := I) rfl rfl hv.law) (qStp_cg (I := I) rfl ((zS.zu (by omega) (zS.zu (by omega) (zS.zu (by omega) zS.rf)))) hv.stp))
      show zu I 2 j v2 2 k = zu _ 148 j v2 148 k ∧ zrg (zu _ 148 j v2 148 k) 0 5
      rw [zu_at, zu_at]
      by_cases e : k = j
      · rw [if_pos e, if_pos e]
        exact ⟨rfl, h2⟩
      · rw [if_neg e, if_neg e]
        exact g1 k hk
    · have e1 : f_X11_gap J (nI j) v2 I = some (-2, I) := by
        simp only [f_X11_gap, l_isGap, Option.bind_some, zb_eq0, zb_eq1, not_true_eq_false, not_false_eq_true, Classical.not_not, ↓reduceIte, h1]
        by_cases c : v2 < 0
        · rw [if_pos c]
        · rw [if_neg c, if_neg (fun c2 : v2 ≤ 5 => h2 (by simp only [zrg, Int32.lt_iff_toInt_lt, Int32.le_iff_toInt_le, tl_0, tl_1, tl_2, tl_3, tl_4, tl_5, tl_6, tl_8, tl_9, tl_24, tl_51, tl_60, tl_99, tl_100, tl_46655, tl_46656] at c c2 ⊢; omega))]
      have e2 : f_X12_gap J (nI j) v2 I = some (-2, zu I 147 0 0) := by
        simp only [f_X12_gap, l_noGap, l_in_0_5, Option.bind_some, zb_eq0, zb_eq1, not_true_eq_false, not_false_eq_true, Classical.not_not, ↓reduceIte, h1, h2]
      exact ⟨_, _, _, e1, e2, zInv_thrown hv⟩
  · have e1 : f_X11_gap J v1 v2 I = some (-1, I) := by
      simp only [f_X11_gap, l_isGap, Option.bind_some, zb_eq0, zb_eq1, not_true_eq_false, not_false_eq_true, Classical.not_not, ↓reduceIte, h1]
    have e2 : f_X12_gap J v1 v2 I = some (-1, zu I 147 0 0) := by
      simp only [f_X12_gap, l_noGap, Option.bind_some, zb_eq0, zb_eq1, not_true_eq_false, not_false_eq_true, Classical.not_not, ↓reduceIte, h1]
    exact ⟨_, _, _, e1, e2, zInv_thrown hv⟩
theorem nar01 {v : Int32} (h : v = 0 ∨ v = 1) : vp_nar .boolean v = v := by
  rcases h with rfl | rfl <;> decide +kernel
theorem zb_self {v : Int32} (h : v = 0 ∨ v = 1) : v = zb (¬ v = 0) := by
  rcases h with rfl | rfl
  · exact zb_f (fun q => q rfl)
  · exact zb_t (by decide)
theorem zwb_zb {x : Int32} {j k : Nat} {P : Prop} (hj : j < 32) (hk : k < 32) : zb (zbt (zwb x j P) k) = if k = j then zb P else zb (zbt x k) := by
  rw [zb_cg (zwb_bit hj hk)]
  by_cases e : k = j
  · rw [if_pos e, if_pos e]
  · rw [if_neg e, if_neg e]
theorem q_need : zS_need zInv := by
  intro n I J v1 v2 hb hn hv
  by_cases h1 : zrg v1 0 5
  · obtain ⟨j, -, hj, rfl⟩ := zrg_nI h1 (by decide)
    have zj : zin (nI j) 6 = true := zin_nI (by omega) (by decide)
    have cj : Int32.toNatClampNeg (nI j) = j := nI_clamp (by omega)
    obtain ⟨g1, g2, g3⟩ := hv.gap
    have e1 : f_X11_need J (nI j) v2 I = some (zb (zbt (I 1 1) j), zu I 1 1 (zwb (I 1 1) j (¬ v2 = 0))) := by
      simp only [f_X11_need, l_isGap, l_bit J _ _ (show j < 32 by omega), l_withBit J _ _ _ (show j < 32 by omega), Option.bind_some, zb_eq0, zb_eq1, not_true_eq_false, not_false_eq_true, Classical.not_not, ↓reduceIte, h1]
    have e0 : (zu (zu I 1 1 (zwb (I 1 1) j (¬ v2 = 0))) 147 0 0) 149 j = zb (zbt (I 1 1) j) := g2 j (by omega)
    have e2 : f_X12_need J (nI j) v2 (zu I 1 1 (zwb (I 1 1) j (¬ v2 = 0))) = some (zb (zbt (I 1 1) j), zu (zu (zu I 1 1 (zwb (I 1 1) j (¬ v2 = 0))) 147 0 0) 149 j v2) := by
      simp only [f_X12_need, l_noGap, Option.bind_some, zb_eq0, zb_eq1, not_true_eq_false, not_false_eq_true, Classical.not_not, ↓reduceIte, h1, zj, cj, nar01 hb]
      rw [e0]
      by_cases hq : zbt (I 1 1) j
      · rw [if_neg (fun q => zb_eq0.mp q hq), ← zb_t hq]
      · rw [if_pos (zb_eq0.mpr hq), ← zb_f hq]
    refine ⟨_, _, _, e1, e2, ?_⟩
    refine (zInv_mk hv.jok hv.jin (⟨g1, fun k hk => ?_, g3⟩) (qTm_cg (I := I) ((zS.zu (by omega) (zS.zu (by omega) (zS.zu (by omega) zS.rf)))) rfl rfl rfl hv.tm) (qDoi_cg (I := I) ((zS.zu (by omega) (zS.zu (by omega) (zS.zu (by omega) zS.rf)))) ((zS.zu (by omega) (zS.zu (by omega) (zS.zu (by omega) zS.rf)))) rfl hv.doi) (qKep_cg (I := I) ((zS.zu (by omega) (zS.zu (by omega) (zS.zu (by omega) zS.rf)))) ((zS.zu (by omega) (zS.zu (by omega) (zS.zu (by omega) zS.rf)))) (fun _ _ => rfl) (fun _ _ => rfl) (fun _ _ => rfl) ((zS.zu (by omega) (zS.zu (by omega) (zS.zu (by omega) zS.rf)))) hv.kep) (qTxt_cg (I := I) ((zS.zu (by omega) (zS.zu (by omega) (zS.zu (by omega) zS.rf)))) ((zS.zu (by omega) (zS.zu (by omega) (zS.zu (by omega) zS.rf)))) rfl hv.txt) (qRul_cg (I := I) hv.jok ((zS.zu (by omega) (zS.zu (by omega) (zS.zu (by omega) zS.rf)))) ((zS.zu (by omega) (zS.zu (by omega) (zS.zu (by omega) zS.rf)))) rfl hv.rul) (qOrd_cg (I := I) ((zS.zu (by omega) (zS.zu (by omega) (zS.zu (by omega) zS.rf)))) (fun _ _ => rfl) (fun _ _ => rfl) hv.ord) (qBar_cg (I := I) ((zS.zu (by omega) (zS.zu (by omega) (zS.zu (by omega) zS.rf)))) ((zS.zu (by omega) (zS.zu (by omega) (zS.zu (by omega) zS.rf)))) ((zS.zu (by omega) (zS.zu (by omega) (zS.zu (by omega) zS.rf)))) rfl hv.bar) (qLaw_cg (I := I) rfl rfl hv.law) (qStp_cg (I := I) rfl ((zS.zu (by omega) (zS.zu (by omega) (zS.zu (by omega) zS.rf)))) hv.stp))
    show zu _ 149 j v2 149 k = zb (zbt (zwb (I 1 1) j (¬ v2 = 0)) k)
    rw [zu_at, zwb_zb (by omega) (by omega)]
    by_cases e : k = j
    · rw [if_pos e, if_pos e]
      exact zb_self hb
    · rw [if_neg e, if_neg e]
      exact g2 k hk
  · have e1 : f_X11_need J v1 v2 I = some (-1, I) := by
      simp only [f_X11_need, l_isGap, Option.bind_some, zb_eq0, zb_eq1, not_true_eq_false, not_false_eq_true, Classical.not_not, ↓reduceIte, h1]
    have e2 : f_X12_need J v1 v2 I = some (-1, zu I 147 0 0) := by
      simp only [f_X12_need, l_noGap, Option.bind_some, zb_eq0, zb_eq1, not_true_eq_false, not_false_eq_true, Classical.not_not, ↓reduceIte, h1]
    exact ⟨_, _, _, e1, e2, zInv_thrown hv⟩
theorem q_hang : zS_hang zInv := by
  intro n I J v1 v2 v3 hn hv
  by_cases h1 : zrg v1 0 5
  · obtain ⟨j, -, hj, rfl⟩ := zrg_nI h1 (by decide)
    have zj : zin (nI j) 6 = true := zin_nI (by omega) (by decide)
    have cj : Int32.toNatClampNeg (nI j) = j := nI_clamp (by omega)
    obtain ⟨g1, g2, g3⟩ := hv.gap
    by_cases ha : v2 = -9
    · have hne : ¬ v2 = nI j := by
        intro e
        rw [ha] at e
        have e' := congrArg Int32.toInt e
        rw [ztn _ (by omega)] at e'
        exact absurd e' (by show ¬ ((-9 : Int) = j); omega)
      have ho : v2 = -9 ∨ zrg v2 0 5 := Or.inl ha
      have e1 : f_X11_hang J (nI j) v2 v3 I = some (I 3 j, zu (zu I 3 j v2) 4 j v3) := by
        simp only [f_X11_hang, l_isGap, l_isValue, Option.bind_some, zb_eq0, zb_eq1, not_true_eq_false, not_false_eq_true, Classical.not_not, ↓reduceIte, h1, zj, cj, hne, eq_true ha]
      have e2 : f_X12_hang J (nI j) v2 v3 (zu (zu I 3 j v2) 4 j v3) = some (I 150 j, zu (zu (zu (zu (zu I 3 j v2) 4 j v3) 147 0 0) 150 j v2) 151 j v3) := by
        simp only [f_X12_hang, l_noGap, l_in_1_5, Option.bind_some, zb_eq0, zb_eq1, not_true_eq_false, not_false_eq_true, Classical.not_not, ↓reduceIte, h1, zj, cj, hne, eq_true ha]
        rfl
      rw [← (g3 j (by omega)).1] at e2
      refine ⟨_, _, _, e1, e2, ?_⟩
      refine (zInv_mk hv.jok hv.jin (⟨g1, g2, fun k hk => ?_⟩) (qTm_cg (I := I) ((zS.zu (by omega) (zS.zu (by omega) (zS.zu (by omega) (zS.zu (by omega) (zS.zu (by omega) zS.rf)))))) rfl rfl rfl hv.tm) (qDoi_cg (I := I) ((zS.zu (by omega) (zS.zu (by omega) (zS.zu (by omega) (zS.zu (by omega) (zS.zu (by omega) zS.rf)))))) ((zS.zu (by omega) (zS.zu (by omega) (zS.zu (by omega) (zS.zu (by omega) (zS.zu (by omega) zS.rf)))))) rfl hv.doi) (qKep_cg (I := I) ((zS.zu (by omega) (zS.zu (by omega) (zS.zu (by omega) (zS.zu (by omega) (zS.zu (by omega) zS.rf)))))) ((zS.zu (by omega) (zS.zu (by omega) (zS.zu (by omega) (zS.zu (by omega) (zS.zu (by omega) zS.rf)))))) (fun _ _ => rfl) (fun _ _ => rfl) (fun _ _ => rfl) ((zS.zu (by omega) (zS.zu (by omega) (zS.zu (by omega) (zS.zu (by omega) (zS.zu (by omega) zS.rf)))))) hv.kep) (qTxt_cg (I := I) ((zS.zu (by omega) (zS.zu (by omega) (zS.zu (by omega) (zS.zu (by omega) (zS.zu (by omega) zS.rf)))))) ((zS.zu (by omega) (zS.zu (by omega) (zS.zu (by omega) (zS.zu (by omega) (zS.zu (by omega) zS.rf)))))) rfl hv.txt) (qRul_cg (I := I) hv.jok ((zS.zu (by omega) (zS.zu (by omega) (zS.zu (by omega) (zS.zu (by omega) (zS.zu (by omega) zS.rf)))))) ((zS.zu (by omega) (zS.zu (by omega) (zS.zu (by omega) (zS.zu (by omega) (zS.zu (by omega) zS.rf)))))) rfl hv.rul) (qOrd_cg (I := I) ((zS.zu (by omega) (zS.zu (by omega) (zS.zu (by omega) (zS.zu (by omega) (zS.zu (by omega) zS.rf)))))) (fun _ _ => rfl) (fun _ _ => rfl) hv.ord) (qBar_cg (I := I) ((zS.zu (by omega) (zS.zu (by omega) (zS.zu (by omega) (zS.zu (by omega) (zS.zu (by omega) zS.rf)))))) ((zS.zu (by omega) (zS.zu (by omega) (zS.zu (by omega) (zS.zu (by omega) (zS.zu (by omega) zS.rf)))))) ((zS.zu (by omega) (zS.zu (by omega) (zS.zu (by omega) (zS.zu (by omega) (zS.zu (by omega) zS.rf)))))) rfl hv.bar) (qLaw_cg (I := I) rfl rfl hv.law) (qStp_cg (I := I) rfl ((zS.zu (by omega) (zS.zu (by omega) (zS.zu (by omega) (zS.zu (by omega) (zS.zu (by omega) zS.rf)))))) hv.stp))
      show zu _ 3 j v2 3 k = zu _ 150 j v2 150 k ∧ zu _ 4 j v3 4 k = zu _ 151 j v3 151 k ∧ (zu _ 150 j v2 150 k = -9 ∨ zrg (zu _ 150 j v2 150 k) 0 5)
      rw [zu_at, zu_at, zu_at, zu_at]
      by_cases e : k = j
      · rw [if_pos e, if_pos e, if_pos e, if_pos e]
        exact ⟨rfl, rfl, ho⟩
      · rw [if_neg e, if_neg e, if_neg e, if_neg e]
        exact g3 k hk
    · by_cases hg : zrg v2 0 5
      · have ho : v2 = -9 ∨ zrg v2 0 5 := Or.inr hg
        by_cases hw : zrg v3 1 5
        · by_cases he : v2 = nI j
          · have e1 : f_X11_hang J (nI j) v2 v3 I = some (-3, I) := by
              simp only [f_X11_hang, l_isGap, l_isValue, Option.bind_some, zb_eq0, zb_eq1, not_true_eq_false, not_false_eq_true, Classical.not_not, ↓reduceIte, h1, ha, hg, hw, eq_true he, zj]
            have e2 : f_X12_hang J (nI j) v2 v3 I = some (-3, zu I 147 0 0) := by
              simp only [f_X12_hang, l_noGap, l_in_1_5, Option.bind_some, zb_eq0, zb_eq1, not_true_eq_false, not_false_eq_true, Classical.not_not, ↓reduceIte, h1, ha, hg, hw, eq_true he, zj]
            exact ⟨_, _, _, e1, e2, zInv_thrown hv⟩
          · have e1 : f_X11_hang J (nI j) v2 v3 I = some (I 3 j, zu (zu I 3 j v2) 4 j v3) := by
              simp only [f_X11_hang, l_isGap, l_isValue, Option.bind_some, zb_eq0, zb_eq1, not_true_eq_false, not_false_eq_true, Classical.not_not, ↓reduceIte, h1, zj, cj, ha, hg, hw, he]
            have e2 : f_X12_hang J (nI j) v2 v3 (zu (zu I 3 j v2) 4 j v3) = some (I 150 j, zu (zu (zu (zu (zu I 3 j v2) 4 j v3) 147 0 0) 150 j v2) 151 j v3) := by
              simp only [f_X12_hang, l_noGap, l_in_1_5, Option.bind_some, zb_eq0, zb_eq1, not_true_eq_false, not_false_eq_true, Classical.not_not, ↓reduceIte, h1, zj, cj, ha, hg, hw, he]
              rfl
            rw [← (g3 j (by omega)).1] at e2
            refine ⟨_, _, _, e1, e2, ?_⟩
            refine (zInv_mk hv.jok hv.jin (⟨g1, g2, fun k hk => ?_⟩) (qTm_cg (I := I) ((zS.zu (by omega) (zS.zu (by omega) (zS.zu (by omega) (zS.zu (by omega) (zS.zu (by omega) zS.rf)))))) rfl rfl rfl hv.tm) (qDoi_cg (I := I) ((zS.zu (by omega) (zS.zu (by omega) (zS.zu (by omega) (zS.zu (by omega) (zS.zu (by omega) zS.rf)))))) ((zS.zu (by omega) (zS.zu (by omega) (zS.zu (by omega) (zS.zu (by omega) (zS.zu (by omega) zS.rf)))))) rfl hv.doi) (qKep_cg (I := I) ((zS.zu (by omega) (zS.zu (by omega) (zS.zu (by omega) (zS.zu (by omega) (zS.zu (by omega) zS.rf)))))) ((zS.zu (by omega) (zS.zu (by omega) (zS.zu (by omega) (zS.zu (by omega) (zS.zu (by omega) zS.rf)))))) (fun _ _ => rfl) (fun _ _ => rfl) (fun _ _ => rfl) ((zS.zu (by omega) (zS.zu (by omega) (zS.zu (by omega) (zS.zu (by omega) (zS.zu (by omega) zS.rf)))))) hv.kep) (qTxt_cg (I := I) ((zS.zu (by omega) (zS.zu (by omega) (zS.zu (by omega) (zS.zu (by omega) (zS.zu (by omega) zS.rf)))))) ((zS.zu (by omega) (zS.zu (by omega) (zS.zu (by omega) (zS.zu (by omega) (zS.zu (by omega) zS.rf)))))) rfl hv.txt) (qRul_cg (I := I) hv.jok ((zS.zu (by omega) (zS.zu (by omega) (zS.zu (by omega) (zS.zu (by omega) (zS.zu (by omega) zS.rf)))))) ((zS.zu (by omega) (zS.zu (by omega) (zS.zu (by omega) (zS.zu (by omega) (zS.zu (by omega) zS.rf)))))) rfl hv.rul) (qOrd_cg (I := I) ((zS.zu (by omega) (zS.zu (by omega) (zS.zu (by omega) (zS.zu (by omega) (zS.zu (by omega) zS.rf)))))) (fun _ _ => rfl) (fun _ _ => rfl) hv.ord) (qBar_cg (I := I) ((zS.zu (by omega) (zS.zu (by omega) (zS.zu (by omega) (zS.zu (by omega) (zS.zu (by omega) zS.rf)))))) ((zS.zu (by omega) (zS.zu (by omega) (zS.zu (by omega) (zS.zu (by omega) (zS.zu (by omega) zS.rf)))))) ((zS.zu (by omega) (zS.zu (by omega) (zS.zu (by omega) (zS.zu (by omega) (zS.zu (by omega) zS.rf)))))) rfl hv.bar) (qLaw_cg (I := I) rfl rfl hv.law) (qStp_cg (I := I) rfl ((zS.zu (by omega) (zS.zu (by omega) (zS.zu (by omega) (zS.zu (by omega) (zS.zu (by omega) zS.rf)))))) hv.stp))
            show zu _ 3 j v2 3 k = zu _ 150 j v2 150 k ∧ zu _ 4 j v3 4 k = zu _ 151 j v3 151 k ∧ (zu _ 150 j v2 150 k = -9 ∨ zrg (zu _ 150 j v2 150 k) 0 5)
            rw [zu_at, zu_at, zu_at, zu_at]
            by_cases e : k = j
            · rw [if_pos e, if_pos e, if_pos e, if_pos e]
              exact ⟨rfl, rfl, ho⟩
            · rw [if_neg e, if_neg e, if_neg e, if_neg e]
              exact g3 k hk
        · have e1 : f_X11_hang J (nI j) v2 v3 I = some (-2, I) := by
            simp only [f_X11_hang, l_isGap, l_isValue, Option.bind_some, zb_eq0, zb_eq1, not_true_eq_false, not_false_eq_true, Classical.not_not, ↓reduceIte, h1, ha, hg, hw, zj]
          have e2 : f_X12_hang J (nI j) v2 v3 I = some (-2, zu I 147 0 0) := by
            simp only [f_X12_hang, l_noGap, l_in_1_5, Option.bind_some, zb_eq0, zb_eq1, not_true_eq_false, not_false_eq_true, Classical.not_not, ↓reduceIte, h1, ha, hg, hw, zj]
          exact ⟨_, _, _, e1, e2, zInv_thrown hv⟩
      · have e1 : f_X11_hang J (nI j) v2 v3 I = some (-1, I) := by
          simp only [f_X11_hang, l_isGap, l_isValue, Option.bind_some, zb_eq0, zb_eq1, not_true_eq_false, not_false_eq_true, Classical.not_not, ↓reduceIte, h1, ha, hg, zj]
        have e2 : f_X12_hang J (nI j) v2 v3 I = some (-1, zu I 147 0 0) := by
          simp only [f_X12_hang, l_noGap, l_in_1_5, Option.bind_some, zb_eq0, zb_eq1, not_true_eq_false, not_false_eq_true, Classical.not_not, ↓reduceIte, h1, ha, hg, zj]
        exact ⟨_, _, _, e1, e2, zInv_thrown hv⟩
  · have e1 : f_X11_hang J v1 v2 v3 I = some (-1, I) := by
      simp only [f_X11_hang, l_isGap, l_isValue, Option.bind_some, zb_eq0, zb_eq1, not_true_eq_false, not_false_eq_true, Classical.not_not, ↓reduceIte, h1, not_false_eq_true]
    have e2 : f_X12_hang J v1 v2 v3 I = some (-1, zu I 147 0 0) := by
      simp only [f_X12_hang, l_noGap, l_in_1_5, Option.bind_some, zb_eq0, zb_eq1, not_true_eq_false, not_false_eq_true, Classical.not_not, ↓reduceIte, h1, not_false_eq_true]
    exact ⟨_, _, _, e1, e2, zInv_thrown hv⟩
theorem q_undo : zS_undo zInv := by
  intro n I J hn hv
  obtain ⟨m, g1, g2, g3, g4, g5, g6, g7⟩ := hv.doi
  have g3' : zu I 147 0 0 147 6 = nI m := g3
  match m, g1, g2, g3, g3', g4, g5 with
  | 0, _, g2, _, g3', _, _ =>
    have e1 : f_X11_undo J I = some (-3, I) := by
      unfold f_X11_undo
      rw [g2]
      exact if_pos rfl
    have e2 : f_X12_undo J I = some (-3, zu I 147 0 0) := by
      unfold f_X12_undo
      rw [g3']
      exact if_pos rfl
    exact ⟨_, _, _, e1, e2, zInv_thrown hv⟩
  | m + 1, g1, g2, g3, g3', g4, g5 =>
    have h0 : ¬ nI (m + 1) = 0 := nI_ne0 (by omega) (by omega)
    have e1 : f_X11_undo J I = some (nI m, zu I 6 6 (nI m)) := by
      unfold f_X11_undo
      rw [g2, if_neg h0, nI_pred, zu_self]
    have g3'' : zu (zu I 6 6 (nI m)) 147 0 0 147 6 = nI (m + 1) := g3
    have e2 : f_X12_undo J (zu I 6 6 (nI m)) = some (nI m, zu (zu (zu I 6 6 (nI m)) 147 0 0) 147 6 (nI m)) := by
      unfold f_X12_undo
      rw [g3'', if_neg h0, nI_pred, zu_self]
    refine ⟨_, _, _, e1, e2, ?_⟩
    refine (zInv_mk hv.jok hv.jin (qGap_cg (I := I) ((zS.zu (by omega) (zS.zu (by omega) (zS.zu (by omega) zS.rf)))) ((zS.zu (by omega) (zS.zu (by omega) (zS.zu (by omega) zS.rf)))) hv.gap) (qTm_cg (I := I) ((zS.zu (by omega) (zS.zu (by omega) (zS.zu (by omega) zS.rf)))) rfl rfl rfl hv.tm) (⟨m, by omega, rfl, rfl, fun k f hk hf => ?_, fun k hk => g5 k (by omega), g6, g7⟩) (qKep_cg (I := I) ((zS.zu (by omega) (zS.zu (by omega) (zS.zu (by omega) zS.rf)))) ((zS.zu (by omega) (zS.zu (by omega) (zS.zu (by omega) zS.rf)))) (fun _ _ => rfl) (fun _ _ => rfl) (fun _ _ => rfl) ((zS.zu (by omega) (zS.zu (by omega) (zS.zu (by omega) zS.rf)))) hv.kep) (qTxt_cg (I := I) ((zS.zu (by omega) (zS.zu (by omega) (zS.zu (by omega) zS.rf)))) ((zS.zu (by omega) (zS.zu (by omega) (zS.zu (by omega) zS.rf)))) rfl hv.txt) (qRul_cg (I := I) hv.jok ((zS.zu (by omega) (zS.zu (by omega) (zS.zu (by omega) zS.rf)))) ((zS.zu (by omega) (zS.zu (by omega) (zS.zu (by omega) zS.rf)))) rfl hv.rul) (qOrd_cg (I := I) ((zS.zu (by omega) (zS.zu (by omega) (zS.zu (by omega) zS.rf)))) (fun _ _ => rfl) (fun _ _ => rfl) hv.ord) (qBar_cg (I := I) ((zS.zu (by omega) (zS.zu (by omega) (zS.zu (by omega) zS.rf)))) ((zS.zu (by omega) (zS.zu (by omega) (zS.zu (by omega) zS.rf)))) ((zS.zu (by omega) (zS.zu (by omega) (zS.zu (by omega) zS.rf)))) rfl hv.bar) (qLaw_cg (I := I) rfl rfl hv.law) (qStp_cg (I := I) rfl ((zS.zu (by omega) (zS.zu (by omega) (zS.zu (by omega) zS.rf)))) hv.stp))
    have r : zu (zu (zu I 6 6 (nI m)) 147 0 0) 147 6 (nI m) (6 + 1 + f) = I (6 + 1 + f) := zS.at (lo := 7) (hi := 13) ((zS.zu (by omega) (zS.zu (by omega) (zS.zu (by omega) zS.rf)))) (by omega) (by omega)
    rw [r]
    exact g4 k f hk hf
theorem q_wipe : zS_wipe zInv := by
  intro n I J hn hv
  obtain ⟨m, g1, g2, g3, g4⟩ := hv.txt
  have e1 : f_X11_wipe J I = some (nI m, zu I 16 1 0) := by
    unfold f_X11_wipe
    rw [g2]
  have g3' : zu (zu I 16 1 0) 147 0 0 147 12 = nI m := g3
  have e2 : f_X12_wipe J (zu I 16 1 0) = some (nI m, zu (zu (zu I 16 1 0) 147 0 0) 147 12 0) := by
    unfold f_X12_wipe
    rw [g3']
  refine ⟨_, _, _, e1, e2, ?_⟩
  exact (zInv_mk hv.jok hv.jin (qGap_cg (I := I) ((zS.zu (by omega) (zS.zu (by omega) (zS.zu (by omega) zS.rf)))) ((zS.zu (by omega) (zS.zu (by omega) (zS.zu (by omega) zS.rf)))) hv.gap) (qTm_cg (I := I) ((zS.zu (by omega) (zS.zu (by omega) (zS.zu (by omega) zS.rf)))) rfl rfl rfl hv.tm) (qDoi_cg (I := I) ((zS.zu (by omega) (zS.zu (by omega) (zS.zu (by omega) zS.rf)))) ((zS.zu (by omega) (zS.zu (by omega) (zS.zu (by omega) zS.rf)))) rfl hv.doi) (qKep_cg (I := I) ((zS.zu (by omega) (zS.zu (by omega) (zS.zu (by omega) zS.rf)))) ((zS.zu (by omega) (zS.zu (by omega) (zS.zu (by omega) zS.rf)))) (fun _ _ => rfl) (fun _ _ => rfl) (fun _ _ => rfl) ((zS.zu (by omega) (zS.zu (by omega) (zS.zu (by omega) zS.rf)))) hv.kep) (⟨0, by omega, rfl, rfl, fun k hk => absurd hk (by omega)⟩) (qRul_cg (I := I) hv.jok ((zS.zu (by omega) (zS.zu (by omega) (zS.zu (by omega) zS.rf)))) ((zS.zu (by omega) (zS.zu (by omega) (zS.zu (by omega) zS.rf)))) rfl hv.rul) (qOrd_cg (I := I) ((zS.zu (by omega) (zS.zu (by omega) (zS.zu (by omega) zS.rf)))) (fun _ _ => rfl) (fun _ _ => rfl) hv.ord) (qBar_cg (I := I) ((zS.zu (by omega) (zS.zu (by omega) (zS.zu (by omega) zS.rf)))) ((zS.zu (by omega) (zS.zu (by omega) (zS.zu (by omega) zS.rf)))) ((zS.zu (by omega) (zS.zu (by omega) (zS.zu (by omega) zS.rf)))) rfl hv.bar) (qLaw_cg (I := I) rfl rfl hv.law) (qStp_cg (I := I) rfl ((zS.zu (by omega) (zS.zu (by omega) (zS.zu (by omega) zS.rf)))) hv.stp))
theorem l_add (J : zJ) (v1 v2 v3 v4 v5 v6 : Int32) {I : zM} {m : Nat} (g2 : I 6 6 = nI m) (hm : m < 24) (hb : v6 = 0 ∨ v6 = 1) : f_X1_add J 6 v1 v2 v3 v4 v5 v6 I = some (zu (zu (zu (zu (zu (zu (zu I 7 m v1) 8 m v2) 9 m v3) 10 m v4) 11 m v5) 12 m v6) 6 6 (nI (m + 1))) := by
  have c : nI m < 24 := nI_lt (b := 24) hm (by decide)
  have z : zin (nI m) 24 = true := zin_nI hm (by decide)
  have e : Int32.toNatClampNeg (nI m) = m := nI_clamp (by omega)
  simp only [f_X1_add, zr_6_0, zr_6_1, zr_6_2, zr_6_3, zr_6_4, zr_6_5, zu_off (show (6 : Nat) ≠ 7 by decide), zu_off (show (6 : Nat) ≠ 8 by decide), zu_off (show (6 : Nat) ≠ 9 by decide), zu_off (show (6 : Nat) ≠ 10 by decide), zu_off (show (6 : Nat) ≠ 11 by decide), zu_off (show (6 : Nat) ≠ 12 by decide), g2, c, z, e, q_a1, nar01 hb, ↓reduceIte]
theorem q_doing : zS_doing zInv := by
  intro n I J v1 v2 v3 v4 v5 v6 hb hn hv
  by_cases h1 : zrg v1 0 4
  case neg =>
    have e1 : f_X11_doing J v1 v2 v3 v4 v5 v6 I = some (-1, I) := by
      simp only [f_X11_doing, l_isPerson, l_isTrade, l_isGap, l_isValue, Option.bind_some, zb_eq0, zb_eq1, not_true_eq_false, not_false_eq_true, Classical.not_not, ↓reduceIte, h1]
    have e2 : f_X12_doing J v1 v2 v3 v4 v5 v6 I = some (-1, zu I 147 0 0) := by
      simp only [f_X12_doing, l_noPerson, l_noTrade, l_noGap, l_in_1_5, Option.bind_some, zb_eq0, zb_eq1, not_true_eq_false, not_false_eq_true, Classical.not_not, ↓reduceIte, h1]
    exact ⟨_, _, _, e1, e2, zInv_thrown hv⟩
  by_cases h2 : zrg v2 0 4
  case neg =>
    have e1 : f_X11_doing J v1 v2 v3 v4 v5 v6 I = some (-1, I) := by
      simp only [f_X11_doing, l_isPerson, l_isTrade, l_isGap, l_isValue, Option.bind_some, zb_eq0, zb_eq1, not_true_eq_false, not_false_eq_true, Classical.not_not, ↓reduceIte, h1, h2]
    have e2 : f_X12_doing J v1 v2 v3 v4 v5 v6 I = some (-1, zu I 147 0 0) := by
      simp only [f_X12_doing, l_noPerson, l_noTrade, l_noGap, l_in_1_5, Option.bind_some, zb_eq0, zb_eq1, not_true_eq_false, not_false_eq_true, Classical.not_not, ↓reduceIte, h1, h2]
    exact ⟨_, _, _, e1, e2, zInv_thrown hv⟩
  by_cases h3 : zrg v3 0 2
  case neg =>
    have e1 : f_X11_doing J v1 v2 v3 v4 v5 v6 I = some (-1, I) := by
      simp only [f_X11_doing, l_isPerson, l_isTrade, l_isGap, l_isValue, Option.bind_some, zb_eq0, zb_eq1, not_true_eq_false, not_false_eq_true, Classical.not_not, ↓reduceIte, h1, h2, h3]
    have e2 : f_X12_doing J v1 v2 v3 v4 v5 v6 I = some (-1, zu I 147 0 0) := by
      simp only [f_X12_doing, l_noPerson, l_noTrade, l_noGap, l_in_1_5, Option.bind_some, zb_eq0, zb_eq1, not_true_eq_false, not_false_eq_true, Classical.not_not, ↓reduceIte, h1, h2, h3]
    exact ⟨_, _, _, e1, e2, zInv_thrown hv⟩
  by_cases h4 : zrg v4 0 5
  case neg =>
    have e1 : f_X11_doing J v1 v2 v3 v4 v5 v6 I = some (-1, I) := by
      simp only [f_X11_doing, l_isPerson, l_isTrade, l_isGap, l_isValue, Option.bind_some, zb_eq0, zb_eq1, not_true_eq_false, not_false_eq_true, Classical.not_not, ↓reduceIte, h1, h2, h3, h4]
    have e2 : f_X12_doing J v1 v2 v3 v4 v5 v6 I = some (-1, zu I 147 0 0) := by
      simp only [f_X12_doing, l_noPerson, l_noTrade, l_noGap, l_in_1_5, Option.bind_some, zb_eq0, zb_eq1, not_true_eq_false, not_false_eq_true, Classical.not_not, ↓reduceIte, h1, h2, h3, h4]
    exact ⟨_, _, _, e1, e2, zInv_thrown hv⟩
  by_cases h5 : zrg v5 1 5
  case neg =>
    have e1 : f_X11_doing J v1 v2 v3 v4 v5 v6 I = some (-2, I) := by
      simp only [f_X11_doing, l_isPerson, l_isTrade, l_isGap, l_isValue, Option.bind_some, zb_eq0, zb_eq1, not_true_eq_false, not_false_eq_true, Classical.not_not, ↓reduceIte, h1, h2, h3, h4, h5]
    have e2 : f_X12_doing J v1 v2 v3 v4 v5 v6 I = some (-2, zu I 147 0 0) := by
      simp only [f_X12_doing, l_noPerson, l_noTrade, l_noGap, l_in_1_5, Option.bind_some, zb_eq0, zb_eq1, not_true_eq_false, not_false_eq_true, Classical.not_not, ↓reduceIte, h1, h2, h3, h4, h5]
    exact ⟨_, _, _, e1, e2, zInv_thrown hv⟩
  by_cases he : v1 = v2
  case pos =>
    have e1 : f_X11_doing J v1 v2 v3 v4 v5 v6 I = some (-2, I) := by
      simp only [f_X11_doing, l_isPerson, l_isTrade, l_isGap, l_isValue, Option.bind_some, zb_eq0, zb_eq1, not_true_eq_false, not_false_eq_true, Classical.not_not, ↓reduceIte, h1, h2, h3, h4, h5, eq_true he]
    have e2 : f_X12_doing J v1 v2 v3 v4 v5 v6 I = some (-2, zu I 147 0 0) := by
      simp only [f_X12_doing, l_noPerson, l_noTrade, l_noGap, l_in_1_5, Option.bind_some, zb_eq0, zb_eq1, not_true_eq_false, not_false_eq_true, Classical.not_not, ↓reduceIte, h1, h2, h3, h4, h5, eq_true he]
    exact ⟨_, _, _, e1, e2, zInv_thrown hv⟩
  obtain ⟨m, g1, g2, g3, g4, g5, g6, g7⟩ := hv.doi
  have g3' : zu I 147 0 0 147 6 = nI m := g3
  by_cases hm : m < 24
  case neg =>
    have em : m = 24 := by omega
    have c1 : ¬ I 6 6 < 24 := by
      rw [g2, em]
      decide
    have c2 : zu I 147 0 0 147 6 = 24 := by
      rw [g3', em]
      rfl
    have e1 : f_X11_doing J v1 v2 v3 v4 v5 v6 I = some (-4, I) := by
      simp only [f_X11_doing, l_isPerson, l_isTrade, l_isGap, l_isValue, Option.bind_some, zb_eq0, zb_eq1, not_true_eq_false, not_false_eq_true, Classical.not_not, ↓reduceIte, h1, h2, h3, h4, h5, he, c1, eq_true c2]
    have e2 : f_X12_doing J v1 v2 v3 v4 v5 v6 I = some (-4, zu I 147 0 0) := by
      simp only [f_X12_doing, l_noPerson, l_noTrade, l_noGap, l_in_1_5, Option.bind_some, zb_eq0, zb_eq1, not_true_eq_false, not_false_eq_true, Classical.not_not, ↓reduceIte, h1, h2, h3, h4, h5, he, c1, eq_true c2]
    exact ⟨_, _, _, e1, e2, zInv_thrown hv⟩
  have c1 : nI m < 24 := nI_lt (b := 24) hm (by decide)
  have e1 : f_X11_doing J v1 v2 v3 v4 v5 v6 I = some (nI m, zu (zu (zu (zu (zu (zu (zu I 7 m v1) 8 m v2) 9 m v3) 10 m v4) 11 m v5) 12 m v6) 6 6 (nI (m + 1))) := by
    simp only [f_X11_doing, l_isPerson, l_isTrade, l_isGap, l_isValue, Option.bind_some, zb_eq0, zb_eq1, not_true_eq_false, not_false_eq_true, Classical.not_not, ↓reduceIte, h1, h2, h3, h4, h5, he, c1, l_add J v1 v2 v3 v4 v5 v6 g2 hm hb, g2]
  have c3 : ¬ nI m = 24 := fun q => absurd ((nI_eq (b := 24) (by omega) (by decide)).mp q) (by omega)
  have g3'' : zu (zu (zu (zu (zu (zu (zu (zu I 7 m v1) 8 m v2) 9 m v3) 10 m v4) 11 m v5) 12 m v6) 6 6 (nI (m + 1))) 147 0 0 147 6 = nI m := g3
  have z0 : zin (nI (6 * m)) 144 = true := zin_nI (by omega) (by decide)
  have k0 : Int32.toNatClampNeg (nI (6 * m)) = 6 * m := nI_clamp (by omega)
  have z1 : zin (nI (6 * m + 1)) 144 = true := zin_nI (by omega) (by decide)
  have k1 : Int32.toNatClampNeg (nI (6 * m + 1)) = 6 * m + 1 := nI_clamp (by omega)
  have z2 : zin (nI (6 * m + 2)) 144 = true := zin_nI (by omega) (by decide)
  have k2 : Int32.toNatClampNeg (nI (6 * m + 2)) = 6 * m + 2 := nI_clamp (by omega)
  have z3 : zin (nI (6 * m + 3)) 144 = true := zin_nI (by omega) (by decide)
  have k3 : Int32.toNatClampNeg (nI (6 * m + 3)) = 6 * m + 3 := nI_clamp (by omega)
  have z4 : zin (nI (6 * m + 4)) 144 = true := zin_nI (by omega) (by decide)
  have k4 : Int32.toNatClampNeg (nI (6 * m + 4)) = 6 * m + 4 := nI_clamp (by omega)
  have z5 : zin (nI (6 * m + 5)) 144 = true := zin_nI (by omega) (by decide)
  have k5 : Int32.toNatClampNeg (nI (6 * m + 5)) = 6 * m + 5 := nI_clamp (by omega)
  have e2 : f_X12_doing J v1 v2 v3 v4 v5 v6 (zu (zu (zu (zu (zu (zu (zu I 7 m v1) 8 m v2) 9 m v3) 10 m v4) 11 m v5) 12 m v6) 6 6 (nI (m + 1))) = some (nI m, (zu (zu (zu (zu (zu (zu (zu (zu (zu (zu (zu (zu (zu (zu (zu I 7 m v1) 8 m v2) 9 m v3) 10 m v4) 11 m v5) 12 m v6) 6 6 (nI (m + 1))) 147 0 0) 152 (6 * m) v1) 152 (6 * m + 1) v2) 152 (6 * m + 2) v3) 152 (6 * m + 3) v4) 152 (6 * m + 4) v5) 152 (6 * m + 5) v6) 147 6 (nI (m + 1)))) := by
    rcases hb with rfl | rfl
    · simp only [f_X12_doing, l_noPerson, l_noTrade, l_noGap, l_in_1_5, Option.bind_some, zb_eq0, zb_eq1, not_true_eq_false, not_false_eq_true, Classical.not_not, ↓reduceIte, h1, h2, h3, h4, h5, he, g3'', c3, q_6, q_a1, q_a2, q_a3, q_a4, q_a5, z0, k0, z1, k1, z2, k2, z3, k3, z4, k4, z5, k5, zu_off (show (147 : Nat) ≠ 152 by decide), zu_self, nI_pred]
    · simp only [f_X12_doing, l_noPerson, l_noTrade, l_noGap, l_in_1_5, Option.bind_some, zb_eq0, zb_eq1, not_true_eq_false, not_false_eq_true, Classical.not_not, ↓reduceIte, h1, h2, h3, h4, h5, he, g3'', c3, q_6, q_a1, q_a2, q_a3, q_a4, q_a5, z0, k0, z1, k1, z2, k2, z3, k3, z4, k4, z5, k5, zu_off (show (147 : Nat) ≠ 152 by decide), zu_self, nI_pred, show ¬ (1 : Int32) = 0 by decide]
  refine ⟨_, _, _, e1, e2, ?_⟩
  have rt : ∀ x, (zu (zu (zu (zu (zu (zu (zu (zu (zu (zu (zu (zu (zu (zu (zu I 7 m v1) 8 m v2) 9 m v3) 10 m v4) 11 m v5) 12 m v6) 6 6 (nI (m + 1))) 147 0 0) 152 (6 * m) v1) 152 (6 * m + 1) v2) 152 (6 * m + 2) v3) 152 (6 * m + 3) v4) 152 (6 * m + 4) v5) 152 (6 * m + 5) v6) 147 6 (nI (m + 1))) 152 x = if x = 6 * m + 5 then v6 else if x = 6 * m + 4 then v5 else if x = 6 * m + 3 then v4 else if x = 6 * m + 2 then v3 else if x = 6 * m + 1 then v2 else if x = 6 * m then v1 else I 152 x := by
    intro x
    rw [zu_off (show (152 : Nat) ≠ 147 by decide), zu_at, zu_at, zu_at, zu_at, zu_at, zu_at]
    rfl
  have h6 : zrg v6 0 1 := by
    rcases hb with rfl | rfl <;> exact ⟨by decide, by decide⟩
  refine (zInv_mk hv.jok hv.jin (qGap_cg (I := I) ((zS.zu (by omega) (zS.zu (by omega) (zS.zu (by omega) (zS.zu (by omega) (zS.zu (by omega) (zS.zu (by omega) (zS.zu (by omega) (zS.zu (by omega) (zS.zu (by omega) (zS.zu (by omega) (zS.zu (by omega) (zS.zu (by omega) (zS.zu (by omega) (zS.zu (by omega) (zS.zu (by omega) zS.rf)))))))))))))))) ((zS.zu (by omega) (zS.zu (by omega) (zS.zu (by omega) (zS.zu (by omega) (zS.zu (by omega) (zS.zu (by omega) (zS.zu (by omega) (zS.zu (by omega) (zS.zu (by omega) (zS.zu (by omega) (zS.zu (by omega) (zS.zu (by omega) (zS.zu (by omega) (zS.zu (by omega) (zS.zu (by omega) zS.rf)))))))))))))))) hv.gap) (qTm_cg (I := I) ((zS.zu (by omega) (zS.zu (by omega) (zS.zu (by omega) (zS.zu (by omega) (zS.zu (by omega) (zS.zu (by omega) (zS.zu (by omega) (zS.zu (by omega) (zS.zu (by omega) (zS.zu (by omega) (zS.zu (by omega) (zS.zu (by omega) (zS.zu (by omega) (zS.zu (by omega) (zS.zu (by omega) zS.rf)))))))))))))))) rfl rfl rfl hv.tm) (⟨m + 1, by omega, rfl, rfl, fun k f hk hf => ?_, fun k hk => ?_, fun k hk => ?_, g7⟩) (qKep_cg (I := I) ((zS.zu (by omega) (zS.zu (by omega) (zS.zu (by omega) (zS.zu (by omega) (zS.zu (by omega) (zS.zu (by omega) (zS.zu (by omega) (zS.zu (by omega) (zS.zu (by omega) (zS.zu (by omega) (zS.zu (by omega) (zS.zu (by omega) (zS.zu (by omega) (zS.zu (by omega) (zS.zu (by omega) zS.rf)))))))))))))))) ((zS.zu (by omega) (zS.zu (by omega) (zS.zu (by omega) (zS.zu (by omega) (zS.zu (by omega) (zS.zu (by omega) (zS.zu (by omega) (zS.zu (by omega) (zS.zu (by omega) (zS.zu (by omega) (zS.zu (by omega) (zS.zu (by omega) (zS.zu (by omega) (zS.zu (by omega) (zS.zu (by omega) zS.rf)))))))))))))))) (fun _ _ => rfl) (fun _ _ => rfl) (fun _ _ => rfl) ((zS.zu (by omega) (zS.zu (by omega) (zS.zu (by omega) (zS.zu (by omega) (zS.zu (by omega) (zS.zu (by omega) (zS.zu (by omega) (zS.zu (by omega) (zS.zu (by omega) (zS.zu (by omega) (zS.zu (by omega) (zS.zu (by omega) (zS.zu (by omega) (zS.zu (by omega) (zS.zu (by omega) zS.rf)))))))))))))))) hv.kep) (qTxt_cg (I := I) ((zS.zu (by omega) (zS.zu (by omega) (zS.zu (by omega) (zS.zu (by omega) (zS.zu (by omega) (zS.zu (by omega) (zS.zu (by omega) (zS.zu (by omega) (zS.zu (by omega) (zS.zu (by omega) (zS.zu (by omega) (zS.zu (by omega) (zS.zu (by omega) (zS.zu (by omega) (zS.zu (by omega) zS.rf)))))))))))))))) ((zS.zu (by omega) (zS.zu (by omega) (zS.zu (by omega) (zS.zu (by omega) (zS.zu (by omega) (zS.zu (by omega) (zS.zu (by omega) (zS.zu (by omega) (zS.zu (by omega) (zS.zu (by omega) (zS.zu (by omega) (zS.zu (by omega) (zS.zu (by omega) (zS.zu (by omega) (zS.zu (by omega) zS.rf)))))))))))))))) rfl hv.txt) (qRul_cg (I := I) hv.jok ((zS.zu (by omega) (zS.zu (by omega) (zS.zu (by omega) (zS.zu (by omega) (zS.zu (by omega) (zS.zu (by omega) (zS.zu (by omega) (zS.zu (by omega) (zS.zu (by omega) (zS.zu (by omega) (zS.zu (by omega) (zS.zu (by omega) (zS.zu (by omega) (zS.zu (by omega) (zS.zu (by omega) zS.rf)))))))))))))))) ((zS.zu (by omega) (zS.zu (by omega) (zS.zu (by omega) (zS.zu (by omega) (zS.zu (by omega) (zS.zu (by omega) (zS.zu (by omega) (zS.zu (by omega) (zS.zu (by omega) (zS.zu (by omega) (zS.zu (by omega) (zS.zu (by omega) (zS.zu (by omega) (zS.zu (by omega) (zS.zu (by omega) zS.rf)))))))))))))))) rfl hv.rul) (qOrd_cg (I := I) ((zS.zu (by omega) (zS.zu (by omega) (zS.zu (by omega) (zS.zu (by omega) (zS.zu (by omega) (zS.zu (by omega) (zS.zu (by omega) (zS.zu (by omega) (zS.zu (by omega) (zS.zu (by omega) (zS.zu (by omega) (zS.zu (by omega) (zS.zu (by omega) (zS.zu (by omega) (zS.zu (by omega) zS.rf)))))))))))))))) (fun _ _ => rfl) (fun _ _ => rfl) hv.ord) (qBar_cg (I := I) ((zS.zu (by omega) (zS.zu (by omega) (zS.zu (by omega) (zS.zu (by omega) (zS.zu (by omega) (zS.zu (by omega) (zS.zu (by omega) (zS.zu (by omega) (zS.zu (by omega) (zS.zu (by omega) (zS.zu (by omega) (zS.zu (by omega) (zS.zu (by omega) (zS.zu (by omega) (zS.zu (by omega) zS.rf)))))))))))))))) ((zS.zu (by omega) (zS.zu (by omega) (zS.zu (by omega) (zS.zu (by omega) (zS.zu (by omega) (zS.zu (by omega) (zS.zu (by omega) (zS.zu (by omega) (zS.zu (by omega) (zS.zu (by omega) (zS.zu (by omega) (zS.zu (by omega) (zS.zu (by omega) (zS.zu (by omega) (zS.zu (by omega) zS.rf)))))))))))))))) ((zS.zu (by omega) (zS.zu (by omega) (zS.zu (by omega) (zS.zu (by omega) (zS.zu (by omega) (zS.zu (by omega) (zS.zu (by omega) (zS.zu (by omega) (zS.zu (by omega) (zS.zu (by omega) (zS.zu (by omega) (zS.zu (by omega) (zS.zu (by omega) (zS.zu (by omega) (zS.zu (by omega) zS.rf)))))))))))))))) rfl hv.bar) (qLaw_cg (I := I) rfl rfl hv.law) (qStp_cg (I := I) rfl ((zS.zu (by omega) (zS.zu (by omega) (zS.zu (by omega) (zS.zu (by omega) (zS.zu (by omega) (zS.zu (by omega) (zS.zu (by omega) (zS.zu (by omega) (zS.zu (by omega) (zS.zu (by omega) (zS.zu (by omega) (zS.zu (by omega) (zS.zu (by omega) (zS.zu (by omega) (zS.zu (by omega) zS.rf)))))))))))))))) hv.stp))
  · match f, hf with
    | 0, _ =>
      rw [rt]
      show zu I 7 m v1 7 k = _
      rw [zu_at]
      by_cases e : k = m
      · rw [if_pos e, if_neg (by omega), if_neg (by omega), if_neg (by omega), if_neg (by omega), if_neg (by omega), if_pos (by omega)]
      · rw [if_neg e, if_neg (by omega), if_neg (by omega), if_neg (by omega), if_neg (by omega), if_neg (by omega), if_neg (by omega)]
        exact g4 k 0 hk (by decide)
    | 1, _ =>
      rw [rt]
      show zu I 8 m v2 8 k = _
      rw [zu_at]
      by_cases e : k = m
      · rw [if_pos e, if_neg (by omega), if_neg (by omega), if_neg (by omega), if_neg (by omega), if_pos (by omega)]
      · rw [if_neg e, if_neg (by omega), if_neg (by omega), if_neg (by omega), if_neg (by omega), if_neg (by omega), if_neg (by omega)]
        exact g4 k 1 hk (by decide)
    | 2, _ =>
      rw [rt]
      show zu I 9 m v3 9 k = _
      rw [zu_at]
      by_cases e : k = m
      · rw [if_pos e, if_neg (by omega), if_neg (by omega), if_neg (by omega), if_pos (by omega)]
      · rw [if_neg e, if_neg (by omega), if_neg (by omega), if_neg (by omega), if_neg (by omega), if_neg (by omega), if_neg (by omega)]
        exact g4 k 2 hk (by decide)
    | 3, _ =>
      rw [rt]
      show zu I 10 m v4 10 k = _
      rw [zu_at]
      by_cases e : k = m
      · rw [if_pos e, if_neg (by omega), if_neg (by omega), if_pos (by omega)]
      · rw [if_neg e, if_neg (by omega), if_neg (by omega), if_neg (by omega), if_neg (by omega), if_neg (by omega), if_neg (by omega)]
        exact g4 k 3 hk (by decide)
    | 4, _ =>
      rw [rt]
      show zu I 11 m v5 11 k = _
      rw [zu_at]
      by_cases e : k = m
      · rw [if_pos e, if_neg (by omega), if_pos (by omega)]
      · rw [if_neg e, if_neg (by omega), if_neg (by omega), if_neg (by omega), if_neg (by omega), if_neg (by omega), if_neg (by omega)]
        exact g4 k 4 hk (by decide)
    | 5, _ =>
      rw [rt]
      show zu I 12 m v6 12 k = _
      rw [zu_at]
      by_cases e : k = m
      · rw [if_pos e, if_pos (by omega)]
      · rw [if_neg e, if_neg (by omega), if_neg (by omega), if_neg (by omega), if_neg (by omega), if_neg (by omega), if_neg (by omega)]
        exact g4 k 5 hk (by decide)
    | f + 6, hf => exact absurd hf (by omega)
  · by_cases e : k = m
    · rw [rt, rt, rt, rt, rt, if_neg (by omega), if_neg (by omega), if_neg (by omega), if_neg (by omega), if_neg (by omega), if_pos (by omega), if_neg (by omega), if_neg (by omega), if_neg (by omega), if_neg (by omega), if_pos (by omega), if_neg (by omega), if_neg (by omega), if_neg (by omega), if_pos (by omega), if_neg (by omega), if_neg (by omega), if_pos (by omega), if_neg (by omega), if_pos (by omega)]
      exact ⟨h1, h2, h3, h4, h5⟩
    · rw [rt, rt, rt, rt, rt, if_neg (by omega), if_neg (by omega), if_neg (by omega), if_neg (by omega), if_neg (by omega), if_neg (by omega), if_neg (by omega), if_neg (by omega), if_neg (by omega), if_neg (by omega), if_neg (by omega), if_neg (by omega), if_neg (by omega), if_neg (by omega), if_neg (by omega), if_neg (by omega), if_neg (by omega), if_neg (by omega), if_neg (by omega), if_neg (by omega), if_neg (by omega), if_neg (by omega), if_neg (by omega), if_neg (by omega), if_neg (by omega), if_neg (by omega), if_neg (by omega), if_neg (by omega), if_neg (by omega), if_neg (by omega)]
      exact g5 k (by omega)
  · rw [rt]
    by_cases e : k = m
    · rw [if_pos (by omega)]
      exact h6
    · rw [if_neg (by omega), if_neg (by omega), if_neg (by omega), if_neg (by omega), if_neg (by omega), if_neg (by omega)]
      exact g6 k hk
theorem q_tell : zS_tell zInv := by
  intro n I J v1 v2 v3 hb hn hv
  by_cases h1 : zrg v1 0 4
  case neg =>
    have e1 : f_X11_tell J v1 v2 v3 I = some (-1, I) := by
      simp only [f_X11_tell, l_isPerson, Option.bind_some, zb_eq0, zb_eq1, not_true_eq_false, not_false_eq_true, Classical.not_not, ↓reduceIte, h1]
    have e2 : f_X12_tell J v1 v2 v3 I = some (-1, zu I 147 0 0) := by
      simp only [f_X12_tell, l_noPerson, Option.bind_some, zb_eq0, zb_eq1, not_true_eq_false, not_false_eq_true, Classical.not_not, ↓reduceIte, h1]
    exact ⟨_, _, _, e1, e2, zInv_thrown hv⟩
  by_cases h2 : zrg v2 0 2
  case neg =>
    have e1 : f_X11_tell J v1 v2 v3 I = some (-1, I) := by
      simp only [f_X11_tell, l_isPerson, l_isTrade, Option.bind_some, zb_eq0, zb_eq1, not_true_eq_false, not_false_eq_true, Classical.not_not, ↓reduceIte, h1, h2]
    have e2 : f_X12_tell J v1 v2 v3 I = some (-1, zu I 147 0 0) := by
      simp only [f_X12_tell, l_noPerson, l_noTrade, Option.bind_some, zb_eq0, zb_eq1, not_true_eq_false, not_false_eq_true, Classical.not_not, ↓reduceIte, h1, h2]
    exact ⟨_, _, _, e1, e2, zInv_thrown hv⟩
  obtain ⟨p, -, hp, rfl⟩ := zrg_nI h1 (by decide)
  obtain ⟨t, -, ht, rfl⟩ := zrg_nI h2 (by decide)
  have ea : nI p * 3 + nI t = nI (3 * p + t) := by
    rw [q_3r, nI_add, Nat.mul_comm]
  have eb : (3 : Int32) * nI p + nI t = nI (3 * p + t) := by
    rw [q_3l, nI_add]
  have zz : zin (nI (3 * p + t)) 15 = true := zin_nI (by omega) (by decide)
  have cc : Int32.toNatClampNeg (nI (3 * p + t)) = 3 * p + t := nI_clamp (by omega)
  obtain ⟨m, g1, g2, g3, g4, g5, g6, g7⟩ := hv.doi
  have e1 : f_X11_tell J (nI p) (nI t) v3 I = some (zb (zbt (I 6 7) (3 * p + t)), zu I 6 7 (zwb (I 6 7) (3 * p + t) (¬ v3 = 0))) := by
    simp only [f_X11_tell, l_isPerson, l_isTrade, ea, l_bit J _ _ (show 3 * p + t < 32 by omega), l_withBit J _ _ _ (show 3 * p + t < 32 by omega), Option.bind_some, zb_eq0, zb_eq1, not_true_eq_false, not_false_eq_true, Classical.not_not, ↓reduceIte, h1, h2]
  have e0 : (zu (zu I 6 7 (zwb (I 6 7) (3 * p + t) (¬ v3 = 0))) 147 0 0) 153 (3 * p + t) = zb (zbt (I 6 7) (3 * p + t)) := by
    have q := g7 (3 * p + t) (by omega)
    rw [Nat.zero_add] at q
    exact q
  have e2 : f_X12_tell J (nI p) (nI t) v3 (zu I 6 7 (zwb (I 6 7) (3 * p + t) (¬ v3 = 0))) = some (zb (zbt (I 6 7) (3 * p + t)), zu (zu (zu I 6 7 (zwb (I 6 7) (3 * p + t) (¬ v3 = 0))) 147 0 0) 153 (3 * p + t) v3) := by
    simp only [f_X12_tell, l_noPerson, l_noTrade, eb, Option.bind_some, zb_eq0, zb_eq1, not_true_eq_false, not_false_eq_true, Classical.not_not, ↓reduceIte, h1, h2, zz, cc, nar01 hb]
    rw [e0]
    by_cases hq : zbt (I 6 7) (3 * p + t)
    · rw [if_neg (fun q => zb_eq0.mp q hq), ← zb_t hq]
    · rw [if_pos (zb_eq0.mpr hq), ← zb_f hq]
  refine ⟨_, _, _, e1, e2, ?_⟩
  refine (zInv_mk hv.jok hv.jin (qGap_cg (I := I) ((zS.zu (by omega) (zS.zu (by omega) (zS.zu (by omega) zS.rf)))) ((zS.zu (by omega) (zS.zu (by omega) (zS.zu (by omega) zS.rf)))) hv.gap) (qTm_cg (I := I) ((zS.zu (by omega) (zS.zu (by omega) (zS.zu (by omega) zS.rf)))) rfl rfl rfl hv.tm) (⟨m, g1, g2, g3, fun k f hk hf => ?_, g5, g6, fun i hi => ?_⟩) (qKep_cg (I := I) ((zS.zu (by omega) (zS.zu (by omega) (zS.zu (by omega) zS.rf)))) ((zS.zu (by omega) (zS.zu (by omega) (zS.zu (by omega) zS.rf)))) (fun _ _ => rfl) (fun _ _ => rfl) (fun _ _ => rfl) ((zS.zu (by omega) (zS.zu (by omega) (zS.zu (by omega) zS.rf)))) hv.kep) (qTxt_cg (I := I) ((zS.zu (by omega) (zS.zu (by omega) (zS.zu (by omega) zS.rf)))) ((zS.zu (by omega) (zS.zu (by omega) (zS.zu (by omega) zS.rf)))) rfl hv.txt) (qRul_cg (I := I) hv.jok ((zS.zu (by omega) (zS.zu (by omega) (zS.zu (by omega) zS.rf)))) ((zS.zu (by omega) (zS.zu (by omega) (zS.zu (by omega) zS.rf)))) rfl hv.rul) (qOrd_cg (I := I) ((zS.zu (by omega) (zS.zu (by omega) (zS.zu (by omega) zS.rf)))) (fun _ _ => rfl) (fun _ _ => rfl) hv.ord) (qBar_cg (I := I) ((zS.zu (by omega) (zS.zu (by omega) (zS.zu (by omega) zS.rf)))) ((zS.zu (by omega) (zS.zu (by omega) (zS.zu (by omega) zS.rf)))) ((zS.zu (by omega) (zS.zu (by omega) (zS.zu (by omega) zS.rf)))) rfl hv.bar) (qLaw_cg (I := I) rfl rfl hv.law) (qStp_cg (I := I) rfl ((zS.zu (by omega) (zS.zu (by omega) (zS.zu (by omega) zS.rf)))) hv.stp))
  · have r : zu (zu (zu I 6 7 (zwb (I 6 7) (3 * p + t) (¬ v3 = 0))) 147 0 0) 153 (3 * p + t) v3 (6 + 1 + f) = I (6 + 1 + f) := zS.at (lo := 7) (hi := 13) ((zS.zu (by omega) (zS.zu (by omega) (zS.zu (by omega) zS.rf)))) (by omega) (by omega)
    rw [r]
    exact g4 k f hk hf
  · show zu _ 153 (3 * p + t) v3 153 (0 + i) = zb (zbt (zwb (I 6 7) (3 * p + t) (¬ v3 = 0)) i)
    rw [zu_at, zwb_zb (by omega) (by omega), Nat.zero_add]
    by_cases e : i = 3 * p + t
    · rw [if_pos e, if_pos e]
      exact zb_self hb
    · rw [if_neg e, if_neg e]
      have q := g7 i hi
      rw [Nat.zero_add] at q
      exact q
theorem q_term : zS_term zInv := by
  intro n I J v1 v2 hn hv
  by_cases k0 : v1 = 0
  · subst k0
    obtain ⟨g0, g1, g2⟩ := hv.tm
    by_cases h2 : zrg v2 1 5
    · have c1 : ¬ v2 < 1 := by
        simp only [zrg, Int32.lt_iff_toInt_lt, tl_0, tl_1, tl_2, tl_3, tl_4, tl_5, tl_6, tl_8, tl_9, tl_24, tl_51, tl_60, tl_99, tl_100, tl_46655, tl_46656] at h2 ⊢
        omega
      have c2 : v2 ≤ 5 := zrg_hi h2 (by decide)
      have e1 : f_X11_term J 0 v2 I = some (I 5 0, zu I 5 0 v2) := by
        simp only [f_X11_term, show ¬ (0 : Int32) < 0 by decide, show (0 : Int32) ≤ 2 by decide, show zin 0 3 = true by decide, show Int32.toNatClampNeg 0 = 0 by decide, show zT1 0 = 1 by decide, show zT2 0 = 5 by decide, c1, c2, ↓reduceIte]
      have e2 : f_X12_term J 0 v2 (zu I 5 0 v2) = some (I 147 8, zu (zu (zu I 5 0 v2) 147 0 0) 147 8 v2) := by
        simp only [f_X12_term, l_in_1_5, Option.bind_some, zb_eq0, zb_eq1, not_true_eq_false, not_false_eq_true, Classical.not_not, ↓reduceIte, show ¬ (0 : Int32) = 1 by decide, show ¬ (0 : Int32) = 2 by decide, eq_self, h2]
        rfl
      rw [← g0.1] at e2
      exact ⟨_, _, _, e1, e2, (zInv_mk hv.jok hv.jin (qGap_cg (I := I) ((zS.zu (by omega) (zS.zu (by omega) (zS.zu (by omega) zS.rf)))) ((zS.zu (by omega) (zS.zu (by omega) (zS.zu (by omega) zS.rf)))) hv.gap) (⟨⟨rfl, h2⟩, g1, g2⟩) (qDoi_cg (I := I) ((zS.zu (by omega) (zS.zu (by omega) (zS.zu (by omega) zS.rf)))) ((zS.zu (by omega) (zS.zu (by omega) (zS.zu (by omega) zS.rf)))) rfl hv.doi) (qKep_cg (I := I) ((zS.zu (by omega) (zS.zu (by omega) (zS.zu (by omega) zS.rf)))) ((zS.zu (by omega) (zS.zu (by omega) (zS.zu (by omega) zS.rf)))) (fun _ _ => rfl) (fun _ _ => rfl) (fun _ _ => rfl) ((zS.zu (by omega) (zS.zu (by omega) (zS.zu (by omega) zS.rf)))) hv.kep) (qTxt_cg (I := I) ((zS.zu (by omega) (zS.zu (by omega) (zS.zu (by omega) zS.rf)))) ((zS.zu (by omega) (zS.zu (by omega) (zS.zu (by omega) zS.rf)))) rfl hv.txt) (qRul_cg (I := I) hv.jok ((zS.zu (by omega) (zS.zu (by omega) (zS.zu (by omega) zS.rf)))) ((zS.zu (by omega) (zS.zu (by omega) (zS.zu (by omega) zS.rf)))) rfl hv.rul) (qOrd_cg (I := I) ((zS.zu (by omega) (zS.zu (by omega) (zS.zu (by omega) zS.rf)))) (fun _ _ => rfl) (fun _ _ => rfl) hv.ord) (qBar_cg (I := I) ((zS.zu (by omega) (zS.zu (by omega) (zS.zu (by omega) zS.rf)))) ((zS.zu (by omega) (zS.zu (by omega) (zS.zu (by omega) zS.rf)))) ((zS.zu (by omega) (zS.zu (by omega) (zS.zu (by omega) zS.rf)))) rfl hv.bar) (qLaw_cg (I := I) rfl rfl hv.law) (qStp_cg (I := I) rfl ((zS.zu (by omega) (zS.zu (by omega) (zS.zu (by omega) zS.rf)))) hv.stp))⟩
    · have e1 : f_X11_term J 0 v2 I = some (-2, I) := by
        simp only [f_X11_term, show ¬ (0 : Int32) < 0 by decide, show (0 : Int32) ≤ 2 by decide, show zin 0 3 = true by decide, show Int32.toNatClampNeg 0 = 0 by decide, show zT1 0 = 1 by decide, show zT2 0 = 5 by decide, ↓reduceIte]
        by_cases c : v2 < 1
        · rw [if_pos c]
        · rw [if_neg c, if_neg (fun c2 : v2 ≤ 5 => h2 (by simp only [zrg, Int32.lt_iff_toInt_lt, Int32.le_iff_toInt_le, tl_0, tl_1, tl_2, tl_3, tl_4, tl_5, tl_6, tl_8, tl_9, tl_24, tl_51, tl_60, tl_99, tl_100, tl_46655, tl_46656] at c c2 ⊢; omega))]
      have e2 : f_X12_term J 0 v2 I = some (-2, zu I 147 0 0) := by
        simp only [f_X12_term, l_in_1_5, Option.bind_some, zb_eq0, zb_eq1, not_true_eq_false, not_false_eq_true, Classical.not_not, ↓reduceIte, show ¬ (0 : Int32) = 1 by decide, show ¬ (0 : Int32) = 2 by decide, eq_self, h2]
      exact ⟨_, _, _, e1, e2, zInv_thrown hv⟩
  by_cases k1 : v1 = 1
  · subst k1
    obtain ⟨g0, g1, g2⟩ := hv.tm
    by_cases h2 : zrg v2 1 9
    · have c1 : ¬ v2 < 1 := by
        simp only [zrg, Int32.lt_iff_toInt_lt, tl_0, tl_1, tl_2, tl_3, tl_4, tl_5, tl_6, tl_8, tl_9, tl_24, tl_51, tl_60, tl_99, tl_100, tl_46655, tl_46656] at h2 ⊢
        omega
      have c2 : v2 ≤ 9 := zrg_hi h2 (by decide)
      have e1 : f_X11_term J 1 v2 I = some (I 5 1, zu I 5 1 v2) := by
        simp only [f_X11_term, show ¬ (1 : Int32) < 0 by decide, show (1 : Int32) ≤ 2 by decide, show zin 1 3 = true by decide, show Int32.toNatClampNeg 1 = 1 by decide, show zT1 1 = 1 by decide, show zT2 1 = 9 by decide, c1, c2, ↓reduceIte]
      have e2 : f_X12_term J 1 v2 (zu I 5 1 v2) = some (I 147 9, zu (zu (zu I 5 1 v2) 147 0 0) 147 9 v2) := by
        simp only [f_X12_term, l_in_1_9, Option.bind_some, zb_eq0, zb_eq1, not_true_eq_false, not_false_eq_true, Classical.not_not, ↓reduceIte, show ¬ (1 : Int32) = 0 by decide, show ¬ (1 : Int32) = 2 by decide, eq_self, h2]
        rfl
      rw [← g1.1] at e2
      exact ⟨_, _, _, e1, e2, (zInv_mk hv.jok hv.jin (qGap_cg (I := I) ((zS.zu (by omega) (zS.zu (by omega) (zS.zu (by omega) zS.rf)))) ((zS.zu (by omega) (zS.zu (by omega) (zS.zu (by omega) zS.rf)))) hv.gap) (⟨g0, ⟨rfl, h2⟩, g2⟩) (qDoi_cg (I := I) ((zS.zu (by omega) (zS.zu (by omega) (zS.zu (by omega) zS.rf)))) ((zS.zu (by omega) (zS.zu (by omega) (zS.zu (by omega) zS.rf)))) rfl hv.doi) (qKep_cg (I := I) ((zS.zu (by omega) (zS.zu (by omega) (zS.zu (by omega) zS.rf)))) ((zS.zu (by omega) (zS.zu (by omega) (zS.zu (by omega) zS.rf)))) (fun _ _ => rfl) (fun _ _ => rfl) (fun _ _ => rfl) ((zS.zu (by omega) (zS.zu (by omega) (zS.zu (by omega) zS.rf)))) hv.kep) (qTxt_cg (I := I) ((zS.zu (by omega) (zS.zu (by omega) (zS.zu (by omega) zS.rf)))) ((zS.zu (by omega) (zS.zu (by omega) (zS.zu (by omega) zS.rf)))) rfl hv.txt) (qRul_cg (I := I) hv.jok ((zS.zu (by omega) (zS.zu (by omega) (zS.zu (by omega) zS.rf)))) ((zS.zu (by omega) (zS.zu (by omega) (zS.zu (by omega) zS.rf)))) rfl hv.rul) (qOrd_cg (I := I) ((zS.zu (by omega) (zS.zu (by omega) (zS.zu (by omega) zS.rf)))) (fun _ _ => rfl) (fun _ _ => rfl) hv.ord) (qBar_cg (I := I) ((zS.zu (by omega) (zS.zu (by omega) (zS.zu (by omega) zS.rf)))) ((zS.zu (by omega) (zS.zu (by omega) (zS.zu (by omega) zS.rf)))) ((zS.zu (by omega) (zS.zu (by omega) (zS.zu (by omega) zS.rf)))) rfl hv.bar) (qLaw_cg (I := I) rfl rfl hv.law) (qStp_cg (I := I) rfl ((zS.zu (by omega) (zS.zu (by omega) (zS.zu (by omega) zS.rf)))) hv.stp))⟩
    · have e1 : f_X11_term J 1 v2 I = some (-2, I) := by
        simp only [f_X11_term, show ¬ (1 : Int32) < 0 by decide, show (1 : Int32) ≤ 2 by decide, show zin 1 3 = true by decide, show Int32.toNatClampNeg 1 = 1 by decide, show zT1 1 = 1 by decide, show zT2 1 = 9 by decide, ↓reduceIte]
        by_cases c : v2 < 1
        · rw [if_pos c]
        · rw [if_neg c, if_neg (fun c2 : v2 ≤ 9 => h2 (by simp only [zrg, Int32.lt_iff_toInt_lt, Int32.le_iff_toInt_le, tl_0, tl_1, tl_2, tl_3, tl_4, tl_5, tl_6, tl_8, tl_9, tl_24, tl_51, tl_60, tl_99, tl_100, tl_46655, tl_46656] at c c2 ⊢; omega))]
      have e2 : f_X12_term J 1 v2 I = some (-2, zu I 147 0 0) := by
        simp only [f_X12_term, l_in_1_9, Option.bind_some, zb_eq0, zb_eq1, not_true_eq_false, not_false_eq_true, Classical.not_not, ↓reduceIte, show ¬ (1 : Int32) = 0 by decide, show ¬ (1 : Int32) = 2 by decide, eq_self, h2]
      exact ⟨_, _, _, e1, e2, zInv_thrown hv⟩
  by_cases k2 : v1 = 2
  · subst k2
    obtain ⟨g0, g1, g2⟩ := hv.tm
    by_cases h2 : zrg v2 51 100
    · have c1 : ¬ v2 < 51 := by
        simp only [zrg, Int32.lt_iff_toInt_lt, tl_0, tl_1, tl_2, tl_3, tl_4, tl_5, tl_6, tl_8, tl_9, tl_24, tl_51, tl_60, tl_99, tl_100, tl_46655, tl_46656] at h2 ⊢
        omega
      have c2 : v2 ≤ 100 := zrg_hi h2 (by decide)
      have e1 : f_X11_term J 2 v2 I = some (I 5 2, zu I 5 2 v2) := by
        simp only [f_X11_term, show ¬ (2 : Int32) < 0 by decide, show (2 : Int32) ≤ 2 by decide, show zin 2 3 = true by decide, show Int32.toNatClampNeg 2 = 2 by decide, show zT1 2 = 51 by decide, show zT2 2 = 100 by decide, c1, c2, ↓reduceIte]
      have e2 : f_X12_term J 2 v2 (zu I 5 2 v2) = some (I 147 10, zu (zu (zu I 5 2 v2) 147 0 0) 147 10 v2) := by
        simp only [f_X12_term, l_in_51_100, Option.bind_some, zb_eq0, zb_eq1, not_true_eq_false, not_false_eq_true, Classical.not_not, ↓reduceIte, show ¬ (2 : Int32) = 0 by decide, show ¬ (2 : Int32) = 1 by decide, eq_self, h2]
        rfl
      rw [← g2.1] at e2
      exact ⟨_, _, _, e1, e2, (zInv_mk hv.jok hv.jin (qGap_cg (I := I) ((zS.zu (by omega) (zS.zu (by omega) (zS.zu (by omega) zS.rf)))) ((zS.zu (by omega) (zS.zu (by omega) (zS.zu (by omega) zS.rf)))) hv.gap) (⟨g0, g1, ⟨rfl, h2⟩⟩) (qDoi_cg (I := I) ((zS.zu (by omega) (zS.zu (by omega) (zS.zu (by omega) zS.rf)))) ((zS.zu (by omega) (zS.zu (by omega) (zS.zu (by omega) zS.rf)))) rfl hv.doi) (qKep_cg (I := I) ((zS.zu (by omega) (zS.zu (by omega) (zS.zu (by omega) zS.rf)))) ((zS.zu (by omega) (zS.zu (by omega) (zS.zu (by omega) zS.rf)))) (fun _ _ => rfl) (fun _ _ => rfl) (fun _ _ => rfl) ((zS.zu (by omega) (zS.zu (by omega) (zS.zu (by omega) zS.rf)))) hv.kep) (qTxt_cg (I := I) ((zS.zu (by omega) (zS.zu (by omega) (zS.zu (by omega) zS.rf)))) ((zS.zu (by omega) (zS.zu (by omega) (zS.zu (by omega) zS.rf)))) rfl hv.txt) (qRul_cg (I := I) hv.jok ((zS.zu (by omega) (zS.zu (by omega) (zS.zu (by omega) zS.rf)))) ((zS.zu (by omega) (zS.zu (by omega) (zS.zu (by omega) zS.rf)))) rfl hv.rul) (qOrd_cg (I := I) ((zS.zu (by omega) (zS.zu (by omega) (zS.zu (by omega) zS.rf)))) (fun _ _ => rfl) (fun _ _ => rfl) hv.ord) (qBar_cg (I := I) ((zS.zu (by omega) (zS.zu (by omega) (zS.zu (by omega) zS.rf)))) ((zS.zu (by omega) (zS.zu (by omega) (zS.zu (by omega) zS.rf)))) ((zS.zu (by omega) (zS.zu (by omega) (zS.zu (by omega) zS.rf)))) rfl hv.bar) (qLaw_cg (I := I) rfl rfl hv.law) (qStp_cg (I := I) rfl ((zS.zu (by omega) (zS.zu (by omega) (zS.zu (by omega) zS.rf)))) hv.stp))⟩
    · have e1 : f_X11_term J 2 v2 I = some (-2, I) := by
        simp only [f_X11_term, show ¬ (2 : Int32) < 0 by decide, show (2 : Int32) ≤ 2 by decide, show zin 2 3 = true by decide, show Int32.toNatClampNeg 2 = 2 by decide, show zT1 2 = 51 by decide, show zT2 2 = 100 by decide, ↓reduceIte]
        by_cases c : v2 < 51
        · rw [if_pos c]
        · rw [if_neg c, if_neg (fun c2 : v2 ≤ 100 => h2 (by simp only [zrg, Int32.lt_iff_toInt_lt, Int32.le_iff_toInt_le, tl_0, tl_1, tl_2, tl_3, tl_4, tl_5, tl_6, tl_8, tl_9, tl_24, tl_51, tl_60, tl_99, tl_100, tl_46655, tl_46656] at c c2 ⊢; omega))]
      have e2 : f_X12_term J 2 v2 I = some (-2, zu I 147 0 0) := by
        simp only [f_X12_term, l_in_51_100, Option.bind_some, zb_eq0, zb_eq1, not_true_eq_false, not_false_eq_true, Classical.not_not, ↓reduceIte, show ¬ (2 : Int32) = 0 by decide, show ¬ (2 : Int32) = 1 by decide, eq_self, h2]
      exact ⟨_, _, _, e1, e2, zInv_thrown hv⟩
  have e1 : f_X11_term J v1 v2 I = some (-2, I) := by
    unfold f_X11_term
    by_cases c : v1 < 0
    · rw [if_pos c]
    · rw [if_neg c, if_neg (fun c2 : v1 ≤ 2 => ?_)]
      rcases zt_3 k0 k1 k2 with q | q
      · simp only [Int32.lt_iff_toInt_lt, tl_0, tl_1, tl_2, tl_3, tl_4, tl_5, tl_6, tl_8, tl_9, tl_24, tl_51, tl_60, tl_99, tl_100, tl_46655, tl_46656] at c
        omega
      · simp only [Int32.le_iff_toInt_le, tl_0, tl_1, tl_2, tl_3, tl_4, tl_5, tl_6, tl_8, tl_9, tl_24, tl_51, tl_60, tl_99, tl_100, tl_46655, tl_46656] at c2
        omega
  have e2 : f_X12_term J v1 v2 I = some (-2, zu I 147 0 0) := by
    simp only [f_X12_term, k0, k1, k2, ↓reduceIte]
  exact ⟨_, _, _, e1, e2, zInv_thrown hv⟩
