/-! ===== the table out of the invariant ===== -/
noncomputable def eOf (I : zM) (S L : Nat → Int32) (T : Nat → Int32) (nn : Nat) (B : Nat → Prop) (tm le sh a c t : Nat) (cr lg lv : Int32) : zM
  | 0 => I 148
  | 1 => I 150
  | 2 => I 151
  | 3 => I 155
  | 4 => S
  | 5 => fun g => sBe T nn (nI a) (nI c) (nI g) (nI tm)
  | 6 => fun g => sCs (sKw T nn B a t ∧ sKw T nn B c t) T nn t le sh g
  | 7 => L
  | _ => fun k => match k with
    | 0 => nI t
    | 1 => cr
    | 2 => lg
    | 3 => lv
    | _ => 0
def eP (I : zM) (b tm le sh a c t : Nat) : Prop := (1 ≤ tm ∧ tm ≤ 5 ∧ 1 ≤ le ∧ le ≤ 9 ∧ 51 ≤ sh ∧ sh ≤ 100) ∧ (a < 5 ∧ c < 5 ∧ t < 3) ∧ (I 5 0 = nI tm ∧ I 147 8 = nI tm ∧ I 5 1 = nI le ∧ I 147 9 = nI le ∧ I 5 2 = nI sh ∧ I 147 10 = nI sh) ∧ (I (99 + 6 * b) 0 = nI a ∧ I 159 b = nI a ∧ I (99 + 6 * b) 1 = nI c ∧ I 160 b = nI c ∧ I (99 + 6 * b) 2 = nI t ∧ I 161 b = nI t)
theorem eP_of {I : zM} {b : Nat} (h : qTm I) (g : qBa I b) : ∃ tm le sh a c t, eP I b tm le sh a c t := by
  obtain ⟨tm, le, sh, a1, a2, a3, a4, a5, a6, t1, t2, t3, t4, t5, t6⟩ := zTm h
  obtain ⟨⟨b1, b2⟩, ⟨b3, b4⟩, ⟨b5, b6⟩, -⟩ := g
  obtain ⟨a, -, ha, ea⟩ := zrg_nI b2 (by decide)
  obtain ⟨c, -, hc, ec⟩ := zrg_nI b4 (by decide)
  obtain ⟨t, -, ht, et⟩ := zrg_nI b6 (by decide)
  exact ⟨tm, le, sh, a, c, t, ⟨a1, a2, a3, a4, a5, a6⟩, ⟨by omega, by omega, by omega⟩, ⟨t1, t2, t3, t4, t5, t6⟩, ⟨b1.trans ea, ea, b3.trans ec, ec, b5.trans et, et⟩⟩
/-- the rules' number -/
def rP (I : zM) (J : zJ) (m : Nat) : Prop := m ≤ 12 ∧ I 18 1 = nI m ∧ I 147 15 = nI m ∧ ∀ r, r < m → (∀ f, f < 6 → I (zrp J r) f = I 155 (6 * r + f)) ∧ zrg (I 155 (6 * r + 1)) 0 5 ∧ (I 155 (6 * r + 3) = -9 ∨ zrg (I 155 (6 * r + 3)) 0 5)
theorem rP_of {I : zM} {J : zJ} (h : qRul I J) : ∃ m, rP I J m := h
/-- an order's letters -/
def oP (L : Nat → Int32) (q : Nat) : Prop := q ≤ 5 ∧ (∀ k, k < q → zrg (L k) 0 4) ∧ ∀ i j, i < q → j < q → L i = L j → i = j
theorem oP_of {I : zM} {w : Nat} (h : qOr I w) : ∃ q, oP (fun k => I 157 (5 * w + k)) q ∧ 1 ≤ q ∧ I (91 + 2 * w) 1 = nI q ∧ I 158 w = nI q ∧ ∀ k, k < q → I (92 + 2 * w) k = I 157 (5 * w + k) := by
  obtain ⟨q, h1, h2, h3, h4, h5, h6⟩ := h
  exact ⟨q, ⟨h2, fun k hk => (h5 k hk).2, h6⟩, h1, h3, h4, fun k hk => (h5 k hk).1⟩
theorem eW_of {I : zM} {J : zJ} {S L T : Nat → Int32} {nn : Nat} {B : Nat → Prop} {tm le sh a c t m q b : Nat} {lg lv : Int32} (hg : qGap I) (hr : rP I J m) (hb : qBa I b) (ho : oP L q) (hl : lg = -9 ∨ zrg lg 0 5) : eW (eOf I S L T nn B tm le sh a c t (I 163 b) lg lv) m q := ⟨fun g h => (hg.1 g h).2, fun g h => (hg.2.2 g h).2.2, hr.1, fun r h => (hr.2.2.2 r h).2, ho.1, ho.2.1, ho.2.2, hb.2.2.2.2.1.2, hl⟩
/-- what a plan needs -/
def cT (E : zM) (m : Nat) (I : zM) (J : zJ) : Prop := cG E I ∧ cR E m I J ∧ cS E I
theorem c_take {J : zJ} {I : zM} {L T : Nat → Int32} {b d nn tm le sh a c t m : Nat} (hJ : zJok J) (hg : qGap I) (hr : rP I J m) (hba : qBa I b) (hb : b < 8) (hp : eP I b tm le sh a c t) (w : vDo I d T nn) (hv : vVa T nn) (hd : d = 6 ∨ d = 75 ∨ d = 83) {lg lv : Int32} (hlg : I 39 3 = lg) (hlv : lg = -9 ∨ I 39 4 = lv) : ∃ I', f_X5_take J (99 + 6 * b) d I = some I' ∧ cT (eOf I (fun g => I 162 (6 * b + g)) L T nn (zbt (I d 7)) tm le sh a c t (I 163 b) lg lv) m I' J ∧ (∀ p, p ≠ 39 → p ≠ 40 → p ≠ 41 → p ≠ 42 → p ≠ d + 7 → I' p = I p) ∧ (∀ k, k ≠ 5 → k ≠ 6 → I' 39 k = I 39 k) := by
  obtain ⟨⟨p1, p2, p3, p4, p5, p6⟩, ⟨p7, p8, p9⟩, ⟨t1, t2, t3, t4, t5, t6⟩, ⟨b1, b2, b3, b4, b5, b6⟩⟩ := hp
  have h8 : zR d 8 = d + 7 := by
    rcases hd with rfl | rfl | rfl
    · decide +kernel
    · decide +kernel
    · decide +kernel
  obtain ⟨I', k1, k2, k3, k4, k5, k6⟩ := l_take J hb w hv (by omega) (by omega) (by omega) h8 t1 t3 t5 p2 p4 p6 b1 b3 b5 p7 p8 p9
  refine ⟨I', k1, ⟨fun g hgg => ?_, ⟨?_, fun r hrr => ?_⟩, fun g hgg => ?_, ?_, ?_, k4, ?_⟩, k2, k3⟩
  · rw [k2 2 (by decide) (by decide) (by decide) (by decide) (by omega), k2 3 (by decide) (by decide) (by decide) (by decide) (by omega), k2 4 (by decide) (by decide) (by decide) (by decide) (by omega)]
    exact ⟨(hg.1 g hgg).1, (hg.2.2 g hgg).1, (hg.2.2 g hgg).2.1⟩
  · rw [k2 18 (by decide) (by decide) (by decide) (by decide) (by omega)]
    exact hr.2.1
  · obtain ⟨-, z1, z2⟩ := hJ.2 r (by have := hr.1; omega)
    refine ⟨z1, z2, ?_⟩
    rw [k2 (zrp J r) (by omega) (by omega) (by omega) (by omega) (by omega)]
    exact (hr.2.2.2 r hrr).1
  · obtain ⟨q1, q2, q3⟩ := k6 g hgg
    exact ⟨q1.trans (hba.2.2.2.1 g hgg).1, q2, q3⟩
  · exact (k3 3 (by decide) (by decide)).trans hlg
  · exact hlv.imp_right (fun e => (k3 4 (by decide) (by decide)).trans e)
  · exact k5.trans hba.2.2.2.2.1.1
/-- the same but for the fillers, the row that is now and the reading's own numbers -/
def zRe (I I' : zM) : Prop := (∀ p, p ≠ 39 → p ≠ 44 → (p < 45 ∨ 75 ≤ p) → I' p = I p) ∧ ∀ k, k < 12 → I' 39 k = I 39 k
theorem zRe.tr {I I1 I2 : zM} (h : zRe I I1) (g : zRe I1 I2) : zRe I I2 := ⟨fun p h1 h2 h3 => (g.1 p h1 h2 h3).trans (h.1 p h1 h2 h3), fun k hk => (g.2 k hk).trans (h.2 k hk)⟩
theorem cT_cg {E I I' : zM} {J : zJ} {m : Nat} (h : zRe I I') (c : cT E m I J) : cT E m I' J := by
  obtain ⟨c1, ⟨c2, c3⟩, c4⟩ := c
  refine ⟨cG_cg (fun p h1 h2 => h.1 p (by omega) (by omega) (by omega)) c1, ⟨?_, fun r hr => ?_⟩, ?_⟩
  · rw [h.1 18 (by decide) (by decide) (by decide)]
    exact c2
  · obtain ⟨a, b, d⟩ := c3 r hr
    refine ⟨a, b, ?_⟩
    rw [h.1 (zrp J r) (by omega) (by omega) (by omega)]
    exact d
  · unfold cS at c4 ⊢
    rw [h.1 40 (by decide) (by decide) (by decide), h.1 41 (by decide) (by decide) (by decide), h.1 42 (by decide) (by decide) (by decide), h.2 3 (by decide), h.2 4 (by decide), h.2 5 (by decide), h.2 6 (by decide)]
    exact c4
theorem c_plan {J : zJ} {E I : zM} {m q p1 : Nat} (hw : eW E m q) (hc : cT E m I J) (h4 : E 8 4 = 0) (hp : p1 + 1 < 39 ∨ 75 ≤ p1) (r1 : zR p1 0 = p1 + 1) (hq : I p1 1 = nI q) (hL : ∀ k, k < q → I (p1 + 1) k = E 7 k) : ∃ I', f_X5_plan J p1 I = some I' ∧ cF E m q I' ∧ zFl I I' := l_plan J hw hc.1 hc.2.1 hc.2.2 h4 (by omega) r1 hq hL
theorem c_read {J : zJ} {E I : zM} {m q p1 mu lam : Nat} (hw : eW E m q) (hc : cT E m I J) (h4 : E 8 4 = 0) (hp : p1 + 1 < 39 ∨ 75 ≤ p1) (r1 : zR p1 0 = p1 + 1) (hq : I p1 1 = nI q) (hL : ∀ k, k < q → I (p1 + 1) k = E 7 k) (hR : isRing (eNx E m q) mu lam) (hml : mu + lam ≤ 46656) : ∃ I', f_X5_read J p1 I = some I' ∧ zRe I I' ∧ rDn (eNx E m q) mu lam I' ∧ cF E m q I' ∧ cT E m I' J := by
  obtain ⟨I1, e1, f1, f2⟩ := c_plan hw hc h4 hp r1 hq hL
  obtain ⟨I2, e2, f3, f4⟩ := l_read J e1 hw (f2.g hc.1) f1 hR hml
  have h : zRe I I2 := ⟨fun p h1 h2 h3 => (f3.1 p h1 h2).trans (f2 p h3), fun k hk => (f3.2 k hk).trans (by rw [f2 39 (by decide)])⟩
  exact ⟨I2, e2, h, f4, f3.f f1, cT_cg h hc⟩
theorem t_env {I : zM} {J : zJ} {L T : Nat → Int32} {nn tm le sh a c t m q b o : Nat} {B : Nat → Prop} (hr : rP I J m) (hp : eP I b tm le sh a c t) (hT : I 152 = T) (h6 : I 147 6 = nI nn) (hn : nn ≤ 24) (hB : ∀ i, i < 15 → I 153 i = zb (B i)) (hq : I 158 o = nI q) (hL : ∀ k, k < q → I 157 (5 * o + k) = L k) : tE (eOf I (fun g => I 162 (6 * b + g)) L T nn B tm le sh a c t (I 163 b) (I 147 32) (I 147 33)) m q b o nn tm le sh I := by
  obtain ⟨⟨p1, p2, p3, p4, p5, p6⟩, ⟨p7, p8, p9⟩, ⟨t1, t2, t3, t4, t5, t6⟩, ⟨b1, b2, b3, b4, b5, b6⟩⟩ := hp
  refine ⟨fun g _ => ⟨rfl, rfl, rfl⟩, ⟨hr.2.2.1, fun j _ => rfl⟩, fun g _ => ⟨rfl, ?_⟩, ⟨a, c, t, p7, p8, p9, b2, b4, b6, rfl, B, hB, fun g _ => ?_⟩, ⟨h6, hn, t2, t4, t6, p3, p4, p5, p6⟩, ⟨hq, hL⟩, rfl, rfl, rfl⟩
  · rw [hT, b2, b4, t2]
    rfl
  · rw [hT]
    rfl
/-! ===== what a call of the reading leaves of the invariant ===== -/
/-- the class's places, but for those that a reading uses -/
def zCl (I I' : zM) : Prop := ∀ p, (p < 35 ∨ 75 ≤ p) → p ≠ 13 → p ≠ 82 → p ≠ 90 → I' p = I p
theorem zCl.rf {I : zM} : zCl I I := fun _ _ _ _ _ => rfl
theorem zCl.tr {I I1 I2 : zM} (h : zCl I I1) (g : zCl I1 I2) : zCl I I2 := fun p h1 h2 h3 h4 => (g p h1 h2 h3 h4).trans (h p h1 h2 h3 h4)
theorem zCl.re {I I' : zM} (h : zRe I I') : zCl I I' := fun p h1 _ _ _ => h.1 p (by omega) (by omega) (by omega)
/-- all but the law ahead and the stamps -/
def zInw (I : zM) (J : zJ) : Prop := zJok J ∧ (∀ r s, r < 13 → s < 13 → zrp J r = zrp J s → r = s) ∧ qGap I ∧ qTm I ∧ qDoi I ∧ qKep I ∧ qTxt I ∧ qRul I J ∧ qOrd I ∧ qBar I
theorem zInw_of {n : Nat} {I : zM} {J : zJ} (h : zInv n I J) : zInw I J := ⟨h.jok, h.jin, h.gap, h.tm, h.doi, h.kep, h.txt, h.rul, h.ord, h.bar⟩
theorem qKep_cl {I I' : zM} (h : zCl I I') (q : qKep I) : qKep I' := by
  intro s hs
  obtain ⟨q1, q2, q3⟩ := q s hs
  refine ⟨qDo_cg (fun p h1 h2 => h p (by omega) (by omega) (by omega) (by omega)) (fun j _ _ => by rw [h 166 (by decide) (by decide) (by decide) (by decide)]) (by rw [h 167 (by decide) (by decide) (by decide) (by decide)]) (fun i _ => by rw [h 168 (by decide) (by decide) (by decide) (by decide)]) q1, ?_, ?_⟩
  · rw [h 15 (by decide) (by decide) (by decide) (by decide), h 169 (by decide) (by decide) (by decide) (by decide)]
    exact q2
  · rw [h 169 (by decide) (by decide) (by decide) (by decide)]
    exact q3
theorem zInw_cl {I I' : zM} {J : zJ} (h : zCl I I') (hv : zInw I J) : zInw I' J := by
  obtain ⟨v1, v2, v3, v4, v5, v6, v7, v8, v9, v10⟩ := hv
  have h147 : I' 147 = I 147 := h 147 (by decide) (by decide) (by decide) (by decide)
  refine ⟨v1, v2, qGap_cg (fun p h1 h2 => h p (by omega) (by omega) (by omega) (by omega)) (fun p h1 h2 => h p (by omega) (by omega) (by omega) (by omega)) v3, qTm_cg (fun p h1 h2 => h p (by omega) (by omega) (by omega) (by omega)) (by rw [h147]) (by rw [h147]) (by rw [h147]) v4, qDoi_cg (fun p h1 h2 => h p (by omega) (by omega) (by omega) (by omega)) (fun p h1 h2 => h p (by omega) (by omega) (by omega) (by omega)) (by rw [h147]) v5, qKep_cl h v6, qTxt_cg (fun p h1 h2 => h p (by omega) (by omega) (by omega) (by omega)) (fun p h1 h2 => h p (by omega) (by omega) (by omega) (by omega)) (by rw [h147]) v7, qRul_cg v1 (fun p h1 h2 => h p (by omega) (by omega) (by omega) (by omega)) (fun p h1 h2 => h p (by omega) (by omega) (by omega) (by omega)) (by rw [h147]) v8, qOrd_cg (fun p h1 h2 => h p (by omega) (by omega) (by omega) (by omega)) (fun j _ => by rw [h 157 (by decide) (by decide) (by decide) (by decide)]) (fun j _ => by rw [h 158 (by decide) (by decide) (by decide) (by decide)]) v9, qBar_cg (fun p h1 h2 => h p (by omega) (by omega) (by omega) (by omega)) (fun p h1 h2 => h p (by omega) (by omega) (by omega) (by omega)) (fun p h1 h2 => h p (by omega) (by omega) (by omega) (by omega)) (by rw [h147]) v10⟩
theorem zInw_tv {I I' : zM} {J : zJ} (h : zTv I I') (hv : zInw I J) : zInw I' J := by
  obtain ⟨v1, v2, v3, v4, v5, v6, v7, v8, v9, v10⟩ := hv
  have z : ∀ lo hi, hi ≤ 147 → zS I I' lo hi := fun lo hi hh p h1 h2 => h.1 p (by omega) (by omega)
  have z2 : ∀ lo hi, 147 < lo → hi ≤ 170 → zS I I' lo hi := fun lo hi hl hh p h1 h2 => h.1 p (by omega) (by omega)
  exact ⟨v1, v2, qGap_cg (z _ _ (by decide)) (z2 _ _ (by decide) (by decide)) v3, qTm_cg (z _ _ (by decide)) (h.2 8 (by decide)) (h.2 9 (by decide)) (h.2 10 (by decide)) v4, qDoi_cg (z _ _ (by decide)) (z2 _ _ (by decide) (by decide)) (h.2 6 (by decide)) v5, qKep_cg (z _ _ (by decide)) (z _ _ (by decide)) (fun j _ => by rw [h.1 166 (by decide) (by decide)]) (fun j _ => by rw [h.1 167 (by decide) (by decide)]) (fun j _ => by rw [h.1 168 (by decide) (by decide)]) (z2 _ _ (by decide) (by decide)) v6, qTxt_cg (z _ _ (by decide)) (z2 _ _ (by decide) (by decide)) (h.2 12 (by decide)) v7, qRul_cg v1 (z _ _ (by decide)) (z2 _ _ (by decide) (by decide)) (h.2 15 (by decide)) v8, qOrd_cg (z _ _ (by decide)) (fun j _ => by rw [h.1 157 (by decide) (by decide)]) (fun j _ => by rw [h.1 158 (by decide) (by decide)]) v9, qBar_cg (z _ _ (by decide)) (z _ _ (by decide)) (z2 _ _ (by decide) (by decide)) (h.2 25 (by decide)) v10⟩
theorem zInw_tw {I I' : zM} {J : zJ} (h : zTw I I') (hv : zInw I J) : zInw I' J := zInw_tv h.v hv
/-- so many stamps at most -/
def zSps (N : Nat) (I : zM) : Prop := ∃ m, m ≤ N ∧ I 147 39 = nI m ∧ ∀ k, k < 46656 → ∃ s, s ≤ m ∧ I 173 k = nI s
theorem zInv_of {n : Nat} {I : zM} {J : zJ} (h : zInw I J) (h1 : I 39 3 = -9) (h2 : I 147 32 = -9) (h3 : zSps (300 * n) I) : zInv n I J := by
  obtain ⟨v1, v2, v3, v4, v5, v6, v7, v8, v9, v10⟩ := h
  exact zInv_mk v1 v2 v3 v4 v5 v6 v7 v8 v9 v10 ⟨h1, h2⟩ h3
theorem zInw_th {I : zM} {J : zJ} (hv : zInw I J) : zInw (zu I 147 0 0) J := by
  obtain ⟨v1, v2, v3, v4, v5, v6, v7, v8, v9, v10⟩ := hv
  have z : ∀ lo hi, (hi ≤ 147 ∨ 147 < lo) → zS I (zu I 147 0 0) lo hi := fun lo hi hh p h1 h2 => zu_row (by omega)
  exact ⟨v1, v2, qGap_cg (z _ _ (by decide)) (z _ _ (by decide)) v3, qTm_cg (z _ _ (by decide)) rfl rfl rfl v4, qDoi_cg (z _ _ (by decide)) (z _ _ (by decide)) rfl v5, qKep_cg (z _ _ (by decide)) (z _ _ (by decide)) (fun j _ => rfl) (fun j _ => rfl) (fun j _ => rfl) (z _ _ (by decide)) v6, qTxt_cg (z _ _ (by decide)) (z _ _ (by decide)) rfl v7, qRul_cg v1 (z _ _ (by decide)) (z _ _ (by decide)) rfl v8, qOrd_cg (z _ _ (by decide)) (fun j _ => rfl) (fun j _ => rfl) v9, qBar_cg (z _ _ (by decide)) (z _ _ (by decide)) (z _ _ (by decide)) rfl v10⟩
