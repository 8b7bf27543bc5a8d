/-- the first from v on, of j, of which something holds; 0 -/
noncomputable def sFst (Q : Nat → Prop) : Nat → Nat → Nat
  | 0, _ => 0
  | j + 1, v => @ite _ (Q v) (Classical.propDecidable _) v (sFst Q j (v + 1))
theorem sFst_p {Q : Nat → Prop} {j v : Nat} (h : Q v) : sFst Q (j + 1) v = v := if_pos h
theorem sFst_n {Q : Nat → Prop} {j v : Nat} (h : ¬ Q v) : sFst Q (j + 1) v = sFst Q j (v + 1) := if_neg h
/-- the last -/
noncomputable def sLst (Q : Nat → Prop) : Nat → Nat → Nat → Nat
  | 0, _, x => x
  | j + 1, v, x => sLst Q j (v + 1) (@ite _ (Q v) (Classical.propDecidable _) v x)
theorem sLst_p {Q : Nat → Prop} {j v x : Nat} (h : Q v) : sLst Q (j + 1) v x = sLst Q j (v + 1) v := congrArg (sLst Q j (v + 1)) (if_pos h)
theorem sLst_n {Q : Nat → Prop} {j v x : Nat} (h : ¬ Q v) : sLst Q (j + 1) v x = sLst Q j (v + 1) x := congrArg (sLst Q j (v + 1)) (if_neg h)
theorem sLst_no {Q : Nat → Prop} : ∀ j v x, (∀ u, v ≤ u → ¬ Q u) → sLst Q j v x = x := by
  intro j
  induction j with
  | zero => intro v x _; rfl
  | succ j ih =>
    intro v x h
    rw [sLst_n (h v (Nat.le_refl _))]
    exact ih (v + 1) x (fun u hu => h u (by omega))
theorem sLst_one {Q : Nat → Prop} (h : ∀ u w, Q u → Q w → u = w) : ∀ j v, sLst Q j v 0 = sFst Q j v := by
  intro j
  induction j with
  | zero => intro v; rfl
  | succ j ih =>
    intro v
    by_cases q : Q v
    · rw [sLst_p q, sFst_p q]
      exact sLst_no j (v + 1) v (fun u hu qu => by have := h u v qu q; omega)
    · rw [sLst_n q, sFst_n q]
      exact ih (v + 1)
theorem sFst_le {Q : Nat → Prop} : ∀ j v, sFst Q j v < v + j ∨ sFst Q j v = 0 := by
  intro j
  induction j with
  | zero => intro v; exact Or.inr rfl
  | succ j ih =>
    intro v
    by_cases q : Q v
    · rw [sFst_p q]; omega
    · rw [sFst_n q]
      have := ih (v + 1)
      omega
/-- enough of them, and enough of those -/
def cuQ (all le sh own : Nat) : Prop := le ≤ all ∧ sh * all ≤ own * 100
theorem cuQ_le {all le sh own : Nat} (h : ¬ le ≤ all) : ¬ cuQ all le sh own := fun q => h q.1
theorem l_isCustom (J : zJ) {I : zM} {le sh own all : Nat} (hl : I 5 1 = nI le) (hs : I 5 2 = nI sh) (h1 : le ≤ 9) (h2 : sh ≤ 100) (h3 : own ≤ 1000) (h4 : all ≤ 1000) : f_X1_isCustom J (nI own) (nI all) I = some (zb (cuQ all le sh own), I) := by
  have hb : sh * all ≤ 100 * 1000 := Nat.mul_le_mul h2 h4
  unfold f_X1_isCustom
  rw [hl, hs, q_m100, q_mul]
  by_cases a : le ≤ all
  · rw [if_neg (nI_nlt a (by omega))]
    by_cases b : sh * all ≤ own * 100
    · rw [if_neg (nI_nlt b (by omega)), ← zb_t (P := cuQ all le sh own) ⟨a, b⟩]
    · rw [if_pos (nI_lt (by omega) (by omega)), ← zb_f (P := cuQ all le sh own) (fun q => b q.2)]
  · rw [if_pos (nI_lt (by omega) (by omega)), ← zb_f (P := cuQ all le sh own) (fun q => a q.1)]
theorem l_cuo (J : zJ) {I : zM} {d : Nat} (t g : Int32) {le sh all : Nat} {c : Nat → Nat} (hl : I 5 1 = nI le) (hs : I 5 2 = nI sh) (h1 : le ≤ 9) (h2 : sh ≤ 100) (h4 : all ≤ 24) (h8 : zR d 8 = d + 7) (hc : ∀ v, v < 6 → I (d + 7) v = nI (c v) ∧ c v ≤ 24) : ∀ j v fuel, v + j = 6 → j < fuel → ((f_X1_customOf_11 J d t g (nI all) fuel (nI v) I).bind fun q => Sum.elim (fun a => some a) (fun a5 => some ((0, a5.2))) q) = some (nI (sFst (fun v => cuQ all le sh (c v)) j v), I) := by
  intro j
  induction j with
  | zero =>
    intro v fuel hk hf
    obtain ⟨n, rfl⟩ : ∃ n, fuel = n + 1 := ⟨fuel - 1, by omega⟩
    have e : v = 6 := by omega
    subst e
    unfold f_X1_customOf_11
    rw [if_pos (show (5 : Int32) < nI 6 by decide)]
    rfl
  | succ j ih =>
    intro v fuel hk hf
    obtain ⟨n, rfl⟩ : ∃ n, fuel = n + 1 := ⟨fuel - 1, by omega⟩
    have h0 : ¬ (5 : Int32) < nI v := nI_nlt (a := 5) (by omega) (by decide)
    have z0 : zin (nI (v)) 6 = true := zin_nI (by omega) (by decide)
    have c0 : Int32.toNatClampNeg (nI (v)) = v := nI_clamp (by omega)
    obtain ⟨hc1, hc2⟩ := hc v (by omega)
    have k := l_isCustom J (own := c v) (all := all) hl hs h1 h2 (by omega) (by omega)
    simp only [f_X1_customOf_11, h0, z0, c0, h8, hc1, k, q_a1, Option.bind_some, ↓reduceIte]
    by_cases q : cuQ all le sh (c v)
    · rw [if_neg (fun z => zb_eq0.mp z q), sFst_p (Q := fun v => cuQ all le sh (c v)) q]
      rfl
    · rw [if_pos (zb_eq0.mpr q), sFst_n (Q := fun v => cuQ all le sh (c v)) q]
      exact ih (v + 1) n (by omega) (by omega)
/-- what CUSTOM gives -/
noncomputable def sCu (T : Nat → Int32) (m : Nat) (t g : Int32) (le sh : Nat) : Nat := sFst (fun v => cuQ (sCt (tAl T t g) m 0) le sh (sCt (tOw T t g (nI v)) m 0)) 5 1
theorem sCu_le {T : Nat → Int32} {m : Nat} {t g : Int32} {le sh : Nat} : sCu T m t g le sh ≤ 5 := by
  have := sFst_le (Q := fun v => cuQ (sCt (tAl T t g) m 0) le sh (sCt (tOw T t g (nI v)) m 0)) 5 1
  unfold sCu
  omega
theorem l_customOf (J : zJ) {I : zM} {d m le sh : Nat} {T : Nat → Int32} (w : vDo I d T m) (hv : vVa T m) (hd : d ≠ 5) (hl : I 5 1 = nI le) (hs : I 5 2 = nI sh) (h1 : le ≤ 9) (h2 : sh ≤ 100) (hd2 : d + 7 ≠ 5) (h8 : zR d 8 = d + 7) (t g : Int32) : ∃ I', f_X1_customOf J d t g I = some (nI (sCu T m t g le sh), I') ∧ ∀ p, p ≠ d + 7 → I' p = I p := by
  have hm := w.1
  obtain ⟨I', e, f1, f2⟩ := l_tallyUp J w hv t g h8
  refine ⟨I', ?_, f1⟩
  have k := l_cuo J (I := I') (d := d) t g (le := le) (sh := sh) (all := sCt (tAl T t g) m 0) (c := fun v => sCt (tOw T t g (nI v)) m 0) (by rw [f1 5 (by omega)]; exact hl) (by rw [f1 5 (by omega)]; exact hs) h1 h2 (by have := sCt_le (P := tAl T t g) m 0; omega) h8 (fun v hv => ⟨f2 v hv, by have := sCt_le (P := tOw T t g (nI v)) m 0; omega⟩) 5 1 zF (by omega) (by unfold zF; omega)
  unfold f_X1_customOf sCu
  rw [e, Option.bind_some]
  exact k
theorem l_cut (J : zJ) {I : zM} {m le sh : Nat} (h6 : I 147 6 = nI m) (hm : m ≤ 24) (hl : I 147 9 = nI le) (hs : I 147 10 = nI sh) (h1 : le ≤ 9) (h2 : sh ≤ 100) (t g : Int32) {all : Nat} (h4 : all ≤ 24) : ∀ j v fuel x, v + j = 6 → 1 ≤ v → j < fuel → (le ≤ all ∨ x = 0) → ∃ y, f_X12_customOf_14 J t g (nI all) fuel (nI x) (nI v) I = some (.inr (nI (sLst (fun v => cuQ all le sh (sCt (tOw (I 152) t g (nI v)) m 0)) j v x), y, I)) := by
  intro j
  induction j with
  | zero =>
    intro v fuel x hk h01 hf hx
    obtain ⟨n, rfl⟩ : ∃ n, fuel = n + 1 := ⟨fuel - 1, by omega⟩
    have e : v = 6 := by omega
    subst e
    refine ⟨nI 6, ?_⟩
    unfold f_X12_customOf_14
    rw [if_pos (show (5 : Int32) < nI 6 by decide)]
    rfl
  | succ j ih =>
    intro v fuel x hk h01 hf hx
    obtain ⟨n, rfl⟩ : ∃ n, fuel = n + 1 := ⟨fuel - 1, by omega⟩
    have h0 : ¬ (5 : Int32) < nI v := nI_nlt (a := 5) (by omega) (by decide)
    by_cases a : le ≤ all
    case neg =>
      refine ⟨nI v, ?_⟩
      rw [sLst_no (j + 1) v x (fun u _ => cuQ_le a)]
      unfold f_X12_customOf_14
      rw [if_neg h0, hl, if_pos (nI_lt (by omega) (by omega))]
    have k := l_many J h6 hm t g (nI v)
    have ek : tMa (I 152) t g (nI v) = tOw (I 152) t g (nI v) := by
      funext i
      apply propext
      exact ⟨fun q => ⟨q.1, q.2.resolve_left (nI_ne0 (by omega) (by omega))⟩, fun q => ⟨q.1, Or.inr q.2⟩⟩
    rw [ek] at k
    have hb : sh * all ≤ 100 * 24 := Nat.mul_le_mul h2 h4
    have hc := sCt_le (P := tOw (I 152) t g (nI v)) m 0
    have hn : ¬ nI all < nI le := nI_nlt a (by omega)
    simp only [f_X12_customOf_14, h0, hl, hn, k, Option.bind_some, q_100m, hs, q_mul, q_a1, ↓reduceIte]
    by_cases q : sh * all ≤ 100 * sCt (tOw (I 152) t g (nI v)) m 0
    · have qq : cuQ all le sh (sCt (tOw (I 152) t g (nI v)) m 0) := ⟨a, by rw [Nat.mul_comm _ 100]; exact q⟩
      rw [if_neg (nI_nlt q (by omega)), sLst_p (Q := fun v => cuQ all le sh (sCt (tOw (I 152) t g (nI v)) m 0)) qq]
      exact ih (v + 1) n v (by omega) (by omega) (by omega) (Or.inl a)
    · have qq : ¬ cuQ all le sh (sCt (tOw (I 152) t g (nI v)) m 0) := fun z => q (by have := z.2; rw [Nat.mul_comm _ 100] at this; exact this)
      rw [if_pos (nI_lt (by omega) (by omega)), sLst_n (Q := fun v => cuQ all le sh (sCt (tOw (I 152) t g (nI v)) m 0)) qq]
      exact ih (v + 1) n x (by omega) (by omega) (by omega) (Or.inl a)
theorem cu_one {T : Nat → Int32} {m : Nat} {t g : Int32} {le sh : Nat} (h1 : 1 ≤ le) (h2 : 51 ≤ sh) (u w : Nat) (hu : u < 2147483648) (hw : w < 2147483648) (qu : cuQ (sCt (tAl T t g) m 0) le sh (sCt (tOw T t g (nI u)) m 0)) (qw : cuQ (sCt (tAl T t g) m 0) le sh (sCt (tOw T t g (nI w)) m 0)) : u = w := by
  by_cases e : u = w
  · exact e
  · have := sCt_two (P := tOw T t g (nI u)) (Q := tOw T t g (nI w)) (R := tAl T t g) (fun k q => q.1) (fun k q => q.1) (fun k q1 q2 => e ((nI_eq hu hw).mp (q1.2.1.symm.trans q2.2.1))) m 0
    obtain ⟨a1, a2⟩ := qu
    obtain ⟨b1, b2⟩ := qw
    have := Nat.mul_le_mul_right (sCt (tAl T t g) m 0) h2
    omega
theorem sLst_cg {Q R : Nat → Prop} {N : Nat} (h : ∀ v, v < N → (Q v ↔ R v)) : ∀ j v x, v + j ≤ N → sLst Q j v x = sLst R j v x := by
  intro j
  induction j with
  | zero => intro v x _; rfl
  | succ j ih =>
    intro v x hj
    by_cases q : Q v
    · rw [sLst_p q, sLst_p ((h v (by omega)).mp q)]
      exact ih (v + 1) v (by omega)
    · rw [sLst_n q, sLst_n (fun r => q ((h v (by omega)).mpr r))]
      exact ih (v + 1) x (by omega)
theorem sFst_cg {Q R : Nat → Prop} {N : Nat} (h : ∀ v, v < N → (Q v ↔ R v)) : ∀ j v, v + j ≤ N → sFst Q j v = sFst R j v := by
  intro j
  induction j with
  | zero => intro v _; rfl
  | succ j ih =>
    intro v hj
    by_cases q : Q v
    · rw [sFst_p q, sFst_p ((h v (by omega)).mp q)]
    · rw [sFst_n q, sFst_n (fun r => q ((h v (by omega)).mpr r))]
      exact ih (v + 1) (by omega)
theorem l_customOf2 (J : zJ) {I : zM} {m le sh : Nat} (h6 : I 147 6 = nI m) (hm : m ≤ 24) (hl : I 147 9 = nI le) (hs : I 147 10 = nI sh) (h0 : 1 ≤ le) (h1 : le ≤ 9) (h3 : 51 ≤ sh) (h2 : sh ≤ 100) (t g : Int32) : f_X12_customOf J t g I = some (nI (sCu (I 152) m t g le sh), I) := by
  have k := l_many J h6 hm t g 0
  have ek : tMa (I 152) t g 0 = tAl (I 152) t g := by
    funext i
    apply propext
    exact ⟨fun q => q.1, fun q => ⟨q, Or.inl rfl⟩⟩
  rw [ek] at k
  have hc := sCt_le (P := tAl (I 152) t g) m 0
  obtain ⟨y, e⟩ := l_cut J h6 hm hl hs h1 h2 t g (all := sCt (tAl (I 152) t g) m 0) (by omega) 5 1 zF 0 (by omega) (by omega) (by unfold zF; omega) (Or.inr rfl)
  have e' : f_X12_customOf_14 J t g (nI (sCt (tAl (I 152) t g) m 0)) zF 0 1 I = _ := e
  have e1 : sLst (fun v => cuQ (sCt (tAl (I 152) t g) m 0) le sh (sCt (tOw (I 152) t g (nI v)) m 0)) 5 1 0 = sCu (I 152) m t g le sh := by
    unfold sCu
    rw [sLst_cg (R := fun v => v < 6 ∧ cuQ (sCt (tAl (I 152) t g) m 0) le sh (sCt (tOw (I 152) t g (nI v)) m 0)) (N := 6) (fun v hv => ⟨fun q => ⟨hv, q⟩, fun q => q.2⟩) 5 1 0 (by omega), sFst_cg (R := fun v => v < 6 ∧ cuQ (sCt (tAl (I 152) t g) m 0) le sh (sCt (tOw (I 152) t g (nI v)) m 0)) (N := 6) (fun v hv => ⟨fun q => ⟨hv, q⟩, fun q => q.2⟩) 5 1 (by omega)]
    exact sLst_one (fun u w qu qw => cu_one h0 h3 u w (by omega) (by omega) qu.2 qw.2) 5 1
  rw [e1] at e'
  unfold f_X12_customOf
  rw [k, Option.bind_some]
  show (f_X12_customOf_14 J t g (nI (sCt (tAl (I 152) t g) m 0)) zF 0 1 I).bind _ = _
  rw [e', Option.bind_some]
  rfl
theorem vVa_of {I : zM} {d t o m : Nat} {sz : Int32} {b bo : Nat} (h : qDo I d t o sz b bo) (e : I d 6 = nI m) (hm : m ≤ 24) : vVa (fun k => I t (o + k)) m := by
  obtain ⟨m', g1, g2, g3, g4, g5, g6, g7⟩ := h
  have em : m = m' := (nI_eq (by omega) (by omega)).mp (e.symm.trans g2)
  subst em
  intro k hk
  obtain ⟨v, h1, h2, h3⟩ := zrg_nI (g5 k hk).2.2.2.2 (by decide)
  exact ⟨v, h1, by omega, by show I t (o + (6 * k + 4)) = nI v; rw [← Nat.add_assoc]; exact h3⟩
theorem vVa_0 {I : zM} {m : Nat} (h : qDoi I) (e : I 6 6 = nI m) (hm : m ≤ 24) : vVa (I 152) m := by
  have q := vVa_of h e hm
  have ef : (fun k => I 152 (0 + k)) = I 152 := by
    funext k
    rw [Nat.zero_add]
  rw [ef] at q
  exact q
theorem qDoi_cgt {I I' : zM} (h : ∀ p, p ≠ 13 → I' p = I p) (q : qDoi I) : qDoi I' := qDoi_cg (fun p _ _ => h p (by omega)) (fun p _ _ => h p (by omega)) (by rw [h 147 (by omega)]) q
theorem zInv_tally {n : Nat} {I I' : zM} {J : zJ} (hv : zInv n I J) (h : ∀ p, p ≠ 13 → I' p = I p) : zInv n I' J := by
  refine zInv_mk hv.jok hv.jin (qGap_cg (fun p _ _ => h p (by omega)) (fun p _ _ => h p (by omega)) hv.gap) (qTm_cg (fun p _ _ => h p (by omega)) (by rw [h 147 (by omega)]) (by rw [h 147 (by omega)]) (by rw [h 147 (by omega)]) hv.tm) (qDoi_cgt h hv.doi) (qKep_cg (fun p _ _ => h p (by omega)) (fun p _ _ => h p (by omega)) (fun j _ => by rw [h 166 (by omega)]) (fun j _ => by rw [h 167 (by omega)]) (fun j _ => by rw [h 168 (by omega)]) (fun p _ _ => h p (by omega)) hv.kep) (qTxt_cg (fun p _ _ => h p (by omega)) (fun p _ _ => h p (by omega)) (by rw [h 147 (by omega)]) hv.txt) (qRul_cg hv.jok (fun p _ _ => h p (by omega)) (fun p _ _ => h p (by omega)) (by rw [h 147 (by omega)]) hv.rul) (qOrd_cg (fun p _ _ => h p (by omega)) (fun j _ => by rw [h 157 (by omega)]) (fun j _ => by rw [h 158 (by omega)]) hv.ord) (qBar_cg (fun p _ _ => h p (by omega)) (fun p _ _ => h p (by omega)) (fun p _ _ => h p (by omega)) (by rw [h 147 (by omega)]) hv.bar) (qLaw_cg (by rw [h 39 (by omega)]) (by rw [h 147 (by omega)]) hv.law) ?_
  obtain ⟨m, a, b, c⟩ := hv.stp
  refine ⟨m, a, by rw [h 147 (by omega)]; exact b, ?_⟩
  rw [h 173 (by omega)]
  exact c
theorem zTm {I : zM} (h : qTm I) : ∃ tm le sh, 1 ≤ tm ∧ tm ≤ 5 ∧ 1 ≤ le ∧ le ≤ 9 ∧ 51 ≤ sh ∧ sh ≤ 100 ∧ I 5 0 = nI tm ∧ I 147 8 = nI tm ∧ I 5 1 = nI le ∧ I 147 9 = nI le ∧ I 5 2 = nI sh ∧ I 147 10 = nI sh := by
  obtain ⟨⟨a1, a2⟩, ⟨b1, b2⟩, ⟨c1, c2⟩⟩ := h
  obtain ⟨tm, h1, h2, e1⟩ := zrg_nI a2 (by decide)
  obtain ⟨le, h3, h4, e2⟩ := zrg_nI b2 (by decide)
  obtain ⟨sh, h5, h6, e3⟩ := zrg_nI c2 (by decide)
  exact ⟨tm, le, sh, h1, h2, h3, h4, h5, h6, a1.trans e1, e1, b1.trans e2, e2, c1.trans e3, e3⟩
theorem q_custom : zS_custom zInv := by
  intro n I J v1 v2 hn hv
  by_cases h1 : zrg v1 0 2
  case neg =>
    have e1 : f_X11_custom J v1 v2 I = some (-1, I) := by
      simp only [f_X11_custom, l_isTrade, Option.bind_some, zb_eq0, zb_eq1, not_true_eq_false, not_false_eq_true, Classical.not_not, ↓reduceIte, h1]
    have e2 : f_X12_custom J v1 v2 I = some (-1, zu I 147 0 0) := by
      simp only [f_X12_custom, l_noTrade, Option.bind_some, zb_eq0, zb_eq1, not_true_eq_false, not_false_eq_true, Classical.not_not, ↓reduceIte, h1]
    exact ⟨_, _, _, e1, e2, zInv_thrown hv⟩
  by_cases h2 : zrg v2 0 5
  case neg =>
    have e1 : f_X11_custom J v1 v2 I = some (-1, I) := by
      simp only [f_X11_custom, l_isTrade, l_isGap, Option.bind_some, zb_eq0, zb_eq1, not_true_eq_false, not_false_eq_true, Classical.not_not, ↓reduceIte, h1, h2]
    have e2 : f_X12_custom J v1 v2 I = some (-1, zu I 147 0 0) := by
      simp only [f_X12_custom, l_noTrade, l_noGap, Option.bind_some, zb_eq0, zb_eq1, not_true_eq_false, not_false_eq_true, Classical.not_not, ↓reduceIte, h1, h2]
    exact ⟨_, _, _, e1, e2, zInv_thrown hv⟩
  obtain ⟨m, w, g3⟩ := vDo_of hv.doi
  obtain ⟨tm, le, sh, -, -, a3, a4, a5, a6, -, -, t3, t4, t5, t6⟩ := zTm hv.tm
  obtain ⟨I', k1, f1⟩ := l_customOf J w (vVa_0 hv.doi w.2.1 w.1) (by decide) t3 t5 a4 a6 (by decide) (by decide +kernel) v1 v2
  have k2 := l_customOf2 J (I := zu I' 147 0 0) (m := m) (le := le) (sh := sh) (show I' 147 6 = nI m by rw [f1 147 (by decide)]; exact g3) w.1 (show I' 147 9 = nI le by rw [f1 147 (by decide)]; exact t4) (show I' 147 10 = nI sh by rw [f1 147 (by decide)]; exact t6) a3 a4 a5 a6 v1 v2
  have e3 : (zu I' 147 0 0) 152 = I 152 := f1 152 (by decide)
  rw [e3] at k2
  have e1 : f_X11_custom J v1 v2 I = some (nI (sCu (I 152) m v1 v2 le sh), I') := by
    simp only [f_X11_custom, l_isTrade, l_isGap, Option.bind_some, zb_eq0, zb_eq1, not_true_eq_false, not_false_eq_true, Classical.not_not, ↓reduceIte, h1, h2, k1]
  have e2 : f_X12_custom J v1 v2 I' = some (nI (sCu (I 152) m v1 v2 le sh), zu I' 147 0 0) := by
    simp only [f_X12_custom, l_noTrade, l_noGap, Option.bind_some, zb_eq0, zb_eq1, not_true_eq_false, not_false_eq_true, Classical.not_not, ↓reduceIte, h1, h2, k2]
  exact ⟨_, _, _, e1, e2, zInv_thrown (zInv_tally hv f1)⟩
