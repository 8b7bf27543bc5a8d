/-! ===== the twin's next filling, gap by gap ===== -/
theorem t_stop (J : zJ) {I : zM} {b o g q k : Nat} (u3 u5 u6 : Int32) (ho : o < 5) (hg : g < 6) (hq : I 158 o = nI q) (hq5 : q ≤ 5) (hk : k ≤ q) (h : u5 = 0 ∨ ¬ I 171 g = 0) (fuel : Nat) : f_X12_go_89 J (nI b) (nI o) u3 (nI g) u5 u6 (fuel + 1) (nI k) I = some (.inr (nI k, I)) := by
  have z0 : zin (nI (g)) 6 = true := zin_nI (by omega) (by decide)
  have c0 : Int32.toNatClampNeg (nI (g)) = g := nI_clamp (by omega)
  have z1 : zin (nI (o)) 5 = true := zin_nI (by omega) (by decide)
  have c1 : Int32.toNatClampNeg (nI (o)) = o := nI_clamp (by omega)
  unfold f_X12_go_89
  rw [if_pos z1, c1, hq]
  by_cases e : q ≤ k
  · rw [if_pos (nI_le e (by omega))]
  · rw [if_neg (nI_ge (by omega) (by omega))]
    by_cases e5 : u5 = 0
    · rw [if_pos e5]
    · rw [if_neg e5, if_pos z0, c0, if_neg (h.resolve_left e5)]
/-- the same but for two rows -/
def zN2 (I I' : zM) : Prop := ∀ p, p ≠ 171 → p ≠ 172 → I' p = I p
theorem zN2.tw {I0 I I' : zM} (h : zN2 I I') (t : zTw I0 I) : zTw I0 I' := ⟨fun p h1 h2 => (h p (by omega) (by omega)).trans (t.1 p h1 h2), fun k hk => by rw [h 147 (by decide) (by decide)]; exact t.2 k hk⟩
theorem zN2.d {I I' : zM} {d : Nat → Nat} (h : zN2 I I') (t : dN I 170 d) : dN I' 170 d := by
  unfold dN at t ⊢
  rw [h 170 (by decide) (by decide)]
  exact t
theorem t_89 (J : zJ) {E I0 : zM} {m q b o nn tm le sh g : Nat} {d : Nat → Nat} (u3 u5 u6 : Int32) (hw : eW E m q) (ht : tE E m q b o nn tm le sh I0) (hb : b < 8) (ho : o < 5) (hg : g < 6) (h5 : ¬ u5 = 0) : ∀ j k fuel I, k + j = q → j + 1 < fuel → zTw I0 I → dN I 170 d → I 171 g = 0 → ∃ y I', f_X12_go_89 J (nI b) (nI o) u3 (nI g) u5 u6 fuel (nI k) I = some (.inr (y, I')) ∧ zN2 I I' ∧ (∀ h, h ≠ g → I' 171 h = I 171 h ∧ I' 172 h = I 172 h) ∧ I' 171 g = eVa (eFi d (eLs E m g j k)) ∧ (E 8 2 = -9 → ∀ e, eFi d (eLs E m g j k) = some e → I' 172 g = e.2.1) := by
  have hq5 := hw.2.2.2.2.1
  intro j
  induction j with
  | zero =>
    intro k fuel I hk hf hI hd h0
    obtain ⟨n, rfl⟩ : ∃ n, fuel = n + 1 := ⟨fuel - 1, by omega⟩
    have e : k = q := by omega
    subst e
    have hq := (tE_cg hI ht).2.2.2.2.2.1.1
    refine ⟨nI k, I, ?_, fun _ _ _ => rfl, fun _ _ => ⟨rfl, rfl⟩, h0, fun _ e h => by cases h⟩
    have z1 : zin (nI (o)) 5 = true := zin_nI (by omega) (by decide)
    have c1 : Int32.toNatClampNeg (nI (o)) = o := nI_clamp (by omega)
    unfold f_X12_go_89
    rw [if_pos z1, c1, hq, if_pos (nI_le (Nat.le_refl _) (by omega))]
  | succ j ih =>
    intro k fuel I hk hf hI hd h0
    obtain ⟨n, rfl⟩ : ∃ n, fuel = n + 1 := ⟨fuel - 1, by omega⟩
    obtain ⟨hq, hL⟩ := (tE_cg hI ht).2.2.2.2.2.1
    have z0 : zin (nI (g)) 6 = true := zin_nI (by omega) (by decide)
    have c0 : Int32.toNatClampNeg (nI (g)) = g := nI_clamp (by omega)
    have z1 : zin (nI (o)) 5 = true := zin_nI (by omega) (by decide)
    have c1 : Int32.toNatClampNeg (nI (o)) = o := nI_clamp (by omega)
    have z2 : zin (nI (5 * o + k)) 25 = true := zin_nI (by omega) (by decide)
    have c2 : Int32.toNatClampNeg (nI (5 * o + k)) = 5 * o + k := nI_clamp (by omega)
    obtain ⟨x, -, hx, ex⟩ := zrg_nI (hw.2.2.2.2.2.1 k (by omega)) (by decide)
    have cx : (E 7 k).toNatClampNeg = x := by rw [ex]; exact nI_clamp (by omega)
    obtain ⟨I1, k1, f1, f2, f3⟩ := t_fb J hw (tE_cg hI ht) hb hg hd hx
    have st : ∀ R, f_X12_go_89 J (nI b) (nI o) u3 (nI g) u5 u6 n (nI (k + 1)) (zu I1 171 g (eVa (eFi d (eLe E m g x)))) = R → f_X12_go_89 J (nI b) (nI o) u3 (nI g) u5 u6 (n + 1) (nI k) I = R := fun R hR => by
      rw [← hR]
      conv => lhs; unfold f_X12_go_89
      rw [if_pos z1, c1, hq, if_neg (nI_ge (by omega) (by omega)), if_neg h5, if_pos z0, c0, if_pos h0, q_5, nI_add, if_pos z2, c2, hL k (by omega), ex, k1, Option.bind_some, if_pos z0, q_a1]
    have es : eLs E m g (j + 1) k = eLe E m g x ++ eLs E m g j (k + 1) := by
      show eLe E m g (E 7 k).toNatClampNeg ++ eLs E m g j (k + 1) = _
      rw [cx]
    have n1 : zN2 I (zu I1 171 g (eVa (eFi d (eLe E m g x)))) := fun p p1 p2 => (zu_row p1).trans (f1 p p2)
    have r172 : (zu I1 171 g (eVa (eFi d (eLe E m g x)))) 172 = I1 172 := zu_row (by decide)
    have r171 : ∀ h, h ≠ g → (zu I1 171 g (eVa (eFi d (eLe E m g x)))) 171 h = I 171 h := fun h hh => by rw [zu_offk hh, f1 171 (by decide)]
    rcases eVa_ok (d := d) (eLe_ok (E := E) (m := m) (g := g) (x := x)) (hw.1 g hg) with ⟨w1, w2⟩ | ⟨e, v, w1, w2, w3, w4⟩
    · obtain ⟨y, I', a1, a2, a3, a4, a5⟩ := ih (k + 1) n (zu I1 171 g (eVa (eFi d (eLe E m g x)))) (by omega) (by omega) (n1.tw hI) (n1.d hd) (by rw [zu_at, if_pos rfl]; exact w2)
      refine ⟨y, I', st _ a1, fun p p1 p2 => (a2 p p1 p2).trans (n1 p p1 p2), fun h hh => ⟨(a3 h hh).1.trans (r171 h hh), ?_⟩, ?_, ?_⟩
      · rw [(a3 h hh).2, r172]
        exact f2 h hh
      · rw [es, eFi_none w1]
        exact a4
      · rw [es, eFi_none w1]
        exact a5
    · have v1 : eVa (eFi d (eLe E m g x)) = nI v := by rw [w1]; exact w4
      have ne : ¬ (zu I1 171 g (eVa (eFi d (eLe E m g x)))) 171 g = 0 := by
        rw [zu_at, if_pos rfl, v1]
        exact nI_ne0 (by omega) (by omega)
      obtain ⟨n', rfl⟩ : ∃ n', n = n' + 1 := ⟨n - 1, by omega⟩
      have sp := t_stop J (b := b) (k := k + 1) u3 u5 u6 ho hg (tE_cg (n1.tw hI) ht).2.2.2.2.2.1.1 hq5 (by omega) (Or.inr ne) n'
      refine ⟨_, _, st _ sp, n1, fun h hh => ⟨r171 h hh, by rw [r172]; exact f2 h hh⟩, ?_, fun h8 e' he' => ?_⟩
      · rw [es, eFi_some w1, zu_at, if_pos rfl, w1]
      · rw [es, eFi_some w1] at he'
        rw [r172]
        exact f3 h8 e' (w1.trans he')
/-- what stands behind a gap -/
def tGo (E : zM) (m q : Nat) (d : Nat → Nat) (g : Nat) (I : zM) : Prop := E 8 2 = -9 → ∀ h, h < g → I 172 h = eRs (eGo E m q d h)
theorem t_end2 (J : zJ) {E : zM} {m q b o g n : Nat} {d : Nat → Nat} {I2 : zM} (hg : g < 6) (hk : zrg (E 0 g) 0 5) (h1 : I2 171 g = eVa (eGo E m q d g)) (h2 : E 8 2 = -9 → ∀ e, eGo E m q d g = some e → I2 172 g = e.2.1) (h3 : tGo E m q d g I2) (hok : ∀ e, eGo E m q d g = some e → ¬ e.1 = 0) : ∃ I3, zN2 I2 I3 ∧ tGo E m q d (g + 1) I3 ∧ (if zin (nI g) 6 = true then (if I2 171 (Int32.toNatClampNeg (nI g)) = 0 then (if zin (nI g) 6 = true then (if zin (nI g) 6 = true then f_X12_go_5 J (nI b) (nI o) n (((6 : Int32) * (nI (pf (eNg E m q d) g))) + ((zu I2 172 (Int32.toNatClampNeg (nI g)) 0) 171 (Int32.toNatClampNeg (nI g)))) ((nI g) + 1) (zu I2 172 (Int32.toNatClampNeg (nI g)) 0) else none) else none) else (if zin (nI g) 6 = true then (if zin (nI g) 6 = true then (if zin (nI g) 6 = true then f_X12_go_5 J (nI b) (nI o) n (((6 : Int32) * (nI (pf (eNg E m q d) g))) + ((zu I2 172 (Int32.toNatClampNeg (nI g)) (I2 172 (Int32.toNatClampNeg (nI g)))) 171 (Int32.toNatClampNeg (nI g)))) ((nI g) + 1) (zu I2 172 (Int32.toNatClampNeg (nI g)) (I2 172 (Int32.toNatClampNeg (nI g)))) else none) else none) else none)) else none) = f_X12_go_5 J (nI b) (nI o) n (nI (pf (eNg E m q d) (g + 1))) (nI (g + 1)) I3 := by
  have z0 : zin (nI (g)) 6 = true := zin_nI (by omega) (by decide)
  have c0 : Int32.toNatClampNeg (nI (g)) = g := nI_clamp (by omega)
  have kv := (eNg_nI (E := E) (m := m) (q := q) (d := d) hk).1
  have o171 : ∀ x j, zu I2 172 g x 171 j = I2 171 j := fun x j => zu_off (by decide) I2 g x j
  have pe : nI (6 * pf (eNg E m q d) g + eNg E m q d g) = nI (pf (eNg E m q d) (g + 1)) := by
    show _ = nI (pf (eNg E m q d) g * 6 + eNg E m q d g)
    rw [Nat.mul_comm]
  simp only [z0, c0, o171, h1, kv, q_6, nI_add, q_a1, pe, ↓reduceIte]
  have nx : ∀ x, (E 8 2 = -9 → x = eRs (eGo E m q d g)) → tGo E m q d (g + 1) (zu I2 172 g x) := fun x hx h8 h hh => by
    by_cases c : h = g
    · subst c
      rw [zu_at, if_pos rfl]
      exact hx h8
    · rw [zu_offk c]
      exact h3 h8 h (by omega)
  by_cases a : nI (eNg E m q d g) = 0
  · rw [if_pos a]
    refine ⟨zu I2 172 g 0, fun p _ p2 => zu_row p2, nx 0 (fun _ => ?_), rfl⟩
    cases c : eGo E m q d g with
    | none => rfl
    | some e =>
      exfalso
      rw [c] at kv
      exact hok e c (kv.trans a)
  · rw [if_neg a]
    refine ⟨zu I2 172 g (I2 172 g), fun p _ p2 => zu_row p2, nx _ (fun h8 => ?_), rfl⟩
    cases c : eGo E m q d g with
    | none =>
      exfalso
      rw [c] at kv
      exact a kv.symm
    | some e => exact h2 h8 e c
theorem t_g5 (J : zJ) {E I0 : zM} {m q b o nn tm le sh : Nat} {d : Nat → Nat} (hw : eW E m q) (ht : tE E m q b o nn tm le sh I0) (hb : b < 8) (ho : o < 5) : ∀ j g fuel I, g + j = 6 → j < fuel → zTw I0 I → dN I 170 d → tGo E m q d g I → ∃ I', f_X12_go_5 J (nI b) (nI o) fuel (nI (pf (eNg E m q d) g)) (nI g) I = some (.inr (nI (undig (eNg E m q d)), nI 6, I')) ∧ zN2 I I' ∧ tGo E m q d 6 I' := by
  have hq5 := hw.2.2.2.2.1
  have hm := hw.2.2.1
  intro j
  induction j with
  | zero =>
    intro g fuel I hk hf hI hd hr
    obtain ⟨n, rfl⟩ : ∃ n, fuel = n + 1 := ⟨fuel - 1, by omega⟩
    have e : g = 6 := by omega
    subst e
    refine ⟨I, ?_, fun _ _ _ => rfl, hr⟩
    unfold f_X12_go_5
    rw [if_pos (show (6 : Int32) ≤ nI 6 by decide), pf_6]
  | succ j ih =>
    intro g fuel I hk hf hI hd hr
    obtain ⟨n, rfl⟩ : ∃ n, fuel = n + 1 := ⟨fuel - 1, by omega⟩
    have h0 : ¬ (6 : Int32) ≤ nI g := nI_ge (b := 6) (by omega) (by decide)
    have hg : g < 6 := by omega
    have z0 : zin (nI (g)) 6 = true := zin_nI (by omega) (by decide)
    have c0 : Int32.toNatClampNeg (nI (g)) = g := nI_clamp (by omega)
    have n0 : zN2 I (zu I 171 g 0) := fun p p1 _ => zu_row p1
    have hI0 := n0.tw hI
    have hd0 := n0.d hd
    have ht0 := tE_cg hI0 ht
    have z171 : (zu I 171 g 0) 171 g = 0 := by rw [zu_at, if_pos rfl]
    have r172 : ∀ x, (zu I 171 g x) 172 = I 172 := fun x => zu_row (by decide)
    have hr0 : tGo E m q d g (zu I 171 g 0) := fun h8 h hh => by rw [r172]; exact hr h8 h hh
    have ka := t_asked J hg (ht0.1 g hg).1 (ht0.1 g hg).2.1 (ht0.1 g hg).2.2 (hw.2.1 g hg) hd0
    have hok : ∀ e, eGo E m q d g = some e → ¬ e.1 = 0 := fun e he => by
      by_cases c : eAk E d g
      · rw [eGo_p c] at he
        obtain ⟨v, v1, v2, v3⟩ := eTh_nI (eFl_ok e (eFi_mem he)) (hw.1 g hg)
        rw [v3]
        exact nI_ne0 (by omega) (by omega)
      · rw [eGo_n c] at he
        cases he
    -- the rest, from where this gap is done
    have fin : ∀ I2, zN2 I I2 → I2 171 g = eVa (eGo E m q d g) → (E 8 2 = -9 → ∀ e, eGo E m q d g = some e → I2 172 g = e.2.1) → tGo E m q d g I2 → ∃ I', (if zin (nI g) 6 = true then (if I2 171 (Int32.toNatClampNeg (nI g)) = 0 then (if zin (nI g) 6 = true then (if zin (nI g) 6 = true then f_X12_go_5 J (nI b) (nI o) n (((6 : Int32) * (nI (pf (eNg E m q d) g))) + ((zu I2 172 (Int32.toNatClampNeg (nI g)) 0) 171 (Int32.toNatClampNeg (nI g)))) ((nI g) + 1) (zu I2 172 (Int32.toNatClampNeg (nI g)) 0) else none) else none) else (if zin (nI g) 6 = true then (if zin (nI g) 6 = true then (if zin (nI g) 6 = true then f_X12_go_5 J (nI b) (nI o) n (((6 : Int32) * (nI (pf (eNg E m q d) g))) + ((zu I2 172 (Int32.toNatClampNeg (nI g)) (I2 172 (Int32.toNatClampNeg (nI g)))) 171 (Int32.toNatClampNeg (nI g)))) ((nI g) + 1) (zu I2 172 (Int32.toNatClampNeg (nI g)) (I2 172 (Int32.toNatClampNeg (nI g)))) else none) else none) else none)) else none) = some (.inr (nI (undig (eNg E m q d)), nI 6, I')) ∧ zN2 I I' ∧ tGo E m q d 6 I' := fun I2 m1 m2 m3 m4 => by
      -- the one state that comes out
      have key : ∀ I3, zN2 I2 I3 → tGo E m q d (g + 1) I3 → ∃ I', f_X12_go_5 J (nI b) (nI o) n (nI (pf (eNg E m q d) (g + 1))) (nI (g + 1)) I3 = some (.inr (nI (undig (eNg E m q d)), nI 6, I')) ∧ zN2 I3 I' ∧ tGo E m q d 6 I' := fun I3 n3 r3 => ih (g + 1) n I3 (by omega) (by omega) (n3.tw (m1.tw hI)) (n3.d (m1.d hd)) r3
      have h : ∃ I3, zN2 I2 I3 ∧ tGo E m q d (g + 1) I3 ∧ (if zin (nI g) 6 = true then (if I2 171 (Int32.toNatClampNeg (nI g)) = 0 then (if zin (nI g) 6 = true then (if zin (nI g) 6 = true then f_X12_go_5 J (nI b) (nI o) n (((6 : Int32) * (nI (pf (eNg E m q d) g))) + ((zu I2 172 (Int32.toNatClampNeg (nI g)) 0) 171 (Int32.toNatClampNeg (nI g)))) ((nI g) + 1) (zu I2 172 (Int32.toNatClampNeg (nI g)) 0) else none) else none) else (if zin (nI g) 6 = true then (if zin (nI g) 6 = true then (if zin (nI g) 6 = true then f_X12_go_5 J (nI b) (nI o) n (((6 : Int32) * (nI (pf (eNg E m q d) g))) + ((zu I2 172 (Int32.toNatClampNeg (nI g)) (I2 172 (Int32.toNatClampNeg (nI g)))) 171 (Int32.toNatClampNeg (nI g)))) ((nI g) + 1) (zu I2 172 (Int32.toNatClampNeg (nI g)) (I2 172 (Int32.toNatClampNeg (nI g)))) else none) else none) else none)) else none) = f_X12_go_5 J (nI b) (nI o) n (nI (pf (eNg E m q d) (g + 1))) (nI (g + 1)) I3 := t_end2 J hg (hw.1 g hg) m2 m3 m4 hok
      obtain ⟨I3, n3, r3, e3⟩ := h
      obtain ⟨I', e4, n4, r4⟩ := key I3 n3 r3
      exact ⟨I', e3.trans e4, fun p p1 p2 => (n4 p p1 p2).trans ((n3 p p1 p2).trans (m1 p p1 p2)), r4⟩
    simp only [f_X12_go_5, h0, z0, c0, ka, Option.bind_some, ↓reduceIte]
    by_cases a : eAk E d g
    case neg =>
      rw [if_pos (zb_eq0.mpr a)]
      have sp := t_stop J (b := b) (k := 0) (nI (pf (eNg E m q d) g)) 0 (-9) ho hg ht0.2.2.2.2.2.1.1 hq5 (Nat.zero_le _) (Or.inl rfl) (zF - 1)
      have sp' : f_X12_go_89 J (nI b) (nI o) (nI (pf (eNg E m q d) g)) (nI g) (zb (eAk E d g)) (-9) zF 0 (zu I 171 g 0) = some (.inr (nI 0, zu I 171 g 0)) := by
        rw [← zb_f (P := eAk E d g) a]
        exact sp
      rw [sp', Option.bind_some]
      obtain ⟨I', f1, f2⟩ := fin (zu I 171 g 0) n0 (by rw [eGo_n a]; exact z171) (fun _ e h => by rw [eGo_n a] at h; cases h) hr0
      simp only [z0, c0, ↓reduceIte] at f1
      exact ⟨I', f1, f2⟩
    rw [if_neg (fun z => zb_eq0.mp z a)]
    have u5 : ¬ zb (eAk E d g) = 0 := fun z => zb_eq0.mp z a
    obtain ⟨r, k1, h⟩ := t_ruleFor J 1 hw ht0 hb hg hd0
    rw [k1, Option.bind_some]
    rcases h with ⟨h1, rfl⟩ | ⟨i, hi, h1, rfl⟩
    · rw [if_pos rfl]
      obtain ⟨y, I2, b1, b2, b3, b4, b5⟩ := t_89 J (nI (pf (eNg E m q d) g)) (zb (eAk E d g)) (-9) hw ht hb ho hg u5 q 0 zF (zu I 171 g 0) (by omega) (by unfold zF; omega) hI0 hd0 z171
      have b1' : f_X12_go_89 J (nI b) (nI o) (nI (pf (eNg E m q d) g)) (nI g) (zb (eAk E d g)) (-9) zF 0 (zu I 171 g 0) = _ := b1
      have eg : eGo E m q d g = eFi d (eLs E m g q 0) := by
        rw [eGo_p a]
        exact eFi_none h1
      rw [b1', Option.bind_some]
      obtain ⟨I', f1, f2⟩ := fin I2 (fun p p1 p2 => (b2 p p1 p2).trans (n0 p p1 p2)) (by rw [eg]; exact b4) (by rw [eg]; exact b5) (fun h8 h hh => by rw [(b3 h (by omega)).2]; exact hr0 h8 h hh)
      simp only [z0, c0, ↓reduceIte] at f1
      exact ⟨I', f1, f2⟩
    · have ne : ¬ nI i = -9 := fun e => by
        have h := congrArg Int32.toInt e
        rw [nI_toInt (by omega)] at h
        have h9 : (-9 : Int32).toInt = -9 := by decide +kernel
        omega
      have z1 : zin (nI (6 * i + 2)) 72 = true := zin_nI (by omega) (by decide)
      have c1 : Int32.toNatClampNeg (nI (6 * i + 2)) = 6 * i + 2 := nI_clamp (by omega)
      have eg : eGo E m q d g = some (eRe E i) := by
        rw [eGo_p a]
        exact eFi_some h1
      have f155 : (zu I 171 g 0) 155 (6 * i + 2) = E 3 (6 * i + 2) := ht0.2.1.2 _ (by omega)
      dsimp only
      rw [if_neg ne, q_6, q_a2, if_pos z1, c1, f155, q_10a]
      have n2 : zN2 I (zu (zu (zu I 171 g 0) 171 g (E 3 (6 * i + 2))) 172 g (nI (10 + i))) := fun p p1 p2 => (zu_row p2).trans ((zu_row p1).trans (zu_row p1))
      have v171 : (zu (zu (zu I 171 g 0) 171 g (E 3 (6 * i + 2))) 172 g (nI (10 + i))) 171 g = E 3 (6 * i + 2) := by rw [zu_row (show 171 ≠ 172 by decide), zu_at, if_pos rfl]
      have sp := t_stop J (b := b) (k := 0) (nI (pf (eNg E m q d) g)) (zb (eAk E d g)) (nI i) ho hg (tE_cg (n2.tw hI) ht).2.2.2.2.2.1.1 hq5 (Nat.zero_le _) (Or.inr (by rw [v171]; exact hok _ eg)) (zF - 1)
      have sp' : f_X12_go_89 J (nI b) (nI o) (nI (pf (eNg E m q d) g)) (nI g) (zb (eAk E d g)) (nI i) zF 0 (zu (zu (zu I 171 g 0) 171 g (E 3 (6 * i + 2))) 172 g (nI (10 + i))) = _ := sp
      rw [sp', Option.bind_some]
      obtain ⟨I', f1, f2⟩ := fin _ n2 (by rw [eg]; exact v171) (fun _ e he => by rw [eg] at he; cases he; rw [zu_at, if_pos rfl]; rfl) (fun h8 h hh => by
        rw [zu_offk (by omega), zu_row (show 172 ≠ 171 by decide), r172]
        exact hr h8 h hh)
      simp only [z0, c0, ↓reduceIte] at f1
      exact ⟨I', f1, f2⟩
theorem t_nextOf (J : zJ) {E I0 I : zM} {m q b o nn tm le sh a : Nat} (hw : eW E m q) (ht : tE E m q b o nn tm le sh I0) (hb : b < 8) (ho : o < 5) (hI : zTw I0 I) (ha : a < 46656) : ∃ I', f_X12_nextOf J (nI a) (nI b) (nI o) I = some (nI (eNx E m q a), I') ∧ (∀ p, p ≠ 170 → p ≠ 171 → p ≠ 172 → I' p = I p) ∧ (E 8 2 = -9 → ∀ h, h < 6 → I' 172 h = eRs (eGo E m q (dig a) h)) := by
  obtain ⟨I1, e1, f1, f2⟩ := t_layd J I ha
  have hI1 : zTw I0 I1 := ⟨fun p h1 h2 => (f1 p (by omega)).trans (hI.1 p h1 h2), fun k hk => by rw [f1 147 (by decide)]; exact hI.2 k hk⟩
  obtain ⟨I2, e2, f3, f4⟩ := t_g5 J hw ht hb ho 6 0 zF I1 rfl (by unfold zF; omega) hI1 f2 (fun _ h hh => absurd hh (by omega))
  have e2' : f_X12_go_5 J (nI b) (nI o) zF 0 0 I1 = _ := e2
  refine ⟨I2, ?_, fun p p0 p1 p2 => (f3 p p1 p2).trans (f1 p p0), f4⟩
  unfold f_X12_nextOf
  rw [e1, Option.bind_some]
  unfold f_X12_go
  rw [e2', Option.bind_some]
  rfl
