/-! THE CLAIM OUT OF ONE WALK OF THE LAW'S BODY. Your part is whole_start (and what it stands on); all else here is the same for every law, but numbers. -/
def R_law : String := "LeftOutLaw"
def lw_P (b : Addr) (xs : List Int32) (args : Array Value) (s : State) : Prop := args = #[.ref b] ∧ s.IntsAt b xs ∧ xs.length ≤ 3584 ∧ (Jvm.Cond.and given_1 narrow_1).before args s = true
def lw_Q (_ : Array Value) (s : State) (o : Outcome) (t : State) : Prop := o = .returned (some (.int 1)) ∧ Framed s o t [] 600000 7302250
def lw_Z (below : List Frame) (a : Array Value) (s : State) : State → Prop := fun t => ∃ o, t.status = .running ∧ Ended t below o ∧ lw_Q a s o t
/-- the law's own end, with 1 on the stack, nothing written that was there before, its room as the claim has it -/
theorem lw_ret {p : Program} {l : Launch} {e : Env} {s : State} {m : MethodId} {below : List Frame} {meth : Method} {c : Code} {b : Nat} (hx : p.tables.exec = Jvm.exec) (hb : c.code = code) (hr : meth.sig.returnType = ret) (hlocks : meth.locks = false) {pc : Nat} {H : Heap} {ls : Array Slot} (hdg : decode code pc = .ok (.ireturn, 1)) : W p l e room_1 s m #[Value.ref b] below meth c H [] 600000 7302250 (lw_Z below #[Value.ref b] s) (F0 m pc ls [.int 1]) := by
  intro T hT X
  obtain ⟨fs, hret, hrun, hended, hW, hframe⟩ := X.leave (v := some (.int 1)) (hlocks := hlocks) (fun h => by rw [hr] at h; cases h)
  have hmeth' : T.vm.method? m = some meth := X.method'
  refine ⟨T.setFrames fs, ?_, .returned (some (.int 1)), hrun, hended, rfl, ⟨_, rfl⟩, hW, hframe⟩
  jvm_step X.here [X.here.top, hx, hb, hdg, hmeth', hr, ret, narrow_b1]
  (try refine ⟨rfl, ?_⟩); (try refine ⟨rfl, ?_⟩)
  first | (intro acts; rw [hret _ acts rfl rfl rfl]) | rw [hret _ _ rfl rfl rfl]
  exact Steps.refl _
/-- what holds at the law's entry: the machine, the code, the tables' words (any of lw_tbl by 'hts w (by decide +kernel)'), the script of L ints xs at the cell b, what the Statement gives of the start (any of its parts by flat_of_before) -/
def lw_At (p : Program) (s : State) (m : MethodId) (meth : Method) (c : Code) (b L : Nat) (xs : Nat → Int32) : Prop :=
  p.tables.exec = Jvm.exec ∧ c.code = code ∧ meth.sig.returnType = ret ∧ c.maxLocals = 4 ∧ s.vm.findClass R_law = some m.cls ∧ (∀ w ∈ lw_tbl, w.before #[Value.ref b] s = true) ∧ va_X b L xs s s.heap ∧ b < s.heap.size ∧ meth.locks = false ∧ (Jvm.Cond.and given_1 narrow_1).before #[Value.ref b] s = true
theorem zt_in {w : Cond} {k : Nat} (h : tables_1[k]? = some w) : w ∈ lw_tbl := List.mem_append_right _ (List.mem_of_getElem? h)
set_option maxRecDepth 20000 in
theorem zNest_in : ∀ w ∈ zNest, w ∈ lw_tbl := by
  intro w hw
  have e : zNest = ([66, 104, 128, 131, 179, 205, 208, 232, 311, 316, 443, 610, 623, 634, 768, 777, 782, 789, 794, 822, 923, 502, 507, 519, 636, 62, 101, 126, 172, 174, 230, 318] : List Nat).filterMap (fun i => tables_1[i]?) := by decide +kernel
  rw [e] at hw
  obtain ⟨i, _, h⟩ := List.mem_filterMap.mp hw
  exact zt_in h
theorem zN_any {A : Array Value} {s : State} : ∀ w : Cond, zNk w = true → w.before A s = true → va_Nw w s := by
  intro w hk h
  unfold zNk at hk
  unfold va_Nw
  split at hk
  · first | exact va_any rfl h | exact h | (simp only [Cond.before, Cond.holds, Cond.value] at h ⊢; exact h)
  · first | exact va_any rfl h | exact h | (simp only [Cond.before, Cond.holds, Cond.value] at h ⊢; exact h)
  · first | exact va_any rfl h | exact h | (simp only [Cond.before, Cond.holds, Cond.value] at h ⊢; exact h)
  · first | exact va_any rfl h | exact h | (simp only [Cond.before, Cond.holds, Cond.value] at h ⊢; exact h)
  · cases hk
theorem zArP {args : Array Value} {s : State} {ty : FieldType} (h : (Cond.arrayClass ty).before args s = true) (hn : ∀ (c : ClassId), va_RA s c ty = (s.vm.findClass ("[" ++ ty.toString) = some c)) : ∃ c, ArrOfT s c ty ∧ va_RA s c ty := by
  obtain ⟨c, k, comp, f1, f2, f3⟩ := Cond.arrayClass_spec (args := args) (first := s) (o := none) (s := s) (idx := []) h
  exact ⟨c, fun N z => ⟨(fun k h => by cases h), k, f2, comp, f3⟩, by rw [hn]; exact f1⟩
theorem zArO {args : Array Value} {s : State} {C : String} (h : (Cond.arrayOver (.object C)).before args s = true) : ∃ c, ArrOfT s c (.object C) ∧ va_RA s c (.object C) := by
  obtain ⟨comp, c, k, f1, -, f2, f3, f4⟩ := Cond.arrayOver_spec (args := args) (first := s) (o := none) (s := s) (idx := []) h
  exact ⟨c, fun N z => ⟨(fun k h => by cases h), k, f2, comp, f3⟩, k, comp, f2, f3, f1, f4⟩
theorem zArA {args : Array Value} {s : State} (h : (Cond.arrayOver (.array .int)).before args s = true) : ∃ c, ArrOfT s c (.array .int) ∧ va_RA s c (.array .int) := by
  obtain ⟨comp, c, k, f1, f2, f3, f4⟩ := Cond.arrayOver_specA (args := args) (first := s) (o := none) (s := s) (idx := []) h
  exact ⟨c, fun N z => ⟨(fun k h => by cases h), k, f2, comp, f3⟩, f4⟩
set_option maxRecDepth 20000 in
theorem zArr {args : Array Value} {s : State} (hts : ∀ w ∈ lw_tbl, w.before args s = true) : ∀ t : Nat, ∃ c : ClassId, t < 9 → ArrOfT s c (ztyOf t) ∧ va_RA s c (ztyOf t) := by
  intro t
  match t with
  | 0 => exact (zArP (ty := .int) (hts _ (zt_in (k := 54) (by decide +kernel))) (fun _ => rfl)).imp fun _ h _ => h
  | 1 => exact (zArP (ty := .boolean) (hts _ (zt_in (k := 100) (by decide +kernel))) (fun _ => rfl)).imp fun _ h _ => h
  | 2 => exact (zArP (ty := .char) (hts _ (zt_in (k := 118) (by decide +kernel))) (fun _ => rfl)).imp fun _ h _ => h
  | 3 => exact (zArO (C := "LeftOut$Bargain") (hts _ (zt_in (k := 174) (by decide +kernel)))).imp fun _ h _ => h
  | 4 => exact (zArO (C := "LeftOut$Doings") (hts _ (zt_in (k := 101) (by decide +kernel)))).imp fun _ h _ => h
  | 5 => exact (zArO (C := "LeftOut$Fillers") (hts _ (zt_in (k := 230) (by decide +kernel)))).imp fun _ h _ => h
  | 6 => exact (zArO (C := "LeftOut$Order") (hts _ (zt_in (k := 172) (by decide +kernel)))).imp fun _ h _ => h
  | 7 => exact (zArO (C := "LeftOut$Rule") (hts _ (zt_in (k := 126) (by decide +kernel)))).imp fun _ h _ => h
  | 8 => exact (zArA (hts _ (zt_in (k := 318) (by decide +kernel)))).imp fun _ h _ => h
  | n + 9 => exact ⟨0, fun h => absurd h (by omega)⟩
set_option maxRecDepth 20000 in
theorem zCls {args : Array Value} {s : State} (hts : ∀ w ∈ lw_tbl, w.before args s = true) : ∃ (dC : Nat → ClassId) (dI : Nat → Nat → Nat), ∀ (k : Nat) (q : vw_C), vwCl[k]? = some q → u_Kn s q.1 q.2.1 q.2.2 (dC k) (dI k) := by
  have h0 : ∀ k : Nat, ∃ x : ClassId × (Nat → Nat), ∀ q : vw_C, vwCl[k]? = some q → u_Kn s q.1 q.2.1 q.2.2 x.1 x.2 := by
    intro k
    match k with
    | 0 =>
      obtain ⟨c, iS, h⟩ := u_known (C := RX0) (T := TX0) (N := 5) (n := 5) hts inX0 (hts _ (zt_in (k := 310) (by decide +kernel)))
      exact ⟨(c, iS), fun q hq => by cases hq; exact h⟩
    | 1 =>
      obtain ⟨c, iS, h⟩ := u_known (C := RX1) (T := TX1) (N := 9) (n := 9) hts inX1 (hts _ (zt_in (k := 65) (by decide +kernel)))
      exact ⟨(c, iS), fun q hq => by cases hq; exact h⟩
    | 2 =>
      obtain ⟨c, iS, h⟩ := u_known (C := RX2) (T := TX2) (N := 5) (n := 5) hts inX2 (hts _ (zt_in (k := 231) (by decide +kernel)))
      exact ⟨(c, iS), fun q hq => by cases hq; exact h⟩
    | 3 =>
      obtain ⟨c, iS, h⟩ := u_known (C := RX3) (T := TX3) (N := 4) (n := 4) hts inX3 (hts _ (zt_in (k := 31) (by decide +kernel)))
      exact ⟨(c, iS), fun q hq => by cases hq; exact h⟩
    | 4 =>
      obtain ⟨c, iS, h⟩ := u_known (C := RX4) (T := TX4) (N := 2) (n := 2) hts inX4 (hts _ (zt_in (k := 175) (by decide +kernel)))
      exact ⟨(c, iS), fun q hq => by cases hq; exact h⟩
    | 5 =>
      obtain ⟨c, iS, h⟩ := u_known (C := RX5) (T := TX5) (N := 17) (n := 17) hts inX5 (hts _ (zt_in (k := 224) (by decide +kernel)))
      exact ⟨(c, iS), fun q hq => by cases hq; exact h⟩
    | 6 =>
      obtain ⟨c, iS, h⟩ := u_known (C := RX6) (T := TX6) (N := 6) (n := 6) hts inX6 (hts _ (zt_in (k := 127) (by decide +kernel)))
      exact ⟨(c, iS), fun q hq => by cases hq; exact h⟩
    | 7 =>
      obtain ⟨c, iS, h⟩ := u_known (C := RX7) (T := TX7) (N := 2) (n := 2) hts inX7 (hts _ (zt_in (k := 120) (by decide +kernel)))
      exact ⟨(c, iS), fun q hq => by cases hq; exact h⟩
    | 8 =>
      obtain ⟨c, iS, h⟩ := u_known (C := RX8) (T := TX8) (N := 3) (n := 3) hts inX8 (hts _ (zt_in (k := 204) (by decide +kernel)))
      exact ⟨(c, iS), fun q hq => by cases hq; exact h⟩
    | 9 =>
      obtain ⟨c, iS, h⟩ := u_known (C := RX9) (T := TX9) (N := 2) (n := 2) hts inX9 (hts _ (zt_in (k := 103) (by decide +kernel)))
      exact ⟨(c, iS), fun q hq => by cases hq; exact h⟩
    | 10 =>
      obtain ⟨c, iS, h⟩ := u_known (C := RX11) (T := TX11) (N := 13) (n := 13) hts inX11 (hts _ (zt_in (k := 23) (by decide +kernel)))
      exact ⟨(c, iS), fun q hq => by cases hq; exact h⟩
    | 11 =>
      obtain ⟨c, iS, h⟩ := u_known (C := RX12) (T := TX12) (N := 46) (n := 46) hts inX12 (hts _ (zt_in (k := 987) (by decide +kernel)))
      exact ⟨(c, iS), fun q hq => by cases hq; exact h⟩
    | n + 12 => exact ⟨(0, fun _ => 0), fun q hq => by simp at hq⟩
  obtain ⟨f, hf⟩ := Classical.axiomOfChoice h0
  exact ⟨fun k => (f k).1, fun k => (f k).2, hf⟩
theorem zlen3 {args : Array Value} {s : State} {t : Term} {a : Nat} (h : (Term.length t).eval args s none [] s = some (.int 3)) (ht : t.eval args s none [] s = some (.ref a)) : ∃ cell : Cell, s.heap[a]? = some cell ∧ cell.slots.size = 3 := by
  simp only [Term.eval, Option.bind_eq_bind, ht, Option.bind_some] at h
  obtain ⟨cell, hcell, h⟩ := Option.bind_eq_some_iff.mp h
  by_cases hn : cell.slots.size < 2147483648
  · rw [if_pos hn] at h
    have e : Int32.ofNat cell.slots.size = 3 := Value.int.inj (Option.some.inj h)
    have e2 := congrArg Int32.toNatClampNeg e
    rw [Int32.toNatClampNeg_ofNat_of_lt hn] at e2
    exact ⟨cell, (State.arrayAt?_spec hcell).1, e2⟩
  · rw [if_neg hn] at h
    cases h
theorem zeqr {args : Array Value} {s : State} {t u : Term} {a : Nat} (h : (Cond.eq t u).before args s = true) (ht : t.eval args s none [] s = some (.ref a)) : u.eval args s none [] s = some (.ref a) := by
  cases hv : u.eval args s none [] s with
  | none => simp [Cond.before, Cond.holds, Cond.value, ht, hv] at h
  | some w =>
    simp only [Cond.before, Cond.holds, Cond.value, ht, hv] at h
    cases w <;> simp_all
theorem zSt3 {args : Array Value} {s : State} {n : String} {A : Nat → Prop} {f0 f1 f2 : Int32} (hl : (Cond.laysStatic "LeftOut" n "[I").before args s = true) (hi : (Cond.initialized "LeftOut").before args s = true) (ha : (Cond.arrayOf (.static "LeftOut" n "[I") .int).before args s = true) (hn : (Cond.eq (.length (.static "LeftOut" n "[I")) (.int 3)).before args s = true) (h0 : (Cond.eq (.elem (.static "LeftOut" n "[I") (.int 0)) (.int f0)).before args s = true) (h1 : (Cond.eq (.elem (.static "LeftOut" n "[I") (.int 1)) (.int f1)).before args s = true) (h2 : (Cond.eq (.elem (.static "LeftOut" n "[I") (.int 2)) (.int f2)).before args s = true) (hA : ∀ a : Nat, a < s.heap.size → ¬ A a) : ∃ t : Nat, (Term.static "LeftOut" n "[I").eval args s none [] s = some (.ref t) ∧ va_Z "LeftOut" n "[I" (.ref t) A s s.heap ∧ va_T .int t 3 (fun j => .int (([f0, f1, f2] : List Int32).getD j 0)) A s s.heap := by
  obtain ⟨t, ht, hT⟩ := va_Tof (N := 3) (f := fun j => .int (([f0, f1, f2] : List Int32).getD j 0)) (A := A) (by decide) ha (va_eqt hn) (fun j hj => by
    match j, hj with
    | 0, _ => exact va_eqt h0
    | 1, _ => exact va_eqt h1
    | 2, _ => exact va_eqt h2) hA
  exact ⟨t, ht, va_Zof hl hi ht hA, hT⟩
set_option maxHeartbeats 4000000 in
set_option maxRecDepth 20000 in
theorem zX_start {l : Launch} {b : Nat} {s : State} (hts : ∀ w ∈ lw_tbl, w.before #[Value.ref b] s = true) (hgv : (Jvm.Cond.and given_1 narrow_1).before #[Value.ref b] s = true) (B : zB) (hA : ∀ a : Nat, a < s.heap.size → ¬ zA B a) : zX B s s.heap := by
  have hs := flat_of_before _ hgv
  obtain ⟨t0, e0, z0, y0⟩ := zSt3 (n := "TERMS_AT_FIRST") (hts _ (zt_in (k := 56) (by decide +kernel))) (hts _ (zt_in (k := 1) (by decide +kernel))) (show (Cond.arrayOf (Term.static "LeftOut" "TERMS_AT_FIRST" "[I") .int).before #[Value.ref b] s = true from hs _ (by decide +kernel)) (show (Cond.eq (.length (Term.static "LeftOut" "TERMS_AT_FIRST" "[I")) (.int 3)).before #[Value.ref b] s = true from hs _ (by decide +kernel)) (show (Cond.eq (.elem (Term.static "LeftOut" "TERMS_AT_FIRST" "[I") (.int 0)) (.int 2)).before #[Value.ref b] s = true from hs _ (by decide +kernel)) (show (Cond.eq (.elem (Term.static "LeftOut" "TERMS_AT_FIRST" "[I") (.int 1)) (.int 3)).before #[Value.ref b] s = true from hs _ (by decide +kernel)) (show (Cond.eq (.elem (Term.static "LeftOut" "TERMS_AT_FIRST" "[I") (.int 2)) (.int 60)).before #[Value.ref b] s = true from hs _ (by decide +kernel)) hA
  obtain ⟨t1, e1, z1, y1⟩ := zSt3 (n := "TERMS_LOWEST") (hts _ (zt_in (k := 432) (by decide +kernel))) (hts _ (zt_in (k := 1) (by decide +kernel))) (show (Cond.arrayOf (Term.static "LeftOut" "TERMS_LOWEST" "[I") .int).before #[Value.ref b] s = true from hs _ (by decide +kernel)) (show (Cond.eq (.length (Term.static "LeftOut" "TERMS_LOWEST" "[I")) (.int 3)).before #[Value.ref b] s = true from hs _ (by decide +kernel)) (show (Cond.eq (.elem (Term.static "LeftOut" "TERMS_LOWEST" "[I") (.int 0)) (.int 1)).before #[Value.ref b] s = true from hs _ (by decide +kernel)) (show (Cond.eq (.elem (Term.static "LeftOut" "TERMS_LOWEST" "[I") (.int 1)) (.int 1)).before #[Value.ref b] s = true from hs _ (by decide +kernel)) (show (Cond.eq (.elem (Term.static "LeftOut" "TERMS_LOWEST" "[I") (.int 2)) (.int 51)).before #[Value.ref b] s = true from hs _ (by decide +kernel)) hA
  obtain ⟨t2, e2, z2, y2⟩ := zSt3 (n := "TERMS_HIGHEST") (hts _ (zt_in (k := 434) (by decide +kernel))) (hts _ (zt_in (k := 1) (by decide +kernel))) (show (Cond.arrayOf (Term.static "LeftOut" "TERMS_HIGHEST" "[I") .int).before #[Value.ref b] s = true from hs _ (by decide +kernel)) (show (Cond.eq (.length (Term.static "LeftOut" "TERMS_HIGHEST" "[I")) (.int 3)).before #[Value.ref b] s = true from hs _ (by decide +kernel)) (show (Cond.eq (.elem (Term.static "LeftOut" "TERMS_HIGHEST" "[I") (.int 0)) (.int 5)).before #[Value.ref b] s = true from hs _ (by decide +kernel)) (show (Cond.eq (.elem (Term.static "LeftOut" "TERMS_HIGHEST" "[I") (.int 1)) (.int 9)).before #[Value.ref b] s = true from hs _ (by decide +kernel)) (show (Cond.eq (.elem (Term.static "LeftOut" "TERMS_HIGHEST" "[I") (.int 2)) (.int 100)).before #[Value.ref b] s = true from hs _ (by decide +kernel)) hA
  have o0 := va_Oof (nm := "[I") (A := zA B) (show (Cond.exactly (Term.static "LeftOut" "TERMS_AT_FIRST" "[I") "[I").before #[Value.ref b] s = true from hs _ (by decide +kernel)) e0 hA
  have l0 := zlen3 (va_eqt (show (Cond.eq (.length (Term.static "LeftOut" "TERMS_AT_FIRST" "[I")) (.int 3)).before #[Value.ref b] s = true from hs _ (by decide +kernel))) e0
  have cs := va_Zof (A := zA B) (hts _ (zt_in (k := 190) (by decide +kernel))) (hts _ (zt_in (k := 9) (by decide +kernel))) (va_eqi (show (Cond.eq (.static "java/lang/String" "COMPACT_STRINGS" "Z") (.int 1)).before #[Value.ref b] s = true from hs _ (by decide +kernel))) hA
  obtain ⟨adK, adV, hS, hE⟩ := vk_Sof (args := #[Value.ref b]) (s := s) (N := 2) (tm := fun i => if i = 0 then (Term.string "LeftOut$Order" 9) else (Term.string "LeftOut$Rule" 30)) (len := zlen) (byt := zbyt) (A := zA B)
    (fun i hi => by
      match i, hi with
      | 0, _ => exact (by decide)
      | 1, _ => exact (by decide))
    (fun i hi => by
      match i, hi with
      | 0, _ => exact (show (Cond.exactly (Term.string "LeftOut$Order" 9) "java/lang/String").before #[Value.ref b] s = true from hs _ (by decide +kernel))
      | 1, _ => exact (show (Cond.exactly (Term.string "LeftOut$Rule" 30) "java/lang/String").before #[Value.ref b] s = true from hs _ (by decide +kernel)))
    (fun i hi => by
      match i, hi with
      | 0, _ => exact (show (Cond.eq (.field (Term.string "LeftOut$Order" 9) "java/lang/String" "coder" "B") (.int 0)).before #[Value.ref b] s = true from hs _ (by decide +kernel))
      | 1, _ => exact (show (Cond.eq (.field (Term.string "LeftOut$Rule" 30) "java/lang/String" "coder" "B") (.int 0)).before #[Value.ref b] s = true from hs _ (by decide +kernel)))
    (fun i hi => by
      match i, hi with
      | 0, _ => exact (show (Cond.arrayOf (Term.field (Term.string "LeftOut$Order" 9) "java/lang/String" "value" "[B") .byte).before #[Value.ref b] s = true from hs _ (by decide +kernel))
      | 1, _ => exact (show (Cond.arrayOf (Term.field (Term.string "LeftOut$Rule" 30) "java/lang/String" "value" "[B") .byte).before #[Value.ref b] s = true from hs _ (by decide +kernel)))
    (fun i hi => by
      match i, hi with
      | 0, _ => exact (show (Cond.eq (.length (Term.field (Term.string "LeftOut$Order" 9) "java/lang/String" "value" "[B")) (.int 5)).before #[Value.ref b] s = true from hs _ (by decide +kernel))
      | 1, _ => exact (show (Cond.eq (.length (Term.field (Term.string "LeftOut$Rule" 30) "java/lang/String" "value" "[B")) (.int 3)).before #[Value.ref b] s = true from hs _ (by decide +kernel)))
    (fun i hi j hj => by
      match i, hi, j, hj with
      | 0, _, 0, _ => exact (show (Cond.eq (.elem (Term.field (Term.string "LeftOut$Order" 9) "java/lang/String" "value" "[B") (.int 0)) (.int 87)).before #[Value.ref b] s = true from hs _ (by decide +kernel))
      | 0, _, 1, _ => exact (show (Cond.eq (.elem (Term.field (Term.string "LeftOut$Order" 9) "java/lang/String" "value" "[B") (.int 1)) (.int 68)).before #[Value.ref b] s = true from hs _ (by decide +kernel))
      | 0, _, 2, _ => exact (show (Cond.eq (.elem (Term.field (Term.string "LeftOut$Order" 9) "java/lang/String" "value" "[B") (.int 2)) (.int 67)).before #[Value.ref b] s = true from hs _ (by decide +kernel))
      | 0, _, 3, _ => exact (show (Cond.eq (.elem (Term.field (Term.string "LeftOut$Order" 9) "java/lang/String" "value" "[B") (.int 3)) (.int 76)).before #[Value.ref b] s = true from hs _ (by decide +kernel))
      | 0, _, 4, _ => exact (show (Cond.eq (.elem (Term.field (Term.string "LeftOut$Order" 9) "java/lang/String" "value" "[B") (.int 4)) (.int 77)).before #[Value.ref b] s = true from hs _ (by decide +kernel))
      | 1, _, 0, _ => exact (show (Cond.eq (.elem (Term.field (Term.string "LeftOut$Rule" 30) "java/lang/String" "value" "[B") (.int 0)) (.int 76)).before #[Value.ref b] s = true from hs _ (by decide +kernel))
      | 1, _, 1, _ => exact (show (Cond.eq (.elem (Term.field (Term.string "LeftOut$Rule" 30) "java/lang/String" "value" "[B") (.int 1)) (.int 66)).before #[Value.ref b] s = true from hs _ (by decide +kernel))
      | 1, _, 2, _ => exact (show (Cond.eq (.elem (Term.field (Term.string "LeftOut$Rule" 30) "java/lang/String" "value" "[B") (.int 2)) (.int 77)).before #[Value.ref b] s = true from hs _ (by decide +kernel))
      | 0, _, j + 5, hj => exact absurd (show j + 5 < 5 from hj) (by omega)
      | 1, _, j + 3, hj => exact absurd (show j + 3 < 3 from hj) (by omega))
    (fun i j hi hj hij => by
      match i, hi, j, hj with
      | 0, _, 0, _ => exact absurd rfl hij
      | 1, _, 1, _ => exact absurd rfl hij
      | 0, _, 1, _ => exact Or.inl (show (Cond.not (Cond.eq (Term.string "LeftOut$Order" 9) (Term.string "LeftOut$Rule" 30))).before #[Value.ref b] s = true from hs _ (by decide +kernel))
      | 1, _, 0, _ => exact Or.inr (show (Cond.not (Cond.eq (Term.string "LeftOut$Order" 9) (Term.string "LeftOut$Rule" 30))).before #[Value.ref b] s = true from hs _ (by decide +kernel))) hA
  have k0 : (Term.string "LeftOut$Order" 9).eval #[Value.ref b] s none [] s = some (.ref (adK 0)) := hE 0 (by decide)
  have k1 : (Term.string "LeftOut$Rule" 30).eval #[Value.ref b] s none [] s = some (.ref (adK 1)) := hE 1 (by decide)
  have k2 := zeqr (show (Cond.eq (Term.string "LeftOut$Order" 9) (Term.string "LeftOut$Sayings" 36)).before #[Value.ref b] s = true from hs _ (by decide +kernel)) k0
  exact ⟨⟨t0, z0, y0, o0, l0⟩, ⟨t1, z1, y1⟩, ⟨t2, z2, y2⟩, cs, adK, adV, ⟨vk_R.of (hts _ (zt_in (k := 180) (by decide +kernel))) k0, vk_R.of (hts _ (zt_in (k := 608) (by decide +kernel))) k1, vk_R.of (hts _ (zt_in (k := 632) (by decide +kernel))) k2⟩, hS⟩
theorem zK_start {b : Nat} {s : State} (l : Launch) (hts : ∀ w ∈ lw_tbl, w.before #[Value.ref b] s = true) (hgv : (Jvm.Cond.and given_1 narrow_1).before #[Value.ref b] s = true) : ∃ (D : va_G) (cy : Nat → ClassId), zKK (l, D, cy, fun p => s.heap.size + p, s.heap.size) s s.heap := by
  obtain ⟨dC, dI, hK⟩ := zCls hts
  obtain ⟨cy, hcy⟩ := Classical.axiomOfChoice (zArr hts)
  refine ⟨(dC, dI), cy, ⟨hK, fun k q hk => ?_⟩, fun w hw => zN_any w (List.all_eq_true.mp zNest_k w hw) (hts w (zNest_in w hw)), zX_start (l := l) hts hgv _ (fun a ha => Nat.not_le.mpr ha)⟩
  have hl : k < 9 := by
    have h1 := (List.getElem?_eq_some_iff.mp hk).1
    simpa [zty] using h1
  have h2 : (zty cy)[k]? = some (cy k, ztyOf k) := zty_at cy hl
  have h3 : q = (cy k, ztyOf k) := Option.some.inj (hk.symm.trans h2)
  rw [h3]
  exact hcy k hl
def iI_0 : zM := iIX12_init_147 (iIX11_init_0 (fun _ _ => 0))
def iJ_0 : zJ := iJX12_init_147 (iJX11_init_0 (fun _ _ => none))
def zB46 (J : zJ) : Prop := ∀ q k, 46 ≤ k → J q k = none
theorem zB46_zuJ {J : zJ} {p k : Nat} {x : Option Nat} (h : zB46 J) (hk : k < 46) : zB46 (zuJ J p k x) := fun q j hj => by
  unfold zuJ
  have e : ¬ j = k := by omega
  rw [if_neg e]
  split
  · exact h p j hj
  · exact h q j hj
set_option maxHeartbeats 4000000 in
set_option maxRecDepth 20000 in
theorem iJ_46 : zB46 iJ_0 := by
  unfold iJ_0
  simp only [iJX3_init_1, iJX1_init_6, iJX9_init_16, iJX10_init_20, iJX6_init_20, iJX10_init_21, iJX6_init_21, iJX10_init_22, iJX6_init_22, iJX10_init_23, iJX6_init_23, iJX10_init_24, iJX6_init_24, iJX10_init_25, iJX6_init_25, iJX10_init_26, iJX6_init_26, iJX10_init_27, iJX6_init_27, iJX10_init_28, iJX6_init_28, iJX10_init_29, iJX6_init_29, iJX10_init_30, iJX6_init_30, iJX10_init_31, iJX6_init_31, iJX10_init_32, iJX6_init_32, iJX7_init_18, iJX10_init_35, iJX4_init_35, iJX10_init_37, iJX8_init_37, iJX2_init_45, iJX2_init_50, iJX2_init_55, iJX2_init_60, iJX2_init_65, iJX2_init_70, iJX5_init_39, iJX1_init_75, iJX1_init_83, iJX10_init_91, iJX4_init_91, iJX10_init_93, iJX4_init_93, iJX10_init_95, iJX4_init_95, iJX10_init_97, iJX4_init_97, iJX10_init_100, iJX8_init_100, iJX0_init_99, iJX10_init_106, iJX8_init_106, iJX0_init_105, iJX10_init_112, iJX8_init_112, iJX0_init_111, iJX10_init_118, iJX8_init_118, iJX0_init_117, iJX10_init_124, iJX8_init_124, iJX0_init_123, iJX10_init_130, iJX8_init_130, iJX0_init_129, iJX10_init_136, iJX8_init_136, iJX0_init_135, iJX10_init_142, iJX8_init_142, iJX0_init_141, iJX11_init_0, iJX12_init_147]
  repeat (refine zB46_zuJ ?_ (by decide))
  exact fun _ _ _ => rfl
theorem iZ_0 : zZ 178 iI_0 iJ_0 := zZX12_init_147 (zZ_up (zZX11_init_0 (fun _ _ => ⟨rfl, rfl⟩)) (by decide))
set_option maxHeartbeats 4000000 in
set_option maxRecDepth 100000 in
theorem iJ_tab : ∀ p, p < 178 → ∀ k, k < 46 → iJ_0 p k = zJ0 p k := by decide +kernel
set_option maxRecDepth 100000 in
theorem zJT_46 : ∀ p, p < 178 → ((zJT.getD p []).length ≤ 46) := by decide +kernel
theorem zJT_len : zJT.length ≤ 178 := by decide +kernel
theorem iJ_eq : ∀ p k, iJ_0 p k = zJ0 p k := by
  intro p k
  by_cases hp : p < 178
  · by_cases hk : k < 46
    · exact iJ_tab p hp k hk
    · rw [iJ_46 p k (by omega)]
      have h1 := zJT_46 p hp
      unfold zJ0
      rw [List.getD_eq_getElem?_getD, List.getElem?_eq_none (by omega)]
      rfl
  · rw [(iZ_0 p (by omega)).2]
    have h1 := zJT_len
    unfold zJ0
    rw [show zJT.getD p [] = [] by rw [List.getD_eq_getElem?_getD, List.getElem?_eq_none (by omega)]; rfl]
    rfl
theorem iJ_19 : ∀ r, r < 13 → zJ0 19 r = some (20 + r) := by decide +kernel
theorem iJ_ok : zJok iJ_0 := by
  refine ⟨fun p k _ => iJ_eq p k, fun r hr => ?_⟩
  have h : iJ_0 19 r = some (20 + r) := by rw [iJ_eq]; exact iJ_19 r hr
  have e : zrp iJ_0 r = 20 + r := by unfold zrp; rw [h]; rfl
  rw [e]
  exact ⟨h, by omega, by omega⟩
theorem iJ_rp {r : Nat} (hr : r < 13) : zrp iJ_0 r = 20 + r := by
  have h : iJ_0 19 r = some (20 + r) := by rw [iJ_eq]; exact iJ_19 r hr
  unfold zrp
  rw [h]
  rfl
set_option maxRecDepth 100000 in
theorem zKn_all : zKn 178 = zKW := List.take_of_length_le (Nat.le_of_eq (show zKW.length = 178 from rfl))
theorem zl_in {w : Cond} {i : Nat} (h : wsL_law[i]? = some w) : w ∈ wsL_law := List.mem_of_getElem? h
set_option maxHeartbeats 4000000 in
set_option maxRecDepth 100000 in
theorem zc_end {p : Program} {e : Env} {s : State} {m : MethodId} {below : List Frame} {meth : Method} {c : Code} {l : Launch} {b L : Nat} {xs : Nat → Int32} (C0 : lw_At p s m meth c b L xs) {B : zB} (hB : B.2.2.2.2 = s.heap.size) (hl : B.1 = l) : ∀ (I : zM) (J : zJ) (Lc : List (Nat × Value)), Z B ((p, e, room_1, s, m), (#[Value.ref b], below, meth, c, lw_Z below #[Value.ref b] s)) zKW I J (178, 95753) 1818 Lc [.int 1] := by
  obtain ⟨hx, hb, hr, hml, hown, hts, hX, hbl, hlocks, hgv⟩ := id C0
  intro I J Lc H locs ls hH hS hL
  subst hl
  refine va_forget (fun q hq => hB ▸ hS.2.2 q hq) ?_
  refine W.widen (k := 600000) (n := 7302250) (Nat.le_of_ble_eq_true rfl) (Nat.le_of_ble_eq_true rfl) ?_
  exact lw_ret hx hb hr hlocks dL_law_1818
set_option maxHeartbeats 4000000 in
set_option maxRecDepth 100000 in
theorem zc_walk {B : zB} {G : zG} {b : Nat} (h : zOK B G cL_law 4 RL wsL_law room_1) (hBs : zBs B) (k : Z B G zKW iI_0 iJ_0 (178, 95753) 18 [(0, Value.ref b), (1, Value.ref (za B 0)), (2, Value.ref (za B 147)), (3, Value.int (nI 0))] []) : Y B G 0 (fun _ _ => 0) (fun _ _ => none) (0, 0) 0 [(0, Value.ref b)] [] := by
  refine y_new (ci := 10) (C := RX11) (T := TX11) (N := 13) h hBs (fun _ _ => ⟨rfl, rfl⟩) inlX11 tyX11 tyX11_ok zdefX11 (zl_in (i := 0) (by decide +kernel)) (zl_in (i := 1) (by decide +kernel)) (zl_in (i := 2) (by decide +kernel)) rfl rfl ⟨by decide, by decide⟩ dL_law_0 (rfl : 0 + 3 = 3) ?_
  refine y_dup h rfl dL_law_3 (rfl : 3 + 1 = 4) ?_
  refine y_callI (n' := 147) (I' := iIX11_init_0 (fun _ _ => 0)) (J' := iJX11_init_0 (fun _ _ => none)) h [] [.ref (za B 0)] zyX11_init (c_X11_init_0 B hBs (fun _ _ => 0) (fun _ _ => none) (fun _ _ => ⟨rfl, rfl⟩)) ggL_law_X11_init (zl_in (i := 2) (by decide +kernel)) (zl_in (i := 7) (by decide +kernel)) (zl_in (i := 8) (by decide +kernel)) rfl ⟨by decide, by decide⟩ rfl (Nat.le_of_ble_eq_true rfl) ⟨by decide, by decide⟩ rfl dL_law_4 (rfl : 4 + 3 = 7) ?_
  refine y_astore_n h [(1, Value.ref (za B 0)), (0, Value.ref b)] dL_law_7 (by decide) rfl (rfl : 7 + 1 = 8) ?_
  refine y_new (ci := 11) (C := RX12) (T := TX12) (N := 46) h hBs (zZX11_init_0 (fun _ _ => ⟨rfl, rfl⟩)) inlX12 tyX12 tyX12_ok zdefX12 (zl_in (i := 3) (by decide +kernel)) (zl_in (i := 4) (by decide +kernel)) (zl_in (i := 5) (by decide +kernel)) rfl rfl ⟨by decide, by decide⟩ dL_law_8 (rfl : 8 + 3 = 11) ?_
  refine y_dup h rfl dL_law_11 (rfl : 11 + 1 = 12) ?_
  refine y_callI (n' := 178) (I' := iIX12_init_147 (iIX11_init_0 (fun _ _ => 0))) (J' := iJX12_init_147 (iJX11_init_0 (fun _ _ => none))) h [] [.ref (za B 147)] zyX12_init (c_X12_init_147 B hBs (iIX11_init_0 (fun _ _ => 0)) (iJX11_init_0 (fun _ _ => none)) (zZ_up (zZX11_init_0 (fun _ _ => ⟨rfl, rfl⟩)) (by decide))) ggL_law_X12_init (zl_in (i := 5) (by decide +kernel)) (zl_in (i := 170) (by decide +kernel)) (zl_in (i := 171) (by decide +kernel)) rfl ⟨by decide, by decide⟩ rfl (Nat.le_of_ble_eq_true rfl) ⟨by decide, by decide⟩ rfl dL_law_12 (rfl : 12 + 3 = 15) ?_
  refine y_astore_n h [(2, Value.ref (za B 147)), (1, Value.ref (za B 0)), (0, Value.ref b)] dL_law_15 (by decide) rfl (rfl : 15 + 1 = 16) ?_
  refine y_iconst h 0 dL_law_16 (by decide) (rfl : 16 + 1 = 17) ?_
  refine y_istore_n h [(3, Value.int 0), (2, Value.ref (za B 147)), (1, Value.ref (za B 0)), (0, Value.ref b)] dL_law_17 (by decide) rfl (rfl : 17 + 1 = 18) ?_
  refine y_sub (L' := [(0, Value.ref b), (1, Value.ref (za B 0)), (2, Value.ref (za B 147)), (3, Value.int (nI 0))]) [3, 2, 1, 0] rfl ?_
  exact fun H locs ls hH _ hS hL => k H locs ls (zKn_all ▸ hH) hS hL
set_option maxHeartbeats 4000000 in
set_option maxRecDepth 100000 in
theorem whole_start_of {p : Program} {e : Env} {s : State} {m : MethodId} {below : List Frame} {meth : Method} {c : Code} (l : Launch) (hflags : l.flags = flags0) {b L : Nat} {xs : Nat → Int32} (hL : L ≤ 3584) (C0 : lw_At p s m meth c b L xs) (Inv : Nat → zM → zJ → Prop) (hJv : ∀ n I J, Inv n I J → zJok J) (hJ1 : ∀ n I J v {q : Int32 × zM × zJ}, Inv n I J → f_X11_unrule J v I = some q → zJok q.2.2) (hd_ : ∀ n I J, Inv n I J → Inv (n + 1) I J) (hs_gap : zS_gap Inv) (hs_need : zS_need Inv) (hs_hang : zS_hang Inv) (hs_doing : zS_doing Inv) (hs_undo : zS_undo Inv) (hs_tell : zS_tell Inv) (hs_term : zS_term Inv) (hs_knows : zS_knows Inv) (hs_before : zS_before Inv) (hs_custom : zS_custom Inv) (hs_lacks : zS_lacks Inv) (hs_write : zS_write Inv) (hs_wipe : zS_wipe Inv) (hs_fault : zS_fault Inv) (hs_rule : zS_rule Inv) (hs_unrule : zS_unrule Inv) (hs_ruled : zS_ruled Inv) (hs_order : zS_order Inv) (hs_ordered : zS_ordered Inv) (hs_bargain : zS_bargain Inv) (hs_reword : zS_reword Inv) (hs_said : zS_said Inv) (hs_next : zS_next Inv) (hs_rounds : zS_rounds Inv) (hs_answer : zS_answer Inv) (hs_fills : zS_fills Inv) (hs_reason : zS_reason Inv) (hs_open : zS_open Inv) (hs_holds : zS_holds Inv) (hs_judge : zS_judge Inv) (hs_differ : zS_differ Inv) (hs_step : zS_step Inv) (hs_moves : zS_moves Inv) (hs_think : zS_think Inv) (hs_part : zS_part Inv) (hs_far : zS_far Inv) (hs_words : zS_words Inv) (hs_worth : zS_worth Inv) (hs_best : zS_best Inv) (hs_keep : zS_keep Inv) (hs_again : zS_again Inv) (hs_since : zS_since Inv) (hs_count : zS_count Inv) (h0 : Inv 0 iI_0 iJ_0) : W p l e room_1 s m #[Value.ref b] below meth c s.heap [] 0 0 (lw_Z below #[Value.ref b] s) (entryFrame m ([Value.ref b] : List Value).toArray 4) := by
  obtain ⟨hx, hb, hr, hml, hown, hts, hX, hbl, hlocks, hgv⟩ := id C0
  obtain ⟨D, cy, hKK⟩ := zK_start l hts hgv
  generalize hB : ((l, D, cy, fun p => s.heap.size + p, s.heap.size) : zB) = B at hKK
  have hB5 : B.2.2.2.2 = s.heap.size := by rw [← hB]
  have hB1 : B.1 = l := by rw [← hB]
  have hBs : zBs B := by rw [← hB]; exact fun _ => rfl
  have hok : zOK B ((p, e, room_1, s, m), (#[Value.ref b], below, meth, c, lw_Z below #[Value.ref b] s)) cL_law 4 RL wsL_law room_1 := ⟨hx, hb, hml, hown, fun w hw => hts w (wsL_law_in w hw), hKK, rfl, Nat.le_of_eq hB5⟩
  have hbA : ¬ zA B b := by
    intro q
    have q' : B.2.2.2.2 ≤ b := q
    omega
  have hZ := law_loop hok hX hbl hbA hL Inv hJv hJ1 hd_ hs_gap hs_need hs_hang hs_doing hs_undo hs_tell hs_term hs_knows hs_before hs_custom hs_lacks hs_write hs_wipe hs_fault hs_rule hs_unrule hs_ruled hs_order hs_ordered hs_bargain hs_reword hs_said hs_next hs_rounds hs_answer hs_fills hs_reason hs_open hs_holds hs_judge hs_differ hs_step hs_moves hs_think hs_part hs_far hs_words hs_worth hs_best hs_keep hs_again hs_since hs_count (zl_in (i := 6) (by decide +kernel)) (zc_end C0 hB5 hB1) (L + 1) 0 0 iI_0 iJ_0 (by omega) ⟨rfl, Nat.zero_le _⟩ h0
  have hY := zc_walk hok hBs hZ
  have hl := lv_entry ([.ref b]) (n := 4) (Nat.le_of_ble_eq_true rfl)
  rw [lg_entry_eq]
  generalize (lg_sl ([.ref b]) ++ List.replicate (4 - (lg_sl ([.ref b])).length) Slot.unset).toArray = ls at hl ⊢
  have hl : lv_has ls 4 [(0, .ref b)] := hl
  subst hB1
  exact hY s.heap [] ls ⟨fun k q h => by simp [zKn, zws] at h, fun i j p q h => by simp [zKn, zws] at h, fun k q h => by simp [zKn, zws] at h⟩ (by rw [hB5]; rfl) va_S.rf (by rw [hml]; exact hl)
