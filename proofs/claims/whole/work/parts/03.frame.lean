/-! ===== one world of cells: places, each at an address; what each holds as numbers and as places ===== -/
/-- a place's kind: an array (its type's number, its length, whether of references), or an object of a class -/
abbrev zk : Type := (Nat × Nat × Bool) ⊕ Nat
abbrev zM : Type := Nat → Nat → Int32
abbrev zJ : Type := Nat → Nat → Option Nat
/-- the launch, the classes' numbers, the arrays' classes, the places' addresses, the first address of ours -/
abbrev zB : Type := Launch × va_G × (Nat → ClassId) × (Nat → Nat) × Nat
def za (B : zB) (p : Nat) : Nat := B.2.2.2.1 p
def zA (B : zB) : Nat → Prop := fun q => B.2.2.2.2 ≤ q
noncomputable def ztyOf : Nat → FieldType
  | 0 => .int
  | 1 => .boolean
  | 2 => .char
  | 3 => .object RX0
  | 4 => .object RX1
  | 5 => .object RX2
  | 6 => .object RX4
  | 7 => .object RX6
  | _ => .array .int
noncomputable def zty (cy : Nat → ClassId) : List (ClassId × FieldType) := (List.range 9).map fun t => (cy t, ztyOf t)
theorem zty_at (cy : Nat → ClassId) {t : Nat} (h : t < 9) : (zty cy)[t]? = some (cy t, ztyOf t) := by
  simp [zty, h]
/-- which fields of a class are references -/
def zrs : Nat → List Bool
  | 0 => [false, false, false, true, true]
  | 1 => [true, true, true, true, true, true, false, false, true]
  | 2 => [false, true, true, true, true]
  | 3 => [true, false, true, true]
  | 4 => [true, false]
  | 5 => [true, true, true, false, false, false, false, true, true, true, true, true, false, false, false, false, false]
  | 6 => [false, false, false, false, false, false]
  | 7 => [true, false]
  | 8 => [true, false, false]
  | 9 => [true, false]
  | 10 => [true, true, true, true, true, true, true, true, true, false, true, true, true]
  | _ => [false, true, true, true, true, true, false, true, false, false, false, true, false, false, true, false, true, true, true, true, true, true, true, true, true, false, true, false, true, true, true, true, false, false, true, true, true, true, true, false, false, false, false, true, true, true]
def zfs (B : zB) (I : Nat → Int32) (J : Nat → Option Nat) (rs : List Bool) : List Value := rs.mapIdx fun k r => bif r then va_rf ((J k).map (za B)) else .int (I k)
theorem zfs_int {B : zB} {I : Nat → Int32} {J : Nat → Option Nat} {rs : List Bool} {k : Nat} (h : rs[k]? = some false) : (zfs B I J rs)[k]? = some (.int (I k)) := by
  simp [zfs, h]
theorem zfs_ref {B : zB} {I : Nat → Int32} {J : Nat → Option Nat} {rs : List Bool} {k q : Nat} (h : rs[k]? = some true) (hq : J k = some q) : (zfs B I J rs)[k]? = some (.ref (za B q)) := by
  simp [zfs, h, hq, va_rf]
def zce (B : zB) (I : Nat → Int32) (J : Nat → Option Nat) (k : zk) : va_E := match k with
  | .inl (t, n, false) => .inl (B.2.2.1 t, n, .inl I)
  | .inl (t, n, true) => .inl (B.2.2.1 t, n, .inr (.inr (.inr (.inr (fun j => (J j).map (za B))))))
  | .inr ci => .inr (ci, zfs B I J (zrs ci))
def zws (B : zB) (K : List zk) (I : zM) (J : zJ) : va_W := K.mapIdx fun p k => (za B p, zce B (I p) (J p) k)
theorem zws_at {B : zB} {K : List zk} {I : zM} {J : zJ} {p : Nat} {k : zk} (h : K[p]? = some k) : (zws B K I J)[p]? = some (za B p, zce B (I p) (J p) k) := by
  simp [zws, h]
/-- a number more -/
def zu (I : zM) (p k : Nat) (x : Int32) : zM := fun q j => if q = p then (if j = k then x else I p j) else I q j
theorem zu_self (I : zM) (p k : Nat) (x : Int32) : zu I p k x p k = x := by simp [zu]
theorem zu_ne (I : zM) {p k q j : Nat} (x : Int32) (h : ¬ (q = p ∧ j = k)) : zu I p k x q j = I q j := by
  unfold zu
  by_cases h1 : q = p
  · subst h1
    rw [if_pos rfl, if_neg (fun e => h ⟨rfl, e⟩)]
  · rw [if_neg h1]
def zuJ (J : zJ) (p k : Nat) (x : Option Nat) : zJ := fun q j => if q = p then (if j = k then x else J p j) else J q j
theorem zws_set {B : zB} {K : List zk} {I I' : zM} {J J' : zJ} {p : Nat} {k : zk} (h : K[p]? = some k) {e : va_E} (he : e = zce B (I' p) (J' p) k) (hI : ∀ q, q ≠ p → I' q = I q) (hJ : ∀ q, q ≠ p → J' q = J q) : (zws B K I J).set p (za B p, e) = zws B K I' J' := by
  subst he
  apply List.ext_getElem?
  intro i
  by_cases hi : i = p
  · subst hi
    have hl : i < (zws B K I J).length := by
      have := (List.getElem?_eq_some_iff.mp h).1
      simpa [zws] using this
    rw [List.getElem?_set_self hl, zws_at h]
  · rw [List.getElem?_set_ne (Ne.symm hi)]
    simp [zws, hI i hi, hJ i hi]
theorem zfs_set {B : zB} {I : Nat → Int32} {J : Nat → Option Nat} {rs : List Bool} {k : Nat} {x : Int32} (h : rs[k]? = some false) : (zfs B I J rs).set k (.int x) = zfs B (fun j => if j = k then x else I j) J rs := by
  apply List.ext_getElem?
  intro i
  by_cases hi : i = k
  · subst hi
    have hl : i < (zfs B I J rs).length := by
      have := (List.getElem?_eq_some_iff.mp h).1
      simpa [zfs] using this
    rw [List.getElem?_set_self hl, zfs_int h]
    simp
  · rw [List.getElem?_set_ne (Ne.symm hi)]
    simp [zfs, hi]
/-- the heap holds the world, each cell at an address of its own -/
def zH (B : zB) (K : List zk) (I : zM) (J : zJ) (H : Heap) : Prop := va_P B.2.1 vwCl (zws B K I J) H ∧ va_D (zA B) (zws B K I J)
abbrev zG : Type := (Program × Env × Room × State × MethodId) × (Array Value × List Frame × Method × Code × (State → Prop))
def zW (B : zB) (G : zG) (H : Heap) (locs : List Loc) (cells slots : Nat) (g : JFrame) : Prop := W G.1.1 B.1 G.1.2.1 G.1.2.2.1 G.1.2.2.2.1 G.1.2.2.2.2 G.2.1 G.2.2.1 G.2.2.2.1 G.2.2.2.2.1 H locs cells slots G.2.2.2.2.2 g
/-- from here on it comes to the end that G wants -/
def Z (B : zB) (G : zG) (K : List zk) (I : zM) (J : zJ) (c : Nat × Nat) (pc : Nat) (L : List (Nat × Value)) (S : List Value) : Prop :=
  ∀ (H : Heap) (locs : List Loc) (ls : Array Slot), zH B K I J H → va_S (zA B) G.1.2.2.2.1.heap H locs → lv_has ls G.2.2.2.2.1.maxLocals L → zW B G H locs c.1 c.2 (F0 G.1.2.2.2.2 pc ls S)
/-- the links among nest mates, and what else the tables say once for all -/
def zNest : List Cond := [.methodLinkNest "LeftOut" 30 ⟨"LeftOut$Doings", "<init>", "()V"⟩ "LeftOut",
  .methodLinkNest "LeftOut" 45 ⟨"LeftOut$Text", "<init>", "()V"⟩ "LeftOut",
  .methodLinkNest "LeftOut$Rules" 21 ⟨"LeftOut$Rule", "<init>", "()V"⟩ "LeftOut",
  .methodLinkNest "LeftOut$Rule" 3 ⟨"LeftOut$Written", "<init>", "()V"⟩ "LeftOut",
  .methodLinkNest "LeftOut$Order" 3 ⟨"LeftOut$Written", "<init>", "()V"⟩ "LeftOut",
  .methodLinkNest "LeftOut" 80 ⟨"LeftOut$Sayings", "<init>", "()V"⟩ "LeftOut",
  .methodLinkNest "LeftOut$Sayings" 3 ⟨"LeftOut$Written", "<init>", "()V"⟩ "LeftOut",
  .methodLinkNest "LeftOut$Reading" 69 ⟨"LeftOut$Fillers", "<init>", "()V"⟩ "LeftOut",
  .methodLinkNest "LeftOut" 94 ⟨"LeftOut$Bargain", "<init>", "()V"⟩ "LeftOut",
  .methodLinkNest "LeftOut$Bargain" 23 ⟨"LeftOut$Sayings", "<init>", "()V"⟩ "LeftOut",
  .methodLinkNest "LeftOut$Doings" 47 ⟨"LeftOut", "bit", "(II)I"⟩ "LeftOut",
  .methodLinkNest "LeftOut$Rule" 38 ⟨"LeftOut", "figure", "(CII)I"⟩ "LeftOut",
  .methodLinkNest "LeftOut$Sayings" 32 ⟨"LeftOut", "figure", "(CII)I"⟩ "LeftOut",
  .methodLinkNest "LeftOut$Sayings" 44 ⟨"LeftOut", "bit", "(II)I"⟩ "LeftOut",
  .methodLinkNest "LeftOut$Reading" 103 ⟨"LeftOut", "bit", "(II)I"⟩ "LeftOut",
  .methodLinkNest "LeftOut$Reading" 143 ⟨"LeftOut", "isGap", "(I)Z"⟩ "LeftOut",
  .methodLinkNest "LeftOut$Reading" 175 ⟨"LeftOut", "spread", "(I[I)V"⟩ "LeftOut",
  .methodLinkNest "LeftOut$Gaps" 25 ⟨"LeftOut", "isGap", "(I)Z"⟩ "LeftOut",
  .methodLinkNest "LeftOut$Fillers" 28 ⟨"LeftOut", "isGap", "(I)Z"⟩ "LeftOut",
  .methodLinkNest "LeftOut$Reading" 204 ⟨"LeftOut", "unlike", "(II)I"⟩ "LeftOut",
  .methodLinkNest "LeftOut$Bargain" 37 ⟨"LeftOut", "valueAt", "(II)I"⟩ "LeftOut",
  .declares ⟨"LeftOut$Written", "readFrom", "(LLeftOut$Text;)I"⟩,
  .declares ⟨"LeftOut$Written", "clear", "()V"⟩,
  .declares ⟨"LeftOut$Written", "accept", "(IC)I"⟩,
  .declares ⟨"LeftOut$Written", "isWhole", "(I)Z"⟩,
  .castable "[I" "java/lang/Cloneable",
  .arrayOver (.object "LeftOut$Doings"), .arrayOver (.object "LeftOut$Rule"), .arrayOver (.object "LeftOut$Order"), .arrayOver (.object "LeftOut$Bargain"), .arrayOver (.object "LeftOut$Fillers"), .arrayOver (.array .int)]
def zNk : Cond → Bool
  | .methodLinkNest .. => true
  | .declares _ => true
  | .castable .. => true
  | .arrayOver _ => true
  | _ => false
theorem zNest_k : zNest.all zNk = true := by decide +kernel
theorem zAO_go {s U : State} {ty : FieldType} (hv : s.vm.Alike U.vm) (h : va_Nw (.arrayOver ty) s) : va_Nw (.arrayOver ty) U := by
  have h1 : (Cond.arrayOver ty).before #[] (s.setVm U.vm) = true := by
    rw [Cond.arrayOver_setVmC hv]
    exact h
  exact h1
theorem zN_same {s U : State} (hv : s.vm = U.vm) : ∀ w : Cond, zNk w = true → va_Nw w s → va_Nw w U := by
  intro w hk h
  unfold zNk at hk
  split at hk
  · exact va_Nw.same rfl hv h
  · exact va_Nw.same rfl hv h
  · exact va_Nw.same rfl hv h
  · exact zAO_go (hv ▸ Vm.Alike.refl _) h
  · cases hk
theorem zN_one {s U : State} (hW : s.WarmedH U.vm) : ∀ w : Cond, zNk w = true → va_Nw w s → va_Nw w U := by
  intro w hk h
  unfold zNk at hk
  split at hk
  · exact va_Nw.warmM hW h
  · exact va_Nw.warmD hW h
  · exact va_Nw.warmC hW h
  · exact zAO_go hW.alike h
  · cases hk
theorem zN_warm {s U : State} (hW : s.WarmedH U.vm) (h : ∀ w ∈ zNest, va_Nw w s) : ∀ w ∈ zNest, va_Nw w U := fun w hw => zN_one hW w (List.all_eq_true.mp zNest_k w hw) (h w hw)
/-- the three static rows, the texts' letters -/
def zT0 (j : Nat) : Int32 := ([2, 3, 60] : List Int32).getD j 0
def zT1 (j : Nat) : Int32 := ([1, 1, 51] : List Int32).getD j 0
def zT2 (j : Nat) : Int32 := ([5, 9, 100] : List Int32).getD j 0
def zlen : List Nat := [5, 3]
def zbyt : List (List Int32) := [[87, 68, 67, 76, 77], [76, 66, 77]]
def zX (B : zB) (U : State) (H : Heap) : Prop :=
  (∃ t, va_Z "LeftOut" "TERMS_AT_FIRST" "[I" (.ref t) (zA B) U H ∧ va_T .int t 3 (fun j => .int (zT0 j)) (zA B) U H ∧ va_O "[I" t (zA B) U H ∧ ∃ cell : Cell, H[t]? = some cell ∧ cell.slots.size = 3) ∧
  (∃ t, va_Z "LeftOut" "TERMS_LOWEST" "[I" (.ref t) (zA B) U H ∧ va_T .int t 3 (fun j => .int (zT1 j)) (zA B) U H) ∧
  (∃ t, va_Z "LeftOut" "TERMS_HIGHEST" "[I" (.ref t) (zA B) U H ∧ va_T .int t 3 (fun j => .int (zT2 j)) (zA B) U H) ∧
  va_Z "java/lang/String" "COMPACT_STRINGS" "Z" (.int 1) (zA B) U H ∧
  ∃ adK adV : Nat → Nat, (vk_R "LeftOut$Order" 9 "WDCLM" (adK 0) U ∧ vk_R "LeftOut$Rule" 30 "LBM" (adK 1) U ∧ vk_R "LeftOut$Sayings" 36 "WDCLM" (adK 0) U) ∧ vk_S 2 zlen zbyt adK adV (zA B) U H
theorem zX_go {B : zB} {s U : State} {locs : List Loc} (h : zX B s s.heap) (hS : va_S (zA B) s.heap U.heap locs) (hW : s.WarmedH U.vm) : zX B U U.heap := by
  obtain ⟨⟨t0, a0, b0, o0, c0, d0, e0⟩, ⟨t1, a1, b1⟩, ⟨t2, a2, b2⟩, a3, adK, adV, ⟨r0, r1, r2⟩, v⟩ := h
  have hv := hW.alike
  exact ⟨⟨t0, (a0.moved hv).kept hS.2.1, (b0.moved hv).kept hS.2.1, (o0.moved hv).kept hS.2.1, c0, by rw [hS.2.1 t0 (Array.getElem?_eq_some_iff.mp d0).1 b0.out]; exact d0, e0⟩, ⟨t1, (a1.moved hv).kept hS.2.1, (b1.moved hv).kept hS.2.1⟩, ⟨t2, (a2.moved hv).kept hS.2.1, (b2.moved hv).kept hS.2.1⟩, (a3.moved hv).kept hS.2.1, adK, adV, ⟨r0.warm hW, r1.warm hW, r2.warm hW⟩, (v.moved hv).kept hS.2.1⟩
/-- what is known of classes, links and statics -/
def zKK (B : zB) (U : State) (H : Heap) : Prop := va_K B.2.1 vwCl (zty B.2.2.1) U ∧ (∀ w ∈ zNest, va_Nw w U) ∧ zX B U H
theorem zKK_go {B : zB} {s U : State} {locs : List Loc} (h : zKK B s s.heap) (hS : va_S (zA B) s.heap U.heap locs) (hW : s.WarmedH U.vm) : zKK B U U.heap := ⟨va_K.moved hW.alike h.1, zN_warm hW h.2.1, zX_go h.2.2 hS hW⟩
def zOK (B : zB) (G : zG) (cc : ByteArray) (nL : Nat) (own : String) (ws : List Cond) (rm : Room) : Prop :=
  G.1.1.tables.exec = Jvm.exec ∧ G.2.2.2.2.1.code = cc ∧ G.2.2.2.2.1.maxLocals = nL ∧ G.1.2.2.2.1.vm.findClass own = some G.1.2.2.2.2.cls ∧ (∀ w ∈ ws, w.before G.2.1 G.1.2.2.2.1 = true) ∧ zKK B G.1.2.2.2.1 G.1.2.2.2.1.heap ∧ G.1.2.2.1 = rm ∧ B.2.2.2.2 ≤ G.1.2.2.2.1.heap.size
/-- an index within -/
def zin (i : Int32) (n : Nat) : Bool := decide (0 ≤ i) && decide (Int32.toNatClampNeg i < n)
theorem zin_vp {i : Int32} {n : Nat} (h : zin i n = true) : vp_in i n := by
  unfold zin at h
  simp only [Bool.and_eq_true, decide_eq_true_eq] at h
  intro q
  rcases q with q | q
  · exact absurd h.1 (Int32.not_le.mpr q)
  · omega
theorem zin_lt {i : Int32} {n : Nat} (h : zin i n = true) : Int32.toNatClampNeg i < n := by
  unfold zin at h
  simp only [Bool.and_eq_true, decide_eq_true_eq] at h
  exact h.2
theorem zin_nI {j n : Nat} (h : j < n) (hn : n < 2 ^ 31) : zin (nI j) n = true := by
  unfold zin
  simp only [Bool.and_eq_true, decide_eq_true_eq]
  exact ⟨nI_pos' (by omega), by rw [nI_clamp (by omega)]; exact h⟩
/-- one row copied over another, from its first place on -/
def zcp (I : zM) (p q n : Nat) : zM := fun r j => if r = q then va_cpy (I p) (I q) 0 0 n j else I r j
def zfit (f : Nat → Int32) (n : Nat) : Bool := (List.range n).all fun i => fits .boolean (.int (f i))
theorem zfit_all {f : Nat → Int32} {n : Nat} (h : zfit f n = true) : ∀ i, i < n → fits (ztyOf 1) (.int (f i)) = true := fun i hi => List.all_eq_true.mp h i (List.mem_range.mpr hi)
theorem zitt {α : Type} {P : Prop} [Decidable P] {x y : α} {r : α} (c : P) (h : (if P then x else y) = r) : x = r := by rw [if_pos c] at h; exact h
theorem zitf {α : Type} {P : Prop} [Decidable P] {x y : α} {r : α} (c : ¬ P) (h : (if P then x else y) = r) : y = r := by rw [if_neg c] at h; exact h
theorem zchk {α : Type} {P : Prop} [Decidable P] {x : Option α} {r : α} (h : (if P then x else none) = some r) : P ∧ x = some r := by
  by_cases c : P
  · rw [if_pos c] at h; exact ⟨c, h⟩
  · rw [if_neg c] at h; cases h
theorem zbind {α β : Type} {x : Option α} {f : α → Option β} {r : β} (h : x.bind f = some r) : ∃ a, x = some a ∧ f a = some r := Option.bind_eq_some_iff.mp h
theorem zsome {α : Type} {a b : α} (h : some a = some b) : a = b := Option.some.inj h
theorem zell {α β γ : Type} {q : α ⊕ β} {a : α} {f : α → γ} {g : β → γ} {r : γ} (e : q = .inl a) (h : Sum.elim f g q = r) : f a = r := by rw [e] at h; exact h
theorem zelr {α β γ : Type} {q : α ⊕ β} {a : β} {f : α → γ} {g : β → γ} {r : γ} (e : q = .inr a) (h : Sum.elim f g q = r) : g a = r := by rw [e] at h; exact h
/-- a loop's fuel: more than any loop runs -/
def zF : Nat := 2000000
/-- 1 or 0 -/
noncomputable def zb (P : Prop) : Int32 := @ite Int32 P (Classical.propDecidable P) 1 0
theorem zb_t {P : Prop} (h : P) : 1 = zb P := by unfold zb; rw [if_pos h]
theorem zb_f {P : Prop} (h : ¬ P) : 0 = zb P := by unfold zb; rw [if_neg h]
theorem zb_01 (P : Prop) : zb P = 0 ∨ zb P = 1 := by
  unfold zb
  by_cases h : P
  · rw [if_pos h]; exact Or.inr rfl
  · rw [if_neg h]; exact Or.inl rfl
theorem zb_eq0 {P : Prop} : zb P = 0 ↔ ¬ P := by
  unfold zb
  by_cases h : P
  · rw [if_pos h]; exact ⟨fun q => absurd q (by decide), fun q => absurd h q⟩
  · rw [if_neg h]; exact ⟨fun _ => h, fun _ => rfl⟩
theorem zb_eq1 {P : Prop} : zb P = 1 ↔ P := by
  unfold zb
  by_cases h : P
  · rw [if_pos h]; exact ⟨fun _ => h, fun _ => rfl⟩
  · rw [if_neg h]; exact ⟨fun q => absurd q (by decide), fun q => absurd q h⟩
theorem zb_cg {P Q : Prop} (h : P ↔ Q) : zb P = zb Q := by rw [propext h]
section ZR
variable {B : zB} {G : zG} {cc : ByteArray} {nL : Nat} {own : String} {ws : List Cond} {rm : Room} {K : List zk} {I : zM} {J : zJ} {c : Nat × Nat} {pc pc' : Nat} {L : List (Nat × Value)} {S : List Value}
theorem z_iadd (h : zOK B G cc nL own ws rm) {x y : Int32} (hd : decode cc pc = .ok (.iadd, 1)) (e : pc + 1 = pc') (k : Z B G K I J c pc' L (.int (x + y) :: S)) : Z B G K I J c pc L (.int y :: .int x :: S) := fun H locs ls hH hS hL => lv_iadd h.1 h.2.1 hd (e ▸ k H locs ls hH hS hL)
theorem z_isub (h : zOK B G cc nL own ws rm) {x y : Int32} (hd : decode cc pc = .ok (.isub, 1)) (e : pc + 1 = pc') (k : Z B G K I J c pc' L (.int (x - y) :: S)) : Z B G K I J c pc L (.int y :: .int x :: S) := fun H locs ls hH hS hL => lv_isub h.1 h.2.1 hd (e ▸ k H locs ls hH hS hL)
theorem z_imul (h : zOK B G cc nL own ws rm) {x y : Int32} (hd : decode cc pc = .ok (.imul, 1)) (e : pc + 1 = pc') (k : Z B G K I J c pc' L (.int (x * y) :: S)) : Z B G K I J c pc L (.int y :: .int x :: S) := fun H locs ls hH hS hL => lv_imul h.1 h.2.1 hd (e ▸ k H locs ls hH hS hL)
theorem z_iand (h : zOK B G cc nL own ws rm) {x y : Int32} (hd : decode cc pc = .ok (.iand, 1)) (e : pc + 1 = pc') (k : Z B G K I J c pc' L (.int (x &&& y) :: S)) : Z B G K I J c pc L (.int y :: .int x :: S) := fun H locs ls hH hS hL => lv_iand h.1 h.2.1 hd (e ▸ k H locs ls hH hS hL)
theorem z_ior (h : zOK B G cc nL own ws rm) {x y : Int32} (hd : decode cc pc = .ok (.ior, 1)) (e : pc + 1 = pc') (k : Z B G K I J c pc' L (.int (x ||| y) :: S)) : Z B G K I J c pc L (.int y :: .int x :: S) := fun H locs ls hH hS hL => lv_ior h.1 h.2.1 hd (e ▸ k H locs ls hH hS hL)
theorem z_ixor (h : zOK B G cc nL own ws rm) {x y : Int32} (hd : decode cc pc = .ok (.ixor, 1)) (e : pc + 1 = pc') (k : Z B G K I J c pc' L (.int (x ^^^ y) :: S)) : Z B G K I J c pc L (.int y :: .int x :: S) := fun H locs ls hH hS hL => lv_ixor h.1 h.2.1 hd (e ▸ k H locs ls hH hS hL)
theorem z_ishl (h : zOK B G cc nL own ws rm) {x y : Int32} (hd : decode cc pc = .ok (.ishl, 1)) (e : pc + 1 = pc') (k : Z B G K I J c pc' L (.int (x <<< (y &&& 31)) :: S)) : Z B G K I J c pc L (.int y :: .int x :: S) := fun H locs ls hH hS hL => lv_ishl h.1 h.2.1 hd (e ▸ k H locs ls hH hS hL)
theorem z_ishr (h : zOK B G cc nL own ws rm) {x y : Int32} (hd : decode cc pc = .ok (.ishr, 1)) (e : pc + 1 = pc') (k : Z B G K I J c pc' L (.int (x >>> (y &&& 31)) :: S)) : Z B G K I J c pc L (.int y :: .int x :: S) := fun H locs ls hH hS hL => lv_ishr h.1 h.2.1 hd (e ▸ k H locs ls hH hS hL)
theorem z_idiv (h : zOK B G cc nL own ws rm) {x y : Int32} (hd : decode cc pc = .ok (.idiv, 1)) (hx : ¬ y = 0) (e : pc + 1 = pc') (k : Z B G K I J c pc' L (.int (x / y) :: S)) : Z B G K I J c pc L (.int y :: .int x :: S) := fun H locs ls hH hS hL => lv_idiv h.1 h.2.1 hd hx (e ▸ k H locs ls hH hS hL)
theorem z_irem (h : zOK B G cc nL own ws rm) {x y : Int32} (hd : decode cc pc = .ok (.irem, 1)) (hx : ¬ y = 0) (e : pc + 1 = pc') (k : Z B G K I J c pc' L (.int (x - x / y * y) :: S)) : Z B G K I J c pc L (.int y :: .int x :: S) := fun H locs ls hH hS hL => lv_irem h.1 h.2.1 hd hx (e ▸ k H locs ls hH hS hL)
theorem z_land (h : zOK B G cc nL own ws rm) {x y : Int64} (hd : decode cc pc = .ok (.land, 1)) (e : pc + 1 = pc') (k : Z B G K I J c pc' L (.long (x &&& y) :: S)) : Z B G K I J c pc L (.long y :: .long x :: S) := fun H locs ls hH hS hL => lv_land h.1 h.2.1 hd (e ▸ k H locs ls hH hS hL)
theorem z_lor (h : zOK B G cc nL own ws rm) {x y : Int64} (hd : decode cc pc = .ok (.lor, 1)) (e : pc + 1 = pc') (k : Z B G K I J c pc' L (.long (x ||| y) :: S)) : Z B G K I J c pc L (.long y :: .long x :: S) := fun H locs ls hH hS hL => lv_lor h.1 h.2.1 hd (e ▸ k H locs ls hH hS hL)
theorem z_i2l (h : zOK B G cc nL own ws rm) {x : Int32} (hd : decode cc pc = .ok (.i2l, 1)) (e : pc + 1 = pc') (k : Z B G K I J c pc' L (.long (x.toInt64) :: S)) : Z B G K I J c pc L (.int x :: S) := fun H locs ls hH hS hL => lv_i2l h.1 h.2.1 hd rfl (e ▸ k H locs ls hH hS hL)
theorem z_l2i (h : zOK B G cc nL own ws rm) {x : Int64} (hd : decode cc pc = .ok (.l2i, 1)) (e : pc + 1 = pc') (k : Z B G K I J c pc' L (.int (x.toInt32) :: S)) : Z B G K I J c pc L (.long x :: S) := fun H locs ls hH hS hL => lv_l2i h.1 h.2.1 hd rfl (e ▸ k H locs ls hH hS hL)
theorem z_i2c (h : zOK B G cc nL own ws rm) {x : Int32} (hd : decode cc pc = .ok (.i2c, 1)) (e : pc + 1 = pc') (k : Z B G K I J c pc' L (.int ((x.toUInt32 % 65536).toInt32) :: S)) : Z B G K I J c pc L (.int x :: S) := fun H locs ls hH hS hL => lv_i2c h.1 h.2.1 hd rfl (e ▸ k H locs ls hH hS hL)
theorem z_i2b (h : zOK B G cc nL own ws rm) {x : Int32} (hd : decode cc pc = .ok (.i2b, 1)) (e : pc + 1 = pc') (k : Z B G K I J c pc' L (.int (x.toInt8.toInt32) :: S)) : Z B G K I J c pc L (.int x :: S) := fun H locs ls hH hS hL => lv_i2b h.1 h.2.1 hd rfl (e ▸ k H locs ls hH hS hL)
theorem z_lshr (h : zOK B G cc nL own ws rm) {x : Int64} {y : Int32} (hd : decode cc pc = .ok (.lshr, 1)) (e : pc + 1 = pc') (k : Z B G K I J c pc' L (.long (x >>> (y.toInt64 &&& 63)) :: S)) : Z B G K I J c pc L (.int y :: .long x :: S) := fun H locs ls hH hS hL => lv_lshr h.1 h.2.1 hd rfl (e ▸ k H locs ls hH hS hL)
theorem z_lshl (h : zOK B G cc nL own ws rm) {x : Int64} {y : Int32} (hd : decode cc pc = .ok (.lshl, 1)) (e : pc + 1 = pc') (k : Z B G K I J c pc' L (.long (x <<< (y.toInt64 &&& 63)) :: S)) : Z B G K I J c pc L (.int y :: .long x :: S) := fun H locs ls hH hS hL => lv_lshl h.1 h.2.1 hd rfl (e ▸ k H locs ls hH hS hL)
theorem z_iushr (h : zOK B G cc nL own ws rm) {x y : Int32} (hd : decode cc pc = .ok (.iushr, 1)) (e : pc + 1 = pc') (k : Z B G K I J c pc' L (.int ((x.toUInt32 >>> (y.toUInt32 &&& Int32.toUInt32 31)).toInt32) :: S)) : Z B G K I J c pc L (.int y :: .int x :: S) := fun H locs ls hH hS hL => lv_iushr h.1 h.2.1 hd rfl (e ▸ k H locs ls hH hS hL)
theorem z_lcmp (h : zOK B G cc nL own ws rm) {x y : Int64} (hd : decode cc pc = .ok (.lcmp, 1)) (e : pc + 1 = pc') (k : Z B G K I J c pc' L (.int (lg_cmp x y) :: S)) : Z B G K I J c pc L (.long y :: .long x :: S) := fun H locs ls hH hS hL => W.lcmp h.1 h.2.1 hd (e ▸ k H locs ls hH hS hL)
theorem z_dup (h : zOK B G cc nL own ws rm) {va : Value} (hv : va.category = 1) (hd : decode cc pc = .ok (.dup, 1)) (e : pc + 1 = pc') (k : Z B G K I J c pc' L (va :: va :: S)) : Z B G K I J c pc L (va :: S) := fun H locs ls hH hS hL => lv_dup h.1 h.2.1 hd hv (e ▸ k H locs ls hH hS hL)
theorem z_pop (h : zOK B G cc nL own ws rm) {va : Value} (hv : va.category = 1) (hd : decode cc pc = .ok (.pop, 1)) (e : pc + 1 = pc') (k : Z B G K I J c pc' L (S)) : Z B G K I J c pc L (va :: S) := fun H locs ls hH hS hL => lv_pop h.1 h.2.1 hd hv (e ▸ k H locs ls hH hS hL)
theorem z_dup2 (h : zOK B G cc nL own ws rm) {va vb : Value} (hv : va.category = 1) (hw : vb.category = 1) (hd : decode cc pc = .ok (.dup2, 1)) (e : pc + 1 = pc') (k : Z B G K I J c pc' L (va :: vb :: va :: vb :: S)) : Z B G K I J c pc L (va :: vb :: S) := fun H locs ls hH hS hL => lv_dup2_11 h.1 h.2.1 hd hv hw (e ▸ k H locs ls hH hS hL)
theorem z_iconst (h : zOK B G cc nL own ws rm) {n : Int} (v : Int32) (hd : decode cc pc = .ok (.iconst n, 1)) (hv : Int32.ofInt n = v) (e : pc + 1 = pc') (k : Z B G K I J c pc' L (.int v :: S)) : Z B G K I J c pc L S := fun H locs ls hH hS hL => lv_iconst h.1 h.2.1 hd hv (e ▸ k H locs ls hH hS hL)
theorem z_bipush (h : zOK B G cc nL own ws rm) {n : Int} (v : Int32) (hd : decode cc pc = .ok (.bipush n, 2)) (hv : (Int8.ofInt n).toInt32 = v) (e : pc + 2 = pc') (k : Z B G K I J c pc' L (.int v :: S)) : Z B G K I J c pc L S := fun H locs ls hH hS hL => lv_bipush h.1 h.2.1 hd hv (e ▸ k H locs ls hH hS hL)
theorem z_sipush (h : zOK B G cc nL own ws rm) {n : Int} (v : Int32) (hd : decode cc pc = .ok (.sipush n, 3)) (hv : (Int16.ofInt n).toInt32 = v) (e : pc + 3 = pc') (k : Z B G K I J c pc' L (.int v :: S)) : Z B G K I J c pc L S := fun H locs ls hH hS hL => lv_sipush h.1 h.2.1 hd hv (e ▸ k H locs ls hH hS hL)
theorem z_lconst (h : zOK B G cc nL own ws rm) {n : Fin 2} (v : Int64) (hd : decode cc pc = .ok (.lconst n, 1)) (hv : Int64.ofNat (n : Nat) = v) (e : pc + 1 = pc') (k : Z B G K I J c pc' L (.long v :: S)) : Z B G K I J c pc L S := fun H locs ls hH hS hL => lv_lconst h.1 h.2.1 hd hv (e ▸ k H locs ls hH hS hL)
theorem z_ldc (h : zOK B G cc nL own ws rm) {index : Nat} (v : Int32) (hw : Cond.constant own index v ∈ ws) (hd : decode cc pc = .ok (.ldc index, 2)) (e : pc + 2 = pc') (k : Z B G K I J c pc' L (.int v :: S)) : Z B G K I J c pc L S := fun H locs ls hH hS hL => lv_ldc h.1 h.2.1 h.2.2.2.1 (h.2.2.2.2.1 _ hw) hd (e ▸ k H locs ls hH hS hL)
theorem z_ldcw (h : zOK B G cc nL own ws rm) {index : Nat} (v : Int32) (hw : Cond.constant own index v ∈ ws) (hd : decode cc pc = .ok (.ldc_w index, 3)) (e : pc + 3 = pc') (k : Z B G K I J c pc' L (.int v :: S)) : Z B G K I J c pc L S := fun H locs ls hH hS hL => lv_ldcw h.1 h.2.1 h.2.2.2.1 (h.2.2.2.2.1 _ hw) hd (e ▸ k H locs ls hH hS hL)
theorem z_ldc2 (h : zOK B G cc nL own ws rm) {index : Nat} (v : Int64) (hw : Cond.constantLong own index v ∈ ws) (hd : decode cc pc = .ok (.ldc2_w index, 3)) (e : pc + 3 = pc') (k : Z B G K I J c pc' L (.long v :: S)) : Z B G K I J c pc L S := fun H locs ls hH hS hL => lv_ldc2 h.1 h.2.1 h.2.2.2.1 (h.2.2.2.2.1 _ hw) hd (e ▸ k H locs ls hH hS hL)
theorem z_iload_n (h : zOK B G cc nL own ws rm) {i : Fin 4} (x : Nat) {v : Int32} (hd : decode cc pc = .ok (.iload_n i, 1)) (hl : L[x]? = some ((i : Nat), .int v)) (e : pc + 1 = pc') (k : Z B G K I J c pc' L (.int v :: S)) : Z B G K I J c pc L S := fun H locs ls hH hS hL => lv_iload_n h.1 h.2.1 hd rfl (lv_at hL x hl) (e ▸ k H locs ls hH hS hL)
theorem z_iload (h : zOK B G cc nL own ws rm) {i : Nat} (x : Nat) {v : Int32} (hd : decode cc pc = .ok (.iload i, 2)) (hl : L[x]? = some (i, .int v)) (e : pc + 2 = pc') (k : Z B G K I J c pc' L (.int v :: S)) : Z B G K I J c pc L S := fun H locs ls hH hS hL => lv_iload h.1 h.2.1 hd (lv_at hL x hl) (e ▸ k H locs ls hH hS hL)
theorem z_aload_n (h : zOK B G cc nL own ws rm) {i : Fin 4} (x : Nat) {v : Nat} (hd : decode cc pc = .ok (.aload_n i, 1)) (hl : L[x]? = some ((i : Nat), .ref v)) (e : pc + 1 = pc') (k : Z B G K I J c pc' L (.ref v :: S)) : Z B G K I J c pc L S := fun H locs ls hH hS hL => lv_aload_n h.1 h.2.1 hd rfl (lv_at hL x hl) (e ▸ k H locs ls hH hS hL)
theorem z_aload (h : zOK B G cc nL own ws rm) {i : Nat} (x : Nat) {v : Nat} (hd : decode cc pc = .ok (.aload i, 2)) (hl : L[x]? = some (i, .ref v)) (e : pc + 2 = pc') (k : Z B G K I J c pc' L (.ref v :: S)) : Z B G K I J c pc L S := fun H locs ls hH hS hL => lv_aload h.1 h.2.1 hd (lv_at hL x hl) (e ▸ k H locs ls hH hS hL)
theorem z_lload_n (h : zOK B G cc nL own ws rm) {i : Fin 4} (x : Nat) {v : Int64} (hd : decode cc pc = .ok (.lload_n i, 1)) (hl : L[x]? = some ((i : Nat), .long v)) (e : pc + 1 = pc') (k : Z B G K I J c pc' L (.long v :: S)) : Z B G K I J c pc L S := fun H locs ls hH hS hL => lv_lload_n h.1 h.2.1 hd rfl (lv_at hL x hl) (e ▸ k H locs ls hH hS hL)
theorem z_lload (h : zOK B G cc nL own ws rm) {i : Nat} (x : Nat) {v : Int64} (hd : decode cc pc = .ok (.lload i, 2)) (hl : L[x]? = some (i, .long v)) (e : pc + 2 = pc') (k : Z B G K I J c pc' L (.long v :: S)) : Z B G K I J c pc L S := fun H locs ls hH hS hL => lv_lload h.1 h.2.1 hd (lv_at hL x hl) (e ▸ k H locs ls hH hS hL)
theorem z_istore_n (h : zOK B G cc nL own ws rm) {i : Fin 4} {x : Int32} (L' : List (Nat × Value)) (hd : decode cc pc = .ok (.istore_n i, 1)) (hn : (i : Nat) < nL) (hl : ((i : Nat), Value.int x) :: L.filter (fun q => !(q.1 == (i : Nat)) && !(q.1 + 1 == (i : Nat) && q.2.category == 2)) = L') (e : pc + 1 = pc') (k : Z B G K I J c pc' L' S) : Z B G K I J c pc L (Value.int x :: S) := fun H locs ls hH hS hL => lv_istore_n (nL := G.2.2.2.2.1.maxLocals) h.1 h.2.1 hd rfl hL (by rw [h.2.2.1]; exact hn) hl (fun ls' hl' => e ▸ k H locs ls' hH hS hl')
theorem z_istore (h : zOK B G cc nL own ws rm) {i : Nat} {x : Int32} (L' : List (Nat × Value)) (hd : decode cc pc = .ok (.istore i, 2)) (hn : i < nL) (hl : (i, Value.int x) :: L.filter (fun q => !(q.1 == i) && !(q.1 + 1 == i && q.2.category == 2)) = L') (e : pc + 2 = pc') (k : Z B G K I J c pc' L' S) : Z B G K I J c pc L (Value.int x :: S) := fun H locs ls hH hS hL => lv_istore (nL := G.2.2.2.2.1.maxLocals) h.1 h.2.1 hd hL (by rw [h.2.2.1]; exact hn) hl (fun ls' hl' => e ▸ k H locs ls' hH hS hl')
theorem z_astore_n (h : zOK B G cc nL own ws rm) {i : Fin 4} {x : Nat} (L' : List (Nat × Value)) (hd : decode cc pc = .ok (.astore_n i, 1)) (hn : (i : Nat) < nL) (hl : ((i : Nat), Value.ref x) :: L.filter (fun q => !(q.1 == (i : Nat)) && !(q.1 + 1 == (i : Nat) && q.2.category == 2)) = L') (e : pc + 1 = pc') (k : Z B G K I J c pc' L' S) : Z B G K I J c pc L (Value.ref x :: S) := fun H locs ls hH hS hL => lv_astore_n (nL := G.2.2.2.2.1.maxLocals) h.1 h.2.1 hd rfl hL (by rw [h.2.2.1]; exact hn) hl (fun ls' hl' => e ▸ k H locs ls' hH hS hl')
theorem z_astore (h : zOK B G cc nL own ws rm) {i : Nat} {x : Nat} (L' : List (Nat × Value)) (hd : decode cc pc = .ok (.astore i, 2)) (hn : i < nL) (hl : (i, Value.ref x) :: L.filter (fun q => !(q.1 == i) && !(q.1 + 1 == i && q.2.category == 2)) = L') (e : pc + 2 = pc') (k : Z B G K I J c pc' L' S) : Z B G K I J c pc L (Value.ref x :: S) := fun H locs ls hH hS hL => lv_astore (nL := G.2.2.2.2.1.maxLocals) h.1 h.2.1 hd hL (by rw [h.2.2.1]; exact hn) hl (fun ls' hl' => e ▸ k H locs ls' hH hS hl')
theorem z_iinc (h : zOK B G cc nL own ws rm) {i : Nat} {n : Int} {x : Int32} (kx : Nat) (v : Int32) (L' : List (Nat × Value)) (hd : decode cc pc = .ok (.iinc i n, 3)) (hx : L[kx]? = some (i, .int x)) (hv : x + Int32.ofInt n = v) (hn : i < nL) (hl : (i, Value.int v) :: L.filter (fun q => !(q.1 == i) && !(q.1 + 1 == i && q.2.category == 2)) = L') (e : pc + 3 = pc') (k : Z B G K I J c pc' L' S) : Z B G K I J c pc L S := fun H locs ls hH hS hL => lv_iinc (nL := G.2.2.2.2.1.maxLocals) h.1 h.2.1 hd hL hx hv (by rw [h.2.2.1]; exact hn) hl (fun ls' hl' => e ▸ k H locs ls' hH hS hl')
theorem z_goto (h : zOK B G cc nL own ws rm) {off : Int} (hd : decode cc pc = .ok (.goto off, 3)) (e : (pc : Int) + off = (pc' : Int)) (k : Z B G K I J c pc' L S) : Z B G K I J c pc L S := fun H locs ls hH hS hL => lv_goto h.1 h.2.1 hd e (k H locs ls hH hS hL)
theorem z_if_eq (h : zOK B G cc nL own ws rm) {x : Int32} {off : Int} (tgt : Nat) (hd : decode cc pc = .ok (.ifCond .eq off, 3)) (e : (pc : Int) + off = (tgt : Int)) (e' : pc + 3 = pc') (k1 : x = 0 → Z B G K I J c tgt L S) (k2 : ¬ x = 0 → Z B G K I J c pc' L S) : Z B G K I J c pc L (.int x :: S) := fun H locs ls hH hS hL => lv_if_eq h.1 h.2.1 hd e (fun q => k1 q H locs ls hH hS hL) (fun q => e' ▸ k2 q H locs ls hH hS hL)
theorem z_if_ne (h : zOK B G cc nL own ws rm) {x : Int32} {off : Int} (tgt : Nat) (hd : decode cc pc = .ok (.ifCond .ne off, 3)) (e : (pc : Int) + off = (tgt : Int)) (e' : pc + 3 = pc') (k1 : ¬ x = 0 → Z B G K I J c tgt L S) (k2 : x = 0 → Z B G K I J c pc' L S) : Z B G K I J c pc L (.int x :: S) := fun H locs ls hH hS hL => lv_if_ne h.1 h.2.1 hd e (fun q => k1 q H locs ls hH hS hL) (fun q => e' ▸ k2 q H locs ls hH hS hL)
theorem z_if_lt (h : zOK B G cc nL own ws rm) {x : Int32} {off : Int} (tgt : Nat) (hd : decode cc pc = .ok (.ifCond .lt off, 3)) (e : (pc : Int) + off = (tgt : Int)) (e' : pc + 3 = pc') (k1 : x < 0 → Z B G K I J c tgt L S) (k2 : ¬ x < 0 → Z B G K I J c pc' L S) : Z B G K I J c pc L (.int x :: S) := fun H locs ls hH hS hL => lv_if_lt h.1 h.2.1 hd e (fun q => k1 q H locs ls hH hS hL) (fun q => e' ▸ k2 q H locs ls hH hS hL)
theorem z_if_ge (h : zOK B G cc nL own ws rm) {x : Int32} {off : Int} (tgt : Nat) (hd : decode cc pc = .ok (.ifCond .ge off, 3)) (e : (pc : Int) + off = (tgt : Int)) (e' : pc + 3 = pc') (k1 : 0 ≤ x → Z B G K I J c tgt L S) (k2 : ¬ 0 ≤ x → Z B G K I J c pc' L S) : Z B G K I J c pc L (.int x :: S) := fun H locs ls hH hS hL => lv_if_ge h.1 h.2.1 hd e (fun q => k1 q H locs ls hH hS hL) (fun q => e' ▸ k2 q H locs ls hH hS hL)
theorem z_if_gt (h : zOK B G cc nL own ws rm) {x : Int32} {off : Int} (tgt : Nat) (hd : decode cc pc = .ok (.ifCond .gt off, 3)) (e : (pc : Int) + off = (tgt : Int)) (e' : pc + 3 = pc') (k1 : 0 < x → Z B G K I J c tgt L S) (k2 : ¬ 0 < x → Z B G K I J c pc' L S) : Z B G K I J c pc L (.int x :: S) := fun H locs ls hH hS hL => lv_if_gt h.1 h.2.1 hd e (fun q => k1 q H locs ls hH hS hL) (fun q => e' ▸ k2 q H locs ls hH hS hL)
theorem z_if_le (h : zOK B G cc nL own ws rm) {x : Int32} {off : Int} (tgt : Nat) (hd : decode cc pc = .ok (.ifCond .le off, 3)) (e : (pc : Int) + off = (tgt : Int)) (e' : pc + 3 = pc') (k1 : x ≤ 0 → Z B G K I J c tgt L S) (k2 : ¬ x ≤ 0 → Z B G K I J c pc' L S) : Z B G K I J c pc L (.int x :: S) := fun H locs ls hH hS hL => lv_if_le h.1 h.2.1 hd e (fun q => k1 q H locs ls hH hS hL) (fun q => e' ▸ k2 q H locs ls hH hS hL)
theorem z_icmp_eq (h : zOK B G cc nL own ws rm) {x y : Int32} {off : Int} (tgt : Nat) (hd : decode cc pc = .ok (.if_icmp .eq off, 3)) (e : (pc : Int) + off = (tgt : Int)) (e' : pc + 3 = pc') (k1 : x = y → Z B G K I J c tgt L S) (k2 : ¬ x = y → Z B G K I J c pc' L S) : Z B G K I J c pc L (.int y :: .int x :: S) := fun H locs ls hH hS hL => lv_icmp_eq h.1 h.2.1 hd e (fun q => k1 q H locs ls hH hS hL) (fun q => e' ▸ k2 q H locs ls hH hS hL)
theorem z_icmp_ne (h : zOK B G cc nL own ws rm) {x y : Int32} {off : Int} (tgt : Nat) (hd : decode cc pc = .ok (.if_icmp .ne off, 3)) (e : (pc : Int) + off = (tgt : Int)) (e' : pc + 3 = pc') (k1 : ¬ x = y → Z B G K I J c tgt L S) (k2 : x = y → Z B G K I J c pc' L S) : Z B G K I J c pc L (.int y :: .int x :: S) := fun H locs ls hH hS hL => lv_icmp_ne h.1 h.2.1 hd e (fun q => k1 q H locs ls hH hS hL) (fun q => e' ▸ k2 q H locs ls hH hS hL)
theorem z_icmp_lt (h : zOK B G cc nL own ws rm) {x y : Int32} {off : Int} (tgt : Nat) (hd : decode cc pc = .ok (.if_icmp .lt off, 3)) (e : (pc : Int) + off = (tgt : Int)) (e' : pc + 3 = pc') (k1 : x < y → Z B G K I J c tgt L S) (k2 : ¬ x < y → Z B G K I J c pc' L S) : Z B G K I J c pc L (.int y :: .int x :: S) := fun H locs ls hH hS hL => lv_icmp_lt h.1 h.2.1 hd e (fun q => k1 q H locs ls hH hS hL) (fun q => e' ▸ k2 q H locs ls hH hS hL)
theorem z_icmp_ge (h : zOK B G cc nL own ws rm) {x y : Int32} {off : Int} (tgt : Nat) (hd : decode cc pc = .ok (.if_icmp .ge off, 3)) (e : (pc : Int) + off = (tgt : Int)) (e' : pc + 3 = pc') (k1 : y ≤ x → Z B G K I J c tgt L S) (k2 : ¬ y ≤ x → Z B G K I J c pc' L S) : Z B G K I J c pc L (.int y :: .int x :: S) := fun H locs ls hH hS hL => lv_icmp_ge h.1 h.2.1 hd e (fun q => k1 q H locs ls hH hS hL) (fun q => e' ▸ k2 q H locs ls hH hS hL)
theorem z_icmp_gt (h : zOK B G cc nL own ws rm) {x y : Int32} {off : Int} (tgt : Nat) (hd : decode cc pc = .ok (.if_icmp .gt off, 3)) (e : (pc : Int) + off = (tgt : Int)) (e' : pc + 3 = pc') (k1 : y < x → Z B G K I J c tgt L S) (k2 : ¬ y < x → Z B G K I J c pc' L S) : Z B G K I J c pc L (.int y :: .int x :: S) := fun H locs ls hH hS hL => lv_icmp_gt h.1 h.2.1 hd e (fun q => k1 q H locs ls hH hS hL) (fun q => e' ▸ k2 q H locs ls hH hS hL)
theorem z_icmp_le (h : zOK B G cc nL own ws rm) {x y : Int32} {off : Int} (tgt : Nat) (hd : decode cc pc = .ok (.if_icmp .le off, 3)) (e : (pc : Int) + off = (tgt : Int)) (e' : pc + 3 = pc') (k1 : x ≤ y → Z B G K I J c tgt L S) (k2 : ¬ x ≤ y → Z B G K I J c pc' L S) : Z B G K I J c pc L (.int y :: .int x :: S) := fun H locs ls hH hS hL => lv_icmp_le h.1 h.2.1 hd e (fun q => k1 q H locs ls hH hS hL) (fun q => e' ▸ k2 q H locs ls hH hS hL)
theorem z_tabIn (h : zOK B G cc nL own ws rm) {dflt lo hi : Int} {offs : Array Int} {len : Nat} {x : Int32} {off : Int} (tgt : Nat) (hd : decode cc pc = .ok (.tableswitch dflt lo hi offs, len)) (h1 : ¬ x.toInt < lo) (h2 : ¬ hi < x.toInt) (ho : offs[(x.toInt - lo).toNat]? = some off) (e : (pc : Int) + off = (tgt : Int)) (k : Z B G K I J c tgt L S) : Z B G K I J c pc L (.int x :: S) := fun H locs ls hH hS hL => lv_tableIn h.1 h.2.1 hd h1 h2 ho e (k H locs ls hH hS hL)
theorem z_tabOut (h : zOK B G cc nL own ws rm) {dflt lo hi : Int} {offs : Array Int} {len : Nat} {x : Int32} (tgt : Nat) (hd : decode cc pc = .ok (.tableswitch dflt lo hi offs, len)) (hx : x.toInt < lo ∨ hi < x.toInt) (e : (pc : Int) + dflt = (tgt : Int)) (k : Z B G K I J c tgt L S) : Z B G K I J c pc L (.int x :: S) := fun H locs ls hH hS hL => lv_tableOut h.1 h.2.1 hd hx e (k H locs ls hH hS hL)
theorem z_iald (h : zOK B G cc nL own ws rm) {p n : Nat} {i : Int32} (hK : K[p]? = some (.inl (0, n, false))) (hz : zin i n = true) (hd : decode cc pc = .ok (.iaload, 1)) (e : pc + 1 = pc') (k : Z B G K I J c pc' L (.int (I p (Int32.toNatClampNeg i)) :: S)) : Z B G K I J c pc L (.int i :: .ref (za B p) :: S) := fun H locs ls hH hS hL => va_iald h.1 h.2.1 h.2.2.2.2.2.1.1 hH.1 p 0 (zws_at hK) (zty_at _ (by decide)) (zin_vp hz) hd (e ▸ k H locs ls hH hS hL)
theorem z_zald (h : zOK B G cc nL own ws rm) {p n : Nat} {i : Int32} (hK : K[p]? = some (.inl (1, n, false))) (hz : zin i n = true) (hd : decode cc pc = .ok (.baload, 1)) (e : pc + 1 = pc') (k : Z B G K I J c pc' L (.int (I p (Int32.toNatClampNeg i)) :: S)) : Z B G K I J c pc L (.int i :: .ref (za B p) :: S) := fun H locs ls hH hS hL => va_zald h.1 h.2.1 h.2.2.2.2.2.1.1 hH.1 p 1 (zws_at hK) (zty_at _ (by decide)) (zin_vp hz) hd (e ▸ k H locs ls hH hS hL)
theorem z_cald (h : zOK B G cc nL own ws rm) {p n : Nat} {i : Int32} (hK : K[p]? = some (.inl (2, n, false))) (hz : zin i n = true) (hd : decode cc pc = .ok (.caload, 1)) (e : pc + 1 = pc') (k : Z B G K I J c pc' L (.int (I p (Int32.toNatClampNeg i)) :: S)) : Z B G K I J c pc L (.int i :: .ref (za B p) :: S) := fun H locs ls hH hS hL => va_cald h.1 h.2.1 h.2.2.2.2.2.1.1 hH.1 p 2 (zws_at hK) (zty_at _ (by decide)) (zin_vp hz) hd (e ▸ k H locs ls hH hS hL)
theorem z_iast (h : zOK B G cc nL own ws rm) {p n : Nat} {i x : Int32} (hz : zin i n = true) (hK : K[p]? = some (.inl (0, n, false))) (hd : decode cc pc = .ok (.iastore, 1)) (e : pc + 1 = pc') (k : Z B G K (zu I p (Int32.toNatClampNeg i) x) J c pc' L S) : Z B G K I J c pc L (.int x :: .int i :: .ref (za B p) :: S) := fun H locs ls hH hS hL => by
  have hset : (zws B K I J).set p (za B p, .inl (B.2.2.1 0, n, .inl (upd (I p) (Int32.toNatClampNeg i) x))) = zws B K (zu I p (Int32.toNatClampNeg i) x) J := zws_set hK (by
    show _ = Sum.inl (_, _, Sum.inl _)
    congr 4
    funext j
    simp [zu, upd]) (fun q hq => by funext j; simp [zu, hq]) (fun _ _ => rfl)
  refine va_iast h.1 h.2.1 h.2.2.2.2.2.1.1 hH.1 hH.2 hS p 0 (zws_at hK) (zty_at _ (by decide)) (zin_vp hz) hd (fun H1 locs1 h1 h2 h3 => ?_)
  rw [hset] at h1 h2
  exact e ▸ k H1 locs1 ls ⟨h1, h2⟩ h3 hL
theorem z_zast (h : zOK B G cc nL own ws rm) {p n : Nat} {i x : Int32} (hz : zin i n = true) (hx : vp_nar .boolean x = x) (hK : K[p]? = some (.inl (1, n, false))) (hd : decode cc pc = .ok (.bastore, 1)) (e : pc + 1 = pc') (k : Z B G K (zu I p (Int32.toNatClampNeg i) x) J c pc' L S) : Z B G K I J c pc L (.int x :: .int i :: .ref (za B p) :: S) := fun H locs ls hH hS hL => by
  have hset : (zws B K I J).set p (za B p, .inl (B.2.2.1 1, n, .inl (upd (I p) (Int32.toNatClampNeg i) x))) = zws B K (zu I p (Int32.toNatClampNeg i) x) J := zws_set hK (by
    show _ = Sum.inl (_, _, Sum.inl _)
    congr 4
    funext j
    simp [zu, upd]) (fun q hq => by funext j; simp [zu, hq]) (fun _ _ => rfl)
  refine va_zast h.1 h.2.1 h.2.2.2.2.2.1.1 hH.1 hH.2 hS p 1 (zws_at hK) (zty_at _ (by decide)) (zin_vp hz) hd (fun H1 locs1 h1 h2 h3 => ?_)
  rw [hx] at h1 h2
  rw [hset] at h1 h2
  exact e ▸ k H1 locs1 ls ⟨h1, h2⟩ h3 hL
theorem z_cast (h : zOK B G cc nL own ws rm) {p n : Nat} {i x : Int32} (hz : zin i n = true) (hx : vp_nar .char x = x) (hK : K[p]? = some (.inl (2, n, false))) (hd : decode cc pc = .ok (.castore, 1)) (e : pc + 1 = pc') (k : Z B G K (zu I p (Int32.toNatClampNeg i) x) J c pc' L S) : Z B G K I J c pc L (.int x :: .int i :: .ref (za B p) :: S) := fun H locs ls hH hS hL => by
  have hset : (zws B K I J).set p (za B p, .inl (B.2.2.1 2, n, .inl (upd (I p) (Int32.toNatClampNeg i) x))) = zws B K (zu I p (Int32.toNatClampNeg i) x) J := zws_set hK (by
    show _ = Sum.inl (_, _, Sum.inl _)
    congr 4
    funext j
    simp [zu, upd]) (fun q hq => by funext j; simp [zu, hq]) (fun _ _ => rfl)
  refine va_cast h.1 h.2.1 h.2.2.2.2.2.1.1 hH.1 hH.2 hS p 2 (zws_at hK) (zty_at _ (by decide)) (zin_vp hz) hd (fun H1 locs1 h1 h2 h3 => ?_)
  rw [hx] at h1 h2
  rw [hset] at h1 h2
  exact e ▸ k H1 locs1 ls ⟨h1, h2⟩ h3 hL
theorem z_aldq (h : zOK B G cc nL own ws rm) {p n t : Nat} {C : String} {i : Int32} (q : Nat) (hq : J p (Int32.toNatClampNeg i) = some q) (hK : K[p]? = some (.inl (t, n, true))) (ht : t < 9) (hC : ztyOf t = .object C) (hz : zin i n = true) (hd : decode cc pc = .ok (.aaload, 1)) (e : pc + 1 = pc') (k : Z B G K I J c pc' L (.ref (za B q) :: S)) : Z B G K I J c pc L (.int i :: .ref (za B p) :: S) := fun H locs ls hH hS hL => va_aldq (C := C) h.1 h.2.1 h.2.2.2.2.2.1.1 hH.1 p t (zws_at hK) (by rw [zty_at _ ht, hC]) (zin_vp hz) hd (by rw [hq]; exact e ▸ k H locs ls hH hS hL)
theorem z_aldqA (h : zOK B G cc nL own ws rm) {p n t : Nat} {ty : FieldType} {i : Int32} (q : Nat) (hq : J p (Int32.toNatClampNeg i) = some q) (hK : K[p]? = some (.inl (t, n, true))) (ht : t < 9) (hC : ztyOf t = .array ty) (hz : zin i n = true) (hd : decode cc pc = .ok (.aaload, 1)) (e : pc + 1 = pc') (k : Z B G K I J c pc' L (.ref (za B q) :: S)) : Z B G K I J c pc L (.int i :: .ref (za B p) :: S) := fun H locs ls hH hS hL => by
  have hlt : (Int32.toNatClampNeg i) < n := zin_lt hz
  have hat := zws_at (B := B) (I := I) (J := J) hK
  have hty : (zty B.2.2.1)[t]? = some (B.2.2.1 t, .array ty) := by rw [zty_at _ ht, hC]
  exact W.aald (v := va_rf ((J p (Int32.toNatClampNeg i)).map (za B))) (ty := .array ty) h.1 h.2.1 (hH.1 p _ hat) ((h.2.2.2.2.2.1.1.2 t _ hty).1 n (fun j => va_rf ((J p j).map (za B)))) rfl (fun q => by cases q) (by show ¬ (i < 0 ∨ (arrV _ _ _).slots.size ≤ _); rw [arrV_size]; exact zin_vp hz) (by show (arrV _ _ _).slots[_]? = _; rw [arrV_read _ _ hlt]) rfl rfl hd (by rw [hq]; exact e ▸ k H locs ls hH hS hL)
theorem z_astq (h : zOK B G cc nL own ws rm) {p q n t ci : Nat} {i : Int32} {r : vw_C} (hz : zin i n = true) (hK : K[p]? = some (.inl (t, n, true))) (hq : K[q]? = some (.inr ci)) (ht : t < 9) (hC : ztyOf t = .object r.1) (hc : vwCl[ci]? = some r) (hd : decode cc pc = .ok (.aastore, 1)) (e : pc + 1 = pc') (k : Z B G K I (zuJ J p (Int32.toNatClampNeg i) (some q)) c pc' L S) : Z B G K I J c pc L (.ref (za B q) :: .int i :: .ref (za B p) :: S) := fun H locs ls hH hS hL => by
  have hset : (zws B K I J).set p (za B p, .inl (B.2.2.1 t, n, .inr (.inr (.inr (.inr (va_up (fun j => (J p j).map (za B)) (Int32.toNatClampNeg i) (some (za B q)))))))) = zws B K I (zuJ J p (Int32.toNatClampNeg i) (some q)) := zws_set hK (by
    show _ = Sum.inl (_, _, Sum.inr (Sum.inr (Sum.inr (Sum.inr _))))
    congr 7
    funext j
    by_cases hj : j = (Int32.toNatClampNeg i) <;> simp [zuJ, va_up, hj]) (fun _ _ => rfl) (fun x hx => by funext j; simp [zuJ, hx])
  refine va_astq (r := r) h.1 h.2.1 h.2.2.2.2.2.1.1 hH.1 hH.2 hS p t q ci (zws_at hK) (by rw [zty_at _ ht, hC]) (zws_at hq) hc (zin_vp hz) hd (fun H1 locs1 h1 h2 h3 => ?_)
  rw [hset] at h1 h2
  exact e ▸ k H1 locs1 ls ⟨h1, h2⟩ h3 hL
theorem z_copy (h : zOK B G cc nL own ws rm) {p q n0 n1 t n : Nat} {nn : Int32} {index : Nat} (hK : K[p]? = some (.inl (t, n0, false))) (hK1 : K[q]? = some (.inl (t, n1, false))) (ht : t < 3) (hn : nn.toNatClampNeg = n) (hn0 : ¬ nn < 0) (h0 : n ≤ n0) (h1 : n ≤ n1) (hfit : ∀ i, i < n → fits (ztyOf t) (.int (I p i)) = true) (hw1 : Cond.methodLink own index arraycopyName ∈ ws) (hw2 : Cond.native arraycopyName ∈ ws) (hw3 : Cond.static arraycopyName ∈ ws) (hw4 : Cond.initialized "java/lang/System" ∈ ws) (hR : 1 ≤ rm.frames ∧ (S.map fun v => v.category).sum + 18 ≤ rm.locals) (hd : decode cc pc = .ok (.invokestatic index, 3)) (e : pc + 3 = pc') (k : Z B G K (zcp I p q n) J c pc' L S) : Z B G K I J c pc L (.int nn :: .int 0 :: .ref (za B q) :: .int 0 :: .ref (za B p) :: S) := fun H locs ls hH hS hL => by
  have z0 : (0 : Int32).toNatClampNeg = 0 := by decide
  have hset : (zws B K I J).set q (za B q, .inl (B.2.2.1 t, n1, .inl (va_cpy (I p) (I q) 0 0 n))) = zws B K (zcp I p q n) J := zws_set hK1 (by
    show _ = Sum.inl (_, _, Sum.inl _)
    congr 4
    funext j
    simp [zcp]) (fun x hx => by funext j; simp [zcp, hx]) (fun _ _ => rfl)
  have hrf : refKind (ztyOf t) = false := by
    match t, ht with
    | 0, _ => rfl
    | 1, _ => rfl
    | 2, _ => rfl
  refine va_copyi h.1 h.2.1 hL.1.symm h.2.2.2.1 (h.2.2.2.2.1 _ hw1) (h.2.2.2.2.1 _ hw2) (h.2.2.2.2.1 _ hw3) (h.2.2.2.2.1 _ hw4) h.2.2.2.2.2.1.1 hH.1 hH.2 hS p q t t (zws_at hK) (zws_at hK1) (zty_at _ (by omega)) (zty_at _ (by omega)) hrf (by decide) (by decide) hn0 (by rw [z0, hn]; omega) (by rw [z0, hn]; omega) (by rw [z0, hn]; intro i hi; rw [Nat.zero_add]; exact hfit i hi) (by rw [h.2.2.2.2.2.2.1]; exact hR.1) (by rw [h.2.2.2.2.2.2.1]; exact hR.2) hd (fun H1 locs1 h1 h2 h3 => ?_)
  rw [z0, hn, hset] at h1 h2
  exact e ▸ k H1 locs1 ls ⟨h1, h2⟩ h3 hL
theorem z_gets1 (h : zOK B G cc nL own ws rm) {index : Nat} (hw : Cond.fieldLink own index "LeftOut" "TERMS_LOWEST" "[I" ∈ ws) (hd : decode cc pc = .ok (.getstatic index, 3)) (e : pc + 3 = pc') (k : ∀ t, va_T .int t 3 (fun j => .int (zT1 j)) (zA B) G.1.2.2.2.1 G.1.2.2.2.1.heap → Z B G K I J c pc' L (.ref t :: S)) : Z B G K I J c pc L S := fun H locs ls hH hS hL => by
  obtain ⟨t, t1, t2⟩ := h.2.2.2.2.2.1.2.2.2.1
  exact va_gets h.1 h.2.1 t1 hS h.2.2.2.1 (h.2.2.2.2.1 _ hw) (fun _ q => q) hd (e ▸ k t t2 H locs ls hH hS hL)
theorem z_gets2 (h : zOK B G cc nL own ws rm) {index : Nat} (hw : Cond.fieldLink own index "LeftOut" "TERMS_HIGHEST" "[I" ∈ ws) (hd : decode cc pc = .ok (.getstatic index, 3)) (e : pc + 3 = pc') (k : ∀ t, va_T .int t 3 (fun j => .int (zT2 j)) (zA B) G.1.2.2.2.1 G.1.2.2.2.1.heap → Z B G K I J c pc' L (.ref t :: S)) : Z B G K I J c pc L S := fun H locs ls hH hS hL => by
  obtain ⟨t, t1, t2⟩ := h.2.2.2.2.2.1.2.2.2.2.1
  exact va_gets h.1 h.2.1 t1 hS h.2.2.2.1 (h.2.2.2.2.1 _ hw) (fun _ q => q) hd (e ▸ k t t2 H locs ls hH hS hL)
theorem z_tald (h : zOK B G cc nL own ws rm) {t n : Nat} {f : Nat → Int32} {i : Int32} (hT : va_T .int t n (fun j => .int (f j)) (zA B) G.1.2.2.2.1 G.1.2.2.2.1.heap) (hz : zin i n = true) (hd : decode cc pc = .ok (.iaload, 1)) (e : pc + 1 = pc') (k : Z B G K I J c pc' L (.int (f (Int32.toNatClampNeg i)) :: S)) : Z B G K I J c pc L (.int i :: .ref t :: S) := fun H locs ls hH hS hL => va_ti h.1 h.2.1 hT hS (zin_vp hz) rfl hd (e ▸ k H locs ls hH hS hL)
theorem z_alen (h : zOK B G cc nL own ws rm) {p n t : Nat} (v : Int32) (hK : K[p]? = some (.inl (t, n, false))) (ht : t < 9) (hv : Int32.ofNat n = v) (hd : decode cc pc = .ok (.arraylength, 1)) (e : pc + 1 = pc') (k : Z B G K I J c pc' L (.int v :: S)) : Z B G K I J c pc L (.ref (za B p) :: S) := fun H locs ls hH hS hL => va_alen h.1 h.2.1 h.2.2.2.2.2.1.1 hH.1 p t (zws_at hK) (zty_at _ ht) hv hd (e ▸ k H locs ls hH hS hL)
theorem z_alenr (h : zOK B G cc nL own ws rm) {p n t : Nat} (v : Int32) (hK : K[p]? = some (.inl (t, n, true))) (ht : t < 9) (hv : Int32.ofNat n = v) (hd : decode cc pc = .ok (.arraylength, 1)) (e : pc + 1 = pc') (k : Z B G K I J c pc' L (.int v :: S)) : Z B G K I J c pc L (.ref (za B p) :: S) := fun H locs ls hH hS hL => va_alen h.1 h.2.1 h.2.2.2.2.2.1.1 hH.1 p t (zws_at hK) (zty_at _ ht) hv hd (e ▸ k H locs ls hH hS hL)
theorem z_mmax (h : zOK B G cc nL own ws rm) {x y : Int32} {index : Nat} (hw1 : Cond.methodLink own index Lib.Math.max.name ∈ ws) (hw2 : Cond.static Lib.Math.max.name ∈ ws) (hw3 : Cond.initialized "java/lang/Math" ∈ ws) (hw4 : Cond.code Lib.Math.max.name Lib.Math.max.code 2 (some .int) ∈ ws) (hR : 1 ≤ rm.frames ∧ (S.map fun v => v.category).sum + 13 ≤ rm.locals) (hcl : c.1 ≤ rm.cells ∧ c.2 ≤ rm.slots) (hd : decode cc pc = .ok (.invokestatic index, 3)) (e : pc + 3 = pc') (k : Z B G K I J c pc' L (.int (if x < y then y else x) :: S)) : Z B G K I J c pc L (.int y :: .int x :: S) := fun H locs ls hH hS hL => va_mmax h.1 h.2.1 hL.1.symm h.2.2.2.1 (h.2.2.2.2.1 _ hw1) (h.2.2.2.2.1 _ hw2) (h.2.2.2.2.1 _ hw3) (h.2.2.2.2.1 _ hw4) (by rw [h.2.2.2.2.2.2.1]; exact hR.1) (by rw [h.2.2.2.2.2.2.1]; exact hR.2) (by rw [h.2.2.2.2.2.2.1]; exact hcl.1) (by rw [h.2.2.2.2.2.2.1]; exact hcl.2) hd (e ▸ k H locs ls hH hS hL)
theorem z_mmin (h : zOK B G cc nL own ws rm) {x y : Int32} {index : Nat} (hw1 : Cond.methodLink own index Lib.Math.min.name ∈ ws) (hw2 : Cond.static Lib.Math.min.name ∈ ws) (hw3 : Cond.initialized "java/lang/Math" ∈ ws) (hw4 : Cond.code Lib.Math.min.name Lib.Math.min.code 2 (some .int) ∈ ws) (hR : 1 ≤ rm.frames ∧ (S.map fun v => v.category).sum + 13 ≤ rm.locals) (hcl : c.1 ≤ rm.cells ∧ c.2 ≤ rm.slots) (hd : decode cc pc = .ok (.invokestatic index, 3)) (e : pc + 3 = pc') (k : Z B G K I J c pc' L (.int (if y < x then y else x) :: S)) : Z B G K I J c pc L (.int y :: .int x :: S) := fun H locs ls hH hS hL => va_mmin h.1 h.2.1 hL.1.symm h.2.2.2.1 (h.2.2.2.2.1 _ hw1) (h.2.2.2.2.1 _ hw2) (h.2.2.2.2.1 _ hw3) (h.2.2.2.2.1 _ hw4) (by rw [h.2.2.2.2.2.2.1]; exact hR.1) (by rw [h.2.2.2.2.2.2.1]; exact hR.2) (by rw [h.2.2.2.2.2.2.1]; exact hcl.1) (by rw [h.2.2.2.2.2.2.1]; exact hcl.2) hd (e ▸ k H locs ls hH hS hL)
theorem z_top {x : Int32} (y : Int32) (hy : x = y) (k : Z B G K I J c pc L (.int y :: S)) : Z B G K I J c pc L (.int x :: S) := hy ▸ k
theorem z_sub {L' : List (Nat × Value)} (ks : List Nat) (hl : lv_pick L ks = L') (k : Z B G K I J c pc L' S) : Z B G K I J c pc L S := fun H locs ls hH hS hL => k H locs ls hH hS (lv_sub hL ks hl)
theorem z_eq {L' : List (Nat × Value)} {I' : zM} (hl : L = L') (hI : I = I') (k : Z B G K I' J c pc L' S) : Z B G K I J c pc L S := by subst hl; subst hI; exact k
theorem z_ifb_eq (h : zOK B G cc nL own ws rm) {P : Prop} {off : Int} (tgt : Nat) (hd : decode cc pc = .ok (.ifCond .eq off, 3)) (e : (pc : Int) + off = (tgt : Int)) (e' : pc + 3 = pc') (k1 : ¬ P → Z B G K I J c tgt L S) (k2 : P → Z B G K I J c pc' L S) : Z B G K I J c pc L (.int (zb P) :: S) := z_if_eq h tgt hd e e' (fun q => k1 (zb_eq0.mp q)) (fun q => k2 (Classical.not_not.mp (fun r => q (zb_eq0.mpr r))))
theorem z_ifb_ne (h : zOK B G cc nL own ws rm) {P : Prop} {off : Int} (tgt : Nat) (hd : decode cc pc = .ok (.ifCond .ne off, 3)) (e : (pc : Int) + off = (tgt : Int)) (e' : pc + 3 = pc') (k1 : P → Z B G K I J c tgt L S) (k2 : ¬ P → Z B G K I J c pc' L S) : Z B G K I J c pc L (.int (zb P) :: S) := z_if_ne h tgt hd e e' (fun q => k1 (Classical.not_not.mp (fun r => q (zb_eq0.mpr r)))) (fun q => k2 (zb_eq0.mp q))
theorem z_get (h : zOK B G cc nL own ws rm) {p ci : Nat} {C : String} {T : u_T} {N index : Nat} (kf : Nat) (hK : K[p]? = some (.inr ci)) (hc : vwCl[ci]? = some (C, T, N)) (hin : ∀ w ∈ u_ws C T N, w ∈ ws) (hk : kf < N) (hw : (Cond.fieldLink own index (T kf).1 (T kf).2.1 (T kf).2.2.1) ∈ ws) (hr : (zrs ci)[kf]? = some false) (hd : decode cc pc = .ok (.getfield index, 3)) (e : pc + 3 = pc') (k : Z B G K I J c pc' L (.int (I p kf) :: S)) : Z B G K I J c pc L (.ref (za B p) :: S) := fun H locs ls hH hS hL => va_get (ci := ci) h.1 h.2.1 h.2.2.2.2.1 hin h.2.2.2.1 h.2.2.2.2.2.1.1 hH.1 p (zws_at hK) hc kf hk (h.2.2.2.2.1 _ hw) (fun _ q => q) (zfs_int hr) hd (e ▸ k H locs ls hH hS hL)
theorem z_getr (h : zOK B G cc nL own ws rm) {p ci : Nat} {C : String} {T : u_T} {N index : Nat} (kf q : Nat) (hq : J p kf = some q) (hK : K[p]? = some (.inr ci)) (hc : vwCl[ci]? = some (C, T, N)) (hin : ∀ w ∈ u_ws C T N, w ∈ ws) (hk : kf < N) (hw : (Cond.fieldLink own index (T kf).1 (T kf).2.1 (T kf).2.2.1) ∈ ws) (hr : (zrs ci)[kf]? = some true) (hd : decode cc pc = .ok (.getfield index, 3)) (e : pc + 3 = pc') (k : Z B G K I J c pc' L (.ref (za B q) :: S)) : Z B G K I J c pc L (.ref (za B p) :: S) := fun H locs ls hH hS hL => va_get (ci := ci) h.1 h.2.1 h.2.2.2.2.1 hin h.2.2.2.1 h.2.2.2.2.2.1.1 hH.1 p (zws_at hK) hc kf hk (h.2.2.2.2.1 _ hw) (fun _ q => q) (zfs_ref hr hq) hd (e ▸ k H locs ls hH hS hL)
theorem z_put (h : zOK B G cc nL own ws rm) {p ci : Nat} {C : String} {T : u_T} {N index : Nat} {x : Int32} (kf : Nat) (ty0 : Nat → FieldType) (hty : ∀ k, k < N → parseFieldDescriptor (T k).2.2.1 = some (ty0 k)) (hnm : ∀ a, a < N → ∀ b, b < N → a ≠ b → (T a).2.1 ≠ (T b).2.1) (hK : K[p]? = some (.inr ci)) (hc : vwCl[ci]? = some (C, T, N)) (hin : ∀ w ∈ u_ws C T N, w ∈ ws) (hk : kf < N) (hw : (Cond.fieldLink own index (T kf).1 (T kf).2.1 (T kf).2.2.1) ∈ ws) (hr : (zrs ci)[kf]? = some false) (hfin : (T kf).2.2.2 = false) (hi : ty0 kf = .int) (hd : decode cc pc = .ok (.putfield index, 3)) (e : pc + 3 = pc') (k : Z B G K (zu I p kf x) J c pc' L S) : Z B G K I J c pc L (.int x :: .ref (za B p) :: S) := fun H locs ls hH hS hL => by
  have hl : kf < (zfs B (I p) (J p) (zrs ci)).length := by
    have := (List.getElem?_eq_some_iff.mp hr).1
    simpa [zfs] using this
  have hset : (zws B K I J).set p (za B p, .inr (ci, (zfs B (I p) (J p) (zrs ci)).set kf (.int x))) = zws B K (zu I p kf x) J := zws_set hK (by
    show _ = Sum.inr (ci, _)
    rw [zfs_set hr]
    congr 3
    funext j
    simp [zu]) (fun q hq => by funext j; simp [zu, hq]) (fun _ _ => rfl)
  refine va_put (ci := ci) (ty := .int) (v := .int x) h.1 h.2.1 h.2.2.2.2.1 hin ty0 hty hnm h.2.2.2.1 h.2.2.2.2.2.1.1 hH.1 hH.2 hS p (zws_at hK) hc kf hk (h.2.2.2.2.1 _ hw) (fun _ q => q) hfin (by rw [hty kf hk, hi]) rfl rfl hl hd (fun H1 locs1 h1 h2 h3 => ?_)
  rw [hset] at h1 h2
  exact e ▸ k H1 locs1 ls ⟨h1, h2⟩ h3 hL
end ZR
/-! ===== contracts over a world ===== -/
def zP (B : zB) (K : List zk) (I : zM) (J : zJ) (av : List Value) : Array Value → State → Prop := va_Pc av (fun U => zH B K I J U.heap ∧ zKK B U U.heap ∧ B.2.2.2.2 ≤ U.heap.size)
def zQi (B : zB) (K : List zk) (post : Int32 → zM → zJ → Prop) : Array Value → State → Outcome → State → Prop := va_Qi (fun r (u : zM × zJ) => post r u.1 u.2) (fun u t => zH B K u.1 u.2 t.heap) (zA B)
def zQv (B : zB) (K : List zk) (post : zM → zJ → Prop) : Array Value → State → Outcome → State → Prop := va_Qv (fun (u : zM × zJ) => post u.1 u.2) (fun u t => zH B K u.1 u.2 t.heap) (zA B)
def zQr (B : zB) (K : List zk) (post : Nat → zM → zJ → Prop) : Array Value → State → Outcome → State → Prop := va_Qr (fun (u : Nat × zM × zJ) => post u.1 u.2.1 u.2.2) (fun u a t => zH B K u.2.1 u.2.2 t.heap ∧ a = za B u.1) (zA B)
/-- a method that answers a number -/
def zCi (B : zB) (K : List zk) (I : zM) (J : zJ) (y : MethodName) (ws : List Cond) (rm : Room) (av : List Value) (post : Int32 → zM → zJ → Prop) : Prop := Met B.1 y ws rm (zP B K I J av) (zQi B K post) 0 0 (zA B)
def zCv (B : zB) (K : List zk) (I : zM) (J : zJ) (y : MethodName) (ws : List Cond) (rm : Room) (av : List Value) (post : zM → zJ → Prop) : Prop := Met B.1 y ws rm (zP B K I J av) (zQv B K post) 0 0 (zA B)
def zCr (B : zB) (K : List zk) (I : zM) (J : zJ) (y : MethodName) (ws : List Cond) (rm : Room) (av : List Value) (post : Nat → zM → zJ → Prop) : Prop := Met B.1 y ws rm (zP B K I J av) (zQr B K post) 0 0 (zA B)
/-- what the end of a body wants -/
def zE (B : zB) (G : zG) (ret : Option FieldType) (Qc : Array Value → State → Outcome → State → Prop) : Prop := G.2.2.2.1.sig.returnType = ret ∧ G.2.2.2.1.locks = false ∧ G.2.2.2.2.2 = MQ G.2.2.1 Qc G.2.1 G.1.2.2.2.1 0 0 (zA B)
theorem z_start {B : zB} {K : List zk} {I : zM} {J : zJ} {y : MethodName} {ws ws' : List Cond} {rm : Room} {av : List Value} {cc : ByteArray} {nL : Nat} {ret : Option FieldType} {Qc : Array Value → State → Outcome → State → Prop} {L : List (Nat × Value)}
    {own : String} (hown : y.cls = own) (hy : plainName y.cls = true) (hw : ws = Cond.code y cc nL ret :: ws') (hn : (lg_sl av).length ≤ nL) (hL : lv_args 0 av = L)
    (k : ∀ G : zG, zOK B G cc nL own ws rm → zE B G ret Qc → Z B G K I J (0, 0) 0 L []) : Met B.1 y ws rm (zP B K I J av) Qc 0 0 (zA B) := by
  subst hown
  refine Met.ofW (cc := cc) (maxL := nL) (ret := ret) hy hw ?_
  intro p e s m args below meth c s₁ Bd hml hv
  obtain ⟨rfl, hH, hK, hs⟩ := hv
  have hts := atoms_spec (ws := ws) Bd.pre
  have hl := lv_entry av (n := nL) hn
  rw [lg_entry_eq]
  rw [hL] at hl
  exact k ((p, e, rm, s, m), (av.toArray, below, meth, c, MQ below Qc av.toArray s 0 0 (zA B))) ⟨Bd.exec, Bd.bytes, hml, findClass_of_methodNamed Bd.named, hts, hK, rfl, hs⟩ ⟨Bd.returns, Bd.notSynchronized, rfl⟩ s.heap [] _ hH va_S.rf (by rw [show c.maxLocals = nL from hml]; exact hl)
theorem z_iret {B : zB} {G : zG} {cc : ByteArray} {nL : Nat} {own : String} {ws : List Cond} {rm : Room} {K : List zk} {I : zM} {J : zJ} {pc : Nat} {L : List (Nat × Value)} {x : Int32} {post : Int32 → zM → zJ → Prop} (h : zOK B G cc nL own ws rm) (hr : zE B G (some .int) (zQi B K post)) (hd : decode cc pc = .ok (.ireturn, 1)) (hp : post x I J) : Z B G K I J (0, 0) pc L [.int x] := fun H locs ls hH hS hL => by
  unfold zW
  rw [hr.2.2]
  exact W.iret (v := x) h.1 h.2.1 hr.1 (fun t ht hW => ⟨⟨x, (I, J), rfl, hp, by show zH B K I J t.heap; rw [ht]; exact hH⟩, hS.F ht⟩) hS.2.2 hd hr.2.1
theorem z_zret {B : zB} {G : zG} {cc : ByteArray} {nL : Nat} {own : String} {ws : List Cond} {rm : Room} {K : List zk} {I : zM} {J : zJ} {pc : Nat} {L : List (Nat × Value)} {x : Int32} {post : Int32 → zM → zJ → Prop} (h : zOK B G cc nL own ws rm) (hr : zE B G (some .boolean) (zQi B K post)) (hd : decode cc pc = .ok (.ireturn, 1)) (hx : x = 0 ∨ x = 1) (hp : post x I J) : Z B G K I J (0, 0) pc L [.int x] := fun H locs ls hH hS hL => by
  unfold zW
  rw [hr.2.2]
  exact W.zret (v := x) (ty := .boolean) h.1 h.2.1 hr.1 (by rcases hx with rfl | rfl <;> rfl) (fun t ht hW => ⟨⟨x, (I, J), rfl, hp, by show zH B K I J t.heap; rw [ht]; exact hH⟩, hS.F ht⟩) hS.2.2 hd hr.2.1
theorem z_vret {B : zB} {G : zG} {cc : ByteArray} {nL : Nat} {own : String} {ws : List Cond} {rm : Room} {K : List zk} {I : zM} {J : zJ} {pc : Nat} {L : List (Nat × Value)} {post : zM → zJ → Prop} (h : zOK B G cc nL own ws rm) (hr : zE B G none (zQv B K post)) (hd : decode cc pc = .ok (.return_, 1)) (hp : post I J) : Z B G K I J (0, 0) pc L [] := fun H locs ls hH hS hL => by
  unfold zW
  rw [hr.2.2]
  exact W.vret h.1 h.2.1 hr.1 (fun t ht hW => ⟨⟨(I, J), rfl, hp, by show zH B K I J t.heap; rw [ht]; exact hH⟩, hS.F ht⟩) hS.2.2 hd hr.2.1
theorem z_aret {B : zB} {G : zG} {cc : ByteArray} {nL : Nat} {own : String} {ws : List Cond} {rm : Room} {K : List zk} {I : zM} {J : zJ} {pc : Nat} {L : List (Nat × Value)} {x : Nat} {C : String} {post : Nat → zM → zJ → Prop} (h : zOK B G cc nL own ws rm) (hr : zE B G (some (.object C)) (zQr B K post)) (hd : decode cc pc = .ok (.areturn, 1)) (hp : post x I J) : Z B G K I J (0, 0) pc L [.ref (za B x)] := fun H locs ls hH hS hL => by
  unfold zW
  rw [hr.2.2]
  exact W.aret (v := .ref (za B x)) (rt := .object C) h.1 h.2.1 hr.1 (Or.inl ⟨_, rfl⟩) (Or.inr ⟨_, rfl⟩) (fun t ht hW => ⟨⟨(x, I, J), za B x, rfl, hp, by show zH B K I J t.heap ∧ _; rw [ht]; exact ⟨hH, rfl⟩⟩, hS.F ht⟩) hS.2.2 hd hr.2.1
/-! ===== calls ===== -/
/-- a method's own facts: its words begin with its code; its class; how many parameters -/
def zY (y : MethodName) (ws : List Cond) (bytes : ByteArray) (maxL : Nat) (ret : Option FieldType) (n : Nat) : Prop := (∃ ws', ws = Cond.code y bytes maxL ret :: ws') ∧ y.cls ≠ "java/lang/invoke/MethodHandle" ∧ y.cls ≠ "java/lang/invoke/VarHandle" ∧ (parseMethodDescriptor y.desc).map (fun d => d.parameters.length) = some n
/-- the callee's room within the caller's -/
def zRm (rmc rm : Room) (maxL : Nat) : Prop := rmc.cells = 0 ∧ rmc.slots = 0 ∧ rmc.frames + 1 ≤ rm.frames ∧ 8 + (maxL + 11) + rmc.locals ≤ rm.locals
theorem zP_blind {B : zB} {K : List zk} {I : zM} {J : zJ} {av : List Value} : FrameBlind (zP B K I J av) := fun a U g mk q => ⟨q.1, q.2.1, ⟨va_K.moved (u := U) (U := U.calling g mk a) (Vm.Alike.refl U.vm) q.2.2.1.1, fun w hw => zN_same (s := U) (U := U.calling g mk a) rfl w (List.all_eq_true.mp zNest_k w hw) (q.2.2.1.2.1 w hw), by
    obtain ⟨⟨t0, a0, b0, o0, c0⟩, ⟨t1, a1, b1⟩, ⟨t2, a2, b2⟩, a3, adK, adV, ⟨r0, r1, r2⟩, v⟩ := q.2.2.1.2.2
    have hv : U.vm.Alike (U.calling g mk a).vm := Vm.Alike.refl U.vm
    exact ⟨⟨t0, a0.moved hv, b0.moved hv, o0.moved hv, c0⟩, ⟨t1, a1.moved hv, b1.moved hv⟩, ⟨t2, a2.moved hv, b2.moved hv⟩, a3.moved hv, adK, adV, ⟨r0.same rfl, r1.same rfl, r2.same rfl⟩, v.moved hv⟩⟩, q.2.2.2⟩
section ZC
variable {B : zB} {G : zG} {cc : ByteArray} {nL : Nat} {own : String} {Ts : List Cond} {rm : Room} {K : List zk} {I : zM} {J : zJ} {c : Nat × Nat} {pc pc' : Nat} {L : List (Nat × Value)} {S rest : List Value}
variable {y : MethodName} {ws : List Cond} {rmc : Room} {bytes : ByteArray} {maxL n index : Nat} {ret : Option FieldType} {C : String}
theorem zP_pre (h : zOK B G cc nL own Ts rm) {H : Heap} {locs : List Loc} (hH : zH B K I J H) (hS : va_S (zA B) G.1.2.2.2.1.heap H locs) (av : List Value) : ∀ U : State, U.heap = H → G.1.2.2.2.1.WarmedH U.vm → zP B K I J av av.toArray U := by
  intro U hU hW
  subst hU
  exact ⟨rfl, hH, zKK_go h.2.2.2.2.2.1 hS hW, Nat.le_trans h.2.2.2.2.2.2.2 hS.1⟩
abbrev zRun (B : zB) (G : zG) (H : Heap) (locs : List Loc) (c : Nat × Nat) (pc : Nat) (ls : Array Slot) (S rest : List Value) (Qa : State → Outcome → State → Prop) : Prop := va_Run G.1.1 B.1 G.1.2.1 G.1.2.2.1 G.1.2.2.2.1 G.1.2.2.2.2 G.2.1 G.2.2.1 G.2.2.2.1 G.2.2.2.2.1 H locs c.1 c.2 0 0 (F0 G.1.2.2.2.2 pc ls S) rest Qa (zA B)
def zGo (B : zB) (G : zG) (K : List zk) (I : zM) (J : zJ) (c : Nat × Nat) (pc : Nat) (L : List (Nat × Value)) (S rest : List Value) (Qa : State → Outcome → State → Prop) : Prop := ∀ (H : Heap) (locs : List Loc) (ls : Array Slot), zH B K I J H → va_S (zA B) G.1.2.2.2.1.heap H locs → lv_has ls G.2.2.2.2.1.maxLocals L → zRun B G H locs c pc ls S rest Qa
theorem z_goi {post : Int32 → zM → zJ → Prop} {a : Array Value} (hr : zGo B G K I J c pc L S rest (zQi B K post a)) (e : pc + 3 = pc') (k : ∀ r I' J', post r I' J' → Z B G K I' J' c pc' L (.int r :: rest)) : Z B G K I J c pc L S := fun H locs ls hH hS hL => va_calli (hr H locs ls hH hS hL) hS (fun _ _ h => h) (fun _ h => h) (fun r u t H1 locs1 ht hvm hp hb _ _ hS1 => e ▸ k r u.1 u.2 hp H1 locs1 ls (ht ▸ hb) hS1 hL)
theorem z_gov {post : zM → zJ → Prop} {a : Array Value} (hr : zGo B G K I J c pc L S rest (zQv B K post a)) (e : pc + 3 = pc') (k : ∀ I' J', post I' J' → Z B G K I' J' c pc' L rest) : Z B G K I J c pc L S := fun H locs ls hH hS hL => va_callv (hr H locs ls hH hS hL) hS (fun _ _ h => h) (fun _ h => h) (fun u t H1 locs1 ht hvm hp hb _ _ hS1 => e ▸ k u.1 u.2 hp H1 locs1 ls (ht ▸ hb) hS1 hL)
theorem z_gof {f : Int32} {a : Array Value} (hr : zGo B G K I J c pc L S rest (zQi B K (fun r I' J' => r = f ∧ I' = I ∧ J' = J) a)) (e : pc + 3 = pc') (k : Z B G K I J c pc' L (.int f :: rest)) : Z B G K I J c pc L S := z_goi hr e (fun r I' J' q => by obtain ⟨q1, q2, q3⟩ := q; rw [q1, q2, q3]; exact k)
theorem z_gopv {a : Array Value} (hr : zGo B G K I J c pc L S rest (zQv B K (fun I' J' => I' = I ∧ J' = J) a)) (e : pc + 3 = pc') (k : Z B G K I J c pc' L rest) : Z B G K I J c pc L S := z_gov hr e (fun I' J' q => by obtain ⟨q2, q3⟩ := q; rw [q2, q3]; exact k)
theorem z_goF {f : Int32} {g : zM} {a : Array Value} (hr : zGo B G K I J c pc L S rest (zQi B K (fun r I' J' => r = f ∧ I' = g ∧ J' = J) a)) (e : pc + 3 = pc') (k : Z B G K g J c pc' L (.int f :: rest)) : Z B G K I J c pc L S := z_goi hr e (fun r I' J' q => by obtain ⟨q1, q2, q3⟩ := q; rw [q1, q2, q3]; exact k)
theorem z_goFv {g : zM} {a : Array Value} (hr : zGo B G K I J c pc L S rest (zQv B K (fun I' J' => I' = g ∧ J' = J) a)) (e : pc + 3 = pc') (k : Z B G K g J c pc' L rest) : Z B G K I J c pc L S := z_gov hr e (fun I' J' q => by obtain ⟨q2, q3⟩ := q; rw [q2, q3]; exact k)
theorem z_goFJ {f : Int32} {g : zM} {gJ : zJ} {a : Array Value} (hr : zGo B G K I J c pc L S rest (zQi B K (fun r I' J' => r = f ∧ I' = g ∧ J' = gJ) a)) (e : pc + 3 = pc') (k : Z B G K g gJ c pc' L (.int f :: rest)) : Z B G K I J c pc L S := z_goi hr e (fun r I' J' q => by obtain ⟨q1, q2, q3⟩ := q; rw [q1, q2, q3]; exact k)
theorem z_goFvJ {g : zM} {gJ : zJ} {a : Array Value} (hr : zGo B G K I J c pc L S rest (zQv B K (fun I' J' => I' = g ∧ J' = gJ) a)) (e : pc + 3 = pc') (k : Z B G K g gJ c pc' L rest) : Z B G K I J c pc L S := z_gov hr e (fun I' J' q => by obtain ⟨q2, q3⟩ := q; rw [q2, q3]; exact k)
theorem z_goFr {f : Nat} {g : zM} {a : Array Value} (hr : zGo B G K I J c pc L S rest (zQr B K (fun r I' J' => r = f ∧ I' = g ∧ J' = J) a)) (e : pc + 3 = pc') (k : Z B G K g J c pc' L (.ref (za B f) :: rest)) : Z B G K I J c pc L S := fun H locs ls hH hS hL => va_callr (hr H locs ls hH hS hL) hS (fun _ _ h => h) (fun _ h => h) (fun u a t H1 locs1 ht hvm hp hb _ _ hS1 => by
  obtain ⟨q1, q2, q3⟩ := hp
  obtain ⟨h1, h2⟩ := hb
  subst h2
  rw [q1]
  rw [q2, q3] at h1
  exact e ▸ k H1 locs1 ls (ht ▸ h1) hS1 hL)
/-- an object's method by its class -/
theorem z_runV (h : zOK B G cc nL own Ts rm) {p ci : Nat} {T : u_T} {N : Nat} {Qc : Array Value → State → Outcome → State → Prop} (As rest : List Value) (hy : zY y ws bytes maxL ret n) (hM : Met B.1 y ws rmc (zP B K I J (.ref (za B p) :: As)) Qc 0 0 (zA B)) (hG : GoodIn Ts (wsV own index C y ws)) (hC : y.cls = C) (hK : K[p]? = some (.inr ci)) (hc : vwCl[ci]? = some (C, T, N)) (hR : zRm rmc rm maxL) (hn : As.length = n) (hcat : (rest.map fun v => v.category).sum ≤ 8) (hcl : c.1 ≤ rm.cells ∧ c.2 ≤ rm.slots) (hS0 : S = As.reverse ++ .ref (za B p) :: rest) (hd : decode cc pc = .ok (.invokevirtual index, 3)) : zGo B G K I J c pc L S rest (Qc (Value.ref (za B p) :: As).toArray) := fun H locs ls hH hS hL => by
  obtain ⟨⟨ws', hw⟩, hy1, hy2, hy3⟩ := hy
  obtain ⟨hx, hb, hml, hown, hts, hkk, hrm, hs0⟩ := id h
  exact va_runV (As := As) (rest := rest) ⟨hx, hb, hml, hown, hts⟩ hM (cwV n hts hG hw hR.1 hR.2.1 ⟨hC, hy1, hy2, hy3⟩ (by rw [hrm]; exact ⟨hR.2.2.1, hR.2.2.2⟩)) ⟨zP_blind, va_recv hkk.1 hH.1 hc (zws_at hK), zP_pre h hH hS _⟩ rfl hn (by rw [← hml]; exact hL.1) hS0 (lv_room hcat) hd (by rw [hrm]; exact hcl)
/-- a static method -/
theorem z_runS (h : zOK B G cc nL own Ts rm) {Qc : Array Value → State → Outcome → State → Prop} (As rest : List Value) (hy : zY y ws bytes maxL ret n) (hM : Met B.1 y ws rmc (zP B K I J As) Qc 0 0 (zA B)) (hG : GoodIn Ts (va_wsS own index y ws)) (hR : zRm rmc rm maxL) (hn : As.length = n) (hcat : (rest.map fun v => v.category).sum ≤ 8) (hcl : c.1 ≤ rm.cells ∧ c.2 ≤ rm.slots) (hS0 : S = As.reverse ++ rest) (hd : decode cc pc = .ok (.invokestatic index, 3)) : zGo B G K I J c pc L S rest (Qc As.toArray) := fun H locs ls hH hS hL => by
  obtain ⟨⟨ws', hw⟩, hy1, hy2, hy3⟩ := hy
  obtain ⟨hx, hb, hml, hown, hts, hkk, hrm, hs0⟩ := id h
  exact va_runS (As := As) (rest := rest) ⟨hx, hb, hml, hown, hts⟩ hM (va_cwS n hts hG hw hR.1 hR.2.1 ⟨hy1, hy2, hy3⟩ (by rw [hrm]; exact ⟨hR.2.2.1, hR.2.2.2⟩)) ⟨zP_blind, zP_pre h hH hS _⟩ rfl hn (by rw [← hml]; exact hL.1) hS0 (lv_room hcat) hd (by rw [hrm]; exact hcl)
/-- a private static method of a nest mate -/
theorem z_runSN (h : zOK B G cc nL own Ts rm) {host : String} {Qc : Array Value → State → Outcome → State → Prop} (As rest : List Value) (hy : zY y ws bytes maxL ret n) (hM : Met B.1 y ws rmc (zP B K I J As) Qc 0 0 (zA B)) (hG : GoodIn Ts ws) (hN : Cond.methodLinkNest own index y host ∈ zNest) (hst : Cond.static y ∈ Ts) (hini : Cond.initialized y.cls ∈ Ts) (hR : zRm rmc rm maxL) (hn : As.length = n) (hcat : (rest.map fun v => v.category).sum ≤ 8) (hcl : c.1 ≤ rm.cells ∧ c.2 ≤ rm.slots) (hS0 : S = As.reverse ++ rest) (hd : decode cc pc = .ok (.invokestatic index, 3)) : zGo B G K I J c pc L S rest (Qc As.toArray) := fun H locs ls hH hS hL => by
  obtain ⟨⟨ws', hw⟩, hy1, hy2, hy3⟩ := hy
  obtain ⟨hx, hb, hml, hown, hts, hkk, hrm, hs0⟩ := id h
  exact va_runSN (host := host) (As := As) (rest := rest) ⟨hx, hb, hml, hown, hts⟩ hM ⟨va_cnB n hts hG hw hR.1 hR.2.1 (hkk.2.1 _ hN) (hts _ hini) ⟨hy1, hy2, hy3⟩ (by rw [hrm]; exact ⟨hR.2.2.1, hR.2.2.2⟩), hts _ hst, trivial⟩ ⟨zP_blind, zP_pre h hH hS _⟩ rfl hn (by rw [← hml]; exact hL.1) hS0 (lv_room hcat) hd (by rw [hrm]; exact hcl)
/-- an object's method that its class overrides or inherits -/
theorem z_runU (h : zOK B G cc nL own Ts rm) {p ci : Nat} {T : u_T} {N : Nat} {owner : String} {x : MethodName} {Qc : Array Value → State → Outcome → State → Prop} (As rest : List Value) (hy : zY y ws bytes maxL ret n) (hM : Met B.1 y ws rmc (zP B K I J (.ref (za B p) :: As)) Qc 0 0 (zA B)) (hG : GoodIn Ts (va_wsU own index C owner x y ws)) (hN : Cond.declares ⟨owner, x.name, x.desc⟩ ∈ zNest) (hx : x.desc = y.desc ∧ owner ≠ "java/lang/invoke/MethodHandle" ∧ owner ≠ "java/lang/invoke/VarHandle") (hK : K[p]? = some (.inr ci)) (hc : vwCl[ci]? = some (C, T, N)) (hR : zRm rmc rm maxL) (hn : As.length = n) (hcat : (rest.map fun v => v.category).sum ≤ 8) (hcl : c.1 ≤ rm.cells ∧ c.2 ≤ rm.slots) (hS0 : S = As.reverse ++ .ref (za B p) :: rest) (hd : decode cc pc = .ok (.invokevirtual index, 3)) : zGo B G K I J c pc L S rest (Qc (Value.ref (za B p) :: As).toArray) := fun H locs ls hH hS hL => by
  obtain ⟨⟨ws', hw⟩, hy1, hy2, hy3⟩ := hy
  obtain ⟨hex, hb, hml, hown, hts, hkk, hrm, hs0⟩ := id h
  exact va_runU (As := As) (rest := rest) ⟨hex, hb, hml, hown, hts⟩ hM (va_cwA n hts hG hw hR.1 hR.2.1 (hkk.2.1 _ hN) ⟨hx.2.1, hx.2.2, by rw [hx.1]; exact hy3⟩ (by rw [hrm]; exact ⟨hR.2.2.1, hR.2.2.2⟩)) ⟨zP_blind, va_recv hkk.1 hH.1 hc (zws_at hK), zP_pre h hH hS _⟩ rfl hn (by rw [← hml]; exact hL.1) hS0 (lv_room hcat) hd (by rw [hrm]; exact hcl)
end ZC
/-! ===== texts of the class file: a String and its bytes lie below the world ===== -/
def zBy (B : zB) (w v : Nat) (U : State) (H : Heap) : Prop := va_T .byte v (zlen.getD w 0) (fun j => .int ((zbyt.getD w []).getD j 0)) (zA B) U H
def zSt (B : zB) (w a : Nat) (U : State) (H : Heap) : Prop := va_O "java/lang/String" a (zA B) U H ∧ va_OF "java/lang/String" "coder" "B" (.int 0) a (zA B) U H ∧ ∃ v, va_OF "java/lang/String" "value" "[B" (.ref v) a (zA B) U H ∧ zBy B w v U H
def zXs (B : zB) (xs : List (Nat × Nat × Bool)) (U : State) (H : Heap) : Prop := ∀ q ∈ xs, (q.2.2 = true → zSt B q.1 q.2.1 U H) ∧ (q.2.2 = false → zBy B q.1 q.2.1 U H)
theorem zBy_go {B : zB} {w v : Nat} {s U : State} {locs : List Loc} (h : zBy B w v s s.heap) (hS : va_S (zA B) s.heap U.heap locs) (hv : s.vm.Alike U.vm) : zBy B w v U U.heap := (va_T.moved hv h).kept hS.2.1
theorem zSt_go {B : zB} {w a : Nat} {s U : State} {locs : List Loc} (h : zSt B w a s s.heap) (hS : va_S (zA B) s.heap U.heap locs) (hv : s.vm.Alike U.vm) : zSt B w a U U.heap := by
  obtain ⟨h1, h2, v, h3, h4⟩ := h
  exact ⟨(h1.moved hv).kept hS.2.1, (h2.moved hv).kept hS.2.1, v, (h3.moved hv).kept hS.2.1, zBy_go h4 hS hv⟩
theorem zXs_go {B : zB} {xs : List (Nat × Nat × Bool)} {s U : State} {locs : List Loc} (h : zXs B xs s s.heap) (hS : va_S (zA B) s.heap U.heap locs) (hv : s.vm.Alike U.vm) : zXs B xs U U.heap := fun q hq => ⟨fun e => zSt_go ((h q hq).1 e) hS hv, fun e => zBy_go ((h q hq).2 e) hS hv⟩
theorem zXs_s {B : zB} {w a : Nat} {U : State} {H : Heap} (h : zSt B w a U H) : zXs B [(w, a, true)] U H := fun q hq => by
  rw [List.mem_singleton.mp hq]
  exact ⟨fun _ => h, fun e => by cases e⟩
theorem zXs_b {B : zB} {w a : Nat} {U : State} {H : Heap} (h : zBy B w a U H) : zXs B [(w, a, false)] U H := fun q hq => by
  rw [List.mem_singleton.mp hq]
  exact ⟨fun e => (by cases e), fun _ => h⟩
def zPx (B : zB) (K : List zk) (I : zM) (J : zJ) (av : List Value) (xs : List (Nat × Nat × Bool)) : Array Value → State → Prop := fun v U => zP B K I J av v U ∧ zXs B xs U U.heap
def zCix (B : zB) (K : List zk) (I : zM) (J : zJ) (y : MethodName) (ws : List Cond) (rm : Room) (av : List Value) (xs : List (Nat × Nat × Bool)) (post : Int32 → zM → zJ → Prop) : Prop := Met B.1 y ws rm (zPx B K I J av xs) (zQi B K post) 0 0 (zA B)
theorem zPx_blind {B : zB} {K : List zk} {I : zM} {J : zJ} {av : List Value} {xs : List (Nat × Nat × Bool)} : FrameBlind (zPx B K I J av xs) := fun a U g mk q => ⟨zP_blind a U g mk q.1, fun x hx => ⟨fun e => by
    obtain ⟨h1, h2, v, h3, h4⟩ := (q.2 x hx).1 e
    have hv : U.vm.Alike (U.calling g mk a).vm := Vm.Alike.refl U.vm
    exact ⟨h1.moved hv, h2.moved hv, v, h3.moved hv, va_T.moved hv h4⟩, fun e => by
    have hv : U.vm.Alike (U.calling g mk a).vm := Vm.Alike.refl U.vm
    exact va_T.moved hv ((q.2 x hx).2 e)⟩⟩
theorem z_startx {B : zB} {K : List zk} {I : zM} {J : zJ} {y : MethodName} {ws ws' : List Cond} {rm : Room} {av : List Value} {xs : List (Nat × Nat × Bool)} {cc : ByteArray} {nL : Nat} {ret : Option FieldType} {Qc : Array Value → State → Outcome → State → Prop} {L : List (Nat × Value)}
    {own : String} (hown : y.cls = own) (hy : plainName y.cls = true) (hw : ws = Cond.code y cc nL ret :: ws') (hn : (lg_sl av).length ≤ nL) (hL : lv_args 0 av = L)
    (k : ∀ G : zG, zOK B G cc nL own ws rm → zE B G ret Qc → zXs B xs G.1.2.2.2.1 G.1.2.2.2.1.heap → Z B G K I J (0, 0) 0 L []) : Met B.1 y ws rm (zPx B K I J av xs) Qc 0 0 (zA B) := by
  subst hown
  refine Met.ofW (cc := cc) (maxL := nL) (ret := ret) hy hw ?_
  intro p e s m args below meth c s₁ Bd hml hv
  obtain ⟨⟨rfl, hH, hK, hs⟩, hxs⟩ := hv
  have hts := atoms_spec (ws := ws) Bd.pre
  have hl := lv_entry av (n := nL) hn
  rw [lg_entry_eq]
  rw [hL] at hl
  exact k ((p, e, rm, s, m), (av.toArray, below, meth, c, MQ below Qc av.toArray s 0 0 (zA B))) ⟨Bd.exec, Bd.bytes, hml, findClass_of_methodNamed Bd.named, hts, hK, rfl, hs⟩ ⟨Bd.returns, Bd.notSynchronized, rfl⟩ hxs s.heap [] _ hH va_S.rf (by rw [show c.maxLocals = nL from hml]; exact hl)
section ZX
variable {B : zB} {G : zG} {cc : ByteArray} {nL : Nat} {own : String} {Ts ws : List Cond} {rm : Room} {K : List zk} {I : zM} {J : zJ} {c : Nat × Nat} {pc pc' : Nat} {L : List (Nat × Value)} {S rest : List Value}
variable {y : MethodName} {rmc : Room} {bytes : ByteArray} {maxL n index : Nat} {ret : Option FieldType} {C : String}
theorem zPx_pre (h : zOK B G cc nL own Ts rm) {xs : List (Nat × Nat × Bool)} (hxs : zXs B xs G.1.2.2.2.1 G.1.2.2.2.1.heap) {H : Heap} {locs : List Loc} (hH : zH B K I J H) (hS : va_S (zA B) G.1.2.2.2.1.heap H locs) (av : List Value) : ∀ U : State, U.heap = H → G.1.2.2.2.1.WarmedH U.vm → zPx B K I J av xs av.toArray U := fun U hU hW => ⟨zP_pre h hH hS av U hU hW, by subst hU; exact zXs_go hxs hS hW.alike⟩
theorem z_runVx (h : zOK B G cc nL own Ts rm) {w a : Nat} {Qc : Array Value → State → Outcome → State → Prop} (As rest : List Value) (hy : zY y ws bytes maxL ret n) (hM : Met B.1 y ws rmc (zPx B K I J (.ref a :: As) [(w, a, true)]) Qc 0 0 (zA B)) (hs : zSt B w a G.1.2.2.2.1 G.1.2.2.2.1.heap) (hG : GoodIn Ts (wsV own index C y ws)) (hC : y.cls = C) (hC2 : C = "java/lang/String") (hR : zRm rmc rm maxL) (hn : As.length = n) (hcat : (rest.map fun v => v.category).sum ≤ 8) (hcl : c.1 ≤ rm.cells ∧ c.2 ≤ rm.slots) (hS0 : S = As.reverse ++ .ref a :: rest) (hd : decode cc pc = .ok (.invokevirtual index, 3)) : zGo B G K I J c pc L S rest (Qc (Value.ref a :: As).toArray) := fun H locs ls hH hS hL => by
  obtain ⟨⟨ws', hw⟩, hy1, hy2, hy3⟩ := hy
  obtain ⟨hx, hb, hml, hown, hts, hkk, hrm, hs0⟩ := id h
  subst hC2
  exact va_runV (As := As) (rest := rest) ⟨hx, hb, hml, hown, hts⟩ hM (cwV n hts hG hw hR.1 hR.2.1 ⟨hC, hy1, hy2, hy3⟩ (by rw [hrm]; exact ⟨hR.2.2.1, hR.2.2.2⟩)) ⟨zPx_blind, by
    obtain ⟨cell, h1, h2, h3, -⟩ := hs.1.kept hS.2.1
    exact ⟨cell, h1, h2, h3⟩, zPx_pre h (zXs_s hs) hH hS _⟩ rfl hn (by rw [← hml]; exact hL.1) hS0 (lv_room hcat) hd (by rw [hrm]; exact hcl)
theorem z_runSx (h : zOK B G cc nL own Ts rm) {w a : Nat} {Qc : Array Value → State → Outcome → State → Prop} (As rest : List Value) (hy : zY y ws bytes maxL ret n) (hM : Met B.1 y ws rmc (zPx B K I J As [(w, a, false)]) Qc 0 0 (zA B)) (hs : zBy B w a G.1.2.2.2.1 G.1.2.2.2.1.heap) (hG : GoodIn Ts (va_wsS own index y ws)) (hR : zRm rmc rm maxL) (hn : As.length = n) (hcat : (rest.map fun v => v.category).sum ≤ 8) (hcl : c.1 ≤ rm.cells ∧ c.2 ≤ rm.slots) (hS0 : S = As.reverse ++ rest) (hd : decode cc pc = .ok (.invokestatic index, 3)) : zGo B G K I J c pc L S rest (Qc As.toArray) := fun H locs ls hH hS hL => by
  obtain ⟨⟨ws', hw⟩, hy1, hy2, hy3⟩ := hy
  obtain ⟨hx, hb, hml, hown, hts, hkk, hrm, hs0⟩ := id h
  exact va_runS (As := As) (rest := rest) ⟨hx, hb, hml, hown, hts⟩ hM (va_cwS n hts hG hw hR.1 hR.2.1 ⟨hy1, hy2, hy3⟩ (by rw [hrm]; exact ⟨hR.2.2.1, hR.2.2.2⟩)) ⟨zPx_blind, zPx_pre h (zXs_b hs) hH hS _⟩ rfl hn (by rw [← hml]; exact hL.1) hS0 (lv_room hcat) hd (by rw [hrm]; exact hcl)
theorem z_alR (h : zOK B G cc nL own ws rm) {i : Fin 4} (x : Nat) {v : Nat} (hd : decode cc pc = .ok (.aload_n i, 1)) (hl : L[x]? = some ((i : Nat), .ref v)) (e : pc + 1 = pc') (k : Z B G K I J c pc' L (.ref v :: S)) : Z B G K I J c pc L S := z_aload_n h x hd hl e k
theorem z_getSc (h : zOK B G cc nL own ws rm) {w a : Nat} (hs : zSt B w a G.1.2.2.2.1 G.1.2.2.2.1.heap) (hw : Cond.fieldLink own index "java/lang/String" "coder" "B" ∈ ws) (hd : decode cc pc = .ok (.getfield index, 3)) (e : pc + 3 = pc') (k : Z B G K I J c pc' L (.int 0 :: S)) : Z B G K I J c pc L (.ref a :: S) := fun H locs ls hH hS hL => vk_getf h.1 h.2.1 hs.2.1 hS h.2.2.2.1 (h.2.2.2.2.1 _ hw) (fun _ q => q) hd (e ▸ k H locs ls hH hS hL)
theorem z_getSv (h : zOK B G cc nL own ws rm) {w a : Nat} (hs : zSt B w a G.1.2.2.2.1 G.1.2.2.2.1.heap) (hw : Cond.fieldLink own index "java/lang/String" "value" "[B" ∈ ws) (hd : decode cc pc = .ok (.getfield index, 3)) (e : pc + 3 = pc') (k : ∀ v, zBy B w v G.1.2.2.2.1 G.1.2.2.2.1.heap → Z B G K I J c pc' L (.ref v :: S)) : Z B G K I J c pc L (.ref a :: S) := fun H locs ls hH hS hL => by
  obtain ⟨h1, h2, v, h3, h4⟩ := hs
  exact vk_getf h.1 h.2.1 h3 hS h.2.2.2.1 (h.2.2.2.2.1 _ hw) (fun _ q => q) hd (e ▸ k v h4 H locs ls hH hS hL)
theorem z_getsC (h : zOK B G cc nL own ws rm) (hw : Cond.fieldLink own index "java/lang/String" "COMPACT_STRINGS" "Z" ∈ ws) (hd : decode cc pc = .ok (.getstatic index, 3)) (e : pc + 3 = pc') (k : Z B G K I J c pc' L (.int 1 :: S)) : Z B G K I J c pc L S := fun H locs ls hH hS hL => va_gets h.1 h.2.1 h.2.2.2.2.2.1.2.2.2.2.2.1 hS h.2.2.2.1 (h.2.2.2.2.1 _ hw) (fun _ q => q) hd (e ▸ k H locs ls hH hS hL)
theorem z_bylen (h : zOK B G cc nL own ws rm) {w v : Nat} (hb : zBy B w v G.1.2.2.2.1 G.1.2.2.2.1.heap) (hd : decode cc pc = .ok (.arraylength, 1)) (e : pc + 1 = pc') (k : Z B G K I J c pc' L (.int (nI (zlen.getD w 0)) :: S)) : Z B G K I J c pc L (.ref v :: S) := fun H locs ls hH hS hL => va_tlen h.1 h.2.1 hb hS rfl hd (e ▸ k H locs ls hH hS hL)
theorem z_byld (h : zOK B G cc nL own ws rm) {w v : Nat} {i : Int32} (hb : zBy B w v G.1.2.2.2.1 G.1.2.2.2.1.heap) (hz : zin i (zlen.getD w 0) = true) (hd : decode cc pc = .ok (.baload, 1)) (e : pc + 1 = pc') (k : Z B G K I J c pc' L (.int ((zbyt.getD w []).getD (Int32.toNatClampNeg i) 0) :: S)) : Z B G K I J c pc L (.int i :: .ref v :: S) := fun H locs ls hH hS hL => va_tb h.1 h.2.1 hb hS (zin_vp hz) rfl hd (e ▸ k H locs ls hH hS hL)
theorem z_bret {x : Int32} {post : Int32 → zM → zJ → Prop} (h : zOK B G cc nL own ws rm) (hr : zE B G (some .byte) (zQi B K post)) (hd : decode cc pc = .ok (.ireturn, 1)) (hx : narrow .byte (.int x) = .int x) (hp : post x I J) : Z B G K I J (0, 0) pc L [.int x] := fun H locs ls hH hS hL => by
  unfold zW
  rw [hr.2.2]
  exact W.zret (v := x) (ty := .byte) h.1 h.2.1 hr.1 hx (fun t ht hW => ⟨⟨x, (I, J), rfl, hp, by show zH B K I J t.heap; rw [ht]; exact hH⟩, hS.F ht⟩) hS.2.2 hd hr.2.1
/-- a text of the class file: WDCLM (0) or LBM (1) -/
theorem z_ldcS (h : zOK B G cc nL own ws rm) (w : Nat) (ho : own = "LeftOut$Order" ∧ index = 9 ∧ w = 0 ∨ own = "LeftOut$Rule" ∧ index = 30 ∧ w = 1 ∨ own = "LeftOut$Sayings" ∧ index = 36 ∧ w = 0) (hd : decode cc pc = .ok (.ldc index, 2)) (e : pc + 2 = pc') (k : ∀ a, zSt B w a G.1.2.2.2.1 G.1.2.2.2.1.heap → Z B G K I J c pc' L (.ref a :: S)) : Z B G K I J c pc L S := fun H locs ls hH hS hL => by
  obtain ⟨adK, adV, ⟨r0, r1, r2⟩, hv⟩ := h.2.2.2.2.2.1.2.2.2.2.2.2
  have hst : ∀ i, i < 2 → zSt B i (adK i) G.1.2.2.2.1 G.1.2.2.2.1.heap := fun i hi => ⟨(hv.1 i hi).1, (hv.1 i hi).2.1, adV i, (hv.1 i hi).2.2.1, (hv.1 i hi).2.2.2⟩
  rcases ho with ⟨o1, o2, o3⟩ | ⟨o1, o2, o3⟩ | ⟨o1, o2, o3⟩
  · subst o1; subst o2; subst o3
    exact va_ldcS h.1 h.2.1 h.2.2.2.1 r0 hd (e ▸ k _ (hst 0 (by decide)) H locs ls hH hS hL)
  · subst o1; subst o2; subst o3
    exact va_ldcS h.1 h.2.1 h.2.2.2.1 r1 hd (e ▸ k _ (hst 1 (by decide)) H locs ls hH hS hL)
  · subst o1; subst o2; subst o3
    exact va_ldcS h.1 h.2.1 h.2.2.2.1 r2 hd (e ▸ k _ (hst 0 (by decide)) H locs ls hH hS hL)
end ZX
