/-! ===== the constructors: the world grows cell by cell, each at the heap's end ===== -/
def zKn (n : Nat) : List zk := zKW.take n
def zBs (B : zB) : Prop := ∀ p, za B p = B.2.2.2.2 + p
/-- nothing is written yet at places from n on -/
def zZ (n : Nat) (I : zM) (J : zJ) : Prop := ∀ q, n ≤ q → I q = (fun _ => 0) ∧ J q = (fun _ => none)
def Y (B : zB) (G : zG) (n : Nat) (I : zM) (J : zJ) (c : Nat × Nat) (pc : Nat) (L : List (Nat × Value)) (S : List Value) : Prop :=
  ∀ (H : Heap) (locs : List Loc) (ls : Array Slot), zH B (zKn n) I J H → H.size = B.2.2.2.2 + n → va_S (zA B) G.1.2.2.2.1.heap H locs → lv_has ls G.2.2.2.2.1.maxLocals L → zW B G H locs c.1 c.2 (F0 G.1.2.2.2.2 pc ls S)
theorem zKn_succ {n : Nat} {k : zk} (h : zKW[n]? = some k) : zKn (n + 1) = zKn n ++ [k] := by
  unfold zKn
  rw [List.take_succ, h]
  rfl
theorem zKn_len {n : Nat} (h : n ≤ 178) : (zKn n).length = n := by
  unfold zKn
  rw [List.length_take]
  have : zKW.length = 178 := rfl
  omega
theorem zws_push {B : zB} {n : Nat} {I : zM} {J : zJ} {k : zk} (h : zKW[n]? = some k) : zws B (zKn (n + 1)) I J = zws B (zKn n) I J ++ [(za B n, zce B (I n) (J n) k)] := by
  have hn : n ≤ 178 := Nat.le_of_lt (zKW_lt h)
  rw [zKn_succ h]
  unfold zws
  rw [List.mapIdx_concat, zKn_len hn]
theorem zfs_setR {B : zB} {I : Nat → Int32} {J : Nat → Option Nat} {rs : List Bool} {k q : Nat} (h : rs[k]? = some true) : (zfs B I J rs).set k (.ref (za B q)) = zfs B I (fun j => if j = k then some q else J j) rs := by
  apply List.ext_getElem?
  intro i
  by_cases hi : i = k
  · subst hi
    have hl : i < (zfs B I J rs).length := by
      have := (List.getElem?_eq_some_iff.mp h).1
      simpa [zfs] using this
    rw [List.getElem?_set_self hl, zfs_ref h (q := q) (if_pos rfl)]
  · rw [List.getElem?_set_ne (Ne.symm hi)]
    simp [zfs, hi]
section YR
variable {B : zB} {G : zG} {cc : ByteArray} {nL : Nat} {own : String} {ws : List Cond} {rm : Room} {n : Nat} {I : zM} {J : zJ} {c : Nat × Nat} {pc pc' : Nat} {L : List (Nat × Value)} {S : List Value}
theorem y_iadd (h : zOK B G cc nL own ws rm) {x y : Int32} (hd : decode cc pc = .ok (.iadd, 1)) (e : pc + 1 = pc') (k : Y B G n I J c pc' L (.int (x + y) :: S)) : Y B G n I J c pc L (.int y :: .int x :: S) := fun H locs ls hH hz hS hL => lv_iadd h.1 h.2.1 hd (e ▸ k H locs ls hH hz hS hL)
theorem y_isub (h : zOK B G cc nL own ws rm) {x y : Int32} (hd : decode cc pc = .ok (.isub, 1)) (e : pc + 1 = pc') (k : Y B G n I J c pc' L (.int (x - y) :: S)) : Y B G n I J c pc L (.int y :: .int x :: S) := fun H locs ls hH hz hS hL => lv_isub h.1 h.2.1 hd (e ▸ k H locs ls hH hz hS hL)
theorem y_imul (h : zOK B G cc nL own ws rm) {x y : Int32} (hd : decode cc pc = .ok (.imul, 1)) (e : pc + 1 = pc') (k : Y B G n I J c pc' L (.int (x * y) :: S)) : Y B G n I J c pc L (.int y :: .int x :: S) := fun H locs ls hH hz hS hL => lv_imul h.1 h.2.1 hd (e ▸ k H locs ls hH hz hS hL)
theorem y_ishr (h : zOK B G cc nL own ws rm) {x y : Int32} (hd : decode cc pc = .ok (.ishr, 1)) (e : pc + 1 = pc') (k : Y B G n I J c pc' L (.int (x >>> (y &&& 31)) :: S)) : Y B G n I J c pc L (.int y :: .int x :: S) := fun H locs ls hH hz hS hL => lv_ishr h.1 h.2.1 hd (e ▸ k H locs ls hH hz hS hL)
theorem y_dup (h : zOK B G cc nL own ws rm) {va : Value} (hv : va.category = 1) (hd : decode cc pc = .ok (.dup, 1)) (e : pc + 1 = pc') (k : Y B G n I J c pc' L (va :: va :: S)) : Y B G n I J c pc L (va :: S) := fun H locs ls hH hz hS hL => lv_dup h.1 h.2.1 hd hv (e ▸ k H locs ls hH hz hS hL)
theorem y_iconst (h : zOK B G cc nL own ws rm) {nn : Int} (v : Int32) (hd : decode cc pc = .ok (.iconst nn, 1)) (hv : Int32.ofInt nn = v) (e : pc + 1 = pc') (k : Y B G n I J c pc' L (.int v :: S)) : Y B G n I J c pc L S := fun H locs ls hH hz hS hL => lv_iconst h.1 h.2.1 hd hv (e ▸ k H locs ls hH hz hS hL)
theorem y_bipush (h : zOK B G cc nL own ws rm) {nn : Int} (v : Int32) (hd : decode cc pc = .ok (.bipush nn, 2)) (hv : (Int8.ofInt nn).toInt32 = v) (e : pc + 2 = pc') (k : Y B G n I J c pc' L (.int v :: S)) : Y B G n I J c pc L S := fun H locs ls hH hz hS hL => lv_bipush h.1 h.2.1 hd hv (e ▸ k H locs ls hH hz hS hL)
theorem y_sipush (h : zOK B G cc nL own ws rm) {nn : Int} (v : Int32) (hd : decode cc pc = .ok (.sipush nn, 3)) (hv : (Int16.ofInt nn).toInt32 = v) (e : pc + 3 = pc') (k : Y B G n I J c pc' L (.int v :: S)) : Y B G n I J c pc L S := fun H locs ls hH hz hS hL => lv_sipush h.1 h.2.1 hd hv (e ▸ k H locs ls hH hz hS hL)
theorem y_ldc (h : zOK B G cc nL own ws rm) {index : Nat} (v : Int32) (hw : Cond.constant own index v ∈ ws) (hd : decode cc pc = .ok (.ldc index, 2)) (e : pc + 2 = pc') (k : Y B G n I J c pc' L (.int v :: S)) : Y B G n I J c pc L S := fun H locs ls hH hz hS hL => lv_ldc h.1 h.2.1 h.2.2.2.1 (h.2.2.2.2.1 _ hw) hd (e ▸ k H locs ls hH hz hS hL)
theorem y_ldcw (h : zOK B G cc nL own ws rm) {index : Nat} (v : Int32) (hw : Cond.constant own index v ∈ ws) (hd : decode cc pc = .ok (.ldc_w index, 3)) (e : pc + 3 = pc') (k : Y B G n I J c pc' L (.int v :: S)) : Y B G n I J c pc L S := fun H locs ls hH hz hS hL => lv_ldcw h.1 h.2.1 h.2.2.2.1 (h.2.2.2.2.1 _ hw) hd (e ▸ k H locs ls hH hz hS hL)
theorem y_iload_n (h : zOK B G cc nL own ws rm) {i : Fin 4} (x : Nat) {v : Int32} (hd : decode cc pc = .ok (.iload_n i, 1)) (hl : L[x]? = some ((i : Nat), .int v)) (e : pc + 1 = pc') (k : Y B G n I J c pc' L (.int v :: S)) : Y B G n I J c pc L S := fun H locs ls hH hz hS hL => lv_iload_n h.1 h.2.1 hd rfl (lv_at hL x hl) (e ▸ k H locs ls hH hz hS hL)
theorem y_iload (h : zOK B G cc nL own ws rm) {i : Nat} (x : Nat) {v : Int32} (hd : decode cc pc = .ok (.iload i, 2)) (hl : L[x]? = some (i, .int v)) (e : pc + 2 = pc') (k : Y B G n I J c pc' L (.int v :: S)) : Y B G n I J c pc L S := fun H locs ls hH hz hS hL => lv_iload h.1 h.2.1 hd (lv_at hL x hl) (e ▸ k H locs ls hH hz hS hL)
theorem y_aload_n (h : zOK B G cc nL own ws rm) {i : Fin 4} (x : Nat) {v : Nat} (hd : decode cc pc = .ok (.aload_n i, 1)) (hl : L[x]? = some ((i : Nat), .ref v)) (e : pc + 1 = pc') (k : Y B G n I J c pc' L (.ref v :: S)) : Y B G n I J c pc L S := fun H locs ls hH hz hS hL => lv_aload_n h.1 h.2.1 hd rfl (lv_at hL x hl) (e ▸ k H locs ls hH hz hS hL)
theorem y_aload (h : zOK B G cc nL own ws rm) {i : Nat} (x : Nat) {v : Nat} (hd : decode cc pc = .ok (.aload i, 2)) (hl : L[x]? = some (i, .ref v)) (e : pc + 2 = pc') (k : Y B G n I J c pc' L (.ref v :: S)) : Y B G n I J c pc L S := fun H locs ls hH hz hS hL => lv_aload h.1 h.2.1 hd (lv_at hL x hl) (e ▸ k H locs ls hH hz hS hL)
theorem y_istore_n (h : zOK B G cc nL own ws rm) {i : Fin 4} {x : Int32} (L' : List (Nat × Value)) (hd : decode cc pc = .ok (.istore_n i, 1)) (hn : (i : Nat) < nL) (hl : ((i : Nat), Value.int x) :: L.filter (fun q => !(q.1 == (i : Nat)) && !(q.1 + 1 == (i : Nat) && q.2.category == 2)) = L') (e : pc + 1 = pc') (k : Y B G n I J c pc' L' S) : Y B G n I J c pc L (Value.int x :: S) := fun H locs ls hH hz hS hL => lv_istore_n (nL := G.2.2.2.2.1.maxLocals) h.1 h.2.1 hd rfl hL (by rw [h.2.2.1]; exact hn) hl (fun ls' hl' => e ▸ k H locs ls' hH hz hS hl')
theorem y_istore (h : zOK B G cc nL own ws rm) {i : Nat} {x : Int32} (L' : List (Nat × Value)) (hd : decode cc pc = .ok (.istore i, 2)) (hn : i < nL) (hl : (i, Value.int x) :: L.filter (fun q => !(q.1 == i) && !(q.1 + 1 == i && q.2.category == 2)) = L') (e : pc + 2 = pc') (k : Y B G n I J c pc' L' S) : Y B G n I J c pc L (Value.int x :: S) := fun H locs ls hH hz hS hL => lv_istore (nL := G.2.2.2.2.1.maxLocals) h.1 h.2.1 hd hL (by rw [h.2.2.1]; exact hn) hl (fun ls' hl' => e ▸ k H locs ls' hH hz hS hl')
theorem y_astore_n (h : zOK B G cc nL own ws rm) {i : Fin 4} {x : Nat} (L' : List (Nat × Value)) (hd : decode cc pc = .ok (.astore_n i, 1)) (hn : (i : Nat) < nL) (hl : ((i : Nat), Value.ref x) :: L.filter (fun q => !(q.1 == (i : Nat)) && !(q.1 + 1 == (i : Nat) && q.2.category == 2)) = L') (e : pc + 1 = pc') (k : Y B G n I J c pc' L' S) : Y B G n I J c pc L (Value.ref x :: S) := fun H locs ls hH hz hS hL => lv_astore_n (nL := G.2.2.2.2.1.maxLocals) h.1 h.2.1 hd rfl hL (by rw [h.2.2.1]; exact hn) hl (fun ls' hl' => e ▸ k H locs ls' hH hz hS hl')
theorem y_astore (h : zOK B G cc nL own ws rm) {i : Nat} {x : Nat} (L' : List (Nat × Value)) (hd : decode cc pc = .ok (.astore i, 2)) (hn : i < nL) (hl : (i, Value.ref x) :: L.filter (fun q => !(q.1 == i) && !(q.1 + 1 == i && q.2.category == 2)) = L') (e : pc + 2 = pc') (k : Y B G n I J c pc' L' S) : Y B G n I J c pc L (Value.ref x :: S) := fun H locs ls hH hz hS hL => lv_astore (nL := G.2.2.2.2.1.maxLocals) h.1 h.2.1 hd hL (by rw [h.2.2.1]; exact hn) hl (fun ls' hl' => e ▸ k H locs ls' hH hz hS hl')
theorem y_iinc (h : zOK B G cc nL own ws rm) {i : Nat} {nn : Int} {x : Int32} (kx : Nat) (v : Int32) (L' : List (Nat × Value)) (hd : decode cc pc = .ok (.iinc i nn, 3)) (hx : L[kx]? = some (i, .int x)) (hv : x + Int32.ofInt nn = v) (hn : i < nL) (hl : (i, Value.int v) :: L.filter (fun q => !(q.1 == i) && !(q.1 + 1 == i && q.2.category == 2)) = L') (e : pc + 3 = pc') (k : Y B G n I J c pc' L' S) : Y B G n I J c pc L S := fun H locs ls hH hz hS hL => lv_iinc (nL := G.2.2.2.2.1.maxLocals) h.1 h.2.1 hd hL hx hv (by rw [h.2.2.1]; exact hn) hl (fun ls' hl' => e ▸ k H locs ls' hH hz hS hl')
theorem y_goto (h : zOK B G cc nL own ws rm) {off : Int} (hd : decode cc pc = .ok (.goto off, 3)) (e : (pc : Int) + off = (pc' : Int)) (k : Y B G n I J c pc' L S) : Y B G n I J c pc L S := fun H locs ls hH hz hS hL => lv_goto h.1 h.2.1 hd e (k H locs ls hH hz hS hL)
theorem y_if_eq (h : zOK B G cc nL own ws rm) {x : Int32} {off : Int} (tgt : Nat) (hd : decode cc pc = .ok (.ifCond .eq off, 3)) (e : (pc : Int) + off = (tgt : Int)) (e' : pc + 3 = pc') (k1 : x = 0 → Y B G n I J c tgt L S) (k2 : ¬ x = 0 → Y B G n I J c pc' L S) : Y B G n I J c pc L (.int x :: S) := fun H locs ls hH hz hS hL => lv_if_eq h.1 h.2.1 hd e (fun q => k1 q H locs ls hH hz hS hL) (fun q => e' ▸ k2 q H locs ls hH hz hS hL)
theorem y_if_ne (h : zOK B G cc nL own ws rm) {x : Int32} {off : Int} (tgt : Nat) (hd : decode cc pc = .ok (.ifCond .ne off, 3)) (e : (pc : Int) + off = (tgt : Int)) (e' : pc + 3 = pc') (k1 : ¬ x = 0 → Y B G n I J c tgt L S) (k2 : x = 0 → Y B G n I J c pc' L S) : Y B G n I J c pc L (.int x :: S) := fun H locs ls hH hz hS hL => lv_if_ne h.1 h.2.1 hd e (fun q => k1 q H locs ls hH hz hS hL) (fun q => e' ▸ k2 q H locs ls hH hz hS hL)
theorem y_icmp_eq (h : zOK B G cc nL own ws rm) {x y : Int32} {off : Int} (tgt : Nat) (hd : decode cc pc = .ok (.if_icmp .eq off, 3)) (e : (pc : Int) + off = (tgt : Int)) (e' : pc + 3 = pc') (k1 : x = y → Y B G n I J c tgt L S) (k2 : ¬ x = y → Y B G n I J c pc' L S) : Y B G n I J c pc L (.int y :: .int x :: S) := fun H locs ls hH hz hS hL => lv_icmp_eq h.1 h.2.1 hd e (fun q => k1 q H locs ls hH hz hS hL) (fun q => e' ▸ k2 q H locs ls hH hz hS hL)
theorem y_icmp_ne (h : zOK B G cc nL own ws rm) {x y : Int32} {off : Int} (tgt : Nat) (hd : decode cc pc = .ok (.if_icmp .ne off, 3)) (e : (pc : Int) + off = (tgt : Int)) (e' : pc + 3 = pc') (k1 : ¬ x = y → Y B G n I J c tgt L S) (k2 : x = y → Y B G n I J c pc' L S) : Y B G n I J c pc L (.int y :: .int x :: S) := fun H locs ls hH hz hS hL => lv_icmp_ne h.1 h.2.1 hd e (fun q => k1 q H locs ls hH hz hS hL) (fun q => e' ▸ k2 q H locs ls hH hz hS hL)
theorem y_icmp_lt (h : zOK B G cc nL own ws rm) {x y : Int32} {off : Int} (tgt : Nat) (hd : decode cc pc = .ok (.if_icmp .lt off, 3)) (e : (pc : Int) + off = (tgt : Int)) (e' : pc + 3 = pc') (k1 : x < y → Y B G n I J c tgt L S) (k2 : ¬ x < y → Y B G n I J c pc' L S) : Y B G n I J c pc L (.int y :: .int x :: S) := fun H locs ls hH hz hS hL => lv_icmp_lt h.1 h.2.1 hd e (fun q => k1 q H locs ls hH hz hS hL) (fun q => e' ▸ k2 q H locs ls hH hz hS hL)
theorem y_icmp_ge (h : zOK B G cc nL own ws rm) {x y : Int32} {off : Int} (tgt : Nat) (hd : decode cc pc = .ok (.if_icmp .ge off, 3)) (e : (pc : Int) + off = (tgt : Int)) (e' : pc + 3 = pc') (k1 : y ≤ x → Y B G n I J c tgt L S) (k2 : ¬ y ≤ x → Y B G n I J c pc' L S) : Y B G n I J c pc L (.int y :: .int x :: S) := fun H locs ls hH hz hS hL => lv_icmp_ge h.1 h.2.1 hd e (fun q => k1 q H locs ls hH hz hS hL) (fun q => e' ▸ k2 q H locs ls hH hz hS hL)
theorem y_icmp_gt (h : zOK B G cc nL own ws rm) {x y : Int32} {off : Int} (tgt : Nat) (hd : decode cc pc = .ok (.if_icmp .gt off, 3)) (e : (pc : Int) + off = (tgt : Int)) (e' : pc + 3 = pc') (k1 : y < x → Y B G n I J c tgt L S) (k2 : ¬ y < x → Y B G n I J c pc' L S) : Y B G n I J c pc L (.int y :: .int x :: S) := fun H locs ls hH hz hS hL => lv_icmp_gt h.1 h.2.1 hd e (fun q => k1 q H locs ls hH hz hS hL) (fun q => e' ▸ k2 q H locs ls hH hz hS hL)
theorem y_icmp_le (h : zOK B G cc nL own ws rm) {x y : Int32} {off : Int} (tgt : Nat) (hd : decode cc pc = .ok (.if_icmp .le off, 3)) (e : (pc : Int) + off = (tgt : Int)) (e' : pc + 3 = pc') (k1 : x ≤ y → Y B G n I J c tgt L S) (k2 : ¬ x ≤ y → Y B G n I J c pc' L S) : Y B G n I J c pc L (.int y :: .int x :: S) := fun H locs ls hH hz hS hL => lv_icmp_le h.1 h.2.1 hd e (fun q => k1 q H locs ls hH hz hS hL) (fun q => e' ▸ k2 q H locs ls hH hz hS hL)
theorem y_alen (h : zOK B G cc nL own ws rm) {p m t : Nat} (v : Int32) (hK : (zKn n)[p]? = some (.inl (t, m, false))) (ht : t < 9) (hv : Int32.ofNat m = v) (hd : decode cc pc = .ok (.arraylength, 1)) (e : pc + 1 = pc') (k : Y B G n I J c pc' L (.int v :: S)) : Y B G n I J c pc L (.ref (za B p) :: S) := fun H locs ls hH hz hS hL => va_alen h.1 h.2.1 h.2.2.2.2.2.1.1 hH.1 p t (zws_at hK) (zty_at _ ht) hv hd (e ▸ k H locs ls hH hz hS hL)
theorem y_alenr (h : zOK B G cc nL own ws rm) {p m t : Nat} (v : Int32) (hK : (zKn n)[p]? = some (.inl (t, m, true))) (ht : t < 9) (hv : Int32.ofNat m = v) (hd : decode cc pc = .ok (.arraylength, 1)) (e : pc + 1 = pc') (k : Y B G n I J c pc' L (.int v :: S)) : Y B G n I J c pc L (.ref (za B p) :: S) := fun H locs ls hH hz hS hL => va_alen h.1 h.2.1 h.2.2.2.2.2.1.1 hH.1 p t (zws_at hK) (zty_at _ ht) hv hd (e ▸ k H locs ls hH hz hS hL)
theorem y_top {x : Int32} (y : Int32) (hy : x = y) (k : Y B G n I J c pc L (.int y :: S)) : Y B G n I J c pc L (.int x :: S) := hy ▸ k
theorem y_sub {L' : List (Nat × Value)} (ks : List Nat) (hl : lv_pick L ks = L') (k : Y B G n I J c pc L' S) : Y B G n I J c pc L S := fun H locs ls hH hz hS hL => k H locs ls hH hz hS (lv_sub hL ks hl)
theorem y_get (h : zOK B G cc nL own ws rm) {p ci : Nat} {C : String} {T : u_T} {N index : Nat} (kf : Nat) (v : Value) (hK : (zKn n)[p]? = some (.inr ci)) (hc : vwCl[ci]? = some (C, T, N)) (hin : ∀ w ∈ u_ws C T N, w ∈ ws) (hk : kf < N) (hw : (Cond.fieldLink own index (T kf).1 (T kf).2.1 (T kf).2.2.1) ∈ ws) (hv : (zfs B (I p) (J p) (zrs ci))[kf]? = some v) (hd : decode cc pc = .ok (.getfield index, 3)) (e : pc + 3 = pc') (k : Y B G n I J c pc' L (v :: S)) : Y B G n I J c pc L (.ref (za B p) :: S) := fun H locs ls hH hz hS hL => va_get (ci := ci) h.1 h.2.1 h.2.2.2.2.1 hin h.2.2.2.1 h.2.2.2.2.2.1.1 hH.1 p (zws_at hK) hc kf hk (h.2.2.2.2.1 _ hw) (fun _ q => q) hv hd (e ▸ k H locs ls hH hz hS hL)
theorem y_put (h : zOK B G cc nL own ws rm) {p ci : Nat} {C : String} {T : u_T} {N index : Nat} {v : Value} (kf : Nat) (I' : zM) (J' : zJ) (ty0 : Nat → FieldType) (hty : ∀ k, k < N → parseFieldDescriptor (T k).2.2.1 = some (ty0 k)) (hnm : ∀ a, a < N → ∀ b, b < N → a ≠ b → (T a).2.1 ≠ (T b).2.1) (hK : (zKn n)[p]? = some (.inr ci)) (hc : vwCl[ci]? = some (C, T, N)) (hin : ∀ w ∈ u_ws C T N, w ∈ ws) (hk : kf < N) (hw : (Cond.fieldLink own index (T kf).1 (T kf).2.1 (T kf).2.2.1) ∈ ws) (hfin : (T kf).2.2.2 = false ∨ (T kf).2.2.2 = true ∧ G.2.2.2.1.name = "<init>" ∧ (T kf).1 = own) (hn : narrow (ty0 kf) v = v) (hfit : fits (ty0 kf) v = true) (hl : kf < (zfs B (I p) (J p) (zrs ci)).length) (hset : (zfs B (I p) (J p) (zrs ci)).set kf v = zfs B (I' p) (J' p) (zrs ci)) (hI : ∀ q, q ≠ p → I' q = I q) (hJ : ∀ q, q ≠ p → J' q = J q) (hd : decode cc pc = .ok (.putfield index, 3)) (e : pc + 3 = pc') (k : Y B G n I' J' c pc' L S) : Y B G n I J c pc L (v :: .ref (za B p) :: S) := fun H locs ls hH hz hS hL => by
  have hset' : (zws B (zKn n) I J).set p (za B p, .inr (ci, (zfs B (I p) (J p) (zrs ci)).set kf v)) = zws B (zKn n) I' J' := zws_set hK (by
    show _ = Sum.inr (ci, _)
    rw [hset]) hI hJ
  have hKv := h.2.2.2.2.2.1.1
  have hap := va_apart (own := own) h.2.2.2.2.1 hin ty0 hty hnm hKv hc
  obtain ⟨r, h1, cell, q1, q2, q3, q4⟩ := hH.1 p _ (zws_at hK)
  have hr : r = (C, T, N) := Option.some.inj (h1.symm.trans hc)
  subst hr
  obtain ⟨hSl, hfc, kC, hkC, hkind⟩ := hKv.1 ci _ hc
  obtain ⟨cf, kf', fi, f, hi, hsl⟩ := hSl kf hk
  have hlay := h.2.2.2.2.1 _ (hin _ (u_in_lay hk))
  unfold u_lay at hlay
  have hst := (u_facts hfc hkC (u_lays h.2.2.2.2.1 hin hk) hi).1
  have hD' : va_D (zA B) ((zws B (zKn n) I J).set p (za B p, .inr (ci, (zfs B (I p) (J p) (zrs ci)).set kf v))) := hH.2.set (zws_at hK)
  rcases hfin with hfin | ⟨hfin, hin2, hdecl⟩
  · rw [if_neg (by rw [hfin]; decide)] at hlay
    have h6 := u_store hfc hkC hkind hlay hi (hty kf hk) hn hfit
    refine W.putK h.1 h.2.1 (f := f) ⟨h.2.2.2.1, h.2.2.2.2.1 _ hw, ⟨_, _, _, hi⟩, hst⟩ (by rw [q2]; exact h6) q1 q3 (by rw [hsl]; exact k2_hasslot (q4 kf hk)) rfl rfl hd fun H' e1 e2 e3 => ?_
    rw [hsl] at e1 ⊢
    have hP' := hH.1.set (e := .inr (ci, (zfs B (I p) (J p) (zrs ci)).set kf v)) hH.2 (zws_at hK) ⟨_, hc, t_OB.to (V := updV (vp_V (zfs B (I p) (J p) (zrs ci))) kf v) ⟨_, e1, q2, q3, t_set q4 hap hk v⟩ (fun j _ => vp_updV_set hl v j)⟩ e3
    rw [hset'] at hP' hD'
    exact e ▸ k H' _ ls ⟨hP', hD'⟩ (e2.trans hz) (hS.put e2 e3 (hH.2.2 p _ (zws_at hK))) hL
  · rw [if_pos hfin] at hlay
    have hcf : G.1.2.2.2.2.cls = cf := by
      obtain ⟨_, _, c', _, _, _, -, -, hf', -, -, -, hown2, -⟩ := Cond.laysFinal_spec hlay
      have e1 : c' = cf := by have := hi.symm.trans hf'; simp at this; exact this.1.symm
      rw [hdecl] at hown2
      rw [← e1]; exact Option.some.inj (h.2.2.2.1.symm.trans hown2)
    have h6 := u_fits hfc hkC hkind (Or.inr hlay) hi (hty kf hk) hn hfit
    refine W.putFinK h.1 h.2.1 h.2.2.2.1 (h.2.2.2.2.1 _ hw) hi hst hcf hin2 (by rw [q2]; exact h6) q1 q3 (by rw [hsl]; exact k2_hasslot (q4 kf hk)) rfl rfl hd fun H' e1 e2 e3 => ?_
    rw [hsl] at e1 ⊢
    have hP' := hH.1.set (e := .inr (ci, (zfs B (I p) (J p) (zrs ci)).set kf v)) hH.2 (zws_at hK) ⟨_, hc, t_OB.to (V := updV (vp_V (zfs B (I p) (J p) (zrs ci))) kf v) ⟨_, e1, q2, q3, t_set q4 hap hk v⟩ (fun j _ => vp_updV_set hl v j)⟩ e3
    rw [hset'] at hP' hD'
    exact e ▸ k H' _ ls ⟨hP', hD'⟩ (e2.trans hz) (hS.put e2 e3 (hH.2.2 p _ (zws_at hK))) hL
theorem y_putI (h : zOK B G cc nL own ws rm) {p ci : Nat} {C : String} {T : u_T} {N index : Nat} {x : Int32} (kf : Nat) (ty0 : Nat → FieldType) (hty : ∀ k, k < N → parseFieldDescriptor (T k).2.2.1 = some (ty0 k)) (hnm : ∀ a, a < N → ∀ b, b < N → a ≠ b → (T a).2.1 ≠ (T b).2.1) (hK : (zKn n)[p]? = some (.inr ci)) (hc : vwCl[ci]? = some (C, T, N)) (hin : ∀ w ∈ u_ws C T N, w ∈ ws) (hk : kf < N) (hw : (Cond.fieldLink own index (T kf).1 (T kf).2.1 (T kf).2.2.1) ∈ ws) (hr : (zrs ci)[kf]? = some false) (hfin : (T kf).2.2.2 = false) (hi : ty0 kf = .int) (hd : decode cc pc = .ok (.putfield index, 3)) (e : pc + 3 = pc') (k : Y B G n (zu I p kf x) J c pc' L S) : Y B G n I J c pc L (.int x :: .ref (za B p) :: S) :=
  y_put h kf (zu I p kf x) J ty0 hty hnm hK hc hin hk hw (Or.inl hfin) (by rw [hi]; rfl) (by rw [hi]; rfl) (by have := (List.getElem?_eq_some_iff.mp hr).1; simpa [zfs] using this) (by
    rw [zfs_set hr]
    congr 1
    funext j
    simp [zu]) (fun q hq => by funext j; simp [zu, hq]) (fun _ _ => rfl) hd e k
theorem y_putR (h : zOK B G cc nL own ws rm) {p q ci : Nat} {C : String} {T : u_T} {N index : Nat} (kf : Nat) (ty0 : Nat → FieldType) (hty : ∀ k, k < N → parseFieldDescriptor (T k).2.2.1 = some (ty0 k)) (hnm : ∀ a, a < N → ∀ b, b < N → a ≠ b → (T a).2.1 ≠ (T b).2.1) (hK : (zKn n)[p]? = some (.inr ci)) (hc : vwCl[ci]? = some (C, T, N)) (hin : ∀ w ∈ u_ws C T N, w ∈ ws) (hk : kf < N) (hw : (Cond.fieldLink own index (T kf).1 (T kf).2.1 (T kf).2.2.1) ∈ ws) (hr : (zrs ci)[kf]? = some true) (hfin : (T kf).2.2.2 = true) (hname : G.2.2.2.1.name = "<init>") (hdecl : (T kf).1 = own) (hi : (∃ s, ty0 kf = .object s) ∨ ∃ t, ty0 kf = .array t) (hd : decode cc pc = .ok (.putfield index, 3)) (e : pc + 3 = pc') (k : Y B G n I (zuJ J p kf (some q)) c pc' L S) : Y B G n I J c pc L (.ref (za B q) :: .ref (za B p) :: S) :=
  y_put h kf I (zuJ J p kf (some q)) ty0 hty hnm hK hc hin hk hw (Or.inr ⟨hfin, hname, hdecl⟩) (by rcases hi with ⟨s, e⟩ | ⟨t, e⟩ <;> rw [e] <;> rfl) (by rcases hi with ⟨s, e⟩ | ⟨t, e⟩ <;> rw [e] <;> rfl) (by have := (List.getElem?_eq_some_iff.mp hr).1; simpa [zfs] using this) (by
    rw [zfs_setR hr]
    congr 1
    funext j
    simp [zuJ]) (fun _ _ => rfl) (fun x hx => by funext j; simp [zuJ, hx]) hd e k
theorem y_iast (h : zOK B G cc nL own ws rm) {p m : Nat} {i x : Int32} (hz : zin i m = true) (hK : (zKn n)[p]? = some (.inl (0, m, false))) (hd : decode cc pc = .ok (.iastore, 1)) (e : pc + 1 = pc') (k : Y B G n (zu I p (Int32.toNatClampNeg i) x) J c pc' L S) : Y B G n I J c pc L (.int x :: .int i :: .ref (za B p) :: S) := fun H locs ls hH hsz hS hL => by
  have hset : (zws B (zKn n) I J).set p (za B p, .inl (B.2.2.1 0, m, .inl (upd (I p) (Int32.toNatClampNeg i) x))) = zws B (zKn n) (zu I p (Int32.toNatClampNeg i) x) J := zws_set hK (by
    show _ = Sum.inl (_, _, Sum.inl _)
    congr 4
    funext j
    simp [zu, upd]) (fun q hq => by funext j; simp [zu, hq]) (fun _ _ => rfl)
  have hat := zws_at (B := B) (I := I) (J := J) hK
  refine W.iast h.1 h.2.1 (hH.1 p _ hat) ((h.2.2.2.2.2.1.1.2 0 _ (zty_at _ (by decide))).1 m (fun j => .int (I p j))) (fun q => by cases q) (by show ¬ (i < 0 ∨ (arrV _ _ _).slots.size ≤ _); rw [arrV_size]; exact zin_vp hz) rfl rfl hd fun H1 e1 z oq => ?_
  have hP' := hH.1.set (e := .inl (B.2.2.1 0, m, .inl (upd (I p) (Int32.toNatClampNeg i) x))) hH.2 hat (by
    show H1[za B p]? = some (vp_cell _ _)
    rw [e1]
    show some ((vp_cell (B.2.2.1 0) (m, .inl (I p))).setSlot _ _) = some (vp_cell (B.2.2.1 0) (m, .inl (upd (I p) _ x)))
    rw [vp_cell_i, vp_cell_i, arrV_store]
    congr 2
    funext q
    by_cases hq : q = Int32.toNatClampNeg i <;> simp [updV, upd, hq]) oq
  have hD' := hH.2.set (e := .inl (B.2.2.1 0, m, .inl (upd (I p) (Int32.toNatClampNeg i) x))) hat
  rw [hset] at hP' hD'
  exact e ▸ k H1 _ ls ⟨hP', hD'⟩ (z.trans hsz) (hS.put z oq (hH.2.2 p _ hat)) hL
theorem y_astq (h : zOK B G cc nL own ws rm) {p q m t ci : Nat} {i : Int32} {r : vw_C} (hz : zin i m = true) (hK : (zKn n)[p]? = some (.inl (t, m, true))) (hq : (zKn n)[q]? = some (.inr ci)) (ht : t < 9) (hC : ztyOf t = .object r.1) (hc : vwCl[ci]? = some r) (hd : decode cc pc = .ok (.aastore, 1)) (e : pc + 1 = pc') (k : Y B G n I (zuJ J p (Int32.toNatClampNeg i) (some q)) c pc' L S) : Y B G n I J c pc L (.ref (za B q) :: .int i :: .ref (za B p) :: S) := fun H locs ls hH hsz hS hL => by
  have hset : (zws B (zKn n) I J).set p (za B p, .inl (B.2.2.1 t, m, .inr (.inr (.inr (.inr (va_up (fun j => (J p j).map (za B)) (Int32.toNatClampNeg i) (some (za B q)))))))) = zws B (zKn n) I (zuJ J p (Int32.toNatClampNeg i) (some q)) := zws_set hK (by
    show _ = Sum.inl (_, _, Sum.inr (Sum.inr (Sum.inr (Sum.inr _))))
    congr 7
    funext j
    by_cases hj : j = (Int32.toNatClampNeg i) <;> simp [zuJ, va_up, hj]) (fun _ _ => rfl) (fun x hx => by funext j; simp [zuJ, hx])
  have hat := zws_at (B := B) (I := I) (J := J) hK
  have hty : (zty B.2.2.1)[t]? = some (B.2.2.1 t, .object r.1) := by rw [zty_at _ ht, hC]
  have hKv := h.2.2.2.2.2.1.1
  have hlt : (Int32.toNatClampNeg i) < m := zin_lt hz
  have h0 : ¬ i < 0 := fun q => zin_vp hz (Or.inl q)
  obtain ⟨r', hr', cellV, g1, g2, g3, -⟩ := hH.1 q _ (zws_at hq)
  have hcls := (hKv.1 ci r hc).2
  obtain ⟨kA, comp, k1, k2, k3, -⟩ := (hKv.2 t _ hty).2
  have hcomp : comp = B.2.1.1 ci := Option.some.inj (k3.symm.trans hcls.1)
  subst hcomp
  obtain ⟨kC, hkC, -⟩ := hcls.2
  refine W.aast h.1 h.2.1 (hH.1 p _ hat) (fun q h => by cases h) (fun h => by cases h) k1 k2 rfl hkC ⟨h0, by show _ < (arrV _ _ _).slots.size; rw [arrV_size]; exact hlt⟩ g1 (fun q h => by rw [g3] at h; cases h) (by rw [g2]; exact hkC) (by rw [g2]; exact va_assign hcls) rfl rfl hd fun H1 e1 z oq => ?_
  have hP' := hH.1.set (e := .inl (B.2.2.1 t, m, .inr (.inr (.inr (.inr (va_up (fun j => (J p j).map (za B)) (Int32.toNatClampNeg i) (some (za B q)))))))) hH.2 hat (by
    show H1[za B p]? = some (vp_cell _ _)
    rw [e1]
    show some ((vp_cell _ (m, .inr (.inr (.inr (.inr (fun j => (J p j).map (za B))))))).setSlot _ _) = _
    rw [vp_cell_q, vp_cell_q, arrV_store]
    congr 2
    funext x
    by_cases hx : x = Int32.toNatClampNeg i <;> simp [updV, va_up, va_rf, hx]) oq
  have hD' := hH.2.set (e := .inl (B.2.2.1 t, m, .inr (.inr (.inr (.inr (va_up (fun j => (J p j).map (za B)) (Int32.toNatClampNeg i) (some (za B q)))))))) hat
  rw [hset] at hP' hD'
  exact e ▸ k H1 _ ls ⟨hP', hD'⟩ (z.trans hsz) (hS.put z oq (hH.2.2 p _ hat)) hL
/-- a cell more at the heap's end -/
theorem y_push {H H1 : Heap} {locs : List Loc} {s : State} {k : zk} (hBs : zBs B) (hs0 : B.2.2.2.2 ≤ s.heap.size) (hH : zH B (zKn n) I J H) (hz : H.size = B.2.2.2.2 + n) (hS : va_S (zA B) s.heap H locs) (hk : zKW[n]? = some k) (hat : va_at B.2.1 vwCl (za B n, zce B (I n) (J n) k) H1) (z1 : H1.size = H.size + 1) (o1 : ∀ q, q < H.size → H1[q]? = H[q]?) : zH B (zKn (n + 1)) I J H1 ∧ H1.size = B.2.2.2.2 + (n + 1) ∧ va_S (zA B) s.heap H1 locs := by
  have hq : za B n = H.size := (hBs n).trans hz.symm
  have hkp : ∀ (j : Nat) (x : Nat × va_E), (zws B (zKn n) I J)[j]? = some x → H1[x.1]? = H[x.1]? := fun j x hx => o1 x.1 ((hH.1 j x hx).lt)
  refine ⟨⟨?_, ?_⟩, by omega, ⟨Nat.le_trans hS.1 (by omega), fun x h1 h2 => (o1 x (Nat.lt_of_lt_of_le h1 hS.1)).trans (hS.2.1 x h1 h2), hS.2.2⟩⟩
  · rw [zws_push hk]
    refine (hH.1.kept hkp).app (fun j x hx => ?_)
    have hz : j < 1 := (List.getElem?_eq_some_iff.mp hx).1
    rw [show j = 0 by omega] at hx
    cases hx
    exact hat
  · rw [zws_push hk]
    exact hH.2.push hH.1 hq (by show B.2.2.2.2 ≤ za B n; rw [hBs n]; omega)
/-- which fields are references, and what a new object holds -/
def zdef (B : zB) (ci N : Nat) (ty : Nat → FieldType) : Prop := ∀ j, j < N → defaultValue (ty j) = vp_V (zfs B (fun _ => 0) (fun _ => none) (zrs ci)) j
theorem y_new (h : zOK B G cc nL own ws rm) (hBs : zBs B) (hZ : zZ n I J) {C : String} {T : u_T} {N ci index : Nat} (hin : ∀ w ∈ u_ws C T N, w ∈ ws) (ty : Nat → FieldType) (hty : ∀ k, k < N → parseFieldDescriptor (T k).2.2.1 = some (ty k)) (hdef : zdef B ci N ty) (hw1 : Cond.classLink own index C ∈ ws) (hw2 : Cond.instantiable C N ∈ ws) (hw3 : Cond.initialized C ∈ ws) (hc : vwCl[ci]? = some (C, T, N)) (hk : zKW[n]? = some (.inr ci)) (hcl : c.1 + 1 ≤ rm.cells ∧ c.2 + N ≤ rm.slots) (hd : decode cc pc = .ok (.new index, 3)) (e : pc + 3 = pc') (k : Y B G (n + 1) I J (c.1 + 1, c.2 + N) pc' L (.ref (za B n) :: S)) : Y B G n I J c pc L S := fun H locs ls hH hz hS hL => by
  have hKn := h.2.2.2.2.2.1.1.1 ci _ hc
  refine W.newcK h.1 h.2.1 h.2.2.2.1 (h.2.2.2.2.1 _ hw1) (h.2.2.2.2.1 _ hw2) (h.2.2.2.2.1 _ hw3) rfl hd (by rw [h.2.2.2.2.2.2.1]; exact hcl.1) (by rw [h.2.2.2.2.2.2.1]; exact hcl.2) hKn.2.1 rfl fun H1 kC hkC e1 z1 o1 => ?_
  have hq : za B n = H.size := (hBs n).trans hz.symm
  obtain ⟨g1, g2, g3⟩ := y_push (H1 := H1) hBs h.2.2.2.2.2.2.2 hH hz hS hk (by
    rw [(hZ n (Nat.le_refl _)).1, (hZ n (Nat.le_refl _)).2]
    refine ⟨_, hc, ?_⟩
    have e1' : H1[za B n]? = some (blank (B.2.1.1 ci) kC) := by rw [hq]; exact e1
    exact (u_born ty h.2.2.2.2.1 hin hKn hkC e1' hty).to hdef) z1 o1
  rw [← hq]
  exact e ▸ k H1 _ ls g1 g2 g3 hL
theorem y_newa (h : zOK B G cc nL own ws rm) (hBs : zBs B) (hZ : zZ n I J) {atype : ArrayType} {t m : Nat} {x : Int32} (hw : Cond.arrayClass (newarray.typeOf atype) ∈ ws) (ht : t < 3) (hty : ztyOf t = newarray.typeOf atype) (hdv : defaultValue (newarray.typeOf atype) = .int 0) (hx : ¬ x < 0) (hm : x.toNatClampNeg = m) (hb : m * componentBytes (newarray.typeOf atype) ≤ 536870912) (hk : zKW[n]? = some (.inl (t, m, false))) (hcl : c.1 + 1 ≤ rm.cells ∧ c.2 + m ≤ rm.slots) (hd : decode cc pc = .ok (.newarray atype, 2)) (e : pc + 2 = pc') (k : Y B G (n + 1) I J (c.1 + 1, c.2 + m) pc' L (.ref (za B n) :: S)) : Y B G n I J c pc L (.int x :: S) := fun H locs ls hH hz hS hL => by
  subst hm
  refine W.newa h.1 h.2.1 (h.2.2.2.2.1 _ hw) rfl hd rfl hx hb (by rw [h.2.2.2.2.2.2.1]; exact hcl.1) (by rw [h.2.2.2.2.2.2.1]; exact hcl.2) fun cA kA comp f1 f2 f3 => ?_
  have hty9 : (zty B.2.2.1)[t]? = some (B.2.2.1 t, newarray.typeOf atype) := by rw [zty_at _ (by omega), hty]
  have hra := (h.2.2.2.2.2.1.1.2 t _ hty9).2
  have hcA : cA = B.2.2.1 t := by
    have : G.1.2.2.2.1.vm.findClass ("[" ++ (newarray.typeOf atype).toString) = some (B.2.2.1 t) := by cases atype <;> exact hra
    exact Option.some.inj (f1.symm.trans this)
  subst hcA
  have hq : za B n = H.size := (hBs n).trans hz.symm
  obtain ⟨g1, g2, g3⟩ := y_push (H1 := H.push ({ cls := B.2.2.1 t, slots := Array.replicate x.toNatClampNeg (defaultValue (newarray.typeOf atype)), vm := .none } : Cell)) hBs h.2.2.2.2.2.2.2 hH hz hS hk (by
    rw [(hZ n (Nat.le_refl _)).1]
    show _ = some (vp_cell _ _)
    rw [hq, Array.getElem?_push_size, hdv, arrV_new, vp_cell_i]) (by rw [Array.size_push]) (fun q hq' => by rw [Array.getElem?_push, if_neg (Nat.ne_of_lt hq')])
  rw [← hq]
  exact e ▸ k _ _ ls g1 g2 g3 hL
theorem y_anew (h : zOK B G cc nL own ws rm) (hBs : zBs B) (hZ : zZ n I J) {C : String} {t m index : Nat} {x : Int32} (hw1 : Cond.classLink own index C ∈ ws) (hw2 : Cond.arrayOver (.object C) ∈ zNest) (ht : t < 9) (hty : ztyOf t = .object C) (hx : ¬ x < 0) (hm : x.toNatClampNeg = m) (hb : m * 4 ≤ 536870912) (hk : zKW[n]? = some (.inl (t, m, true))) (hcl : c.1 + 1 ≤ rm.cells ∧ c.2 + m ≤ rm.slots) (hd : decode cc pc = .ok (.anewarray index, 3)) (e : pc + 3 = pc') (k : Y B G (n + 1) I J (c.1 + 1, c.2 + m) pc' L (.ref (za B n) :: S)) : Y B G n I J c pc L (.int x :: S) := fun H locs ls hH hz hS hL => by
  subst hm
  refine W.anew h.1 h.2.1 h.2.2.2.1 (h.2.2.2.2.1 _ hw1) (h.2.2.2.2.2.1.2.1 _ hw2) rfl hd rfl hx hb (by rw [h.2.2.2.2.2.2.1]; exact hcl.1) (by rw [h.2.2.2.2.2.2.1]; exact hcl.2) fun cA kA comp f1 f2 f3 f4 => ?_
  have hty9 : (zty B.2.2.1)[t]? = some (B.2.2.1 t, .object C) := by rw [zty_at _ ht, hty]
  obtain ⟨kA', comp', -, -, -, hra⟩ := (h.2.2.2.2.2.1.1.2 t _ hty9).2
  have hcA : cA = B.2.2.1 t := Option.some.inj (f1.symm.trans hra)
  subst hcA
  have hq : za B n = H.size := (hBs n).trans hz.symm
  obtain ⟨g1, g2, g3⟩ := y_push (H1 := H.push ({ cls := B.2.2.1 t, slots := Array.replicate x.toNatClampNeg .null, vm := .none } : Cell)) hBs h.2.2.2.2.2.2.2 hH hz hS hk (by
    rw [(hZ n (Nat.le_refl _)).2]
    show _ = some (vp_cell _ _)
    rw [hq, Array.getElem?_push_size, arrV_new, vp_cell_q]
    rfl) (by rw [Array.size_push]) (fun q hq' => by rw [Array.getElem?_push, if_neg (Nat.ne_of_lt hq')])
  rw [← hq]
  exact e ▸ k _ _ ls g1 g2 g3 hL
theorem y_objInit (h : zOK B G cc nL own ws rm) {a index : Nat} (hw1 : Cond.methodLink own index Lib.objectInit ∈ ws) (hw2 : Cond.instanceMethod Lib.objectInit ∈ ws) (hw3 : Cond.code Lib.objectInit ⟨#[0xb1]⟩ 1 none ∈ ws) (hR : 1 ≤ rm.frames ∧ (S.map fun v => v.category).sum + 12 ≤ rm.locals) (hd : decode cc pc = .ok (.invokespecial index, 3)) (e : pc + 3 = pc') (k : Y B G n I J c pc' L S) : Y B G n I J c pc L (.ref a :: S) := fun H locs ls hH hz hS hL => W.objInit h.1 h.2.1 h.2.2.2.1 (h.2.2.2.2.1 _ hw1) (h.2.2.2.2.1 _ hw2) (h.2.2.2.2.1 _ hw3) rfl hL.1 rfl hd (by rw [h.2.2.2.2.2.2.1]; exact hR.1) (by rw [h.2.2.2.2.2.2.1]; show 2 * 0 + _ + 12 ≤ _; omega) (e ▸ k H locs ls hH hz hS hL)
/-- a constructor: it makes the cells n .. n', and writes I', J' -/
def zPc (B : zB) (n : Nat) (I : zM) (J : zJ) (av : List Value) : Array Value → State → Prop := fun v U => zP B (zKn n) I J av v U ∧ U.heap.size = B.2.2.2.2 + n
def zQc (B : zB) (n' : Nat) (I' : zM) (J' : zJ) : Array Value → State → Outcome → State → Prop := va_Qv (fun _ : Unit => True) (fun _ t => zH B (zKn n') I' J' t.heap ∧ t.heap.size = B.2.2.2.2 + n') (zA B)
def zCc (B : zB) (n : Nat) (I : zM) (J : zJ) (y : MethodName) (ws : List Cond) (rm : Room) (av : List Value) (n' : Nat) (I' : zM) (J' : zJ) : Prop := Met B.1 y ws rm (zPc B n I J av) (zQc B n' I' J') rm.cells rm.slots (zA B)
def zEc (B : zB) (G : zG) (rm : Room) (Qc : Array Value → State → Outcome → State → Prop) : Prop := G.2.2.2.1.sig.returnType = none ∧ G.2.2.2.1.locks = false ∧ G.2.2.2.2.2 = MQ G.2.2.1 Qc G.2.1 G.1.2.2.2.1 rm.cells rm.slots (zA B) ∧ G.2.2.2.1.name = "<init>"
theorem y_start {y : MethodName} {ws' : List Cond} {av : List Value} {Qc : Array Value → State → Outcome → State → Prop} (hown : y.cls = own) (hy : plainName y.cls = true) (hi : y.name = "<init>") (hw : ws = Cond.code y cc nL none :: ws') (hn : (lg_sl av).length ≤ nL) (hL : lv_args 0 av = L)
    (k : ∀ G : zG, zOK B G cc nL own ws rm → zEc B G rm Qc → Y B G n I J (0, 0) 0 L []) : Met B.1 y ws rm (zPc B n I J av) Qc rm.cells rm.slots (zA B) := by
  subst hown
  refine Met.ofW (cc := cc) (maxL := nL) (ret := none) hy hw ?_
  intro p e s m args below meth c s₁ Bd hml hv
  obtain ⟨⟨rfl, hH, hK, hs⟩, hz⟩ := hv
  have hts := atoms_spec (ws := ws) Bd.pre
  have hl := lv_entry av (n := nL) hn
  rw [lg_entry_eq]
  rw [hL] at hl
  exact k ((p, e, rm, s, m), (av.toArray, below, meth, c, MQ below Qc av.toArray s rm.cells rm.slots (zA B))) ⟨Bd.exec, Bd.bytes, hml, findClass_of_methodNamed Bd.named, hts, hK, rfl, hs⟩ ⟨Bd.returns, Bd.notSynchronized, rfl, ((name_of_methodNamed Bd.named Bd.method).1).trans hi⟩ s.heap [] _ hH hz va_S.rf (by rw [show c.maxLocals = nL from hml]; exact hl)
theorem y_ret {n' : Nat} {I' : zM} {J' : zJ} (h : zOK B G cc nL own ws rm) (hr : zEc B G rm (zQc B n' I' J')) (hc : c = (rm.cells, rm.slots)) (hn : n = n') (hI : I = I') (hJ : J = J') (hd : decode cc pc = .ok (.return_, 1)) : Y B G n I J c pc L [] := fun H locs ls hH hz hS hL => by
  subst hn
  subst hI
  subst hJ
  subst hc
  unfold zW
  rw [hr.2.2.1]
  exact W.vret h.1 h.2.1 hr.1 (fun t ht hW => ⟨⟨(), rfl, trivial, by show zH B (zKn n) I J t.heap ∧ _; rw [ht]; exact ⟨hH, hz⟩⟩, hS.F ht⟩) hS.2.2 hd hr.2.1
theorem zPc_blind {av : List Value} : FrameBlind (zPc B n I J av) := fun a U g mk q => ⟨zP_blind a U g mk q.1, q.2⟩
theorem zPc_pre (h : zOK B G cc nL own ws rm) {H : Heap} {locs : List Loc} (hH : zH B (zKn n) I J H) (hz : H.size = B.2.2.2.2 + n) (hS : va_S (zA B) G.1.2.2.2.1.heap H locs) (av : List Value) : ∀ U : State, U.heap = H → G.1.2.2.2.1.WarmedH U.vm → zPc B n I J av av.toArray U := fun U hU hW => ⟨zP_pre h hH hS av U hU hW, by rw [hU]; exact hz⟩
/-- 'new C(..)': its own constructor, by its class or as a nest mate's -/
theorem y_callI (h : zOK B G cc nL own ws rm) {p m index maxL n' : Nat} {I' : zM} {J' : zJ} {y : MethodName} {wsc : List Cond} {rmc : Room} {bytes : ByteArray} (As rest : List Value) (hy : zY y wsc bytes maxL none m) (hM : zCc B n I J y wsc rmc (.ref (za B p) :: As) n' I' J') (hG : GoodIn ws wsc) (hini : Cond.initialized y.cls ∈ ws) (hl : Cond.methodLink own index y ∈ ws) (hin : Cond.instanceMethod y ∈ ws) (hy1 : y.name = "<init>") (hR : rmc.frames + 1 ≤ rm.frames ∧ 8 + (maxL + 11) + rmc.locals ≤ rm.locals) (hn : As.length = m) (hcat : (rest.map fun v => v.category).sum ≤ 8) (hcl : c.1 + rmc.cells ≤ rm.cells ∧ c.2 + rmc.slots ≤ rm.slots) (hS0 : S = As.reverse ++ .ref (za B p) :: rest) (hd : decode cc pc = .ok (.invokespecial index, 3)) (e : pc + 3 = pc') (k : Y B G n' I' J' (c.1 + rmc.cells, c.2 + rmc.slots) pc' L rest) : Y B G n I J c pc L S := fun H locs ls hH hz hS hL => by
  obtain ⟨⟨ws', hw⟩, hy1', hy2, hy3⟩ := hy
  obtain ⟨hx, hb, hml, hown, hts, hkk, hrm, hs0⟩ := id h
  exact va_callv (va_runI (As := As) (rest := rest) ⟨hx, hb, hml, hown, hts⟩ hM (cwI m hts hG hw rfl rfl (hts _ hini) (hts _ hl) (hts _ hin) hy1 ⟨hy1', hy2, hy3⟩ (by rw [hrm]; exact hR)) ⟨zPc_blind, zPc_pre h hH hz hS _⟩ rfl hn (by rw [← hml]; exact hL.1) hS0 (lv_room hcat) hd (by rw [hrm]; exact hcl)) hS (fun _ _ h => h) (fun _ h => h) (fun u t H1 locs1 ht hvm hp hb _ _ hS1 => e ▸ k H1 locs1 ls (ht ▸ hb.1) (ht ▸ hb.2) hS1 hL)
theorem y_callIN (h : zOK B G cc nL own ws rm) {p m index maxL n' : Nat} {I' : zM} {J' : zJ} {y : MethodName} {wsc : List Cond} {rmc : Room} {bytes : ByteArray} (As rest : List Value) (hy : zY y wsc bytes maxL none m) (hM : zCc B n I J y wsc rmc (.ref (za B p) :: As) n' I' J') (hG : GoodIn ws wsc) (hini : Cond.initialized y.cls ∈ ws) (hl : Cond.methodLinkNest own index y "LeftOut" ∈ zNest) (hin : Cond.instanceMethod y ∈ ws) (hy1 : y.name = "<init>") (hR : rmc.frames + 1 ≤ rm.frames ∧ 8 + (maxL + 11) + rmc.locals ≤ rm.locals) (hn : As.length = m) (hcat : (rest.map fun v => v.category).sum ≤ 8) (hcl : c.1 + rmc.cells ≤ rm.cells ∧ c.2 + rmc.slots ≤ rm.slots) (hS0 : S = As.reverse ++ .ref (za B p) :: rest) (hd : decode cc pc = .ok (.invokespecial index, 3)) (e : pc + 3 = pc') (k : Y B G n' I' J' (c.1 + rmc.cells, c.2 + rmc.slots) pc' L rest) : Y B G n I J c pc L S := fun H locs ls hH hz hS hL => by
  obtain ⟨⟨ws', hw⟩, hy1', hy2, hy3⟩ := hy
  obtain ⟨hx, hb, hml, hown, hts, hkk, hrm, hs0⟩ := id h
  exact va_callv (va_runIN (host := "LeftOut") (As := As) (rest := rest) ⟨hx, hb, hml, hown, hts⟩ hM ⟨va_cnB m hts hG hw rfl rfl (hkk.2.1 _ hl) (hts _ hini) ⟨hy1', hy2, hy3⟩ (by rw [hrm]; exact hR), hy1, hts _ hin⟩ ⟨zPc_blind, zPc_pre h hH hz hS _⟩ rfl hn (by rw [← hml]; exact hL.1) hS0 (lv_room hcat) hd (by rw [hrm]; exact hcl)) hS (fun _ _ h => h) (fun _ h => h) (fun u t H1 locs1 ht hvm hp hb _ _ hS1 => e ▸ k H1 locs1 ls (ht ▸ hb.1) (ht ▸ hb.2) hS1 hL)
/-- TERMS_AT_FIRST.clone() -/
theorem y_clone (h : zOK B G cc nL own ws rm) (hBs : zBs B) (hZ : zZ n I J) {i1 i2 i3 : Nat} {pc1 pc2 : Nat} {J' : zJ} (hk : zKW[n]? = some (.inl (0, 3, false))) (hw0 : Cond.fieldLink own i1 "LeftOut" "TERMS_AT_FIRST" "[I" ∈ ws) (hw1 : Cond.methodLink own i2 ⟨"[I", "clone", "()Ljava/lang/Object;"⟩ ∈ ws) (hw2 : Cond.sameMethod "[I" "java/lang/Object" "clone" "()Ljava/lang/Object;" ∈ ws) (hw3 : Cond.native ⟨"java/lang/Object", "clone", "()Ljava/lang/Object;"⟩ ∈ ws) (hw4 : Cond.instanceMethod ⟨"java/lang/Object", "clone", "()Ljava/lang/Object;"⟩ ∈ ws) (hw5 : Cond.selects "[I" ⟨"[I", "clone", "()Ljava/lang/Object;"⟩ ⟨"java/lang/Object", "clone", "()Ljava/lang/Object;"⟩ ∈ ws) (hw6 : Cond.castable "[I" "java/lang/Cloneable" ∈ zNest) (hw7 : Cond.classLink own i3 "[I" ∈ ws) (hR : 1 ≤ rm.frames ∧ (S.map fun v => v.category).sum + 14 ≤ rm.locals) (hcl : c.1 + 1 ≤ rm.cells ∧ c.2 + 3 ≤ rm.slots)
    (hd : decode cc pc = .ok (.getstatic i1, 3)) (e : pc + 3 = pc1) (hd1 : decode cc pc1 = .ok (.invokevirtual i2, 3)) (e1 : pc1 + 3 = pc2) (hd2 : decode cc pc2 = .ok (.checkcast i3, 3)) (e2 : pc2 + 3 = pc') (k : Y B G (n + 1) (fun q => if q = n then zT0 else I q) J (c.1 + 1, c.2 + 3) pc' L (.ref (za B n) :: S)) : Y B G n I J c pc L S := fun H locs ls hH hz hS hL => by
  obtain ⟨t, t1, t2, t3, ce0, c1, c2⟩ := h.2.2.2.2.2.1.2.2.1
  refine va_gets h.1 h.2.1 t1 hS h.2.2.2.1 (h.2.2.2.2.1 _ hw0) (fun _ q => q) hd ?_
  rw [e]
  obtain ⟨ce, b1, b2, b3, b4, b5, b6, b7⟩ := id t2
  obtain ⟨ceO, o1, o2, o3, o4⟩ := t3
  have z1 : ce0 = ce := Option.some.inj (c1.symm.trans b1)
  have z2 : ceO = ce := Option.some.inj (o1.symm.trans b1)
  rw [z1] at c2
  rw [z2] at o2 o3
  have hcellH : H[t]? = some ce := by rw [hS.2.1 t (Array.getElem?_eq_some_iff.mp b1).1 b7]; exact b1
  have hty9 : (zty B.2.2.1)[0]? = some (B.2.2.1 0, .int) := zty_at _ (by decide)
  have hra : G.1.2.2.2.1.vm.findClass "[I" = some (B.2.2.1 0) := (h.2.2.2.2.2.1.1.2 0 _ hty9).2
  have hcls : ce.cls = B.2.2.1 0 := Option.some.inj (o3.symm.trans hra)
  obtain ⟨c0, tc, f1, f2, f3⟩ := Cond.castable_spec (va_Nw.use (A := G.2.1) rfl (h.2.2.2.2.2.1.2.1 _ hw6))
  have hc0 : c0 = ce.cls := Option.some.inj (f1.symm.trans o3)
  rw [hc0] at f3
  obtain ⟨hno, kS, hkS, compS, hkindS⟩ := id b2
  have hq : za B n = H.size := (hBs n).trans hz.symm
  have hnew : ({ cls := ce.cls, slots := ce.slots } : Cell) = vp_cell (B.2.2.1 0) (3, .inl zT0) := by
    rw [vp_cell_i, hcls]
    unfold arrV
    congr 1
    apply Array.ext_getElem?
    intro j
    by_cases hj : j < 3
    · rw [b6 j hj]
      simp [hj]
    · rw [Array.getElem?_eq_none (by omega), Array.getElem?_eq_none (by simp; omega)]
  intro T hT X
  obtain ⟨-, kA, hkA, comp, hkind⟩ := State.isArrayOf_alike X.warmed.alike b2
  obtain ⟨vm', X', st⟩ := X.cloneArray h.1 h.2.2.2.1 (h.2.2.2.2.1 _ hw1) (h.2.2.2.2.1 _ hw2) (h.2.2.2.2.1 _ hw3) (h.2.2.2.2.1 _ hw4) (h.2.2.2.2.1 _ hw5) (a := t) (cell := ce) (by rw [hT]; exact hcellH) (fun k hk => by rw [hk] at o2; cases o2) b3 o3 f2 f3
    (fun i v hv => by
      have hk' : T.vm.classes[ce.cls]? = some kA := hkA
      have hi : i < 3 := by rw [← c2]; exact (Array.getElem?_eq_some_iff.mp hv).1
      have hv2 : v = .int (zT0 i) := Option.some.inj (hv.symm.trans (b6 i hi))
      subst hv2
      simp [State.fitsSlot, State.slotType?, hk', hkind, fits])
    (g := F0 G.1.2.2.2.2 pc1 ls (.ref t :: S)) rfl hL.1 rfl (by rw [h.2.1]; exact hd1) (by rw [h.2.2.2.2.2.2.1]; exact hR.1) (by rw [h.2.2.2.2.2.2.1]; show 2 * 0 + _ + 14 ≤ _; omega) (by rw [h.2.2.2.2.2.2.1]; exact hcl.1) (by rw [c2, h.2.2.2.2.2.2.1]; exact hcl.2) (hloader := Vm.clonesLoader_of_array hkS hkindS)
  rw [hnew, c2] at X'
  generalize hH1 : H.push (vp_cell (B.2.2.1 0) (3, .inl zT0)) = H1
  have y1 : H1.size = H.size + 1 := by rw [← hH1, Array.size_push]
  have y2 : H1[H.size]? = some (vp_cell (B.2.2.1 0) (3, .inl zT0)) := by rw [← hH1, Array.getElem?_push_size]
  have y3 : ∀ q : Nat, q < H.size → H1[q]? = H[q]? := fun q hq => by rw [← hH1, Array.getElem?_push, if_neg (Nat.ne_of_lt hq)]
  have hI0 : zws B (zKn n) I J = zws B (zKn n) (fun q => if q = n then zT0 else I q) J := by
    unfold zws
    apply List.ext_getElem?
    intro i
    by_cases hi : i < (zKn n).length
    · have : i ≠ n := by
        have hn : n ≤ 178 := Nat.le_of_lt (zKW_lt hk)
        rw [zKn_len hn] at hi
        omega
      simp [this]
    · rw [List.getElem?_eq_none (by simpa using Nat.not_lt.mp hi), List.getElem?_eq_none (by simpa using Nat.not_lt.mp hi)]
  have hH0 : zH B (zKn n) (fun q => if q = n then zT0 else I q) J H := by
    unfold zH
    rw [← hI0]
    exact hH
  obtain ⟨g1, g2, g3⟩ := y_push (H1 := H1) hBs h.2.2.2.2.2.2.2 hH0 hz hS hk (by
    show H1[za B n]? = some (vp_cell _ (3, .inl (if n = n then zT0 else I n)))
    rw [if_pos rfl, hq]
    exact y2) y1 y3
  have hKn1 : (zKn (n + 1))[n]? = some (.inl (0, 3, false)) := by
    rw [zKn_succ hk, List.getElem?_append_right (by rw [zKn_len (Nat.le_of_lt (zKW_lt hk))]; exact Nat.le_refl _), zKn_len (Nat.le_of_lt (zKW_lt hk)), Nat.sub_self]
    rfl
  have kk := va_castA (nm := "[I") h.1 h.2.1 h.2.2.2.1 (h.2.2.2.2.1 _ hw7) g1.1 n (zws_at hKn1) hra hd2 (e2 ▸ k H1 locs ls g1 g2 g3 hL)
  obtain ⟨tt, a1, a2⟩ := kk ((T.setVm vm').pushCell (vp_cell (B.2.2.1 0) (3, .inl zT0))) (by rw [← hH1, ← hT]; rfl) X'
  refine ⟨tt, st tt ?_, a2⟩
  rw [hnew, hT, ← hq, show (F0 G.1.2.2.2.2 pc1 ls (.ref t :: S)).pc + 3 = pc2 from e1]
  exact a1
end YR
theorem vr_outer (c : ClassId) (N h0 : Nat) : ∀ i : Nat, Jvm.Free.Multi.outerC c N h0 i = arrV c N (fun j => va_rf (if j < i then some (h0 + 1 + j) else none))
  | 0 => by
    show ({ cls := c, slots := Array.replicate N .null, vm := .none } : Cell) = _
    rw [arrV_new]
    refine congrArg (arrV c N) (funext fun j => ?_)
    simp [va_rf]
  | i + 1 => by
    show (Jvm.Free.Multi.outerC c N h0 i).setSlot i (.ref (h0 + 1 + i)) = _
    rw [vr_outer c N h0 i, arrV_store]
    refine congrArg (arrV c N) (funext fun j => ?_)
    by_cases e : j = i
    · subst e
      simp [updV, va_rf]
    · by_cases h : j < i
      · simp [updV, e, h, Nat.lt_succ_of_lt h]
      · simp [updV, e, h, show ¬ j < i + 1 by omega]
theorem zws_D {B : zB} {K : List zk} {I : zM} {J : zJ} (hBs : zBs B) : va_D (zA B) (zws B K I J) := by
  have key : ∀ (i : Nat) (p : Nat × va_E), (zws B K I J)[i]? = some p → p.1 = B.2.2.2.2 + i := by
    intro i p hp
    unfold zws at hp
    rw [List.getElem?_mapIdx] at hp
    cases hk : K[i]? with
    | none => rw [hk] at hp; cases hp
    | some k =>
      rw [hk] at hp
      cases hp
      exact hBs i
  refine ⟨fun i j p q hi hj hpq => ?_, fun k q hq => ?_⟩
  · have h1 := key i p hi
    have h2 := key j q hj
    omega
  · show B.2.2.2.2 ≤ q.1
    rw [key k q hq]
    omega
section YM
variable {B : zB} {G : zG} {cc : ByteArray} {nL : Nat} {own : String} {ws : List Cond} {rm : Room} {n : Nat} {I : zM} {J : zJ} {c : Nat × Nat} {pc pc' : Nat} {L : List (Nat × Value)} {S : List Value}
theorem y_mna (h : zOK B G cc nL own ws rm) (hBs : zBs B) (hZ : zZ n I J) {index : Nat} (hw1 : Cond.classLink own index "[[I" ∈ ws) (hw2 : Cond.arrayOver (.array .int) ∈ zNest) (hw3 : Cond.arrayClass .int ∈ ws) (hk0 : zKW[n]? = some (.inl (8, 2, true))) (hk1 : zKW[n + 1]? = some (.inl (0, 6, false))) (hk2 : zKW[n + 2]? = some (.inl (0, 6, false))) (hcl : c.1 + 3 ≤ rm.cells ∧ c.2 + 14 ≤ rm.slots) (hd : decode cc pc = .ok (.multianewarray index 2, 4)) (e : pc + 4 = pc') (k : Y B G (n + 3) I (zuJ (zuJ J n 0 (some (n + 1))) n 1 (some (n + 2))) (c.1 + 3, c.2 + 14) pc' L (.ref (za B n) :: S)) : Y B G n I J c pc L (.int 6 :: .int 2 :: S) := fun H locs ls hH hz hS hL => by
  intro T hT X
  obtain ⟨vm₁, cA, comp, -, fA, fC, hO, -, X', step⟩ := X.multianewarray2F (ty := .int) h.1 h.2.2.2.1 (h.2.2.2.2.1 _ hw1) (h.2.2.2.2.2.1.2.1 _ hw2) (h.2.2.2.2.1 _ hw3) (g := F0 G.1.2.2.2.2 pc ls (.int 6 :: .int 2 :: S)) rfl (by rw [h.2.1]; exact hd) (n := 2) (k := 6) rfl (by decide) (by decide) (by decide) (by decide) (by decide) rfl rfl (by rw [h.2.2.2.2.2.2.1]; exact hcl.1) (by rw [h.2.2.2.2.2.2.1]; exact hcl.2)
  have n2 : (2 : Int32).toNatClampNeg = 2 := by decide
  have n6 : (6 : Int32).toNatClampNeg = 6 := by decide
  rw [n2, n6] at X' step
  have hty8 : (zty B.2.2.1)[8]? = some (B.2.2.1 8, .array .int) := zty_at _ (by decide)
  have hty0 : (zty B.2.2.1)[0]? = some (B.2.2.1 0, .int) := zty_at _ (by decide)
  have hcA : cA = B.2.2.1 8 := Option.some.inj (fA.symm.trans (h.2.2.2.2.2.1.1.2 8 _ hty8).2)
  have hcm : comp = B.2.2.1 0 := Option.some.inj (fC.symm.trans (h.2.2.2.2.2.1.1.2 0 _ hty0).2)
  subst hcA
  subst hcm
  generalize hF : Jvm.Free.Multi.fill (T.setVm vm₁) (B.2.2.1 8) (B.2.2.1 0) 2 6 (defaultValue .int) 2 = F at X' step
  have hTh : (T.setVm vm₁).heap = H := hT
  obtain ⟨f1, f2, -, -⟩ := Jvm.Free.Multi.fill_facts (T.setVm vm₁) (B.2.2.1 8) (B.2.2.1 0) 2 6 (defaultValue .int) 2
  rw [hF, hTh] at f1 f2
  have hold : ∀ x : Nat, x < H.size → F.heap[x]? = H[x]? := fun x hx => by
    have := Jvm.Free.Multi.fill_old (T.setVm vm₁) (B.2.2.1 8) (B.2.2.1 0) 2 6 (defaultValue .int) (a := x) (by rw [hTh]; exact hx) 2
    rw [hF, hTh] at this
    exact this
  have hrow : ∀ j : Nat, j < 2 → F.heap[H.size + 1 + j]? = some (vp_cell (B.2.2.1 0) (6, .inl (fun _ => 0))) := fun j hj => by
    have := Jvm.Free.Multi.fill_inner (T.setVm vm₁) (B.2.2.1 8) (B.2.2.1 0) 2 6 (defaultValue .int) 2 j hj
    rw [hF, hTh] at this
    rw [this, vp_cell_i]
    show some ({ cls := B.2.2.1 0, slots := Array.replicate 6 (.int 0), vm := .none } : Cell) = _
    rw [arrV_new]
  have hq : za B n = H.size := (hBs n).trans hz.symm
  have hq1 : za B (n + 1) = H.size + 1 + 0 := by rw [hBs]; omega
  have hq2 : za B (n + 2) = H.size + 1 + 1 := by rw [hBs]; omega
  generalize hJ' : zuJ (zuJ J n 0 (some (n + 1))) n 1 (some (n + 2)) = J' at k
  have hJn : J' n = fun j => if j = 1 then some (n + 2) else if j = 0 then some (n + 1) else none := by
    rw [← hJ']
    funext j
    simp [zuJ, (hZ n (Nat.le_refl _)).2]
  have hJo : ∀ q, q ≠ n → J' q = J q := fun q hq => by
    rw [← hJ']
    funext j
    simp [zuJ, hq]
  have hw : zws B (zKn n) I J' = zws B (zKn n) I J := by
    unfold zws
    apply List.ext_getElem?
    intro i
    by_cases hi : i < (zKn n).length
    · have : i ≠ n := by
        have hn : n ≤ 178 := Nat.le_of_lt (zKW_lt hk0)
        rw [zKn_len hn] at hi
        omega
      simp [hJo i this]
    · rw [List.getElem?_eq_none (by simpa using Nat.not_lt.mp hi), List.getElem?_eq_none (by simpa using Nat.not_lt.mp hi)]
  have one : ∀ {x : Nat × va_E} {HH : Heap}, va_at B.2.1 vwCl x HH → va_P B.2.1 vwCl [x] HH := fun {x HH} hx j y hy => by
    have hz : j < 1 := (List.getElem?_eq_some_iff.mp hy).1
    rw [show j = 0 by omega] at hy
    cases hy
    exact hx
  have hP0 : va_P B.2.1 vwCl (zws B (zKn n) I J') F.heap := by
    rw [hw]
    exact hH.1.kept (fun k9 x hx => hold x.1 ((hH.1 k9 x hx).lt))
  have hP1 := hP0.app (one (x := (za B n, zce B (I n) (J' n) (.inl (8, 2, true)))) (by
    show F.heap[za B n]? = some (vp_cell _ _)
    rw [hq, f2, vr_outer, vp_cell_q]
    congr 2
    funext j
    rw [hJn]
    match j with
    | 0 =>
      show va_rf (some (H.size + 1 + 0)) = va_rf (some (za B (n + 1)))
      rw [hq1]
    | 1 =>
      show va_rf (some (H.size + 1 + 1)) = va_rf (some (za B (n + 2)))
      rw [hq2]
    | j + 2 =>
      rw [if_neg (by omega)]
      simp))
  have hP2 := hP1.app (one (x := (za B (n + 1), zce B (I (n + 1)) (J' (n + 1)) (.inl (0, 6, false)))) (by
    show F.heap[za B (n + 1)]? = some (vp_cell _ (6, .inl (I (n + 1))))
    rw [hq1, (hZ (n + 1) (by omega)).1]
    exact hrow 0 (by decide)))
  have hP3 := hP2.app (one (x := (za B (n + 2), zce B (I (n + 2)) (J' (n + 2)) (.inl (0, 6, false)))) (by
    show F.heap[za B (n + 2)]? = some (vp_cell _ (6, .inl (I (n + 2))))
    rw [hq2, (hZ (n + 2) (by omega)).1]
    exact hrow 1 (by decide)))
  rw [← zws_push hk0, ← zws_push hk1, ← zws_push hk2] at hP3
  obtain ⟨tt, a1, a2⟩ := k F.heap locs ls ⟨hP3, zws_D hBs⟩ (by rw [f1]; omega) ⟨Nat.le_trans hS.1 (by rw [f1]; omega), fun x h1 h2 => (hold x (Nat.lt_of_lt_of_le h1 hS.1)).trans (hS.2.1 x h1 h2), hS.2.2⟩ hL F rfl X'
  refine ⟨tt, step tt ?_, a2⟩
  rw [hT, ← hq]
  subst e
  exact a1
end YM
/-! a text's length, in a world that grows -/
def zPcx (B : zB) (n : Nat) (I : zM) (J : zJ) (av : List Value) (xs : List (Nat × Nat × Bool)) : Array Value → State → Prop := fun v U => zPc B n I J av v U ∧ zXs B xs U U.heap
def zQci (B : zB) (n : Nat) (I : zM) (J : zJ) (r : Int32) : Array Value → State → Outcome → State → Prop := va_Qi (fun r2 (_ : Unit) => r2 = r) (fun _ t => zH B (zKn n) I J t.heap ∧ t.heap.size = B.2.2.2.2 + n) (zA B)
section YX
variable {B : zB} {G : zG} {cc : ByteArray} {nL : Nat} {own : String} {ws Ts : List Cond} {rm rmc : Room} {n : Nat} {I : zM} {J : zJ} {c : Nat × Nat} {pc pc' : Nat} {L : List (Nat × Value)} {S rest : List Value}
variable {y : MethodName} {bytes : ByteArray} {maxL m index : Nat} {ret : Option FieldType} {C : String} {w a : Nat}
theorem y_startx {ws' : List Cond} {av : List Value} {xs : List (Nat × Nat × Bool)} {Qc : Array Value → State → Outcome → State → Prop} (hown : y.cls = own) (hy : plainName y.cls = true) (hw : ws = Cond.code y cc nL ret :: ws') (hn : (lg_sl av).length ≤ nL) (hL : lv_args 0 av = L)
    (k : ∀ G : zG, zOK B G cc nL own ws rm → zE B G ret Qc → zXs B xs G.1.2.2.2.1 G.1.2.2.2.1.heap → Y B G n I J (0, 0) 0 L []) : Met B.1 y ws rm (zPcx B n I J av xs) Qc 0 0 (zA B) := by
  subst hown
  refine Met.ofW (cc := cc) (maxL := nL) (ret := ret) hy hw ?_
  intro p e s m args below meth c s₁ Bd hml hv
  obtain ⟨⟨⟨rfl, hH, hK, hs⟩, hz⟩, hxs⟩ := hv
  have hts := atoms_spec (ws := ws) Bd.pre
  have hl := lv_entry av (n := nL) hn
  rw [lg_entry_eq]
  rw [hL] at hl
  exact k ((p, e, rm, s, m), (av.toArray, below, meth, c, MQ below Qc av.toArray s 0 0 (zA B))) ⟨Bd.exec, Bd.bytes, hml, findClass_of_methodNamed Bd.named, hts, hK, rfl, hs⟩ ⟨Bd.returns, Bd.notSynchronized, rfl⟩ hxs s.heap [] _ hH hz va_S.rf (by rw [show c.maxLocals = nL from hml]; exact hl)
theorem y_iret {x : Int32} (h : zOK B G cc nL own ws rm) {r : Int32} (hr : zE B G (some .int) (zQci B n I J r)) (hd : decode cc pc = .ok (.ireturn, 1)) (hx : x = r) : Y B G n I J (0, 0) pc L [.int x] := fun H locs ls hH hz hS hL => by
  unfold zW
  rw [hr.2.2]
  exact W.iret (v := x) h.1 h.2.1 hr.1 (fun t ht hW => ⟨⟨x, (), rfl, hx, by show zH B (zKn n) I J t.heap ∧ _; rw [ht]; exact ⟨hH, hz⟩⟩, hS.F ht⟩) hS.2.2 hd hr.2.1
theorem y_bret {x : Int32} (h : zOK B G cc nL own ws rm) {r : Int32} (hr : zE B G (some .byte) (zQci B n I J r)) (hd : decode cc pc = .ok (.ireturn, 1)) (hb : narrow .byte (.int x) = .int x) (hx : x = r) : Y B G n I J (0, 0) pc L [.int x] := fun H locs ls hH hz hS hL => by
  unfold zW
  rw [hr.2.2]
  exact W.zret (v := x) (ty := .byte) h.1 h.2.1 hr.1 hb (fun t ht hW => ⟨⟨x, (), rfl, hx, by show zH B (zKn n) I J t.heap ∧ _; rw [ht]; exact ⟨hH, hz⟩⟩, hS.F ht⟩) hS.2.2 hd hr.2.1
theorem y_getSc (h : zOK B G cc nL own ws rm) (hs : zSt B w a G.1.2.2.2.1 G.1.2.2.2.1.heap) (hw : Cond.fieldLink own index "java/lang/String" "coder" "B" ∈ ws) (hd : decode cc pc = .ok (.getfield index, 3)) (e : pc + 3 = pc') (k : Y B G n I J c pc' L (.int 0 :: S)) : Y B G n I J c pc L (.ref a :: S) := fun H locs ls hH hz hS hL => vk_getf h.1 h.2.1 hs.2.1 hS h.2.2.2.1 (h.2.2.2.2.1 _ hw) (fun _ q => q) hd (e ▸ k H locs ls hH hz hS hL)
theorem y_getSv (h : zOK B G cc nL own ws rm) (hs : zSt B w a G.1.2.2.2.1 G.1.2.2.2.1.heap) (hw : Cond.fieldLink own index "java/lang/String" "value" "[B" ∈ ws) (hd : decode cc pc = .ok (.getfield index, 3)) (e : pc + 3 = pc') (k : ∀ v, zBy B w v G.1.2.2.2.1 G.1.2.2.2.1.heap → Y B G n I J c pc' L (.ref v :: S)) : Y B G n I J c pc L (.ref a :: S) := fun H locs ls hH hz hS hL => by
  obtain ⟨h1, h2, v, h3, h4⟩ := hs
  exact vk_getf h.1 h.2.1 h3 hS h.2.2.2.1 (h.2.2.2.2.1 _ hw) (fun _ q => q) hd (e ▸ k v h4 H locs ls hH hz hS hL)
theorem y_getsC (h : zOK B G cc nL own ws rm) (hw : Cond.fieldLink own index "java/lang/String" "COMPACT_STRINGS" "Z" ∈ ws) (hd : decode cc pc = .ok (.getstatic index, 3)) (e : pc + 3 = pc') (k : Y B G n I J c pc' L (.int 1 :: S)) : Y B G n I J c pc L S := fun H locs ls hH hz hS hL => va_gets h.1 h.2.1 h.2.2.2.2.2.1.2.2.2.2.2.1 hS h.2.2.2.1 (h.2.2.2.2.1 _ hw) (fun _ q => q) hd (e ▸ k H locs ls hH hz hS hL)
theorem y_bylen (h : zOK B G cc nL own ws rm) {v : Nat} (hb : zBy B w v G.1.2.2.2.1 G.1.2.2.2.1.heap) (hd : decode cc pc = .ok (.arraylength, 1)) (e : pc + 1 = pc') (k : Y B G n I J c pc' L (.int (nI (zlen.getD w 0)) :: S)) : Y B G n I J c pc L (.ref v :: S) := fun H locs ls hH hz hS hL => va_tlen h.1 h.2.1 hb hS rfl hd (e ▸ k H locs ls hH hz hS hL)
theorem y_ldcS (h : zOK B G cc nL own ws rm) (ho : own = "LeftOut$Order" ∧ index = 9) (hd : decode cc pc = .ok (.ldc index, 2)) (e : pc + 2 = pc') (k : ∀ a, zSt B 0 a G.1.2.2.2.1 G.1.2.2.2.1.heap → Y B G n I J c pc' L (.ref a :: S)) : Y B G n I J c pc L S := fun H locs ls hH hz hS hL => by
  obtain ⟨adK, adV, ⟨r0, r1, r2⟩, hv⟩ := h.2.2.2.2.2.1.2.2.2.2.2.2
  obtain ⟨o1, o2⟩ := ho
  subst o1; subst o2
  exact va_ldcS h.1 h.2.1 h.2.2.2.1 r0 hd (e ▸ k _ ⟨(hv.1 0 (by decide)).1, (hv.1 0 (by decide)).2.1, adV 0, (hv.1 0 (by decide)).2.2.1, (hv.1 0 (by decide)).2.2.2⟩ H locs ls hH hz hS hL)
theorem y_runVx (h : zOK B G cc nL own Ts rm) {r : Int32} (rest : List Value) (hy : zY y ws bytes maxL ret 0) (hM : Met B.1 y ws rmc (zPcx B n I J [.ref a] [(w, a, true)]) (zQci B n I J r) 0 0 (zA B)) (hs : zSt B w a G.1.2.2.2.1 G.1.2.2.2.1.heap) (hG : GoodIn Ts (wsV own index C y ws)) (hC : y.cls = C) (hC2 : C = "java/lang/String") (hR : zRm rmc rm maxL) (hcat : (rest.map fun v => v.category).sum ≤ 8) (hcl : c.1 ≤ rm.cells ∧ c.2 ≤ rm.slots) (hS0 : S = .ref a :: rest) (hd : decode cc pc = .ok (.invokevirtual index, 3)) (e : pc + 3 = pc') (k : Y B G n I J c pc' L (.int r :: rest)) : Y B G n I J c pc L S := fun H locs ls hH hz hS hL => by
  obtain ⟨⟨ws', hw⟩, hy1, hy2, hy3⟩ := hy
  obtain ⟨hx, hb, hml, hown, hts, hkk, hrm, hs0⟩ := id h
  subst hC2
  have blind : FrameBlind (zPcx B n I J [.ref a] [(w, a, true)]) := fun a U g mk q => ⟨zPc_blind a U g mk q.1, (zPx_blind (K := zKn n) a U g mk ⟨q.1.1, q.2⟩).2⟩
  refine va_calli (va_runV (As := []) (rest := rest) ⟨hx, hb, hml, hown, hts⟩ hM (cwV 0 hts hG hw hR.1 hR.2.1 ⟨hC, hy1, hy2, hy3⟩ (by rw [hrm]; exact ⟨hR.2.2.1, hR.2.2.2⟩)) ⟨blind, by
    obtain ⟨cell, h1, h2, h3, -⟩ := hs.1.kept hS.2.1
    exact ⟨cell, h1, h2, h3⟩, fun U hU hW => ⟨zPc_pre h hH hz hS _ U hU hW, (zPx_pre h (zXs_s hs) hH hS [.ref a] U hU hW).2⟩⟩ rfl rfl (by rw [← hml]; exact hL.1) hS0 (lv_room hcat) hd (by rw [hrm]; exact hcl)) hS (fun _ _ h => h) (fun _ h => h) (fun r2 u t H1 locs1 ht hvm hp hb _ _ hS1 => ?_)
  rw [hp]
  exact e ▸ k H1 locs1 ls (ht ▸ hb.1) (ht ▸ hb.2) hS1 hL
end YX
/-! what is not written yet stays so -/
theorem zZ_zu {n p k : Nat} {I : zM} {J : zJ} {x : Int32} (h : zZ n I J) (hp : p < n) : zZ n (zu I p k x) J := fun q hq => ⟨by
  have : q ≠ p := by omega
  funext j
  simp [zu, this, (h q hq).1], (h q hq).2⟩
theorem zZ_zuJ {n p k : Nat} {I : zM} {J : zJ} {x : Option Nat} (h : zZ n I J) (hp : p < n) : zZ n I (zuJ J p k x) := fun q hq => ⟨(h q hq).1, by
  have : q ≠ p := by omega
  funext j
  simp [zuJ, this, (h q hq).2]⟩
theorem zZ_up {n m : Nat} {I : zM} {J : zJ} (h : zZ n I J) (hm : n ≤ m) : zZ m I J := fun q hq => h q (Nat.le_trans hm hq)
theorem zZ_cl {n : Nat} {I : zM} {J : zJ} (h : zZ n I J) : zZ (n + 1) (fun q => if q = n then zT0 else I q) J := fun q hq => ⟨by
  have : q ≠ n := by omega
  simp only [if_neg this]
  exact (h q (by omega)).1, (h q (by omega)).2⟩
