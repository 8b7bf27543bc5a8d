/-! ===== write ===== -/
theorem zbt_l {Y : Int64} {i : Nat} (hi : i < 32) : zbt (Int64.toInt32 Y) i ↔ Y.toBitVec.getLsbD i = true := by
  unfold zbt
  show (Y.toBitVec.signExtend 32).getLsbD i = true ↔ _
  rw [BitVec.getLsbD_signExtend]
  simp [hi, show i < 64 by omega]
theorem b255 : ∀ i, i < 32 → ((255 : Int64).toBitVec.getLsbD i = (255 : Int32).toBitVec.getLsbD i) := by decide +kernel
theorem wr_and (X : Int64) : Int64.toInt32 (X &&& 255) = Int64.toInt32 X &&& 255 := by
  apply zbt_ext
  intro i hi
  rw [zbt_l hi, zbt_and, zbt_l hi, Int64.toBitVec_and, BitVec.getLsbD_and, Bool.and_eq_true, b255 i hi]
  exact Iff.rfl
theorem wr_byte (X : Int64) : ∃ j, j < 256 ∧ Int64.toInt32 X &&& 255 = nI j ∧ (Int32.toUInt32 (Int64.toInt32 (X &&& 255)) % 65536).toInt32 = nI j := by
  have k := pk_and (Int64.toInt32 X) (m := 255) 8 (by decide +kernel)
  have hj := Nat.mod_lt (Int64.toInt32 X).toBitVec.toNat (show 0 < 2 ^ 8 by decide)
  refine ⟨(Int64.toInt32 X).toBitVec.toNat % 2 ^ 8, hj, k, ?_⟩
  rw [wr_and, k, pk_char, pk_tn (by omega), Nat.mod_eq_of_lt (by omega)]
/-- the byte that is written for the k-th from below -/
noncomputable def wB (v : Int64) (k : Nat) : Int32 := Int64.toInt32 (v >>> (Int32.toInt64 ((8 : Int32) * nI k) &&& 63)) &&& 255
theorem wB_rg (v : Int64) (k : Nat) : zrg (wB v k) 0 255 := by
  obtain ⟨j, h1, h2, -⟩ := wr_byte (v >>> (Int32.toInt64 ((8 : Int32) * nI k) &&& 63))
  unfold wB
  rw [h2]
  exact zrg_of (by omega) (by omega) (by decide)
def wR (f : Nat → Int32) : Nat → Nat → (Nat → Int32) → Nat → Int32
  | 0, _, R => R
  | k + 1, l, R => wR f k (l + 1) (fun p => if p = l then f k else R p)
theorem wR_eq {f : Nat → Int32} : ∀ k l (A B : Nat → Int32), (∀ p, p < l → A p = B p) → ∀ p, p < l + k → wR f k l A p = wR f k l B p := by
  intro k
  induction k with
  | zero => intro l A B h p hp; exact h p (by omega)
  | succ k ih =>
    intro l A B h p hp
    refine ih (l + 1) _ _ (fun x hx => ?_) p (by omega)
    show (if x = l then f k else A x) = (if x = l then f k else B x)
    by_cases e : x = l
    · rw [if_pos e, if_pos e]
    · rw [if_neg e, if_neg e]
      exact h x (by omega)
theorem wR_rg {f : Nat → Int32} (hf : ∀ k, zrg (f k) 0 255) : ∀ k l (A : Nat → Int32), (∀ p, p < l → zrg (A p) 0 255) → ∀ p, p < l + k → zrg (wR f k l A p) 0 255 := by
  intro k
  induction k with
  | zero => intro l A h p hp; exact h p (by omega)
  | succ k ih =>
    intro l A h p hp
    refine ih (l + 1) _ (fun x hx => ?_) p (by omega)
    show zrg (if x = l then f k else A x) 0 255
    by_cases e : x = l
    · rw [if_pos e]
      exact hf k
    · rw [if_neg e]
      exact h x (by omega)
theorem zu_fun (I : zM) (p k : Nat) (x : Int32) : zu I p k x p = fun j => if j = k then x else I p j := by
  funext j
  exact zu_at I p k x j
theorem l_ap (J : zJ) (v1 : Int32) (v : Int64) : ∀ k l fuel (I : zM), l + k ≤ 24 → k < fuel → I 16 1 = nI l → ∃ y I', f_X9_append_5 J v1 v fuel (nI k - 1) I = some (.inr (y, I')) ∧ I' 16 1 = nI (l + k) ∧ I' 17 = wR (wB v) k l (I 17) ∧ ∀ p, p ≠ 16 → p ≠ 17 → I' p = I p := by
  intro k
  induction k with
  | zero =>
    intro l fuel I hk hf h1
    obtain ⟨n, rfl⟩ : ∃ n, fuel = n + 1 := ⟨fuel - 1, by omega⟩
    refine ⟨nI 0 - 1, I, ?_, h1, rfl, fun _ _ _ => rfl⟩
    unfold f_X9_append_5
    rw [if_pos nI_m1_neg]
  | succ k ih =>
    intro l fuel I hk hf h1
    obtain ⟨n, rfl⟩ : ∃ n, fuel = n + 1 := ⟨fuel - 1, by omega⟩
    have hn : ¬ nI k < 0 := nI_pos (by omega)
    have h24 : ¬ (24 : Int32) ≤ nI l := nI_ge (b := 24) (by omega) (by decide)
    have z0 : zin (nI (l)) 24 = true := zin_nI (by omega) (by decide)
    have c0 : Int32.toNatClampNeg (nI (l)) = l := nI_clamp (by omega)
    obtain ⟨j, j1, j2, j3⟩ := wr_byte (v >>> (Int32.toInt64 ((8 : Int32) * nI k) &&& 63))
    have nar := pk_vc (Int64.toInt32 ((v >>> (Int32.toInt64 ((8 : Int32) * nI k) &&& 63)) &&& 255))
    have z16 : ∀ x, (zu I 17 l x) 16 1 = nI l := fun x => by rw [zu_row (by decide)]; exact h1
    obtain ⟨y, I', e, f1, f2, f3⟩ := ih (l + 1) n (zu (zu I 17 l (wB v k)) 16 1 (nI (l + 1))) (by omega) (by omega) (by rw [zu_at, if_pos rfl])
    refine ⟨y, I', ?_, by rw [f1, show l + 1 + k = l + (k + 1) by omega], ?_, fun p p1 p2 => (f3 p p1 p2).trans ((zu_row p1).trans (zu_row p2))⟩
    · have jb : nI j = wB v k := j2.symm
      unfold f_X9_append_5
      rw [nI_pred, if_neg hn, h1, if_neg h24, if_pos z0, if_pos nar, j3, jb, c0, z16, q_a1, nI_dn]
      exact e
    · rw [f2, zu_row (show 17 ≠ 16 by decide), zu_fun]
      rfl
theorem t_wrt (J : zJ) (v1 : Int32) (v : Int64) : ∀ k l fuel (I : zM), l + k ≤ 24 → k < fuel → I 147 12 = nI l → ∃ y I', f_X12_write_39 J v1 v fuel (nI k - 1) I = some (.inr (y, I')) ∧ I' 147 12 = nI (l + k) ∧ I' 154 = wR (wB v) k l (I 154) ∧ (∀ p, p ≠ 147 → p ≠ 154 → I' p = I p) ∧ ∀ x, x ≠ 12 → I' 147 x = I 147 x := by
  intro k
  induction k with
  | zero =>
    intro l fuel I hk hf h1
    obtain ⟨n, rfl⟩ : ∃ n, fuel = n + 1 := ⟨fuel - 1, by omega⟩
    refine ⟨nI 0 - 1, I, ?_, h1, rfl, fun _ _ _ => rfl, fun _ _ => rfl⟩
    unfold f_X12_write_39
    rw [if_pos nI_m1_neg]
  | succ k ih =>
    intro l fuel I hk hf h1
    obtain ⟨n, rfl⟩ : ∃ n, fuel = n + 1 := ⟨fuel - 1, by omega⟩
    have hn : ¬ nI k < 0 := nI_pos (by omega)
    have z0 : zin (nI (l)) 24 = true := zin_nI (by omega) (by decide)
    have c0 : Int32.toNatClampNeg (nI (l)) = l := nI_clamp (by omega)
    have z16 : ∀ x, (zu I 154 l x) 147 12 = nI l := fun x => by rw [zu_row (by decide)]; exact h1
    obtain ⟨y, I', e, f1, f2, f3, f4⟩ := ih (l + 1) n (zu (zu I 154 l (wB v k)) 147 12 (nI (l + 1))) (by omega) (by omega) (by rw [zu_at, if_pos rfl])
    refine ⟨y, I', ?_, by rw [f1, show l + 1 + k = l + (k + 1) by omega], ?_, fun p p1 p2 => (f3 p p1 p2).trans ((zu_row p1).trans (zu_row p2)), fun x hx => (f4 x hx).trans ((zu_offk hx _ _ _).trans (by rw [zu_row (by decide)]))⟩
    · unfold f_X12_write_39
      rw [nI_pred, if_neg hn, h1, if_pos z0, c0, z16, q_a1, nI_dn]
      exact e
    · rw [f2, zu_row (show 154 ≠ 147 by decide), zu_fun]
      rfl
/-- the invariant behind a call that writes the text alone -/
theorem zInv_txt {n : Nat} {I I' : zM} {J : zJ} (hv : zInv n I J) (h : ∀ p, p ≠ 16 → p ≠ 17 → p ≠ 147 → p ≠ 154 → I' p = I p) (h7 : ∀ k, k ≠ 0 → k ≠ 12 → I' 147 k = I 147 k) (ht : qTxt I') : zInv (n + 1) I' J := zInv_mk hv.jok hv.jin (qGap_cg (fun p _ _ => h p (by omega) (by omega) (by omega) (by omega)) (fun p _ _ => h p (by omega) (by omega) (by omega) (by omega)) hv.gap) (qTm_cg (fun p _ _ => h p (by omega) (by omega) (by omega) (by omega)) (h7 8 (by decide) (by decide)) (h7 9 (by decide) (by decide)) (h7 10 (by decide) (by decide)) hv.tm) (qDoi_cg (fun p _ _ => h p (by omega) (by omega) (by omega) (by omega)) (fun p _ _ => h p (by omega) (by omega) (by omega) (by omega)) (h7 6 (by decide) (by decide)) hv.doi) (qKep_cg (fun p _ _ => h p (by omega) (by omega) (by omega) (by omega)) (fun p _ _ => h p (by omega) (by omega) (by omega) (by omega)) (fun j _ => by rw [h 166 (by omega) (by omega) (by omega) (by omega)]) (fun j _ => by rw [h 167 (by omega) (by omega) (by omega) (by omega)]) (fun j _ => by rw [h 168 (by omega) (by omega) (by omega) (by omega)]) (fun p _ _ => h p (by omega) (by omega) (by omega) (by omega)) hv.kep) ht (qRul_cg hv.jok (fun p _ _ => h p (by omega) (by omega) (by omega) (by omega)) (fun p _ _ => h p (by omega) (by omega) (by omega) (by omega)) (h7 15 (by decide) (by decide)) hv.rul) (qOrd_cg (fun p _ _ => h p (by omega) (by omega) (by omega) (by omega)) (fun j _ => by rw [h 157 (by omega) (by omega) (by omega) (by omega)]) (fun j _ => by rw [h 158 (by omega) (by omega) (by omega) (by omega)]) hv.ord) (qBar_cg (fun p _ _ => h p (by omega) (by omega) (by omega) (by omega)) (fun p _ _ => h p (by omega) (by omega) (by omega) (by omega)) (fun p _ _ => h p (by omega) (by omega) (by omega) (by omega)) (h7 25 (by decide) (by decide)) hv.bar) (qLaw_cg (by rw [h 39 (by omega) (by omega) (by omega) (by omega)]) (h7 32 (by decide) (by decide)) hv.law) (qStp_cg (h7 39 (by decide) (by decide)) (fun p _ _ => h p (by omega) (by omega) (by omega) (by omega)) hv.stp)
theorem q_write : zS_write zInv := by
  intro n I J v1 v2 hn hv
  obtain ⟨l, hl, t1, t2, t3⟩ := hv.txt
  by_cases h1 : zrg v1 1 8
  case neg =>
    refine ⟨-2, I, zu I 147 0 0, ?_, ?_, zInv_thrown hv⟩
    · unfold f_X11_write
      by_cases a : v1 < 1
      · rw [if_pos a]
      · rw [if_neg a, if_neg (fun b : v1 ≤ 8 => h1 (by
          simp only [zrg, Int32.lt_iff_toInt_lt, Int32.le_iff_toInt_le, tl_0, tl_1, tl_2, tl_3, tl_4, tl_5, tl_6, tl_8, tl_9, tl_24, tl_51, tl_60, tl_99, tl_100, tl_46655, tl_46656] at a b ⊢
          omega))]
    · unfold f_X12_write
      rw [l_in_1_8, ← zb_f h1, Option.bind_some, if_pos rfl]
  obtain ⟨k, hk1, hk8, rfl⟩ := zrg_nI h1 (by decide)
  have a1 : ¬ nI k < 1 := nI_nlt (b := 1) hk1 (by omega)
  have a2 : nI k ≤ 8 := nI_le (b := 8) hk8 (by decide)
  by_cases hf : l + k ≤ 24
  case neg =>
    refine ⟨-4, I, zu I 147 0 0, ?_, ?_, zInv_thrown hv⟩
    · unfold f_X11_write
      rw [if_neg a1, if_pos a2, t1, nI_add, if_neg (show ¬ nI (l + k) ≤ 24 from nI_ge (a := 24) (by omega) (by omega))]
    · unfold f_X12_write
      rw [l_in_1_8, ← zb_t h1, Option.bind_some, if_neg i10]
      show (if (zu I 147 0 0) 147 12 + nI k ≤ 24 then _ else _) = _
      rw [zu_offk (by decide), t2, nI_add, if_neg (show ¬ nI (l + k) ≤ 24 from nI_ge (a := 24) (by omega) (by omega))]
  obtain ⟨y, I1, e1, f1, f2, f3⟩ := l_ap J (nI k) v2 k l zF I hf (by unfold zF; omega) t1
  obtain ⟨y2, I2, e2, g1, g2, g3, g4⟩ := t_wrt J (nI k) v2 k l zF (zu I1 147 0 0) hf (by unfold zF; omega) (by rw [zu_offk (by decide), f3 147 (by decide) (by decide)]; exact t2)
  have le : nI (l + k) ≤ 24 := nI_le (b := 24) hf (by decide)
  refine ⟨nI (l + k), I1, I2, ?_, ?_, ?_⟩
  · unfold f_X11_write
    rw [if_neg a1, if_pos a2, t1, nI_add, if_pos le]
    unfold f_X9_append
    rw [e1, Option.bind_some]
    show some (I1 16 1, I1) = _
    rw [f1]
  · unfold f_X12_write
    rw [l_in_1_8, ← zb_t h1, Option.bind_some, if_neg i10]
    show (if (zu I1 147 0 0) 147 12 + nI k ≤ 24 then _ else _) = _
    rw [zu_offk (by decide), f3 147 (by decide) (by decide), t2, nI_add, if_pos le, e2, Option.bind_some]
    show some (I2 147 12, I2) = _
    rw [g1]
  · have r154 : (zu I1 147 0 0) 154 = I 154 := (zu_row (by decide)).trans (f3 154 (by decide) (by decide))
    refine zInv_txt hv (fun p p1 p2 p3 p4 => (g3 p p3 p4).trans ((zu_row p3).trans (f3 p p1 p2))) (fun x h0 h12 => (g4 x h12).trans ((zu_offk h0 _ _ _).trans (by rw [f3 147 (by decide) (by decide)]))) ⟨l + k, hf, ?_, g1, fun p hp => ?_⟩
    · rw [g3 16 (by decide) (by decide), zu_row (by decide)]
      exact f1
    · rw [g3 17 (by decide) (by decide), zu_row (show 17 ≠ 147 by decide), f2, g2, r154]
      exact ⟨wR_eq k l _ _ (fun x hx => (t3 x hx).1) p hp, wR_rg (wB_rg v2) k l _ (fun x hx => (t3 x hx).2) p hp⟩
