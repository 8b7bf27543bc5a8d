theorem z_sld {B : zB} {G : zG} {cc : ByteArray} {nL : Nat} {own : String} {ws : List Cond} {rm : Room} {K : List zk} {I : zM} {J : zJ} {c : Nat × Nat} {pc pc' : Nat} {Lc : List (Nat × Value)} {S : List Value} {b L : Nat} {xs : Nat → Int32} {i : Int32} (h : zOK B G cc nL own ws rm) (hX : va_X b L xs G.1.2.2.2.1 G.1.2.2.2.1.heap) (hbl : b < G.1.2.2.2.1.heap.size) (hbA : ¬ zA B b) (j : Nat) (hi : i = nI j) (hj : j < L) (hL : L < 2 ^ 31) (hd : decode cc pc = .ok (.iaload, 1)) (e : pc + 1 = pc') (k : Z B G K I J c pc' Lc (.int (xs j) :: S)) : Z B G K I J c pc Lc (.int i :: .ref b :: S) := fun H locs ls hH hS hl => va_sld h.1 h.2.1 hX hbl hbA hS (hi ▸ vp_in_nI hj hL) hd (by rw [hi, nI_clamp (by omega)]; exact e ▸ k H locs ls hH hS hl)
theorem z_slen {B : zB} {G : zG} {cc : ByteArray} {nL : Nat} {own : String} {ws : List Cond} {rm : Room} {K : List zk} {I : zM} {J : zJ} {c : Nat × Nat} {pc pc' : Nat} {Lc : List (Nat × Value)} {S : List Value} {b L : Nat} {xs : Nat → Int32} (h : zOK B G cc nL own ws rm) (hX : va_X b L xs G.1.2.2.2.1 G.1.2.2.2.1.heap) (hbl : b < G.1.2.2.2.1.heap.size) (hbA : ¬ zA B b) (hd : decode cc pc = .ok (.arraylength, 1)) (e : pc + 1 = pc') (k : Z B G K I J c pc' Lc (.int (nI L) :: S)) : Z B G K I J c pc Lc (.ref b :: S) := fun H locs ls hH hS hl => va_slen h.1 h.2.1 hX hbl hbA hS hd (e ▸ k H locs ls hH hS hl)
theorem zlaw_le {L i : Nat} (hL : L ≤ 3584) (hi : i < 2 ^ 30) (c : ¬ nI L - 7 < nI i) : i + 7 ≤ L := by
  have h1 : (nI L - nI 7).toInt = (L : Int) - (7 : Nat) := pk_sub_toInt (by omega) (by decide)
  rw [Int32.lt_iff_toInt_lt, nI_toInt (show i < 2 ^ 31 by omega)] at c
  have h2 : (nI L - 7).toInt = (L : Int) - (7 : Nat) := h1
  omega
theorem zlaw_w {w : Int32} (h : 0 ≤ w.toInt ∧ w.toInt ≤ 42) : ∃ q : Nat, q < 43 ∧ w = nI q := by
  refine ⟨w.toInt.toNat, by omega, Int32.toInt_inj.mp ?_⟩
  rw [nI_toInt (by omega)]
  omega
def zS_gap (Inv : Nat → zM → zJ → Prop) : Prop := ∀ (n : Nat) (I : zM) (J : zJ) (v1 : Int32) (v2 : Int32), n < 512 → Inv n I J → ∃ (r : Int32) (I1 : zM) (I2 : zM), f_X11_gap J v1 v2 I = some (r, I1) ∧ f_X12_gap J v1 v2 I1 = some (r, I2) ∧ Inv (n + 1) I2 J
def zS_need (Inv : Nat → zM → zJ → Prop) : Prop := ∀ (n : Nat) (I : zM) (J : zJ) (v1 : Int32) (v2 : Int32), (v2 = 0 ∨ v2 = 1) → n < 512 → Inv n I J → ∃ (r : Int32) (I1 : zM) (I2 : zM), f_X11_need J v1 v2 I = some (r, I1) ∧ f_X12_need J v1 v2 I1 = some (r, I2) ∧ Inv (n + 1) I2 J
def zS_hang (Inv : Nat → zM → zJ → Prop) : Prop := ∀ (n : Nat) (I : zM) (J : zJ) (v1 : Int32) (v2 : Int32) (v3 : Int32), n < 512 → Inv n I J → ∃ (r : Int32) (I1 : zM) (I2 : zM), f_X11_hang J v1 v2 v3 I = some (r, I1) ∧ f_X12_hang J v1 v2 v3 I1 = some (r, I2) ∧ Inv (n + 1) I2 J
def zS_doing (Inv : Nat → zM → zJ → Prop) : Prop := ∀ (n : Nat) (I : zM) (J : zJ) (v1 : Int32) (v2 : Int32) (v3 : Int32) (v4 : Int32) (v5 : Int32) (v6 : Int32), (v6 = 0 ∨ v6 = 1) → n < 512 → Inv n I J → ∃ (r : Int32) (I1 : zM) (I2 : zM), f_X11_doing J v1 v2 v3 v4 v5 v6 I = some (r, I1) ∧ f_X12_doing J v1 v2 v3 v4 v5 v6 I1 = some (r, I2) ∧ Inv (n + 1) I2 J
def zS_undo (Inv : Nat → zM → zJ → Prop) : Prop := ∀ (n : Nat) (I : zM) (J : zJ), n < 512 → Inv n I J → ∃ (r : Int32) (I1 : zM) (I2 : zM), f_X11_undo J  I = some (r, I1) ∧ f_X12_undo J  I1 = some (r, I2) ∧ Inv (n + 1) I2 J
def zS_tell (Inv : Nat → zM → zJ → Prop) : Prop := ∀ (n : Nat) (I : zM) (J : zJ) (v1 : Int32) (v2 : Int32) (v3 : Int32), (v3 = 0 ∨ v3 = 1) → n < 512 → Inv n I J → ∃ (r : Int32) (I1 : zM) (I2 : zM), f_X11_tell J v1 v2 v3 I = some (r, I1) ∧ f_X12_tell J v1 v2 v3 I1 = some (r, I2) ∧ Inv (n + 1) I2 J
def zS_term (Inv : Nat → zM → zJ → Prop) : Prop := ∀ (n : Nat) (I : zM) (J : zJ) (v1 : Int32) (v2 : Int32), n < 512 → Inv n I J → ∃ (r : Int32) (I1 : zM) (I2 : zM), f_X11_term J v1 v2 I = some (r, I1) ∧ f_X12_term J v1 v2 I1 = some (r, I2) ∧ Inv (n + 1) I2 J
def zS_knows (Inv : Nat → zM → zJ → Prop) : Prop := ∀ (n : Nat) (I : zM) (J : zJ) (v1 : Int32) (v2 : Int32), n < 512 → Inv n I J → ∃ (r : Int32) (I1 : zM) (I2 : zM), f_X11_knows J v1 v2 I = some (r, I1) ∧ f_X12_knows J v1 v2 I1 = some (r, I2) ∧ Inv (n + 1) I2 J
def zS_before (Inv : Nat → zM → zJ → Prop) : Prop := ∀ (n : Nat) (I : zM) (J : zJ) (v1 : Int32) (v2 : Int32) (v3 : Int32), n < 512 → Inv n I J → ∃ (r : Int32) (I1 : zM) (I2 : zM), f_X11_before J v1 v2 v3 I = some (r, I1) ∧ f_X12_before J v1 v2 v3 I1 = some (r, I2) ∧ Inv (n + 1) I2 J
def zS_custom (Inv : Nat → zM → zJ → Prop) : Prop := ∀ (n : Nat) (I : zM) (J : zJ) (v1 : Int32) (v2 : Int32), n < 512 → Inv n I J → ∃ (r : Int32) (I1 : zM) (I2 : zM), f_X11_custom J v1 v2 I = some (r, I1) ∧ f_X12_custom J v1 v2 I1 = some (r, I2) ∧ Inv (n + 1) I2 J
def zS_lacks (Inv : Nat → zM → zJ → Prop) : Prop := ∀ (n : Nat) (I : zM) (J : zJ) (v1 : Int32) (v2 : Int32) (v3 : Int32), n < 512 → Inv n I J → ∃ (r : Int32) (I1 : zM) (I2 : zM), f_X11_lacks J v1 v2 v3 I = some (r, I1) ∧ f_X12_lacks J v1 v2 v3 I1 = some (r, I2) ∧ Inv (n + 1) I2 J
def zS_write (Inv : Nat → zM → zJ → Prop) : Prop := ∀ (n : Nat) (I : zM) (J : zJ) (v1 : Int32) (v2 : Int64), n < 512 → Inv n I J → ∃ (r : Int32) (I1 : zM) (I2 : zM), f_X11_write J v1 v2 I = some (r, I1) ∧ f_X12_write J v1 v2 I1 = some (r, I2) ∧ Inv (n + 1) I2 J
def zS_wipe (Inv : Nat → zM → zJ → Prop) : Prop := ∀ (n : Nat) (I : zM) (J : zJ), n < 512 → Inv n I J → ∃ (r : Int32) (I1 : zM) (I2 : zM), f_X11_wipe J  I = some (r, I1) ∧ f_X12_wipe J  I1 = some (r, I2) ∧ Inv (n + 1) I2 J
def zS_fault (Inv : Nat → zM → zJ → Prop) : Prop := ∀ (n : Nat) (I : zM) (J : zJ) (v1 : Int32), n < 512 → Inv n I J → ∃ (r : Int32) (I1 : zM) (I2 : zM), f_X11_fault J v1 I = some (r, I1) ∧ f_X12_fault J v1 I1 = some (r, I2) ∧ Inv (n + 1) I2 J
def zS_rule (Inv : Nat → zM → zJ → Prop) : Prop := ∀ (n : Nat) (I : zM) (J : zJ), n < 512 → Inv n I J → ∃ (r : Int32) (I1 : zM) (I2 : zM), f_X11_rule J  I = some (r, I1) ∧ f_X12_rule J  I1 = some (r, I2) ∧ Inv (n + 1) I2 J
def zS_unrule (Inv : Nat → zM → zJ → Prop) : Prop := ∀ (n : Nat) (I : zM) (J : zJ) (v1 : Int32), n < 512 → Inv n I J → ∃ (r : Int32) (I1 : zM) (J1 : zJ) (I2 : zM), f_X11_unrule J v1 I = some (r, I1, J1) ∧ f_X12_unrule J1 v1 I1 = some (r, I2) ∧ Inv (n + 1) I2 J1
def zS_ruled (Inv : Nat → zM → zJ → Prop) : Prop := ∀ (n : Nat) (I : zM) (J : zJ) (v1 : Int32) (v2 : Int32), n < 512 → Inv n I J → ∃ (r : Int32) (I1 : zM) (I2 : zM), f_X11_ruled J v1 v2 I = some (r, I1) ∧ f_X12_ruled J v1 v2 I1 = some (r, I2) ∧ Inv (n + 1) I2 J
def zS_order (Inv : Nat → zM → zJ → Prop) : Prop := ∀ (n : Nat) (I : zM) (J : zJ) (v1 : Int32), n < 512 → Inv n I J → ∃ (r : Int32) (I1 : zM) (I2 : zM), f_X11_order J v1 I = some (r, I1) ∧ f_X12_order J v1 I1 = some (r, I2) ∧ Inv (n + 1) I2 J
def zS_ordered (Inv : Nat → zM → zJ → Prop) : Prop := ∀ (n : Nat) (I : zM) (J : zJ) (v1 : Int32) (v2 : Int32), n < 512 → Inv n I J → ∃ (r : Int32) (I1 : zM) (I2 : zM), f_X11_ordered J v1 v2 I = some (r, I1) ∧ f_X12_ordered J v1 v2 I1 = some (r, I2) ∧ Inv (n + 1) I2 J
def zS_bargain (Inv : Nat → zM → zJ → Prop) : Prop := ∀ (n : Nat) (I : zM) (J : zJ) (v1 : Int32) (v2 : Int32) (v3 : Int32), n < 512 → Inv n I J → ∃ (r : Int32) (I1 : zM) (I2 : zM), f_X11_bargain J v1 v2 v3 I = some (r, I1) ∧ f_X12_bargain J v1 v2 v3 I1 = some (r, I2) ∧ Inv (n + 1) I2 J
def zS_reword (Inv : Nat → zM → zJ → Prop) : Prop := ∀ (n : Nat) (I : zM) (J : zJ) (v1 : Int32), n < 512 → Inv n I J → ∃ (r : Int32) (I1 : zM) (I2 : zM), f_X11_reword J v1 I = some (r, I1) ∧ f_X12_reword J v1 I1 = some (r, I2) ∧ Inv (n + 1) I2 J
def zS_said (Inv : Nat → zM → zJ → Prop) : Prop := ∀ (n : Nat) (I : zM) (J : zJ) (v1 : Int32) (v2 : Int32), n < 512 → Inv n I J → ∃ (r : Int32) (I1 : zM) (I2 : zM), f_X11_said J v1 v2 I = some (r, I1) ∧ f_X12_said J v1 v2 I1 = some (r, I2) ∧ Inv (n + 1) I2 J
def zS_next (Inv : Nat → zM → zJ → Prop) : Prop := ∀ (n : Nat) (I : zM) (J : zJ) (v1 : Int32) (v2 : Int32) (v3 : Int32), n < 512 → Inv n I J → ∃ (r : Int32) (I1 : zM) (I2 : zM), f_X11_next J v1 v2 v3 I = some (r, I1) ∧ f_X12_next J v1 v2 v3 I1 = some (r, I2) ∧ Inv (n + 1) I2 J
def zS_rounds (Inv : Nat → zM → zJ → Prop) : Prop := ∀ (n : Nat) (I : zM) (J : zJ) (v1 : Int32) (v2 : Int32) (v3 : Int32), (v3 = 0 ∨ v3 = 1) → n < 512 → Inv n I J → ∃ (r : Int32) (I1 : zM) (I2 : zM), f_X11_rounds J v1 v2 v3 I = some (r, I1) ∧ f_X12_rounds J v1 v2 v3 I1 = some (r, I2) ∧ Inv (n + 1) I2 J
def zS_answer (Inv : Nat → zM → zJ → Prop) : Prop := ∀ (n : Nat) (I : zM) (J : zJ) (v1 : Int32) (v2 : Int32), n < 512 → Inv n I J → ∃ (r : Int32) (I1 : zM) (I2 : zM), f_X11_answer J v1 v2 I = some (r, I1) ∧ f_X12_answer J v1 v2 I1 = some (r, I2) ∧ Inv (n + 1) I2 J
def zS_fills (Inv : Nat → zM → zJ → Prop) : Prop := ∀ (n : Nat) (I : zM) (J : zJ) (v1 : Int32) (v2 : Int32) (v3 : Int32), n < 512 → Inv n I J → ∃ (r : Int32) (I1 : zM) (I2 : zM), f_X11_fills J v1 v2 v3 I = some (r, I1) ∧ f_X12_fills J v1 v2 v3 I1 = some (r, I2) ∧ Inv (n + 1) I2 J
def zS_reason (Inv : Nat → zM → zJ → Prop) : Prop := ∀ (n : Nat) (I : zM) (J : zJ) (v1 : Int32) (v2 : Int32) (v3 : Int32), n < 512 → Inv n I J → ∃ (r : Int32) (I1 : zM) (I2 : zM), f_X11_reason J v1 v2 v3 I = some (r, I1) ∧ f_X12_reason J v1 v2 v3 I1 = some (r, I2) ∧ Inv (n + 1) I2 J
def zS_open (Inv : Nat → zM → zJ → Prop) : Prop := ∀ (n : Nat) (I : zM) (J : zJ) (v1 : Int32) (v2 : Int32) (v3 : Int32), (v3 = 0 ∨ v3 = 1) → n < 512 → Inv n I J → ∃ (r : Int32) (I1 : zM) (I2 : zM), f_X11_open J v1 v2 v3 I = some (r, I1) ∧ f_X12_open J v1 v2 v3 I1 = some (r, I2) ∧ Inv (n + 1) I2 J
def zS_holds (Inv : Nat → zM → zJ → Prop) : Prop := ∀ (n : Nat) (I : zM) (J : zJ) (v1 : Int32) (v2 : Int32), n < 512 → Inv n I J → ∃ (r : Int32) (I1 : zM) (I2 : zM), f_X11_holds J v1 v2 I = some (r, I1) ∧ f_X12_holds J v1 v2 I1 = some (r, I2) ∧ Inv (n + 1) I2 J
def zS_judge (Inv : Nat → zM → zJ → Prop) : Prop := ∀ (n : Nat) (I : zM) (J : zJ) (v1 : Int32) (v2 : Int32) (v3 : Int32), n < 512 → Inv n I J → ∃ (r : Int32) (I1 : zM) (I2 : zM), f_X11_judge J v1 v2 v3 I = some (r, I1) ∧ f_X12_judge J v1 v2 v3 I1 = some (r, I2) ∧ Inv (n + 1) I2 J
def zS_differ (Inv : Nat → zM → zJ → Prop) : Prop := ∀ (n : Nat) (I : zM) (J : zJ) (v1 : Int32) (v2 : Int32) (v3 : Int32), n < 512 → Inv n I J → ∃ (r : Int32) (I1 : zM) (I2 : zM), f_X11_differ J v1 v2 v3 I = some (r, I1) ∧ f_X12_differ J v1 v2 v3 I1 = some (r, I2) ∧ Inv (n + 1) I2 J
def zS_step (Inv : Nat → zM → zJ → Prop) : Prop := ∀ (n : Nat) (I : zM) (J : zJ) (v1 : Int32) (v2 : Int32), n < 512 → Inv n I J → ∃ (r : Int32) (I1 : zM) (I2 : zM), f_X11_step J v1 v2 I = some (r, I1) ∧ f_X12_step J v1 v2 I1 = some (r, I2) ∧ Inv (n + 1) I2 J
def zS_moves (Inv : Nat → zM → zJ → Prop) : Prop := ∀ (n : Nat) (I : zM) (J : zJ) (v1 : Int32) (v2 : Int32), n < 512 → Inv n I J → ∃ (r : Int32) (I1 : zM) (I2 : zM), f_X11_moves J v1 v2 I = some (r, I1) ∧ f_X12_moves J v1 v2 I1 = some (r, I2) ∧ Inv (n + 1) I2 J
def zS_think (Inv : Nat → zM → zJ → Prop) : Prop := ∀ (n : Nat) (I : zM) (J : zJ) (v1 : Int32) (v2 : Int32) (v3 : Int32) (v4 : Int32), n < 512 → Inv n I J → ∃ (r : Int32) (I1 : zM) (I2 : zM), f_X11_think J v1 v2 v3 v4 I = some (r, I1) ∧ f_X12_think J v1 v2 v3 v4 I1 = some (r, I2) ∧ Inv (n + 1) I2 J
def zS_part (Inv : Nat → zM → zJ → Prop) : Prop := ∀ (n : Nat) (I : zM) (J : zJ) (v1 : Int32), n < 512 → Inv n I J → ∃ (r : Int32) (I1 : zM) (I2 : zM), f_X11_part J v1 I = some (r, I1) ∧ f_X12_part J v1 I1 = some (r, I2) ∧ Inv (n + 1) I2 J
def zS_far (Inv : Nat → zM → zJ → Prop) : Prop := ∀ (n : Nat) (I : zM) (J : zJ) (v1 : Int32) (v2 : Int32) (v3 : Int32), n < 512 → Inv n I J → ∃ (r : Int32) (I1 : zM) (I2 : zM), f_X11_far J v1 v2 v3 I = some (r, I1) ∧ f_X12_far J v1 v2 v3 I1 = some (r, I2) ∧ Inv (n + 1) I2 J
def zS_words (Inv : Nat → zM → zJ → Prop) : Prop := ∀ (n : Nat) (I : zM) (J : zJ) (v1 : Int32) (v2 : Int32), n < 512 → Inv n I J → ∃ (r : Int32) (I1 : zM) (I2 : zM), f_X11_words J v1 v2 I = some (r, I1) ∧ f_X12_words J v1 v2 I1 = some (r, I2) ∧ Inv (n + 1) I2 J
def zS_worth (Inv : Nat → zM → zJ → Prop) : Prop := ∀ (n : Nat) (I : zM) (J : zJ) (v1 : Int32) (v2 : Int32) (v3 : Int32), n < 512 → Inv n I J → ∃ (r : Int32) (I1 : zM) (I2 : zM), f_X11_worth J v1 v2 v3 I = some (r, I1) ∧ f_X12_worth J v1 v2 v3 I1 = some (r, I2) ∧ Inv (n + 1) I2 J
def zS_best (Inv : Nat → zM → zJ → Prop) : Prop := ∀ (n : Nat) (I : zM) (J : zJ) (v1 : Int32) (v2 : Int32), n < 512 → Inv n I J → ∃ (r : Int32) (I1 : zM) (I2 : zM), f_X11_best J v1 v2 I = some (r, I1) ∧ f_X12_best J v1 v2 I1 = some (r, I2) ∧ Inv (n + 1) I2 J
def zS_keep (Inv : Nat → zM → zJ → Prop) : Prop := ∀ (n : Nat) (I : zM) (J : zJ) (v1 : Int32), n < 512 → Inv n I J → ∃ (r : Int32) (I1 : zM) (I2 : zM), f_X11_keep J v1 I = some (r, I1) ∧ f_X12_keep J v1 I1 = some (r, I2) ∧ Inv (n + 1) I2 J
def zS_again (Inv : Nat → zM → zJ → Prop) : Prop := ∀ (n : Nat) (I : zM) (J : zJ) (v1 : Int32), n < 512 → Inv n I J → ∃ (r : Int32) (I1 : zM) (I2 : zM), f_X11_again J v1 I = some (r, I1) ∧ f_X12_again J v1 I1 = some (r, I2) ∧ Inv (n + 1) I2 J
def zS_since (Inv : Nat → zM → zJ → Prop) : Prop := ∀ (n : Nat) (I : zM) (J : zJ) (v1 : Int32) (v2 : Int32), n < 512 → Inv n I J → ∃ (r : Int32) (I1 : zM) (I2 : zM), f_X11_since J v1 v2 I = some (r, I1) ∧ f_X12_since J v1 v2 I1 = some (r, I2) ∧ Inv (n + 1) I2 J
def zS_count (Inv : Nat → zM → zJ → Prop) : Prop := ∀ (n : Nat) (I : zM) (J : zJ) (v1 : Int32), n < 512 → Inv n I J → ∃ (r : Int32) (I1 : zM) (I2 : zM), f_X11_count J v1 I = some (r, I1) ∧ f_X12_count J v1 I1 = some (r, I2) ∧ Inv (n + 1) I2 J
set_option maxHeartbeats 4000000 in
set_option maxRecDepth 100000 in
theorem law_loop {B : zB} {G : zG} {b L : Nat} {xs : Nat → Int32} (h : zOK B G cL_law 4 RL wsL_law room_1) (hX : va_X b L xs G.1.2.2.2.1 G.1.2.2.2.1.heap) (hbl : b < G.1.2.2.2.1.heap.size) (hbA : ¬ zA B b) (hL : L ≤ 3584) (Inv : Nat → zM → zJ → Prop) (hJv : ∀ n I J, Inv n I J → zJok J) (hJ1 : ∀ n I J v {q : Int32 × zM × zJ}, Inv n I J → f_X11_unrule J v I = some q → zJok q.2.2) (hd_ : ∀ n I J, Inv n I J → Inv (n + 1) I J) (hs_gap : zS_gap Inv) (hs_need : zS_need Inv) (hs_hang : zS_hang Inv) (hs_doing : zS_doing Inv) (hs_undo : zS_undo Inv) (hs_tell : zS_tell Inv) (hs_term : zS_term Inv) (hs_knows : zS_knows Inv) (hs_before : zS_before Inv) (hs_custom : zS_custom Inv) (hs_lacks : zS_lacks Inv) (hs_write : zS_write Inv) (hs_wipe : zS_wipe Inv) (hs_fault : zS_fault Inv) (hs_rule : zS_rule Inv) (hs_unrule : zS_unrule Inv) (hs_ruled : zS_ruled Inv) (hs_order : zS_order Inv) (hs_ordered : zS_ordered Inv) (hs_bargain : zS_bargain Inv) (hs_reword : zS_reword Inv) (hs_said : zS_said Inv) (hs_next : zS_next Inv) (hs_rounds : zS_rounds Inv) (hs_answer : zS_answer Inv) (hs_fills : zS_fills Inv) (hs_reason : zS_reason Inv) (hs_open : zS_open Inv) (hs_holds : zS_holds Inv) (hs_judge : zS_judge Inv) (hs_differ : zS_differ Inv) (hs_step : zS_step Inv) (hs_moves : zS_moves Inv) (hs_think : zS_think Inv) (hs_part : zS_part Inv) (hs_far : zS_far Inv) (hs_words : zS_words Inv) (hs_worth : zS_worth Inv) (hs_best : zS_best Inv) (hs_keep : zS_keep Inv) (hs_again : zS_again Inv) (hs_since : zS_since Inv) (hs_count : zS_count Inv) (hw_63 : Cond.constantLong RL 63 4294967295 ∈ wsL_law)
    (hend : ∀ (I : zM) (J : zJ) (Lc : List (Nat × Value)), Z B G zKW I J (178, 95753) 1818 Lc [.int 1]) :
    ∀ (k i n : Nat) (I : zM) (J : zJ), L + 7 < k + i + 7 → i = 7 * n ∧ i ≤ L → Inv n I J → Z B G zKW I J (178, 95753) 18 [(0, .ref b), (1, .ref (za B 0)), (2, .ref (za B 147)), (3, .int (nI i))] [] := by
  intro k; induction k with
  | zero => intro i n I J hk hn _; omega
  | succ k ih0 =>
    intro i n I J hk hn hv
    have ih := fun i n I J a b c => ih0 i n I J a b c
    refine z_iload_n h 3 dL_law_18 rfl (rfl : 18 + 1 = 19) ?_
    refine z_aload_n h 0 dL_law_19 rfl (rfl : 19 + 1 = 20) ?_
    refine z_slen h hX hbl hbA dL_law_20 (rfl : 20 + 1 = 21) ?_
    refine z_bipush h 7 dL_law_21 (by decide) (rfl : 21 + 2 = 23) ?_
    refine z_isub h dL_law_23 (rfl : 23 + 1 = 24) ?_
    refine z_icmp_gt (pc' := 27) h 1817 dL_law_24 (by decide) rfl (fun c => ?_) (fun c => ?_)
    · skip
      refine z_iconst h 1 dL_law_1817 (by decide) (rfl : 1817 + 1 = 1818) ?_
      exact hend I J _
    have hi7 : i + 7 ≤ L := zlaw_le hL (by omega) c
    refine z_aload_n h 0 dL_law_27 rfl (rfl : 27 + 1 = 28) ?_
    refine z_iload_n h 3 dL_law_28 rfl (rfl : 28 + 1 = 29) ?_
    refine z_sld h hX hbl hbA i rfl (by omega) (by omega) dL_law_29 (rfl : 29 + 1 = 30) ?_
    refine z_bipush h 63 dL_law_30 (by decide) (rfl : 30 + 2 = 32) ?_
    refine z_iand h dL_law_32 (rfl : 32 + 1 = 33) ?_
    generalize xs i &&& 63 = w
    by_cases hw : 0 ≤ w.toInt ∧ w.toInt ≤ 42
    · obtain ⟨q, hq, hwq⟩ := zlaw_w hw
      subst hwq
      match q, hq with
      | 0, _ =>
        refine z_tabIn (off := 187) h 220 dL_law_33 (by decide) (by decide) (by decide +kernel) (by decide) ?_
        refine z_aload_n h 1 dL_law_220 rfl (rfl : 220 + 1 = 221) ?_
        refine z_aload_n h 0 dL_law_221 rfl (rfl : 221 + 1 = 222) ?_
        refine z_iload_n h 3 dL_law_222 rfl (rfl : 222 + 1 = 223) ?_
        refine z_iconst h 1 dL_law_223 (by decide) (rfl : 223 + 1 = 224) ?_
        refine z_iadd h dL_law_224 (rfl : 224 + 1 = 225) ?_
        refine z_top (nI (i + 1)) (nI_add i 1) ?_
        refine z_sld h hX hbl hbA (i + 1) rfl (by omega) (by omega) dL_law_225 (rfl : 225 + 1 = 226) ?_
        refine z_aload_n h 0 dL_law_226 rfl (rfl : 226 + 1 = 227) ?_
        refine z_iload_n h 3 dL_law_227 rfl (rfl : 227 + 1 = 228) ?_
        refine z_iconst h 2 dL_law_228 (by decide) (rfl : 228 + 1 = 229) ?_
        refine z_iadd h dL_law_229 (rfl : 229 + 1 = 230) ?_
        refine z_top (nI (i + 2)) (nI_add i 2) ?_
        refine z_sld h hX hbl hbA (i + 2) rfl (by omega) (by omega) dL_law_230 (rfl : 230 + 1 = 231) ?_
        obtain ⟨r, I1, I2, e1, e2, hv'⟩ := hs_gap n I J (xs (i + 1)) (xs (i + 2)) (by omega) hv
        refine z_goF (z_runV (C := RX11) (T := TX11) (N := 13) (ci := 10) h [.int (xs (i + 1)), .int (xs (i + 2))] [] zyX11_gap (c_X11_gap B I J (hJv _ _ _ hv) (xs (i + 1)) (xs (i + 2)) _ _ e1) gL_law_X11_gap rfl rfl rfl ⟨rfl, rfl, by decide, by decide⟩ rfl (Nat.le_of_ble_eq_true rfl) ⟨by decide, by decide⟩ rfl dL_law_231) (rfl : 231 + 3 = 234) ?_
        refine z_aload_n h 2 dL_law_234 rfl (rfl : 234 + 1 = 235) ?_
        refine z_aload_n h 0 dL_law_235 rfl (rfl : 235 + 1 = 236) ?_
        refine z_iload_n h 3 dL_law_236 rfl (rfl : 236 + 1 = 237) ?_
        refine z_iconst h 1 dL_law_237 (by decide) (rfl : 237 + 1 = 238) ?_
        refine z_iadd h dL_law_238 (rfl : 238 + 1 = 239) ?_
        refine z_top (nI (i + 1)) (nI_add i 1) ?_
        refine z_sld h hX hbl hbA (i + 1) rfl (by omega) (by omega) dL_law_239 (rfl : 239 + 1 = 240) ?_
        refine z_aload_n h 0 dL_law_240 rfl (rfl : 240 + 1 = 241) ?_
        refine z_iload_n h 3 dL_law_241 rfl (rfl : 241 + 1 = 242) ?_
        refine z_iconst h 2 dL_law_242 (by decide) (rfl : 242 + 1 = 243) ?_
        refine z_iadd h dL_law_243 (rfl : 243 + 1 = 244) ?_
        refine z_top (nI (i + 2)) (nI_add i 2) ?_
        refine z_sld h hX hbl hbA (i + 2) rfl (by omega) (by omega) dL_law_244 (rfl : 244 + 1 = 245) ?_
        refine z_goF (z_runV (C := RX12) (T := TX12) (N := 46) (ci := 11) h [.int (xs (i + 1)), .int (xs (i + 2))] [.int r] zyX12_gap (c_X12_gap B I1 J (hJv _ _ _ hv) (xs (i + 1)) (xs (i + 2)) _ _ e2) gL_law_X12_gap rfl rfl rfl ⟨rfl, rfl, by decide, by decide⟩ rfl (Nat.le_of_ble_eq_true rfl) ⟨by decide, by decide⟩ rfl dL_law_245) (rfl : 245 + 3 = 248) ?_
        refine z_icmp_eq (pc' := 251) h 1811 dL_law_248 (by decide) rfl (fun _ => ?_) (fun q => absurd rfl q)
        refine z_iinc h 3 (nI (i + 7)) [(3, .int (nI (i + 7))), (0, .ref b), (1, .ref (za B 0)), (2, .ref (za B 147))] dL_law_1811 rfl (nI_add i 7) (by decide) rfl (rfl : 1811 + 3 = 1814) ?_
        refine z_goto (pc' := 18) h dL_law_1814 (by decide) ?_
        refine z_sub (L' := [(0, .ref b), (1, .ref (za B 0)), (2, .ref (za B 147)), (3, .int (nI (i + 7)))]) [1, 2, 3, 0] rfl ?_
        exact ih (i + 7) (n + 1) I2 J (by omega) (by omega) hv'
      | 1, _ =>
        refine z_tabIn (off := 220) h 253 dL_law_33 (by decide) (by decide) (by decide +kernel) (by decide) ?_
        refine z_aload_n h 1 dL_law_253 rfl (rfl : 253 + 1 = 254) ?_
        refine z_aload_n h 0 dL_law_254 rfl (rfl : 254 + 1 = 255) ?_
        refine z_iload_n h 3 dL_law_255 rfl (rfl : 255 + 1 = 256) ?_
        refine z_iconst h 1 dL_law_256 (by decide) (rfl : 256 + 1 = 257) ?_
        refine z_iadd h dL_law_257 (rfl : 257 + 1 = 258) ?_
        refine z_top (nI (i + 1)) (nI_add i 1) ?_
        refine z_sld h hX hbl hbA (i + 1) rfl (by omega) (by omega) dL_law_258 (rfl : 258 + 1 = 259) ?_
        refine z_aload_n h 0 dL_law_259 rfl (rfl : 259 + 1 = 260) ?_
        refine z_iload_n h 3 dL_law_260 rfl (rfl : 260 + 1 = 261) ?_
        refine z_iconst h 2 dL_law_261 (by decide) (rfl : 261 + 1 = 262) ?_
        refine z_iadd h dL_law_262 (rfl : 262 + 1 = 263) ?_
        refine z_top (nI (i + 2)) (nI_add i 2) ?_
        refine z_sld h hX hbl hbA (i + 2) rfl (by omega) (by omega) dL_law_263 (rfl : 263 + 1 = 264) ?_
        refine z_if_eq (pc' := 267) h 271 dL_law_264 (by decide) rfl (fun c1 => ?_) (fun c1 => ?_)
        · skip
          refine z_iconst h 0 dL_law_271 (by decide) (rfl : 271 + 1 = 272) ?_
          obtain ⟨r, I1, I2, e1, e2, hv'⟩ := hs_need n I J (xs (i + 1)) (0 : Int32) (by decide) (by omega) hv
          refine z_goF (z_runV (C := RX11) (T := TX11) (N := 13) (ci := 10) h [.int (xs (i + 1)), .int 0] [] zyX11_need (c_X11_need B I J (hJv _ _ _ hv) (xs (i + 1)) (0 : Int32) _ _ e1) gL_law_X11_need rfl rfl rfl ⟨rfl, rfl, by decide, by decide⟩ rfl (Nat.le_of_ble_eq_true rfl) ⟨by decide, by decide⟩ rfl dL_law_272) (rfl : 272 + 3 = 275) ?_
          refine z_aload_n h 2 dL_law_275 rfl (rfl : 275 + 1 = 276) ?_
          refine z_aload_n h 0 dL_law_276 rfl (rfl : 276 + 1 = 277) ?_
          refine z_iload_n h 3 dL_law_277 rfl (rfl : 277 + 1 = 278) ?_
          refine z_iconst h 1 dL_law_278 (by decide) (rfl : 278 + 1 = 279) ?_
          refine z_iadd h dL_law_279 (rfl : 279 + 1 = 280) ?_
          refine z_top (nI (i + 1)) (nI_add i 1) ?_
          refine z_sld h hX hbl hbA (i + 1) rfl (by omega) (by omega) dL_law_280 (rfl : 280 + 1 = 281) ?_
          refine z_aload_n h 0 dL_law_281 rfl (rfl : 281 + 1 = 282) ?_
          refine z_iload_n h 3 dL_law_282 rfl (rfl : 282 + 1 = 283) ?_
          refine z_iconst h 2 dL_law_283 (by decide) (rfl : 283 + 1 = 284) ?_
          refine z_iadd h dL_law_284 (rfl : 284 + 1 = 285) ?_
          refine z_top (nI (i + 2)) (nI_add i 2) ?_
          refine z_sld h hX hbl hbA (i + 2) rfl (by omega) (by omega) dL_law_285 (rfl : 285 + 1 = 286) ?_
          refine z_if_eq (pc' := 289) h 293 dL_law_286 (by decide) rfl (fun _ => ?_) (fun q => absurd c1 q)
          refine z_iconst h 0 dL_law_293 (by decide) (rfl : 293 + 1 = 294) ?_
          refine z_goF (z_runV (C := RX12) (T := TX12) (N := 46) (ci := 11) h [.int (xs (i + 1)), .int 0] [.int r] zyX12_need (c_X12_need B I1 J (hJv _ _ _ hv) (xs (i + 1)) (0 : Int32) _ _ e2) gL_law_X12_need rfl rfl rfl ⟨rfl, rfl, by decide, by decide⟩ rfl (Nat.le_of_ble_eq_true rfl) ⟨by decide, by decide⟩ rfl dL_law_294) (rfl : 294 + 3 = 297) ?_
          refine z_icmp_eq (pc' := 300) h 1811 dL_law_297 (by decide) rfl (fun _ => ?_) (fun q => absurd rfl q)
          refine z_iinc h 3 (nI (i + 7)) [(3, .int (nI (i + 7))), (0, .ref b), (1, .ref (za B 0)), (2, .ref (za B 147))] dL_law_1811 rfl (nI_add i 7) (by decide) rfl (rfl : 1811 + 3 = 1814) ?_
          refine z_goto (pc' := 18) h dL_law_1814 (by decide) ?_
          refine z_sub (L' := [(0, .ref b), (1, .ref (za B 0)), (2, .ref (za B 147)), (3, .int (nI (i + 7)))]) [1, 2, 3, 0] rfl ?_
          exact ih (i + 7) (n + 1) I2 J (by omega) (by omega) hv'
        · skip
          refine z_iconst h 1 dL_law_267 (by decide) (rfl : 267 + 1 = 268) ?_
          refine z_goto (pc' := 272) h dL_law_268 (by decide) ?_
          obtain ⟨r, I1, I2, e1, e2, hv'⟩ := hs_need n I J (xs (i + 1)) (1 : Int32) (by decide) (by omega) hv
          refine z_goF (z_runV (C := RX11) (T := TX11) (N := 13) (ci := 10) h [.int (xs (i + 1)), .int 1] [] zyX11_need (c_X11_need B I J (hJv _ _ _ hv) (xs (i + 1)) (1 : Int32) _ _ e1) gL_law_X11_need rfl rfl rfl ⟨rfl, rfl, by decide, by decide⟩ rfl (Nat.le_of_ble_eq_true rfl) ⟨by decide, by decide⟩ rfl dL_law_272) (rfl : 272 + 3 = 275) ?_
          refine z_aload_n h 2 dL_law_275 rfl (rfl : 275 + 1 = 276) ?_
          refine z_aload_n h 0 dL_law_276 rfl (rfl : 276 + 1 = 277) ?_
          refine z_iload_n h 3 dL_law_277 rfl (rfl : 277 + 1 = 278) ?_
          refine z_iconst h 1 dL_law_278 (by decide) (rfl : 278 + 1 = 279) ?_
          refine z_iadd h dL_law_279 (rfl : 279 + 1 = 280) ?_
          refine z_top (nI (i + 1)) (nI_add i 1) ?_
          refine z_sld h hX hbl hbA (i + 1) rfl (by omega) (by omega) dL_law_280 (rfl : 280 + 1 = 281) ?_
          refine z_aload_n h 0 dL_law_281 rfl (rfl : 281 + 1 = 282) ?_
          refine z_iload_n h 3 dL_law_282 rfl (rfl : 282 + 1 = 283) ?_
          refine z_iconst h 2 dL_law_283 (by decide) (rfl : 283 + 1 = 284) ?_
          refine z_iadd h dL_law_284 (rfl : 284 + 1 = 285) ?_
          refine z_top (nI (i + 2)) (nI_add i 2) ?_
          refine z_sld h hX hbl hbA (i + 2) rfl (by omega) (by omega) dL_law_285 (rfl : 285 + 1 = 286) ?_
          refine z_if_eq (pc' := 289) h 293 dL_law_286 (by decide) rfl (fun q => absurd q c1) (fun _ => ?_)
          refine z_iconst h 1 dL_law_289 (by decide) (rfl : 289 + 1 = 290) ?_
          refine z_goto (pc' := 294) h dL_law_290 (by decide) ?_
          refine z_goF (z_runV (C := RX12) (T := TX12) (N := 46) (ci := 11) h [.int (xs (i + 1)), .int 1] [.int r] zyX12_need (c_X12_need B I1 J (hJv _ _ _ hv) (xs (i + 1)) (1 : Int32) _ _ e2) gL_law_X12_need rfl rfl rfl ⟨rfl, rfl, by decide, by decide⟩ rfl (Nat.le_of_ble_eq_true rfl) ⟨by decide, by decide⟩ rfl dL_law_294) (rfl : 294 + 3 = 297) ?_
          refine z_icmp_eq (pc' := 300) h 1811 dL_law_297 (by decide) rfl (fun _ => ?_) (fun q => absurd rfl q)
          refine z_iinc h 3 (nI (i + 7)) [(3, .int (nI (i + 7))), (0, .ref b), (1, .ref (za B 0)), (2, .ref (za B 147))] dL_law_1811 rfl (nI_add i 7) (by decide) rfl (rfl : 1811 + 3 = 1814) ?_
          refine z_goto (pc' := 18) h dL_law_1814 (by decide) ?_
          refine z_sub (L' := [(0, .ref b), (1, .ref (za B 0)), (2, .ref (za B 147)), (3, .int (nI (i + 7)))]) [1, 2, 3, 0] rfl ?_
          exact ih (i + 7) (n + 1) I2 J (by omega) (by omega) hv'
      | 2, _ =>
        refine z_tabIn (off := 269) h 302 dL_law_33 (by decide) (by decide) (by decide +kernel) (by decide) ?_
        refine z_aload_n h 1 dL_law_302 rfl (rfl : 302 + 1 = 303) ?_
        refine z_aload_n h 0 dL_law_303 rfl (rfl : 303 + 1 = 304) ?_
        refine z_iload_n h 3 dL_law_304 rfl (rfl : 304 + 1 = 305) ?_
        refine z_iconst h 1 dL_law_305 (by decide) (rfl : 305 + 1 = 306) ?_
        refine z_iadd h dL_law_306 (rfl : 306 + 1 = 307) ?_
        refine z_top (nI (i + 1)) (nI_add i 1) ?_
        refine z_sld h hX hbl hbA (i + 1) rfl (by omega) (by omega) dL_law_307 (rfl : 307 + 1 = 308) ?_
        refine z_aload_n h 0 dL_law_308 rfl (rfl : 308 + 1 = 309) ?_
        refine z_iload_n h 3 dL_law_309 rfl (rfl : 309 + 1 = 310) ?_
        refine z_iconst h 2 dL_law_310 (by decide) (rfl : 310 + 1 = 311) ?_
        refine z_iadd h dL_law_311 (rfl : 311 + 1 = 312) ?_
        refine z_top (nI (i + 2)) (nI_add i 2) ?_
        refine z_sld h hX hbl hbA (i + 2) rfl (by omega) (by omega) dL_law_312 (rfl : 312 + 1 = 313) ?_
        refine z_aload_n h 0 dL_law_313 rfl (rfl : 313 + 1 = 314) ?_
        refine z_iload_n h 3 dL_law_314 rfl (rfl : 314 + 1 = 315) ?_
        refine z_iconst h 3 dL_law_315 (by decide) (rfl : 315 + 1 = 316) ?_
        refine z_iadd h dL_law_316 (rfl : 316 + 1 = 317) ?_
        refine z_top (nI (i + 3)) (nI_add i 3) ?_
        refine z_sld h hX hbl hbA (i + 3) rfl (by omega) (by omega) dL_law_317 (rfl : 317 + 1 = 318) ?_
        obtain ⟨r, I1, I2, e1, e2, hv'⟩ := hs_hang n I J (xs (i + 1)) (xs (i + 2)) (xs (i + 3)) (by omega) hv
        refine z_goF (z_runV (C := RX11) (T := TX11) (N := 13) (ci := 10) h [.int (xs (i + 1)), .int (xs (i + 2)), .int (xs (i + 3))] [] zyX11_hang (c_X11_hang B I J (hJv _ _ _ hv) (xs (i + 1)) (xs (i + 2)) (xs (i + 3)) _ _ e1) gL_law_X11_hang rfl rfl rfl ⟨rfl, rfl, by decide, by decide⟩ rfl (Nat.le_of_ble_eq_true rfl) ⟨by decide, by decide⟩ rfl dL_law_318) (rfl : 318 + 3 = 321) ?_
        refine z_aload_n h 2 dL_law_321 rfl (rfl : 321 + 1 = 322) ?_
        refine z_aload_n h 0 dL_law_322 rfl (rfl : 322 + 1 = 323) ?_
        refine z_iload_n h 3 dL_law_323 rfl (rfl : 323 + 1 = 324) ?_
        refine z_iconst h 1 dL_law_324 (by decide) (rfl : 324 + 1 = 325) ?_
        refine z_iadd h dL_law_325 (rfl : 325 + 1 = 326) ?_
        refine z_top (nI (i + 1)) (nI_add i 1) ?_
        refine z_sld h hX hbl hbA (i + 1) rfl (by omega) (by omega) dL_law_326 (rfl : 326 + 1 = 327) ?_
        refine z_aload_n h 0 dL_law_327 rfl (rfl : 327 + 1 = 328) ?_
        refine z_iload_n h 3 dL_law_328 rfl (rfl : 328 + 1 = 329) ?_
        refine z_iconst h 2 dL_law_329 (by decide) (rfl : 329 + 1 = 330) ?_
        refine z_iadd h dL_law_330 (rfl : 330 + 1 = 331) ?_
        refine z_top (nI (i + 2)) (nI_add i 2) ?_
        refine z_sld h hX hbl hbA (i + 2) rfl (by omega) (by omega) dL_law_331 (rfl : 331 + 1 = 332) ?_
        refine z_aload_n h 0 dL_law_332 rfl (rfl : 332 + 1 = 333) ?_
        refine z_iload_n h 3 dL_law_333 rfl (rfl : 333 + 1 = 334) ?_
        refine z_iconst h 3 dL_law_334 (by decide) (rfl : 334 + 1 = 335) ?_
        refine z_iadd h dL_law_335 (rfl : 335 + 1 = 336) ?_
        refine z_top (nI (i + 3)) (nI_add i 3) ?_
        refine z_sld h hX hbl hbA (i + 3) rfl (by omega) (by omega) dL_law_336 (rfl : 336 + 1 = 337) ?_
        refine z_goF (z_runV (C := RX12) (T := TX12) (N := 46) (ci := 11) h [.int (xs (i + 1)), .int (xs (i + 2)), .int (xs (i + 3))] [.int r] zyX12_hang (c_X12_hang B I1 J (hJv _ _ _ hv) (xs (i + 1)) (xs (i + 2)) (xs (i + 3)) _ _ e2) gL_law_X12_hang rfl rfl rfl ⟨rfl, rfl, by decide, by decide⟩ rfl (Nat.le_of_ble_eq_true rfl) ⟨by decide, by decide⟩ rfl dL_law_337) (rfl : 337 + 3 = 340) ?_
        refine z_icmp_eq (pc' := 343) h 1811 dL_law_340 (by decide) rfl (fun _ => ?_) (fun q => absurd rfl q)
        refine z_iinc h 3 (nI (i + 7)) [(3, .int (nI (i + 7))), (0, .ref b), (1, .ref (za B 0)), (2, .ref (za B 147))] dL_law_1811 rfl (nI_add i 7) (by decide) rfl (rfl : 1811 + 3 = 1814) ?_
        refine z_goto (pc' := 18) h dL_law_1814 (by decide) ?_
        refine z_sub (L' := [(0, .ref b), (1, .ref (za B 0)), (2, .ref (za B 147)), (3, .int (nI (i + 7)))]) [1, 2, 3, 0] rfl ?_
        exact ih (i + 7) (n + 1) I2 J (by omega) (by omega) hv'
      | 3, _ =>
        refine z_tabIn (off := 312) h 345 dL_law_33 (by decide) (by decide) (by decide +kernel) (by decide) ?_
        refine z_aload_n h 1 dL_law_345 rfl (rfl : 345 + 1 = 346) ?_
        refine z_aload_n h 0 dL_law_346 rfl (rfl : 346 + 1 = 347) ?_
        refine z_iload_n h 3 dL_law_347 rfl (rfl : 347 + 1 = 348) ?_
        refine z_iconst h 1 dL_law_348 (by decide) (rfl : 348 + 1 = 349) ?_
        refine z_iadd h dL_law_349 (rfl : 349 + 1 = 350) ?_
        refine z_top (nI (i + 1)) (nI_add i 1) ?_
        refine z_sld h hX hbl hbA (i + 1) rfl (by omega) (by omega) dL_law_350 (rfl : 350 + 1 = 351) ?_
        refine z_aload_n h 0 dL_law_351 rfl (rfl : 351 + 1 = 352) ?_
        refine z_iload_n h 3 dL_law_352 rfl (rfl : 352 + 1 = 353) ?_
        refine z_iconst h 2 dL_law_353 (by decide) (rfl : 353 + 1 = 354) ?_
        refine z_iadd h dL_law_354 (rfl : 354 + 1 = 355) ?_
        refine z_top (nI (i + 2)) (nI_add i 2) ?_
        refine z_sld h hX hbl hbA (i + 2) rfl (by omega) (by omega) dL_law_355 (rfl : 355 + 1 = 356) ?_
        refine z_aload_n h 0 dL_law_356 rfl (rfl : 356 + 1 = 357) ?_
        refine z_iload_n h 3 dL_law_357 rfl (rfl : 357 + 1 = 358) ?_
        refine z_iconst h 3 dL_law_358 (by decide) (rfl : 358 + 1 = 359) ?_
        refine z_iadd h dL_law_359 (rfl : 359 + 1 = 360) ?_
        refine z_top (nI (i + 3)) (nI_add i 3) ?_
        refine z_sld h hX hbl hbA (i + 3) rfl (by omega) (by omega) dL_law_360 (rfl : 360 + 1 = 361) ?_
        refine z_aload_n h 0 dL_law_361 rfl (rfl : 361 + 1 = 362) ?_
        refine z_iload_n h 3 dL_law_362 rfl (rfl : 362 + 1 = 363) ?_
        refine z_iconst h 4 dL_law_363 (by decide) (rfl : 363 + 1 = 364) ?_
        refine z_iadd h dL_law_364 (rfl : 364 + 1 = 365) ?_
        refine z_top (nI (i + 4)) (nI_add i 4) ?_
        refine z_sld h hX hbl hbA (i + 4) rfl (by omega) (by omega) dL_law_365 (rfl : 365 + 1 = 366) ?_
        refine z_aload_n h 0 dL_law_366 rfl (rfl : 366 + 1 = 367) ?_
        refine z_iload_n h 3 dL_law_367 rfl (rfl : 367 + 1 = 368) ?_
        refine z_iconst h 5 dL_law_368 (by decide) (rfl : 368 + 1 = 369) ?_
        refine z_iadd h dL_law_369 (rfl : 369 + 1 = 370) ?_
        refine z_top (nI (i + 5)) (nI_add i 5) ?_
        refine z_sld h hX hbl hbA (i + 5) rfl (by omega) (by omega) dL_law_370 (rfl : 370 + 1 = 371) ?_
        refine z_aload_n h 0 dL_law_371 rfl (rfl : 371 + 1 = 372) ?_
        refine z_iload_n h 3 dL_law_372 rfl (rfl : 372 + 1 = 373) ?_
        refine z_bipush h 6 dL_law_373 (by decide) (rfl : 373 + 2 = 375) ?_
        refine z_iadd h dL_law_375 (rfl : 375 + 1 = 376) ?_
        refine z_top (nI (i + 6)) (nI_add i 6) ?_
        refine z_sld h hX hbl hbA (i + 6) rfl (by omega) (by omega) dL_law_376 (rfl : 376 + 1 = 377) ?_
        refine z_if_eq (pc' := 380) h 384 dL_law_377 (by decide) rfl (fun c2 => ?_) (fun c2 => ?_)
        · skip
          refine z_iconst h 0 dL_law_384 (by decide) (rfl : 384 + 1 = 385) ?_
          obtain ⟨r, I1, I2, e1, e2, hv'⟩ := hs_doing n I J (xs (i + 1)) (xs (i + 2)) (xs (i + 3)) (xs (i + 4)) (xs (i + 5)) (0 : Int32) (by decide) (by omega) hv
          refine z_goF (z_runV (C := RX11) (T := TX11) (N := 13) (ci := 10) h [.int (xs (i + 1)), .int (xs (i + 2)), .int (xs (i + 3)), .int (xs (i + 4)), .int (xs (i + 5)), .int 0] [] zyX11_doing (c_X11_doing B I J (hJv _ _ _ hv) (xs (i + 1)) (xs (i + 2)) (xs (i + 3)) (xs (i + 4)) (xs (i + 5)) (0 : Int32) _ _ e1) gL_law_X11_doing rfl rfl rfl ⟨rfl, rfl, by decide, by decide⟩ rfl (Nat.le_of_ble_eq_true rfl) ⟨by decide, by decide⟩ rfl dL_law_385) (rfl : 385 + 3 = 388) ?_
          refine z_aload_n h 2 dL_law_388 rfl (rfl : 388 + 1 = 389) ?_
          refine z_aload_n h 0 dL_law_389 rfl (rfl : 389 + 1 = 390) ?_
          refine z_iload_n h 3 dL_law_390 rfl (rfl : 390 + 1 = 391) ?_
          refine z_iconst h 1 dL_law_391 (by decide) (rfl : 391 + 1 = 392) ?_
          refine z_iadd h dL_law_392 (rfl : 392 + 1 = 393) ?_
          refine z_top (nI (i + 1)) (nI_add i 1) ?_
          refine z_sld h hX hbl hbA (i + 1) rfl (by omega) (by omega) dL_law_393 (rfl : 393 + 1 = 394) ?_
          refine z_aload_n h 0 dL_law_394 rfl (rfl : 394 + 1 = 395) ?_
          refine z_iload_n h 3 dL_law_395 rfl (rfl : 395 + 1 = 396) ?_
          refine z_iconst h 2 dL_law_396 (by decide) (rfl : 396 + 1 = 397) ?_
          refine z_iadd h dL_law_397 (rfl : 397 + 1 = 398) ?_
          refine z_top (nI (i + 2)) (nI_add i 2) ?_
          refine z_sld h hX hbl hbA (i + 2) rfl (by omega) (by omega) dL_law_398 (rfl : 398 + 1 = 399) ?_
          refine z_aload_n h 0 dL_law_399 rfl (rfl : 399 + 1 = 400) ?_
          refine z_iload_n h 3 dL_law_400 rfl (rfl : 400 + 1 = 401) ?_
          refine z_iconst h 3 dL_law_401 (by decide) (rfl : 401 + 1 = 402) ?_
          refine z_iadd h dL_law_402 (rfl : 402 + 1 = 403) ?_
          refine z_top (nI (i + 3)) (nI_add i 3) ?_
          refine z_sld h hX hbl hbA (i + 3) rfl (by omega) (by omega) dL_law_403 (rfl : 403 + 1 = 404) ?_
          refine z_aload_n h 0 dL_law_404 rfl (rfl : 404 + 1 = 405) ?_
          refine z_iload_n h 3 dL_law_405 rfl (rfl : 405 + 1 = 406) ?_
          refine z_iconst h 4 dL_law_406 (by decide) (rfl : 406 + 1 = 407) ?_
          refine z_iadd h dL_law_407 (rfl : 407 + 1 = 408) ?_
          refine z_top (nI (i + 4)) (nI_add i 4) ?_
          refine z_sld h hX hbl hbA (i + 4) rfl (by omega) (by omega) dL_law_408 (rfl : 408 + 1 = 409) ?_
          refine z_aload_n h 0 dL_law_409 rfl (rfl : 409 + 1 = 410) ?_
          refine z_iload_n h 3 dL_law_410 rfl (rfl : 410 + 1 = 411) ?_
          refine z_iconst h 5 dL_law_411 (by decide) (rfl : 411 + 1 = 412) ?_
          refine z_iadd h dL_law_412 (rfl : 412 + 1 = 413) ?_
          refine z_top (nI (i + 5)) (nI_add i 5) ?_
          refine z_sld h hX hbl hbA (i + 5) rfl (by omega) (by omega) dL_law_413 (rfl : 413 + 1 = 414) ?_
          refine z_aload_n h 0 dL_law_414 rfl (rfl : 414 + 1 = 415) ?_
          refine z_iload_n h 3 dL_law_415 rfl (rfl : 415 + 1 = 416) ?_
          refine z_bipush h 6 dL_law_416 (by decide) (rfl : 416 + 2 = 418) ?_
          refine z_iadd h dL_law_418 (rfl : 418 + 1 = 419) ?_
          refine z_top (nI (i + 6)) (nI_add i 6) ?_
          refine z_sld h hX hbl hbA (i + 6) rfl (by omega) (by omega) dL_law_419 (rfl : 419 + 1 = 420) ?_
          refine z_if_eq (pc' := 423) h 427 dL_law_420 (by decide) rfl (fun _ => ?_) (fun q => absurd c2 q)
          refine z_iconst h 0 dL_law_427 (by decide) (rfl : 427 + 1 = 428) ?_
          refine z_goF (z_runV (C := RX12) (T := TX12) (N := 46) (ci := 11) h [.int (xs (i + 1)), .int (xs (i + 2)), .int (xs (i + 3)), .int (xs (i + 4)), .int (xs (i + 5)), .int 0] [.int r] zyX12_doing (c_X12_doing B I1 J (hJv _ _ _ hv) (xs (i + 1)) (xs (i + 2)) (xs (i + 3)) (xs (i + 4)) (xs (i + 5)) (0 : Int32) _ _ e2) gL_law_X12_doing rfl rfl rfl ⟨rfl, rfl, by decide, by decide⟩ rfl (Nat.le_of_ble_eq_true rfl) ⟨by decide, by decide⟩ rfl dL_law_428) (rfl : 428 + 3 = 431) ?_
          refine z_icmp_eq (pc' := 434) h 1811 dL_law_431 (by decide) rfl (fun _ => ?_) (fun q => absurd rfl q)
          refine z_iinc h 3 (nI (i + 7)) [(3, .int (nI (i + 7))), (0, .ref b), (1, .ref (za B 0)), (2, .ref (za B 147))] dL_law_1811 rfl (nI_add i 7) (by decide) rfl (rfl : 1811 + 3 = 1814) ?_
          refine z_goto (pc' := 18) h dL_law_1814 (by decide) ?_
          refine z_sub (L' := [(0, .ref b), (1, .ref (za B 0)), (2, .ref (za B 147)), (3, .int (nI (i + 7)))]) [1, 2, 3, 0] rfl ?_
          exact ih (i + 7) (n + 1) I2 J (by omega) (by omega) hv'
        · skip
          refine z_iconst h 1 dL_law_380 (by decide) (rfl : 380 + 1 = 381) ?_
          refine z_goto (pc' := 385) h dL_law_381 (by decide) ?_
          obtain ⟨r, I1, I2, e1, e2, hv'⟩ := hs_doing n I J (xs (i + 1)) (xs (i + 2)) (xs (i + 3)) (xs (i + 4)) (xs (i + 5)) (1 : Int32) (by decide) (by omega) hv
          refine z_goF (z_runV (C := RX11) (T := TX11) (N := 13) (ci := 10) h [.int (xs (i + 1)), .int (xs (i + 2)), .int (xs (i + 3)), .int (xs (i + 4)), .int (xs (i + 5)), .int 1] [] zyX11_doing (c_X11_doing B I J (hJv _ _ _ hv) (xs (i + 1)) (xs (i + 2)) (xs (i + 3)) (xs (i + 4)) (xs (i + 5)) (1 : Int32) _ _ e1) gL_law_X11_doing rfl rfl rfl ⟨rfl, rfl, by decide, by decide⟩ rfl (Nat.le_of_ble_eq_true rfl) ⟨by decide, by decide⟩ rfl dL_law_385) (rfl : 385 + 3 = 388) ?_
          refine z_aload_n h 2 dL_law_388 rfl (rfl : 388 + 1 = 389) ?_
          refine z_aload_n h 0 dL_law_389 rfl (rfl : 389 + 1 = 390) ?_
          refine z_iload_n h 3 dL_law_390 rfl (rfl : 390 + 1 = 391) ?_
          refine z_iconst h 1 dL_law_391 (by decide) (rfl : 391 + 1 = 392) ?_
          refine z_iadd h dL_law_392 (rfl : 392 + 1 = 393) ?_
          refine z_top (nI (i + 1)) (nI_add i 1) ?_
          refine z_sld h hX hbl hbA (i + 1) rfl (by omega) (by omega) dL_law_393 (rfl : 393 + 1 = 394) ?_
          refine z_aload_n h 0 dL_law_394 rfl (rfl : 394 + 1 = 395) ?_
          refine z_iload_n h 3 dL_law_395 rfl (rfl : 395 + 1 = 396) ?_
          refine z_iconst h 2 dL_law_396 (by decide) (rfl : 396 + 1 = 397) ?_
          refine z_iadd h dL_law_397 (rfl : 397 + 1 = 398) ?_
          refine z_top (nI (i + 2)) (nI_add i 2) ?_
          refine z_sld h hX hbl hbA (i + 2) rfl (by omega) (by omega) dL_law_398 (rfl : 398 + 1 = 399) ?_
          refine z_aload_n h 0 dL_law_399 rfl (rfl : 399 + 1 = 400) ?_
          refine z_iload_n h 3 dL_law_400 rfl (rfl : 400 + 1 = 401) ?_
          refine z_iconst h 3 dL_law_401 (by decide) (rfl : 401 + 1 = 402) ?_
          refine z_iadd h dL_law_402 (rfl : 402 + 1 = 403) ?_
          refine z_top (nI (i + 3)) (nI_add i 3) ?_
          refine z_sld h hX hbl hbA (i + 3) rfl (by omega) (by omega) dL_law_403 (rfl : 403 + 1 = 404) ?_
          refine z_aload_n h 0 dL_law_404 rfl (rfl : 404 + 1 = 405) ?_
          refine z_iload_n h 3 dL_law_405 rfl (rfl : 405 + 1 = 406) ?_
          refine z_iconst h 4 dL_law_406 (by decide) (rfl : 406 + 1 = 407) ?_
          refine z_iadd h dL_law_407 (rfl : 407 + 1 = 408) ?_
          refine z_top (nI (i + 4)) (nI_add i 4) ?_
          refine z_sld h hX hbl hbA (i + 4) rfl (by omega) (by omega) dL_law_408 (rfl : 408 + 1 = 409) ?_
          refine z_aload_n h 0 dL_law_409 rfl (rfl : 409 + 1 = 410) ?_
          refine z_iload_n h 3 dL_law_410 rfl (rfl : 410 + 1 = 411) ?_
          refine z_iconst h 5 dL_law_411 (by decide) (rfl : 411 + 1 = 412) ?_
          refine z_iadd h dL_law_412 (rfl : 412 + 1 = 413) ?_
          refine z_top (nI (i + 5)) (nI_add i 5) ?_
          refine z_sld h hX hbl hbA (i + 5) rfl (by omega) (by omega) dL_law_413 (rfl : 413 + 1 = 414) ?_
          refine z_aload_n h 0 dL_law_414 rfl (rfl : 414 + 1 = 415) ?_
          refine z_iload_n h 3 dL_law_415 rfl (rfl : 415 + 1 = 416) ?_
          refine z_bipush h 6 dL_law_416 (by decide) (rfl : 416 + 2 = 418) ?_
          refine z_iadd h dL_law_418 (rfl : 418 + 1 = 419) ?_
          refine z_top (nI (i + 6)) (nI_add i 6) ?_
          refine z_sld h hX hbl hbA (i + 6) rfl (by omega) (by omega) dL_law_419 (rfl : 419 + 1 = 420) ?_
          refine z_if_eq (pc' := 423) h 427 dL_law_420 (by decide) rfl (fun q => absurd q c2) (fun _ => ?_)
          refine z_iconst h 1 dL_law_423 (by decide) (rfl : 423 + 1 = 424) ?_
          refine z_goto (pc' := 428) h dL_law_424 (by decide) ?_
          refine z_goF (z_runV (C := RX12) (T := TX12) (N := 46) (ci := 11) h [.int (xs (i + 1)), .int (xs (i + 2)), .int (xs (i + 3)), .int (xs (i + 4)), .int (xs (i + 5)), .int 1] [.int r] zyX12_doing (c_X12_doing B I1 J (hJv _ _ _ hv) (xs (i + 1)) (xs (i + 2)) (xs (i + 3)) (xs (i + 4)) (xs (i + 5)) (1 : Int32) _ _ e2) gL_law_X12_doing rfl rfl rfl ⟨rfl, rfl, by decide, by decide⟩ rfl (Nat.le_of_ble_eq_true rfl) ⟨by decide, by decide⟩ rfl dL_law_428) (rfl : 428 + 3 = 431) ?_
          refine z_icmp_eq (pc' := 434) h 1811 dL_law_431 (by decide) rfl (fun _ => ?_) (fun q => absurd rfl q)
          refine z_iinc h 3 (nI (i + 7)) [(3, .int (nI (i + 7))), (0, .ref b), (1, .ref (za B 0)), (2, .ref (za B 147))] dL_law_1811 rfl (nI_add i 7) (by decide) rfl (rfl : 1811 + 3 = 1814) ?_
          refine z_goto (pc' := 18) h dL_law_1814 (by decide) ?_
          refine z_sub (L' := [(0, .ref b), (1, .ref (za B 0)), (2, .ref (za B 147)), (3, .int (nI (i + 7)))]) [1, 2, 3, 0] rfl ?_
          exact ih (i + 7) (n + 1) I2 J (by omega) (by omega) hv'
      | 4, _ =>
        refine z_tabIn (off := 403) h 436 dL_law_33 (by decide) (by decide) (by decide +kernel) (by decide) ?_
        refine z_aload_n h 1 dL_law_436 rfl (rfl : 436 + 1 = 437) ?_
        obtain ⟨r, I1, I2, e1, e2, hv'⟩ := hs_undo n I J  (by omega) hv
        refine z_goF (z_runV (C := RX11) (T := TX11) (N := 13) (ci := 10) h [] [] zyX11_undo (c_X11_undo B I J (hJv _ _ _ hv)  _ _ e1) gL_law_X11_undo rfl rfl rfl ⟨rfl, rfl, by decide, by decide⟩ rfl (Nat.le_of_ble_eq_true rfl) ⟨by decide, by decide⟩ rfl dL_law_437) (rfl : 437 + 3 = 440) ?_
        refine z_aload_n h 2 dL_law_440 rfl (rfl : 440 + 1 = 441) ?_
        refine z_goF (z_runV (C := RX12) (T := TX12) (N := 46) (ci := 11) h [] [.int r] zyX12_undo (c_X12_undo B I1 J (hJv _ _ _ hv)  _ _ e2) gL_law_X12_undo rfl rfl rfl ⟨rfl, rfl, by decide, by decide⟩ rfl (Nat.le_of_ble_eq_true rfl) ⟨by decide, by decide⟩ rfl dL_law_441) (rfl : 441 + 3 = 444) ?_
        refine z_icmp_eq (pc' := 447) h 1811 dL_law_444 (by decide) rfl (fun _ => ?_) (fun q => absurd rfl q)
        refine z_iinc h 3 (nI (i + 7)) [(3, .int (nI (i + 7))), (0, .ref b), (1, .ref (za B 0)), (2, .ref (za B 147))] dL_law_1811 rfl (nI_add i 7) (by decide) rfl (rfl : 1811 + 3 = 1814) ?_
        refine z_goto (pc' := 18) h dL_law_1814 (by decide) ?_
        refine z_sub (L' := [(0, .ref b), (1, .ref (za B 0)), (2, .ref (za B 147)), (3, .int (nI (i + 7)))]) [1, 2, 3, 0] rfl ?_
        exact ih (i + 7) (n + 1) I2 J (by omega) (by omega) hv'
      | 5, _ =>
        refine z_tabIn (off := 416) h 449 dL_law_33 (by decide) (by decide) (by decide +kernel) (by decide) ?_
        refine z_aload_n h 1 dL_law_449 rfl (rfl : 449 + 1 = 450) ?_
        refine z_aload_n h 0 dL_law_450 rfl (rfl : 450 + 1 = 451) ?_
        refine z_iload_n h 3 dL_law_451 rfl (rfl : 451 + 1 = 452) ?_
        refine z_iconst h 1 dL_law_452 (by decide) (rfl : 452 + 1 = 453) ?_
        refine z_iadd h dL_law_453 (rfl : 453 + 1 = 454) ?_
        refine z_top (nI (i + 1)) (nI_add i 1) ?_
        refine z_sld h hX hbl hbA (i + 1) rfl (by omega) (by omega) dL_law_454 (rfl : 454 + 1 = 455) ?_
        refine z_aload_n h 0 dL_law_455 rfl (rfl : 455 + 1 = 456) ?_
        refine z_iload_n h 3 dL_law_456 rfl (rfl : 456 + 1 = 457) ?_
        refine z_iconst h 2 dL_law_457 (by decide) (rfl : 457 + 1 = 458) ?_
        refine z_iadd h dL_law_458 (rfl : 458 + 1 = 459) ?_
        refine z_top (nI (i + 2)) (nI_add i 2) ?_
        refine z_sld h hX hbl hbA (i + 2) rfl (by omega) (by omega) dL_law_459 (rfl : 459 + 1 = 460) ?_
        refine z_aload_n h 0 dL_law_460 rfl (rfl : 460 + 1 = 461) ?_
        refine z_iload_n h 3 dL_law_461 rfl (rfl : 461 + 1 = 462) ?_
        refine z_iconst h 3 dL_law_462 (by decide) (rfl : 462 + 1 = 463) ?_
        refine z_iadd h dL_law_463 (rfl : 463 + 1 = 464) ?_
        refine z_top (nI (i + 3)) (nI_add i 3) ?_
        refine z_sld h hX hbl hbA (i + 3) rfl (by omega) (by omega) dL_law_464 (rfl : 464 + 1 = 465) ?_
        refine z_if_eq (pc' := 468) h 472 dL_law_465 (by decide) rfl (fun c3 => ?_) (fun c3 => ?_)
        · skip
          refine z_iconst h 0 dL_law_472 (by decide) (rfl : 472 + 1 = 473) ?_
          obtain ⟨r, I1, I2, e1, e2, hv'⟩ := hs_tell n I J (xs (i + 1)) (xs (i + 2)) (0 : Int32) (by decide) (by omega) hv
          refine z_goF (z_runV (C := RX11) (T := TX11) (N := 13) (ci := 10) h [.int (xs (i + 1)), .int (xs (i + 2)), .int 0] [] zyX11_tell (c_X11_tell B I J (hJv _ _ _ hv) (xs (i + 1)) (xs (i + 2)) (0 : Int32) _ _ e1) gL_law_X11_tell rfl rfl rfl ⟨rfl, rfl, by decide, by decide⟩ rfl (Nat.le_of_ble_eq_true rfl) ⟨by decide, by decide⟩ rfl dL_law_473) (rfl : 473 + 3 = 476) ?_
          refine z_aload_n h 2 dL_law_476 rfl (rfl : 476 + 1 = 477) ?_
          refine z_aload_n h 0 dL_law_477 rfl (rfl : 477 + 1 = 478) ?_
          refine z_iload_n h 3 dL_law_478 rfl (rfl : 478 + 1 = 479) ?_
          refine z_iconst h 1 dL_law_479 (by decide) (rfl : 479 + 1 = 480) ?_
          refine z_iadd h dL_law_480 (rfl : 480 + 1 = 481) ?_
          refine z_top (nI (i + 1)) (nI_add i 1) ?_
          refine z_sld h hX hbl hbA (i + 1) rfl (by omega) (by omega) dL_law_481 (rfl : 481 + 1 = 482) ?_
          refine z_aload_n h 0 dL_law_482 rfl (rfl : 482 + 1 = 483) ?_
          refine z_iload_n h 3 dL_law_483 rfl (rfl : 483 + 1 = 484) ?_
          refine z_iconst h 2 dL_law_484 (by decide) (rfl : 484 + 1 = 485) ?_
          refine z_iadd h dL_law_485 (rfl : 485 + 1 = 486) ?_
          refine z_top (nI (i + 2)) (nI_add i 2) ?_
          refine z_sld h hX hbl hbA (i + 2) rfl (by omega) (by omega) dL_law_486 (rfl : 486 + 1 = 487) ?_
          refine z_aload_n h 0 dL_law_487 rfl (rfl : 487 + 1 = 488) ?_
          refine z_iload_n h 3 dL_law_488 rfl (rfl : 488 + 1 = 489) ?_
          refine z_iconst h 3 dL_law_489 (by decide) (rfl : 489 + 1 = 490) ?_
          refine z_iadd h dL_law_490 (rfl : 490 + 1 = 491) ?_
          refine z_top (nI (i + 3)) (nI_add i 3) ?_
          refine z_sld h hX hbl hbA (i + 3) rfl (by omega) (by omega) dL_law_491 (rfl : 491 + 1 = 492) ?_
          refine z_if_eq (pc' := 495) h 499 dL_law_492 (by decide) rfl (fun _ => ?_) (fun q => absurd c3 q)
          refine z_iconst h 0 dL_law_499 (by decide) (rfl : 499 + 1 = 500) ?_
          refine z_goF (z_runV (C := RX12) (T := TX12) (N := 46) (ci := 11) h [.int (xs (i + 1)), .int (xs (i + 2)), .int 0] [.int r] zyX12_tell (c_X12_tell B I1 J (hJv _ _ _ hv) (xs (i + 1)) (xs (i + 2)) (0 : Int32) _ _ e2) gL_law_X12_tell rfl rfl rfl ⟨rfl, rfl, by decide, by decide⟩ rfl (Nat.le_of_ble_eq_true rfl) ⟨by decide, by decide⟩ rfl dL_law_500) (rfl : 500 + 3 = 503) ?_
          refine z_icmp_eq (pc' := 506) h 1811 dL_law_503 (by decide) rfl (fun _ => ?_) (fun q => absurd rfl q)
          refine z_iinc h 3 (nI (i + 7)) [(3, .int (nI (i + 7))), (0, .ref b), (1, .ref (za B 0)), (2, .ref (za B 147))] dL_law_1811 rfl (nI_add i 7) (by decide) rfl (rfl : 1811 + 3 = 1814) ?_
          refine z_goto (pc' := 18) h dL_law_1814 (by decide) ?_
          refine z_sub (L' := [(0, .ref b), (1, .ref (za B 0)), (2, .ref (za B 147)), (3, .int (nI (i + 7)))]) [1, 2, 3, 0] rfl ?_
          exact ih (i + 7) (n + 1) I2 J (by omega) (by omega) hv'
        · skip
          refine z_iconst h 1 dL_law_468 (by decide) (rfl : 468 + 1 = 469) ?_
          refine z_goto (pc' := 473) h dL_law_469 (by decide) ?_
          obtain ⟨r, I1, I2, e1, e2, hv'⟩ := hs_tell n I J (xs (i + 1)) (xs (i + 2)) (1 : Int32) (by decide) (by omega) hv
          refine z_goF (z_runV (C := RX11) (T := TX11) (N := 13) (ci := 10) h [.int (xs (i + 1)), .int (xs (i + 2)), .int 1] [] zyX11_tell (c_X11_tell B I J (hJv _ _ _ hv) (xs (i + 1)) (xs (i + 2)) (1 : Int32) _ _ e1) gL_law_X11_tell rfl rfl rfl ⟨rfl, rfl, by decide, by decide⟩ rfl (Nat.le_of_ble_eq_true rfl) ⟨by decide, by decide⟩ rfl dL_law_473) (rfl : 473 + 3 = 476) ?_
          refine z_aload_n h 2 dL_law_476 rfl (rfl : 476 + 1 = 477) ?_
          refine z_aload_n h 0 dL_law_477 rfl (rfl : 477 + 1 = 478) ?_
          refine z_iload_n h 3 dL_law_478 rfl (rfl : 478 + 1 = 479) ?_
          refine z_iconst h 1 dL_law_479 (by decide) (rfl : 479 + 1 = 480) ?_
          refine z_iadd h dL_law_480 (rfl : 480 + 1 = 481) ?_
          refine z_top (nI (i + 1)) (nI_add i 1) ?_
          refine z_sld h hX hbl hbA (i + 1) rfl (by omega) (by omega) dL_law_481 (rfl : 481 + 1 = 482) ?_
          refine z_aload_n h 0 dL_law_482 rfl (rfl : 482 + 1 = 483) ?_
          refine z_iload_n h 3 dL_law_483 rfl (rfl : 483 + 1 = 484) ?_
          refine z_iconst h 2 dL_law_484 (by decide) (rfl : 484 + 1 = 485) ?_
          refine z_iadd h dL_law_485 (rfl : 485 + 1 = 486) ?_
          refine z_top (nI (i + 2)) (nI_add i 2) ?_
          refine z_sld h hX hbl hbA (i + 2) rfl (by omega) (by omega) dL_law_486 (rfl : 486 + 1 = 487) ?_
          refine z_aload_n h 0 dL_law_487 rfl (rfl : 487 + 1 = 488) ?_
          refine z_iload_n h 3 dL_law_488 rfl (rfl : 488 + 1 = 489) ?_
          refine z_iconst h 3 dL_law_489 (by decide) (rfl : 489 + 1 = 490) ?_
          refine z_iadd h dL_law_490 (rfl : 490 + 1 = 491) ?_
          refine z_top (nI (i + 3)) (nI_add i 3) ?_
          refine z_sld h hX hbl hbA (i + 3) rfl (by omega) (by omega) dL_law_491 (rfl : 491 + 1 = 492) ?_
          refine z_if_eq (pc' := 495) h 499 dL_law_492 (by decide) rfl (fun q => absurd q c3) (fun _ => ?_)
          refine z_iconst h 1 dL_law_495 (by decide) (rfl : 495 + 1 = 496) ?_
          refine z_goto (pc' := 500) h dL_law_496 (by decide) ?_
          refine z_goF (z_runV (C := RX12) (T := TX12) (N := 46) (ci := 11) h [.int (xs (i + 1)), .int (xs (i + 2)), .int 1] [.int r] zyX12_tell (c_X12_tell B I1 J (hJv _ _ _ hv) (xs (i + 1)) (xs (i + 2)) (1 : Int32) _ _ e2) gL_law_X12_tell rfl rfl rfl ⟨rfl, rfl, by decide, by decide⟩ rfl (Nat.le_of_ble_eq_true rfl) ⟨by decide, by decide⟩ rfl dL_law_500) (rfl : 500 + 3 = 503) ?_
          refine z_icmp_eq (pc' := 506) h 1811 dL_law_503 (by decide) rfl (fun _ => ?_) (fun q => absurd rfl q)
          refine z_iinc h 3 (nI (i + 7)) [(3, .int (nI (i + 7))), (0, .ref b), (1, .ref (za B 0)), (2, .ref (za B 147))] dL_law_1811 rfl (nI_add i 7) (by decide) rfl (rfl : 1811 + 3 = 1814) ?_
          refine z_goto (pc' := 18) h dL_law_1814 (by decide) ?_
          refine z_sub (L' := [(0, .ref b), (1, .ref (za B 0)), (2, .ref (za B 147)), (3, .int (nI (i + 7)))]) [1, 2, 3, 0] rfl ?_
          exact ih (i + 7) (n + 1) I2 J (by omega) (by omega) hv'
      | 6, _ =>
        refine z_tabIn (off := 475) h 508 dL_law_33 (by decide) (by decide) (by decide +kernel) (by decide) ?_
        refine z_aload_n h 1 dL_law_508 rfl (rfl : 508 + 1 = 509) ?_
        refine z_aload_n h 0 dL_law_509 rfl (rfl : 509 + 1 = 510) ?_
        refine z_iload_n h 3 dL_law_510 rfl (rfl : 510 + 1 = 511) ?_
        refine z_iconst h 1 dL_law_511 (by decide) (rfl : 511 + 1 = 512) ?_
        refine z_iadd h dL_law_512 (rfl : 512 + 1 = 513) ?_
        refine z_top (nI (i + 1)) (nI_add i 1) ?_
        refine z_sld h hX hbl hbA (i + 1) rfl (by omega) (by omega) dL_law_513 (rfl : 513 + 1 = 514) ?_
        refine z_aload_n h 0 dL_law_514 rfl (rfl : 514 + 1 = 515) ?_
        refine z_iload_n h 3 dL_law_515 rfl (rfl : 515 + 1 = 516) ?_
        refine z_iconst h 2 dL_law_516 (by decide) (rfl : 516 + 1 = 517) ?_
        refine z_iadd h dL_law_517 (rfl : 517 + 1 = 518) ?_
        refine z_top (nI (i + 2)) (nI_add i 2) ?_
        refine z_sld h hX hbl hbA (i + 2) rfl (by omega) (by omega) dL_law_518 (rfl : 518 + 1 = 519) ?_
        obtain ⟨r, I1, I2, e1, e2, hv'⟩ := hs_term n I J (xs (i + 1)) (xs (i + 2)) (by omega) hv
        refine z_goF (z_runV (C := RX11) (T := TX11) (N := 13) (ci := 10) h [.int (xs (i + 1)), .int (xs (i + 2))] [] zyX11_term (c_X11_term B I J (hJv _ _ _ hv) (xs (i + 1)) (xs (i + 2)) _ _ e1) gL_law_X11_term rfl rfl rfl ⟨rfl, rfl, by decide, by decide⟩ rfl (Nat.le_of_ble_eq_true rfl) ⟨by decide, by decide⟩ rfl dL_law_519) (rfl : 519 + 3 = 522) ?_
        refine z_aload_n h 2 dL_law_522 rfl (rfl : 522 + 1 = 523) ?_
        refine z_aload_n h 0 dL_law_523 rfl (rfl : 523 + 1 = 524) ?_
        refine z_iload_n h 3 dL_law_524 rfl (rfl : 524 + 1 = 525) ?_
        refine z_iconst h 1 dL_law_525 (by decide) (rfl : 525 + 1 = 526) ?_
        refine z_iadd h dL_law_526 (rfl : 526 + 1 = 527) ?_
        refine z_top (nI (i + 1)) (nI_add i 1) ?_
        refine z_sld h hX hbl hbA (i + 1) rfl (by omega) (by omega) dL_law_527 (rfl : 527 + 1 = 528) ?_
        refine z_aload_n h 0 dL_law_528 rfl (rfl : 528 + 1 = 529) ?_
        refine z_iload_n h 3 dL_law_529 rfl (rfl : 529 + 1 = 530) ?_
        refine z_iconst h 2 dL_law_530 (by decide) (rfl : 530 + 1 = 531) ?_
        refine z_iadd h dL_law_531 (rfl : 531 + 1 = 532) ?_
        refine z_top (nI (i + 2)) (nI_add i 2) ?_
        refine z_sld h hX hbl hbA (i + 2) rfl (by omega) (by omega) dL_law_532 (rfl : 532 + 1 = 533) ?_
        refine z_goF (z_runV (C := RX12) (T := TX12) (N := 46) (ci := 11) h [.int (xs (i + 1)), .int (xs (i + 2))] [.int r] zyX12_term (c_X12_term B I1 J (hJv _ _ _ hv) (xs (i + 1)) (xs (i + 2)) _ _ e2) gL_law_X12_term rfl rfl rfl ⟨rfl, rfl, by decide, by decide⟩ rfl (Nat.le_of_ble_eq_true rfl) ⟨by decide, by decide⟩ rfl dL_law_533) (rfl : 533 + 3 = 536) ?_
        refine z_icmp_eq (pc' := 539) h 1811 dL_law_536 (by decide) rfl (fun _ => ?_) (fun q => absurd rfl q)
        refine z_iinc h 3 (nI (i + 7)) [(3, .int (nI (i + 7))), (0, .ref b), (1, .ref (za B 0)), (2, .ref (za B 147))] dL_law_1811 rfl (nI_add i 7) (by decide) rfl (rfl : 1811 + 3 = 1814) ?_
        refine z_goto (pc' := 18) h dL_law_1814 (by decide) ?_
        refine z_sub (L' := [(0, .ref b), (1, .ref (za B 0)), (2, .ref (za B 147)), (3, .int (nI (i + 7)))]) [1, 2, 3, 0] rfl ?_
        exact ih (i + 7) (n + 1) I2 J (by omega) (by omega) hv'
      | 7, _ =>
        refine z_tabIn (off := 508) h 541 dL_law_33 (by decide) (by decide) (by decide +kernel) (by decide) ?_
        refine z_aload_n h 1 dL_law_541 rfl (rfl : 541 + 1 = 542) ?_
        refine z_aload_n h 0 dL_law_542 rfl (rfl : 542 + 1 = 543) ?_
        refine z_iload_n h 3 dL_law_543 rfl (rfl : 543 + 1 = 544) ?_
        refine z_iconst h 1 dL_law_544 (by decide) (rfl : 544 + 1 = 545) ?_
        refine z_iadd h dL_law_545 (rfl : 545 + 1 = 546) ?_
        refine z_top (nI (i + 1)) (nI_add i 1) ?_
        refine z_sld h hX hbl hbA (i + 1) rfl (by omega) (by omega) dL_law_546 (rfl : 546 + 1 = 547) ?_
        refine z_aload_n h 0 dL_law_547 rfl (rfl : 547 + 1 = 548) ?_
        refine z_iload_n h 3 dL_law_548 rfl (rfl : 548 + 1 = 549) ?_
        refine z_iconst h 2 dL_law_549 (by decide) (rfl : 549 + 1 = 550) ?_
        refine z_iadd h dL_law_550 (rfl : 550 + 1 = 551) ?_
        refine z_top (nI (i + 2)) (nI_add i 2) ?_
        refine z_sld h hX hbl hbA (i + 2) rfl (by omega) (by omega) dL_law_551 (rfl : 551 + 1 = 552) ?_
        obtain ⟨r, I1, I2, e1, e2, hv'⟩ := hs_knows n I J (xs (i + 1)) (xs (i + 2)) (by omega) hv
        refine z_goF (z_runV (C := RX11) (T := TX11) (N := 13) (ci := 10) h [.int (xs (i + 1)), .int (xs (i + 2))] [] zyX11_knows (c_X11_knows B I J (hJv _ _ _ hv) (xs (i + 1)) (xs (i + 2)) _ _ e1) gL_law_X11_knows rfl rfl rfl ⟨rfl, rfl, by decide, by decide⟩ rfl (Nat.le_of_ble_eq_true rfl) ⟨by decide, by decide⟩ rfl dL_law_552) (rfl : 552 + 3 = 555) ?_
        refine z_aload_n h 2 dL_law_555 rfl (rfl : 555 + 1 = 556) ?_
        refine z_aload_n h 0 dL_law_556 rfl (rfl : 556 + 1 = 557) ?_
        refine z_iload_n h 3 dL_law_557 rfl (rfl : 557 + 1 = 558) ?_
        refine z_iconst h 1 dL_law_558 (by decide) (rfl : 558 + 1 = 559) ?_
        refine z_iadd h dL_law_559 (rfl : 559 + 1 = 560) ?_
        refine z_top (nI (i + 1)) (nI_add i 1) ?_
        refine z_sld h hX hbl hbA (i + 1) rfl (by omega) (by omega) dL_law_560 (rfl : 560 + 1 = 561) ?_
        refine z_aload_n h 0 dL_law_561 rfl (rfl : 561 + 1 = 562) ?_
        refine z_iload_n h 3 dL_law_562 rfl (rfl : 562 + 1 = 563) ?_
        refine z_iconst h 2 dL_law_563 (by decide) (rfl : 563 + 1 = 564) ?_
        refine z_iadd h dL_law_564 (rfl : 564 + 1 = 565) ?_
        refine z_top (nI (i + 2)) (nI_add i 2) ?_
        refine z_sld h hX hbl hbA (i + 2) rfl (by omega) (by omega) dL_law_565 (rfl : 565 + 1 = 566) ?_
        refine z_goF (z_runV (C := RX12) (T := TX12) (N := 46) (ci := 11) h [.int (xs (i + 1)), .int (xs (i + 2))] [.int r] zyX12_knows (c_X12_knows B I1 J (hJv _ _ _ hv) (xs (i + 1)) (xs (i + 2)) _ _ e2) gL_law_X12_knows rfl rfl rfl ⟨rfl, rfl, by decide, by decide⟩ rfl (Nat.le_of_ble_eq_true rfl) ⟨by decide, by decide⟩ rfl dL_law_566) (rfl : 566 + 3 = 569) ?_
        refine z_icmp_eq (pc' := 572) h 1811 dL_law_569 (by decide) rfl (fun _ => ?_) (fun q => absurd rfl q)
        refine z_iinc h 3 (nI (i + 7)) [(3, .int (nI (i + 7))), (0, .ref b), (1, .ref (za B 0)), (2, .ref (za B 147))] dL_law_1811 rfl (nI_add i 7) (by decide) rfl (rfl : 1811 + 3 = 1814) ?_
        refine z_goto (pc' := 18) h dL_law_1814 (by decide) ?_
        refine z_sub (L' := [(0, .ref b), (1, .ref (za B 0)), (2, .ref (za B 147)), (3, .int (nI (i + 7)))]) [1, 2, 3, 0] rfl ?_
        exact ih (i + 7) (n + 1) I2 J (by omega) (by omega) hv'
      | 8, _ =>
        refine z_tabIn (off := 541) h 574 dL_law_33 (by decide) (by decide) (by decide +kernel) (by decide) ?_
        refine z_aload_n h 1 dL_law_574 rfl (rfl : 574 + 1 = 575) ?_
        refine z_aload_n h 0 dL_law_575 rfl (rfl : 575 + 1 = 576) ?_
        refine z_iload_n h 3 dL_law_576 rfl (rfl : 576 + 1 = 577) ?_
        refine z_iconst h 1 dL_law_577 (by decide) (rfl : 577 + 1 = 578) ?_
        refine z_iadd h dL_law_578 (rfl : 578 + 1 = 579) ?_
        refine z_top (nI (i + 1)) (nI_add i 1) ?_
        refine z_sld h hX hbl hbA (i + 1) rfl (by omega) (by omega) dL_law_579 (rfl : 579 + 1 = 580) ?_
        refine z_aload_n h 0 dL_law_580 rfl (rfl : 580 + 1 = 581) ?_
        refine z_iload_n h 3 dL_law_581 rfl (rfl : 581 + 1 = 582) ?_
        refine z_iconst h 2 dL_law_582 (by decide) (rfl : 582 + 1 = 583) ?_
        refine z_iadd h dL_law_583 (rfl : 583 + 1 = 584) ?_
        refine z_top (nI (i + 2)) (nI_add i 2) ?_
        refine z_sld h hX hbl hbA (i + 2) rfl (by omega) (by omega) dL_law_584 (rfl : 584 + 1 = 585) ?_
        refine z_aload_n h 0 dL_law_585 rfl (rfl : 585 + 1 = 586) ?_
        refine z_iload_n h 3 dL_law_586 rfl (rfl : 586 + 1 = 587) ?_
        refine z_iconst h 3 dL_law_587 (by decide) (rfl : 587 + 1 = 588) ?_
        refine z_iadd h dL_law_588 (rfl : 588 + 1 = 589) ?_
        refine z_top (nI (i + 3)) (nI_add i 3) ?_
        refine z_sld h hX hbl hbA (i + 3) rfl (by omega) (by omega) dL_law_589 (rfl : 589 + 1 = 590) ?_
        obtain ⟨r, I1, I2, e1, e2, hv'⟩ := hs_before n I J (xs (i + 1)) (xs (i + 2)) (xs (i + 3)) (by omega) hv
        refine z_goF (z_runV (C := RX11) (T := TX11) (N := 13) (ci := 10) h [.int (xs (i + 1)), .int (xs (i + 2)), .int (xs (i + 3))] [] zyX11_before (c_X11_before B I J (hJv _ _ _ hv) (xs (i + 1)) (xs (i + 2)) (xs (i + 3)) _ _ e1) gL_law_X11_before rfl rfl rfl ⟨rfl, rfl, by decide, by decide⟩ rfl (Nat.le_of_ble_eq_true rfl) ⟨by decide, by decide⟩ rfl dL_law_590) (rfl : 590 + 3 = 593) ?_
        refine z_aload_n h 2 dL_law_593 rfl (rfl : 593 + 1 = 594) ?_
        refine z_aload_n h 0 dL_law_594 rfl (rfl : 594 + 1 = 595) ?_
        refine z_iload_n h 3 dL_law_595 rfl (rfl : 595 + 1 = 596) ?_
        refine z_iconst h 1 dL_law_596 (by decide) (rfl : 596 + 1 = 597) ?_
        refine z_iadd h dL_law_597 (rfl : 597 + 1 = 598) ?_
        refine z_top (nI (i + 1)) (nI_add i 1) ?_
        refine z_sld h hX hbl hbA (i + 1) rfl (by omega) (by omega) dL_law_598 (rfl : 598 + 1 = 599) ?_
        refine z_aload_n h 0 dL_law_599 rfl (rfl : 599 + 1 = 600) ?_
        refine z_iload_n h 3 dL_law_600 rfl (rfl : 600 + 1 = 601) ?_
        refine z_iconst h 2 dL_law_601 (by decide) (rfl : 601 + 1 = 602) ?_
        refine z_iadd h dL_law_602 (rfl : 602 + 1 = 603) ?_
        refine z_top (nI (i + 2)) (nI_add i 2) ?_
        refine z_sld h hX hbl hbA (i + 2) rfl (by omega) (by omega) dL_law_603 (rfl : 603 + 1 = 604) ?_
        refine z_aload_n h 0 dL_law_604 rfl (rfl : 604 + 1 = 605) ?_
        refine z_iload_n h 3 dL_law_605 rfl (rfl : 605 + 1 = 606) ?_
        refine z_iconst h 3 dL_law_606 (by decide) (rfl : 606 + 1 = 607) ?_
        refine z_iadd h dL_law_607 (rfl : 607 + 1 = 608) ?_
        refine z_top (nI (i + 3)) (nI_add i 3) ?_
        refine z_sld h hX hbl hbA (i + 3) rfl (by omega) (by omega) dL_law_608 (rfl : 608 + 1 = 609) ?_
        refine z_goF (z_runV (C := RX12) (T := TX12) (N := 46) (ci := 11) h [.int (xs (i + 1)), .int (xs (i + 2)), .int (xs (i + 3))] [.int r] zyX12_before (c_X12_before B I1 J (hJv _ _ _ hv) (xs (i + 1)) (xs (i + 2)) (xs (i + 3)) _ _ e2) gL_law_X12_before rfl rfl rfl ⟨rfl, rfl, by decide, by decide⟩ rfl (Nat.le_of_ble_eq_true rfl) ⟨by decide, by decide⟩ rfl dL_law_609) (rfl : 609 + 3 = 612) ?_
        refine z_icmp_eq (pc' := 615) h 1811 dL_law_612 (by decide) rfl (fun _ => ?_) (fun q => absurd rfl q)
        refine z_iinc h 3 (nI (i + 7)) [(3, .int (nI (i + 7))), (0, .ref b), (1, .ref (za B 0)), (2, .ref (za B 147))] dL_law_1811 rfl (nI_add i 7) (by decide) rfl (rfl : 1811 + 3 = 1814) ?_
        refine z_goto (pc' := 18) h dL_law_1814 (by decide) ?_
        refine z_sub (L' := [(0, .ref b), (1, .ref (za B 0)), (2, .ref (za B 147)), (3, .int (nI (i + 7)))]) [1, 2, 3, 0] rfl ?_
        exact ih (i + 7) (n + 1) I2 J (by omega) (by omega) hv'
      | 9, _ =>
        refine z_tabIn (off := 584) h 617 dL_law_33 (by decide) (by decide) (by decide +kernel) (by decide) ?_
        refine z_aload_n h 1 dL_law_617 rfl (rfl : 617 + 1 = 618) ?_
        refine z_aload_n h 0 dL_law_618 rfl (rfl : 618 + 1 = 619) ?_
        refine z_iload_n h 3 dL_law_619 rfl (rfl : 619 + 1 = 620) ?_
        refine z_iconst h 1 dL_law_620 (by decide) (rfl : 620 + 1 = 621) ?_
        refine z_iadd h dL_law_621 (rfl : 621 + 1 = 622) ?_
        refine z_top (nI (i + 1)) (nI_add i 1) ?_
        refine z_sld h hX hbl hbA (i + 1) rfl (by omega) (by omega) dL_law_622 (rfl : 622 + 1 = 623) ?_
        refine z_aload_n h 0 dL_law_623 rfl (rfl : 623 + 1 = 624) ?_
        refine z_iload_n h 3 dL_law_624 rfl (rfl : 624 + 1 = 625) ?_
        refine z_iconst h 2 dL_law_625 (by decide) (rfl : 625 + 1 = 626) ?_
        refine z_iadd h dL_law_626 (rfl : 626 + 1 = 627) ?_
        refine z_top (nI (i + 2)) (nI_add i 2) ?_
        refine z_sld h hX hbl hbA (i + 2) rfl (by omega) (by omega) dL_law_627 (rfl : 627 + 1 = 628) ?_
        obtain ⟨r, I1, I2, e1, e2, hv'⟩ := hs_custom n I J (xs (i + 1)) (xs (i + 2)) (by omega) hv
        refine z_goF (z_runV (C := RX11) (T := TX11) (N := 13) (ci := 10) h [.int (xs (i + 1)), .int (xs (i + 2))] [] zyX11_custom (c_X11_custom B I J (hJv _ _ _ hv) (xs (i + 1)) (xs (i + 2)) _ _ e1) gL_law_X11_custom rfl rfl rfl ⟨rfl, rfl, by decide, by decide⟩ rfl (Nat.le_of_ble_eq_true rfl) ⟨by decide, by decide⟩ rfl dL_law_628) (rfl : 628 + 3 = 631) ?_
        refine z_aload_n h 2 dL_law_631 rfl (rfl : 631 + 1 = 632) ?_
        refine z_aload_n h 0 dL_law_632 rfl (rfl : 632 + 1 = 633) ?_
        refine z_iload_n h 3 dL_law_633 rfl (rfl : 633 + 1 = 634) ?_
        refine z_iconst h 1 dL_law_634 (by decide) (rfl : 634 + 1 = 635) ?_
        refine z_iadd h dL_law_635 (rfl : 635 + 1 = 636) ?_
        refine z_top (nI (i + 1)) (nI_add i 1) ?_
        refine z_sld h hX hbl hbA (i + 1) rfl (by omega) (by omega) dL_law_636 (rfl : 636 + 1 = 637) ?_
        refine z_aload_n h 0 dL_law_637 rfl (rfl : 637 + 1 = 638) ?_
        refine z_iload_n h 3 dL_law_638 rfl (rfl : 638 + 1 = 639) ?_
        refine z_iconst h 2 dL_law_639 (by decide) (rfl : 639 + 1 = 640) ?_
        refine z_iadd h dL_law_640 (rfl : 640 + 1 = 641) ?_
        refine z_top (nI (i + 2)) (nI_add i 2) ?_
        refine z_sld h hX hbl hbA (i + 2) rfl (by omega) (by omega) dL_law_641 (rfl : 641 + 1 = 642) ?_
        refine z_goF (z_runV (C := RX12) (T := TX12) (N := 46) (ci := 11) h [.int (xs (i + 1)), .int (xs (i + 2))] [.int r] zyX12_custom (c_X12_custom B I1 J (hJv _ _ _ hv) (xs (i + 1)) (xs (i + 2)) _ _ e2) gL_law_X12_custom rfl rfl rfl ⟨rfl, rfl, by decide, by decide⟩ rfl (Nat.le_of_ble_eq_true rfl) ⟨by decide, by decide⟩ rfl dL_law_642) (rfl : 642 + 3 = 645) ?_
        refine z_icmp_eq (pc' := 648) h 1811 dL_law_645 (by decide) rfl (fun _ => ?_) (fun q => absurd rfl q)
        refine z_iinc h 3 (nI (i + 7)) [(3, .int (nI (i + 7))), (0, .ref b), (1, .ref (za B 0)), (2, .ref (za B 147))] dL_law_1811 rfl (nI_add i 7) (by decide) rfl (rfl : 1811 + 3 = 1814) ?_
        refine z_goto (pc' := 18) h dL_law_1814 (by decide) ?_
        refine z_sub (L' := [(0, .ref b), (1, .ref (za B 0)), (2, .ref (za B 147)), (3, .int (nI (i + 7)))]) [1, 2, 3, 0] rfl ?_
        exact ih (i + 7) (n + 1) I2 J (by omega) (by omega) hv'
      | 10, _ =>
        refine z_tabIn (off := 617) h 650 dL_law_33 (by decide) (by decide) (by decide +kernel) (by decide) ?_
        refine z_aload_n h 1 dL_law_650 rfl (rfl : 650 + 1 = 651) ?_
        refine z_aload_n h 0 dL_law_651 rfl (rfl : 651 + 1 = 652) ?_
        refine z_iload_n h 3 dL_law_652 rfl (rfl : 652 + 1 = 653) ?_
        refine z_iconst h 1 dL_law_653 (by decide) (rfl : 653 + 1 = 654) ?_
        refine z_iadd h dL_law_654 (rfl : 654 + 1 = 655) ?_
        refine z_top (nI (i + 1)) (nI_add i 1) ?_
        refine z_sld h hX hbl hbA (i + 1) rfl (by omega) (by omega) dL_law_655 (rfl : 655 + 1 = 656) ?_
        refine z_aload_n h 0 dL_law_656 rfl (rfl : 656 + 1 = 657) ?_
        refine z_iload_n h 3 dL_law_657 rfl (rfl : 657 + 1 = 658) ?_
        refine z_iconst h 2 dL_law_658 (by decide) (rfl : 658 + 1 = 659) ?_
        refine z_iadd h dL_law_659 (rfl : 659 + 1 = 660) ?_
        refine z_top (nI (i + 2)) (nI_add i 2) ?_
        refine z_sld h hX hbl hbA (i + 2) rfl (by omega) (by omega) dL_law_660 (rfl : 660 + 1 = 661) ?_
        refine z_aload_n h 0 dL_law_661 rfl (rfl : 661 + 1 = 662) ?_
        refine z_iload_n h 3 dL_law_662 rfl (rfl : 662 + 1 = 663) ?_
        refine z_iconst h 3 dL_law_663 (by decide) (rfl : 663 + 1 = 664) ?_
        refine z_iadd h dL_law_664 (rfl : 664 + 1 = 665) ?_
        refine z_top (nI (i + 3)) (nI_add i 3) ?_
        refine z_sld h hX hbl hbA (i + 3) rfl (by omega) (by omega) dL_law_665 (rfl : 665 + 1 = 666) ?_
        obtain ⟨r, I1, I2, e1, e2, hv'⟩ := hs_lacks n I J (xs (i + 1)) (xs (i + 2)) (xs (i + 3)) (by omega) hv
        refine z_goF (z_runV (C := RX11) (T := TX11) (N := 13) (ci := 10) h [.int (xs (i + 1)), .int (xs (i + 2)), .int (xs (i + 3))] [] zyX11_lacks (c_X11_lacks B I J (hJv _ _ _ hv) (xs (i + 1)) (xs (i + 2)) (xs (i + 3)) _ _ e1) gL_law_X11_lacks rfl rfl rfl ⟨rfl, rfl, by decide, by decide⟩ rfl (Nat.le_of_ble_eq_true rfl) ⟨by decide, by decide⟩ rfl dL_law_666) (rfl : 666 + 3 = 669) ?_
        refine z_aload_n h 2 dL_law_669 rfl (rfl : 669 + 1 = 670) ?_
        refine z_aload_n h 0 dL_law_670 rfl (rfl : 670 + 1 = 671) ?_
        refine z_iload_n h 3 dL_law_671 rfl (rfl : 671 + 1 = 672) ?_
        refine z_iconst h 1 dL_law_672 (by decide) (rfl : 672 + 1 = 673) ?_
        refine z_iadd h dL_law_673 (rfl : 673 + 1 = 674) ?_
        refine z_top (nI (i + 1)) (nI_add i 1) ?_
        refine z_sld h hX hbl hbA (i + 1) rfl (by omega) (by omega) dL_law_674 (rfl : 674 + 1 = 675) ?_
        refine z_aload_n h 0 dL_law_675 rfl (rfl : 675 + 1 = 676) ?_
        refine z_iload_n h 3 dL_law_676 rfl (rfl : 676 + 1 = 677) ?_
        refine z_iconst h 2 dL_law_677 (by decide) (rfl : 677 + 1 = 678) ?_
        refine z_iadd h dL_law_678 (rfl : 678 + 1 = 679) ?_
        refine z_top (nI (i + 2)) (nI_add i 2) ?_
        refine z_sld h hX hbl hbA (i + 2) rfl (by omega) (by omega) dL_law_679 (rfl : 679 + 1 = 680) ?_
        refine z_aload_n h 0 dL_law_680 rfl (rfl : 680 + 1 = 681) ?_
        refine z_iload_n h 3 dL_law_681 rfl (rfl : 681 + 1 = 682) ?_
        refine z_iconst h 3 dL_law_682 (by decide) (rfl : 682 + 1 = 683) ?_
        refine z_iadd h dL_law_683 (rfl : 683 + 1 = 684) ?_
        refine z_top (nI (i + 3)) (nI_add i 3) ?_
        refine z_sld h hX hbl hbA (i + 3) rfl (by omega) (by omega) dL_law_684 (rfl : 684 + 1 = 685) ?_
        refine z_goF (z_runV (C := RX12) (T := TX12) (N := 46) (ci := 11) h [.int (xs (i + 1)), .int (xs (i + 2)), .int (xs (i + 3))] [.int r] zyX12_lacks (c_X12_lacks B I1 J (hJv _ _ _ hv) (xs (i + 1)) (xs (i + 2)) (xs (i + 3)) _ _ e2) gL_law_X12_lacks rfl rfl rfl ⟨rfl, rfl, by decide, by decide⟩ rfl (Nat.le_of_ble_eq_true rfl) ⟨by decide, by decide⟩ rfl dL_law_685) (rfl : 685 + 3 = 688) ?_
        refine z_icmp_eq (pc' := 691) h 1811 dL_law_688 (by decide) rfl (fun _ => ?_) (fun q => absurd rfl q)
        refine z_iinc h 3 (nI (i + 7)) [(3, .int (nI (i + 7))), (0, .ref b), (1, .ref (za B 0)), (2, .ref (za B 147))] dL_law_1811 rfl (nI_add i 7) (by decide) rfl (rfl : 1811 + 3 = 1814) ?_
        refine z_goto (pc' := 18) h dL_law_1814 (by decide) ?_
        refine z_sub (L' := [(0, .ref b), (1, .ref (za B 0)), (2, .ref (za B 147)), (3, .int (nI (i + 7)))]) [1, 2, 3, 0] rfl ?_
        exact ih (i + 7) (n + 1) I2 J (by omega) (by omega) hv'
      | 11, _ =>
        refine z_tabIn (off := 660) h 693 dL_law_33 (by decide) (by decide) (by decide +kernel) (by decide) ?_
        refine z_aload_n h 1 dL_law_693 rfl (rfl : 693 + 1 = 694) ?_
        refine z_aload_n h 0 dL_law_694 rfl (rfl : 694 + 1 = 695) ?_
        refine z_iload_n h 3 dL_law_695 rfl (rfl : 695 + 1 = 696) ?_
        refine z_iconst h 1 dL_law_696 (by decide) (rfl : 696 + 1 = 697) ?_
        refine z_iadd h dL_law_697 (rfl : 697 + 1 = 698) ?_
        refine z_top (nI (i + 1)) (nI_add i 1) ?_
        refine z_sld h hX hbl hbA (i + 1) rfl (by omega) (by omega) dL_law_698 (rfl : 698 + 1 = 699) ?_
        refine z_aload_n h 0 dL_law_699 rfl (rfl : 699 + 1 = 700) ?_
        refine z_iload_n h 3 dL_law_700 rfl (rfl : 700 + 1 = 701) ?_
        refine z_iconst h 2 dL_law_701 (by decide) (rfl : 701 + 1 = 702) ?_
        refine z_iadd h dL_law_702 (rfl : 702 + 1 = 703) ?_
        refine z_top (nI (i + 2)) (nI_add i 2) ?_
        refine z_sld h hX hbl hbA (i + 2) rfl (by omega) (by omega) dL_law_703 (rfl : 703 + 1 = 704) ?_
        refine z_i2l h dL_law_704 (rfl : 704 + 1 = 705) ?_
        refine z_bipush h 32 dL_law_705 (by decide) (rfl : 705 + 2 = 707) ?_
        refine z_lshl h dL_law_707 (rfl : 707 + 1 = 708) ?_
        refine z_aload_n h 0 dL_law_708 rfl (rfl : 708 + 1 = 709) ?_
        refine z_iload_n h 3 dL_law_709 rfl (rfl : 709 + 1 = 710) ?_
        refine z_iconst h 3 dL_law_710 (by decide) (rfl : 710 + 1 = 711) ?_
        refine z_iadd h dL_law_711 (rfl : 711 + 1 = 712) ?_
        refine z_top (nI (i + 3)) (nI_add i 3) ?_
        refine z_sld h hX hbl hbA (i + 3) rfl (by omega) (by omega) dL_law_712 (rfl : 712 + 1 = 713) ?_
        refine z_i2l h dL_law_713 (rfl : 713 + 1 = 714) ?_
        refine z_ldc2 h 4294967295 hw_63 dL_law_714 (rfl : 714 + 3 = 717) ?_
        refine z_land h dL_law_717 (rfl : 717 + 1 = 718) ?_
        refine z_lor h dL_law_718 (rfl : 718 + 1 = 719) ?_
        obtain ⟨r, I1, I2, e1, e2, hv'⟩ := hs_write n I J (xs (i + 1)) (((Int32.toInt64 (xs (i + 2))) <<< (Int32.toInt64 (32 : Int32) &&& 63)) ||| ((Int32.toInt64 (xs (i + 3))) &&& (4294967295 : Int64))) (by omega) hv
        refine z_goF (z_runV (C := RX11) (T := TX11) (N := 13) (ci := 10) h [.int (xs (i + 1)), .long (((Int32.toInt64 (xs (i + 2))) <<< (Int32.toInt64 (32 : Int32) &&& 63)) ||| ((Int32.toInt64 (xs (i + 3))) &&& (4294967295 : Int64)))] [] zyX11_write (c_X11_write B I J (hJv _ _ _ hv) (xs (i + 1)) (((Int32.toInt64 (xs (i + 2))) <<< (Int32.toInt64 (32 : Int32) &&& 63)) ||| ((Int32.toInt64 (xs (i + 3))) &&& (4294967295 : Int64))) _ _ e1) gL_law_X11_write rfl rfl rfl ⟨rfl, rfl, by decide, by decide⟩ rfl (Nat.le_of_ble_eq_true rfl) ⟨by decide, by decide⟩ rfl dL_law_719) (rfl : 719 + 3 = 722) ?_
        refine z_aload_n h 2 dL_law_722 rfl (rfl : 722 + 1 = 723) ?_
        refine z_aload_n h 0 dL_law_723 rfl (rfl : 723 + 1 = 724) ?_
        refine z_iload_n h 3 dL_law_724 rfl (rfl : 724 + 1 = 725) ?_
        refine z_iconst h 1 dL_law_725 (by decide) (rfl : 725 + 1 = 726) ?_
        refine z_iadd h dL_law_726 (rfl : 726 + 1 = 727) ?_
        refine z_top (nI (i + 1)) (nI_add i 1) ?_
        refine z_sld h hX hbl hbA (i + 1) rfl (by omega) (by omega) dL_law_727 (rfl : 727 + 1 = 728) ?_
        refine z_aload_n h 0 dL_law_728 rfl (rfl : 728 + 1 = 729) ?_
        refine z_iload_n h 3 dL_law_729 rfl (rfl : 729 + 1 = 730) ?_
        refine z_iconst h 2 dL_law_730 (by decide) (rfl : 730 + 1 = 731) ?_
        refine z_iadd h dL_law_731 (rfl : 731 + 1 = 732) ?_
        refine z_top (nI (i + 2)) (nI_add i 2) ?_
        refine z_sld h hX hbl hbA (i + 2) rfl (by omega) (by omega) dL_law_732 (rfl : 732 + 1 = 733) ?_
        refine z_i2l h dL_law_733 (rfl : 733 + 1 = 734) ?_
        refine z_bipush h 32 dL_law_734 (by decide) (rfl : 734 + 2 = 736) ?_
        refine z_lshl h dL_law_736 (rfl : 736 + 1 = 737) ?_
        refine z_aload_n h 0 dL_law_737 rfl (rfl : 737 + 1 = 738) ?_
        refine z_iload_n h 3 dL_law_738 rfl (rfl : 738 + 1 = 739) ?_
        refine z_iconst h 3 dL_law_739 (by decide) (rfl : 739 + 1 = 740) ?_
        refine z_iadd h dL_law_740 (rfl : 740 + 1 = 741) ?_
        refine z_top (nI (i + 3)) (nI_add i 3) ?_
        refine z_sld h hX hbl hbA (i + 3) rfl (by omega) (by omega) dL_law_741 (rfl : 741 + 1 = 742) ?_
        refine z_i2l h dL_law_742 (rfl : 742 + 1 = 743) ?_
        refine z_ldc2 h 4294967295 hw_63 dL_law_743 (rfl : 743 + 3 = 746) ?_
        refine z_land h dL_law_746 (rfl : 746 + 1 = 747) ?_
        refine z_lor h dL_law_747 (rfl : 747 + 1 = 748) ?_
        refine z_goF (z_runV (C := RX12) (T := TX12) (N := 46) (ci := 11) h [.int (xs (i + 1)), .long (((Int32.toInt64 (xs (i + 2))) <<< (Int32.toInt64 (32 : Int32) &&& 63)) ||| ((Int32.toInt64 (xs (i + 3))) &&& (4294967295 : Int64)))] [.int r] zyX12_write (c_X12_write B I1 J (hJv _ _ _ hv) (xs (i + 1)) (((Int32.toInt64 (xs (i + 2))) <<< (Int32.toInt64 (32 : Int32) &&& 63)) ||| ((Int32.toInt64 (xs (i + 3))) &&& (4294967295 : Int64))) _ _ e2) gL_law_X12_write rfl rfl rfl ⟨rfl, rfl, by decide, by decide⟩ rfl (Nat.le_of_ble_eq_true rfl) ⟨by decide, by decide⟩ rfl dL_law_748) (rfl : 748 + 3 = 751) ?_
        refine z_icmp_eq (pc' := 754) h 1811 dL_law_751 (by decide) rfl (fun _ => ?_) (fun q => absurd rfl q)
        refine z_iinc h 3 (nI (i + 7)) [(3, .int (nI (i + 7))), (0, .ref b), (1, .ref (za B 0)), (2, .ref (za B 147))] dL_law_1811 rfl (nI_add i 7) (by decide) rfl (rfl : 1811 + 3 = 1814) ?_
        refine z_goto (pc' := 18) h dL_law_1814 (by decide) ?_
        refine z_sub (L' := [(0, .ref b), (1, .ref (za B 0)), (2, .ref (za B 147)), (3, .int (nI (i + 7)))]) [1, 2, 3, 0] rfl ?_
        exact ih (i + 7) (n + 1) I2 J (by omega) (by omega) hv'
      | 12, _ =>
        refine z_tabIn (off := 723) h 756 dL_law_33 (by decide) (by decide) (by decide +kernel) (by decide) ?_
        refine z_aload_n h 1 dL_law_756 rfl (rfl : 756 + 1 = 757) ?_
        obtain ⟨r, I1, I2, e1, e2, hv'⟩ := hs_wipe n I J  (by omega) hv
        refine z_goF (z_runV (C := RX11) (T := TX11) (N := 13) (ci := 10) h [] [] zyX11_wipe (c_X11_wipe B I J (hJv _ _ _ hv)  _ _ e1) gL_law_X11_wipe rfl rfl rfl ⟨rfl, rfl, by decide, by decide⟩ rfl (Nat.le_of_ble_eq_true rfl) ⟨by decide, by decide⟩ rfl dL_law_757) (rfl : 757 + 3 = 760) ?_
        refine z_aload_n h 2 dL_law_760 rfl (rfl : 760 + 1 = 761) ?_
        refine z_goF (z_runV (C := RX12) (T := TX12) (N := 46) (ci := 11) h [] [.int r] zyX12_wipe (c_X12_wipe B I1 J (hJv _ _ _ hv)  _ _ e2) gL_law_X12_wipe rfl rfl rfl ⟨rfl, rfl, by decide, by decide⟩ rfl (Nat.le_of_ble_eq_true rfl) ⟨by decide, by decide⟩ rfl dL_law_761) (rfl : 761 + 3 = 764) ?_
        refine z_icmp_eq (pc' := 767) h 1811 dL_law_764 (by decide) rfl (fun _ => ?_) (fun q => absurd rfl q)
        refine z_iinc h 3 (nI (i + 7)) [(3, .int (nI (i + 7))), (0, .ref b), (1, .ref (za B 0)), (2, .ref (za B 147))] dL_law_1811 rfl (nI_add i 7) (by decide) rfl (rfl : 1811 + 3 = 1814) ?_
        refine z_goto (pc' := 18) h dL_law_1814 (by decide) ?_
        refine z_sub (L' := [(0, .ref b), (1, .ref (za B 0)), (2, .ref (za B 147)), (3, .int (nI (i + 7)))]) [1, 2, 3, 0] rfl ?_
        exact ih (i + 7) (n + 1) I2 J (by omega) (by omega) hv'
      | 13, _ =>
        refine z_tabIn (off := 736) h 769 dL_law_33 (by decide) (by decide) (by decide +kernel) (by decide) ?_
        refine z_aload_n h 1 dL_law_769 rfl (rfl : 769 + 1 = 770) ?_
        refine z_aload_n h 0 dL_law_770 rfl (rfl : 770 + 1 = 771) ?_
        refine z_iload_n h 3 dL_law_771 rfl (rfl : 771 + 1 = 772) ?_
        refine z_iconst h 1 dL_law_772 (by decide) (rfl : 772 + 1 = 773) ?_
        refine z_iadd h dL_law_773 (rfl : 773 + 1 = 774) ?_
        refine z_top (nI (i + 1)) (nI_add i 1) ?_
        refine z_sld h hX hbl hbA (i + 1) rfl (by omega) (by omega) dL_law_774 (rfl : 774 + 1 = 775) ?_
        obtain ⟨r, I1, I2, e1, e2, hv'⟩ := hs_fault n I J (xs (i + 1)) (by omega) hv
        refine z_goF (z_runV (C := RX11) (T := TX11) (N := 13) (ci := 10) h [.int (xs (i + 1))] [] zyX11_fault (c_X11_fault B I J (hJv _ _ _ hv) (xs (i + 1)) _ _ e1) gL_law_X11_fault rfl rfl rfl ⟨rfl, rfl, by decide, by decide⟩ rfl (Nat.le_of_ble_eq_true rfl) ⟨by decide, by decide⟩ rfl dL_law_775) (rfl : 775 + 3 = 778) ?_
        refine z_aload_n h 2 dL_law_778 rfl (rfl : 778 + 1 = 779) ?_
        refine z_aload_n h 0 dL_law_779 rfl (rfl : 779 + 1 = 780) ?_
        refine z_iload_n h 3 dL_law_780 rfl (rfl : 780 + 1 = 781) ?_
        refine z_iconst h 1 dL_law_781 (by decide) (rfl : 781 + 1 = 782) ?_
        refine z_iadd h dL_law_782 (rfl : 782 + 1 = 783) ?_
        refine z_top (nI (i + 1)) (nI_add i 1) ?_
        refine z_sld h hX hbl hbA (i + 1) rfl (by omega) (by omega) dL_law_783 (rfl : 783 + 1 = 784) ?_
        refine z_goF (z_runV (C := RX12) (T := TX12) (N := 46) (ci := 11) h [.int (xs (i + 1))] [.int r] zyX12_fault (c_X12_fault B I1 J (hJv _ _ _ hv) (xs (i + 1)) _ _ e2) gL_law_X12_fault rfl rfl rfl ⟨rfl, rfl, by decide, by decide⟩ rfl (Nat.le_of_ble_eq_true rfl) ⟨by decide, by decide⟩ rfl dL_law_784) (rfl : 784 + 3 = 787) ?_
        refine z_icmp_eq (pc' := 790) h 1811 dL_law_787 (by decide) rfl (fun _ => ?_) (fun q => absurd rfl q)
        refine z_iinc h 3 (nI (i + 7)) [(3, .int (nI (i + 7))), (0, .ref b), (1, .ref (za B 0)), (2, .ref (za B 147))] dL_law_1811 rfl (nI_add i 7) (by decide) rfl (rfl : 1811 + 3 = 1814) ?_
        refine z_goto (pc' := 18) h dL_law_1814 (by decide) ?_
        refine z_sub (L' := [(0, .ref b), (1, .ref (za B 0)), (2, .ref (za B 147)), (3, .int (nI (i + 7)))]) [1, 2, 3, 0] rfl ?_
        exact ih (i + 7) (n + 1) I2 J (by omega) (by omega) hv'
      | 14, _ =>
        refine z_tabIn (off := 759) h 792 dL_law_33 (by decide) (by decide) (by decide +kernel) (by decide) ?_
        refine z_aload_n h 1 dL_law_792 rfl (rfl : 792 + 1 = 793) ?_
        obtain ⟨r, I1, I2, e1, e2, hv'⟩ := hs_rule n I J  (by omega) hv
        refine z_goF (z_runV (C := RX11) (T := TX11) (N := 13) (ci := 10) h [] [] zyX11_rule (c_X11_rule B I J (hJv _ _ _ hv)  _ _ e1) gL_law_X11_rule rfl rfl rfl ⟨rfl, rfl, by decide, by decide⟩ rfl (Nat.le_of_ble_eq_true rfl) ⟨by decide, by decide⟩ rfl dL_law_793) (rfl : 793 + 3 = 796) ?_
        refine z_aload_n h 2 dL_law_796 rfl (rfl : 796 + 1 = 797) ?_
        refine z_goF (z_runV (C := RX12) (T := TX12) (N := 46) (ci := 11) h [] [.int r] zyX12_rule (c_X12_rule B I1 J (hJv _ _ _ hv)  _ _ e2) gL_law_X12_rule rfl rfl rfl ⟨rfl, rfl, by decide, by decide⟩ rfl (Nat.le_of_ble_eq_true rfl) ⟨by decide, by decide⟩ rfl dL_law_797) (rfl : 797 + 3 = 800) ?_
        refine z_icmp_eq (pc' := 803) h 1811 dL_law_800 (by decide) rfl (fun _ => ?_) (fun q => absurd rfl q)
        refine z_iinc h 3 (nI (i + 7)) [(3, .int (nI (i + 7))), (0, .ref b), (1, .ref (za B 0)), (2, .ref (za B 147))] dL_law_1811 rfl (nI_add i 7) (by decide) rfl (rfl : 1811 + 3 = 1814) ?_
        refine z_goto (pc' := 18) h dL_law_1814 (by decide) ?_
        refine z_sub (L' := [(0, .ref b), (1, .ref (za B 0)), (2, .ref (za B 147)), (3, .int (nI (i + 7)))]) [1, 2, 3, 0] rfl ?_
        exact ih (i + 7) (n + 1) I2 J (by omega) (by omega) hv'
      | 15, _ =>
        refine z_tabIn (off := 772) h 805 dL_law_33 (by decide) (by decide) (by decide +kernel) (by decide) ?_
        refine z_aload_n h 1 dL_law_805 rfl (rfl : 805 + 1 = 806) ?_
        refine z_aload_n h 0 dL_law_806 rfl (rfl : 806 + 1 = 807) ?_
        refine z_iload_n h 3 dL_law_807 rfl (rfl : 807 + 1 = 808) ?_
        refine z_iconst h 1 dL_law_808 (by decide) (rfl : 808 + 1 = 809) ?_
        refine z_iadd h dL_law_809 (rfl : 809 + 1 = 810) ?_
        refine z_top (nI (i + 1)) (nI_add i 1) ?_
        refine z_sld h hX hbl hbA (i + 1) rfl (by omega) (by omega) dL_law_810 (rfl : 810 + 1 = 811) ?_
        obtain ⟨r, I1, J1, I2, e1, e2, hv'⟩ := hs_unrule n I J (xs (i + 1)) (by omega) hv
        refine z_goFJ (z_runV (C := RX11) (T := TX11) (N := 13) (ci := 10) h [.int (xs (i + 1))] [] zyX11_unrule (c_X11_unrule B I J (hJv _ _ _ hv) (xs (i + 1)) _ _ _ e1) gL_law_X11_unrule rfl rfl rfl ⟨rfl, rfl, by decide, by decide⟩ rfl (Nat.le_of_ble_eq_true rfl) ⟨by decide, by decide⟩ rfl dL_law_811) (rfl : 811 + 3 = 814) ?_
        refine z_aload_n h 2 dL_law_814 rfl (rfl : 814 + 1 = 815) ?_
        refine z_aload_n h 0 dL_law_815 rfl (rfl : 815 + 1 = 816) ?_
        refine z_iload_n h 3 dL_law_816 rfl (rfl : 816 + 1 = 817) ?_
        refine z_iconst h 1 dL_law_817 (by decide) (rfl : 817 + 1 = 818) ?_
        refine z_iadd h dL_law_818 (rfl : 818 + 1 = 819) ?_
        refine z_top (nI (i + 1)) (nI_add i 1) ?_
        refine z_sld h hX hbl hbA (i + 1) rfl (by omega) (by omega) dL_law_819 (rfl : 819 + 1 = 820) ?_
        refine z_goF (z_runV (C := RX12) (T := TX12) (N := 46) (ci := 11) h [.int (xs (i + 1))] [.int r] zyX12_unrule (c_X12_unrule B I1 J1 (hJ1 _ _ _ _ hv e1) (xs (i + 1)) _ _ e2) gL_law_X12_unrule rfl rfl rfl ⟨rfl, rfl, by decide, by decide⟩ rfl (Nat.le_of_ble_eq_true rfl) ⟨by decide, by decide⟩ rfl dL_law_820) (rfl : 820 + 3 = 823) ?_
        refine z_icmp_eq (pc' := 826) h 1811 dL_law_823 (by decide) rfl (fun _ => ?_) (fun q => absurd rfl q)
        refine z_iinc h 3 (nI (i + 7)) [(3, .int (nI (i + 7))), (0, .ref b), (1, .ref (za B 0)), (2, .ref (za B 147))] dL_law_1811 rfl (nI_add i 7) (by decide) rfl (rfl : 1811 + 3 = 1814) ?_
        refine z_goto (pc' := 18) h dL_law_1814 (by decide) ?_
        refine z_sub (L' := [(0, .ref b), (1, .ref (za B 0)), (2, .ref (za B 147)), (3, .int (nI (i + 7)))]) [1, 2, 3, 0] rfl ?_
        exact ih (i + 7) (n + 1) I2 J1 (by omega) (by omega) hv'
      | 16, _ =>
        refine z_tabIn (off := 795) h 828 dL_law_33 (by decide) (by decide) (by decide +kernel) (by decide) ?_
        refine z_aload_n h 1 dL_law_828 rfl (rfl : 828 + 1 = 829) ?_
        refine z_aload_n h 0 dL_law_829 rfl (rfl : 829 + 1 = 830) ?_
        refine z_iload_n h 3 dL_law_830 rfl (rfl : 830 + 1 = 831) ?_
        refine z_iconst h 1 dL_law_831 (by decide) (rfl : 831 + 1 = 832) ?_
        refine z_iadd h dL_law_832 (rfl : 832 + 1 = 833) ?_
        refine z_top (nI (i + 1)) (nI_add i 1) ?_
        refine z_sld h hX hbl hbA (i + 1) rfl (by omega) (by omega) dL_law_833 (rfl : 833 + 1 = 834) ?_
        refine z_aload_n h 0 dL_law_834 rfl (rfl : 834 + 1 = 835) ?_
        refine z_iload_n h 3 dL_law_835 rfl (rfl : 835 + 1 = 836) ?_
        refine z_iconst h 2 dL_law_836 (by decide) (rfl : 836 + 1 = 837) ?_
        refine z_iadd h dL_law_837 (rfl : 837 + 1 = 838) ?_
        refine z_top (nI (i + 2)) (nI_add i 2) ?_
        refine z_sld h hX hbl hbA (i + 2) rfl (by omega) (by omega) dL_law_838 (rfl : 838 + 1 = 839) ?_
        obtain ⟨r, I1, I2, e1, e2, hv'⟩ := hs_ruled n I J (xs (i + 1)) (xs (i + 2)) (by omega) hv
        refine z_goF (z_runV (C := RX11) (T := TX11) (N := 13) (ci := 10) h [.int (xs (i + 1)), .int (xs (i + 2))] [] zyX11_ruled (c_X11_ruled B I J (hJv _ _ _ hv) (xs (i + 1)) (xs (i + 2)) _ _ e1) gL_law_X11_ruled rfl rfl rfl ⟨rfl, rfl, by decide, by decide⟩ rfl (Nat.le_of_ble_eq_true rfl) ⟨by decide, by decide⟩ rfl dL_law_839) (rfl : 839 + 3 = 842) ?_
        refine z_aload_n h 2 dL_law_842 rfl (rfl : 842 + 1 = 843) ?_
        refine z_aload_n h 0 dL_law_843 rfl (rfl : 843 + 1 = 844) ?_
        refine z_iload_n h 3 dL_law_844 rfl (rfl : 844 + 1 = 845) ?_
        refine z_iconst h 1 dL_law_845 (by decide) (rfl : 845 + 1 = 846) ?_
        refine z_iadd h dL_law_846 (rfl : 846 + 1 = 847) ?_
        refine z_top (nI (i + 1)) (nI_add i 1) ?_
        refine z_sld h hX hbl hbA (i + 1) rfl (by omega) (by omega) dL_law_847 (rfl : 847 + 1 = 848) ?_
        refine z_aload_n h 0 dL_law_848 rfl (rfl : 848 + 1 = 849) ?_
        refine z_iload_n h 3 dL_law_849 rfl (rfl : 849 + 1 = 850) ?_
        refine z_iconst h 2 dL_law_850 (by decide) (rfl : 850 + 1 = 851) ?_
        refine z_iadd h dL_law_851 (rfl : 851 + 1 = 852) ?_
        refine z_top (nI (i + 2)) (nI_add i 2) ?_
        refine z_sld h hX hbl hbA (i + 2) rfl (by omega) (by omega) dL_law_852 (rfl : 852 + 1 = 853) ?_
        refine z_goF (z_runV (C := RX12) (T := TX12) (N := 46) (ci := 11) h [.int (xs (i + 1)), .int (xs (i + 2))] [.int r] zyX12_ruled (c_X12_ruled B I1 J (hJv _ _ _ hv) (xs (i + 1)) (xs (i + 2)) _ _ e2) gL_law_X12_ruled rfl rfl rfl ⟨rfl, rfl, by decide, by decide⟩ rfl (Nat.le_of_ble_eq_true rfl) ⟨by decide, by decide⟩ rfl dL_law_853) (rfl : 853 + 3 = 856) ?_
        refine z_icmp_eq (pc' := 859) h 1811 dL_law_856 (by decide) rfl (fun _ => ?_) (fun q => absurd rfl q)
        refine z_iinc h 3 (nI (i + 7)) [(3, .int (nI (i + 7))), (0, .ref b), (1, .ref (za B 0)), (2, .ref (za B 147))] dL_law_1811 rfl (nI_add i 7) (by decide) rfl (rfl : 1811 + 3 = 1814) ?_
        refine z_goto (pc' := 18) h dL_law_1814 (by decide) ?_
        refine z_sub (L' := [(0, .ref b), (1, .ref (za B 0)), (2, .ref (za B 147)), (3, .int (nI (i + 7)))]) [1, 2, 3, 0] rfl ?_
        exact ih (i + 7) (n + 1) I2 J (by omega) (by omega) hv'
      | 17, _ =>
        refine z_tabIn (off := 828) h 861 dL_law_33 (by decide) (by decide) (by decide +kernel) (by decide) ?_
        refine z_aload_n h 1 dL_law_861 rfl (rfl : 861 + 1 = 862) ?_
        refine z_aload_n h 0 dL_law_862 rfl (rfl : 862 + 1 = 863) ?_
        refine z_iload_n h 3 dL_law_863 rfl (rfl : 863 + 1 = 864) ?_
        refine z_iconst h 1 dL_law_864 (by decide) (rfl : 864 + 1 = 865) ?_
        refine z_iadd h dL_law_865 (rfl : 865 + 1 = 866) ?_
        refine z_top (nI (i + 1)) (nI_add i 1) ?_
        refine z_sld h hX hbl hbA (i + 1) rfl (by omega) (by omega) dL_law_866 (rfl : 866 + 1 = 867) ?_
        obtain ⟨r, I1, I2, e1, e2, hv'⟩ := hs_order n I J (xs (i + 1)) (by omega) hv
        refine z_goF (z_runV (C := RX11) (T := TX11) (N := 13) (ci := 10) h [.int (xs (i + 1))] [] zyX11_order (c_X11_order B I J (hJv _ _ _ hv) (xs (i + 1)) _ _ e1) gL_law_X11_order rfl rfl rfl ⟨rfl, rfl, by decide, by decide⟩ rfl (Nat.le_of_ble_eq_true rfl) ⟨by decide, by decide⟩ rfl dL_law_867) (rfl : 867 + 3 = 870) ?_
        refine z_aload_n h 2 dL_law_870 rfl (rfl : 870 + 1 = 871) ?_
        refine z_aload_n h 0 dL_law_871 rfl (rfl : 871 + 1 = 872) ?_
        refine z_iload_n h 3 dL_law_872 rfl (rfl : 872 + 1 = 873) ?_
        refine z_iconst h 1 dL_law_873 (by decide) (rfl : 873 + 1 = 874) ?_
        refine z_iadd h dL_law_874 (rfl : 874 + 1 = 875) ?_
        refine z_top (nI (i + 1)) (nI_add i 1) ?_
        refine z_sld h hX hbl hbA (i + 1) rfl (by omega) (by omega) dL_law_875 (rfl : 875 + 1 = 876) ?_
        refine z_goF (z_runV (C := RX12) (T := TX12) (N := 46) (ci := 11) h [.int (xs (i + 1))] [.int r] zyX12_order (c_X12_order B I1 J (hJv _ _ _ hv) (xs (i + 1)) _ _ e2) gL_law_X12_order rfl rfl rfl ⟨rfl, rfl, by decide, by decide⟩ rfl (Nat.le_of_ble_eq_true rfl) ⟨by decide, by decide⟩ rfl dL_law_876) (rfl : 876 + 3 = 879) ?_
        refine z_icmp_eq (pc' := 882) h 1811 dL_law_879 (by decide) rfl (fun _ => ?_) (fun q => absurd rfl q)
        refine z_iinc h 3 (nI (i + 7)) [(3, .int (nI (i + 7))), (0, .ref b), (1, .ref (za B 0)), (2, .ref (za B 147))] dL_law_1811 rfl (nI_add i 7) (by decide) rfl (rfl : 1811 + 3 = 1814) ?_
        refine z_goto (pc' := 18) h dL_law_1814 (by decide) ?_
        refine z_sub (L' := [(0, .ref b), (1, .ref (za B 0)), (2, .ref (za B 147)), (3, .int (nI (i + 7)))]) [1, 2, 3, 0] rfl ?_
        exact ih (i + 7) (n + 1) I2 J (by omega) (by omega) hv'
      | 18, _ =>
        refine z_tabIn (off := 851) h 884 dL_law_33 (by decide) (by decide) (by decide +kernel) (by decide) ?_
        refine z_aload_n h 1 dL_law_884 rfl (rfl : 884 + 1 = 885) ?_
        refine z_aload_n h 0 dL_law_885 rfl (rfl : 885 + 1 = 886) ?_
        refine z_iload_n h 3 dL_law_886 rfl (rfl : 886 + 1 = 887) ?_
        refine z_iconst h 1 dL_law_887 (by decide) (rfl : 887 + 1 = 888) ?_
        refine z_iadd h dL_law_888 (rfl : 888 + 1 = 889) ?_
        refine z_top (nI (i + 1)) (nI_add i 1) ?_
        refine z_sld h hX hbl hbA (i + 1) rfl (by omega) (by omega) dL_law_889 (rfl : 889 + 1 = 890) ?_
        refine z_aload_n h 0 dL_law_890 rfl (rfl : 890 + 1 = 891) ?_
        refine z_iload_n h 3 dL_law_891 rfl (rfl : 891 + 1 = 892) ?_
        refine z_iconst h 2 dL_law_892 (by decide) (rfl : 892 + 1 = 893) ?_
        refine z_iadd h dL_law_893 (rfl : 893 + 1 = 894) ?_
        refine z_top (nI (i + 2)) (nI_add i 2) ?_
        refine z_sld h hX hbl hbA (i + 2) rfl (by omega) (by omega) dL_law_894 (rfl : 894 + 1 = 895) ?_
        obtain ⟨r, I1, I2, e1, e2, hv'⟩ := hs_ordered n I J (xs (i + 1)) (xs (i + 2)) (by omega) hv
        refine z_goF (z_runV (C := RX11) (T := TX11) (N := 13) (ci := 10) h [.int (xs (i + 1)), .int (xs (i + 2))] [] zyX11_ordered (c_X11_ordered B I J (hJv _ _ _ hv) (xs (i + 1)) (xs (i + 2)) _ _ e1) gL_law_X11_ordered rfl rfl rfl ⟨rfl, rfl, by decide, by decide⟩ rfl (Nat.le_of_ble_eq_true rfl) ⟨by decide, by decide⟩ rfl dL_law_895) (rfl : 895 + 3 = 898) ?_
        refine z_aload_n h 2 dL_law_898 rfl (rfl : 898 + 1 = 899) ?_
        refine z_aload_n h 0 dL_law_899 rfl (rfl : 899 + 1 = 900) ?_
        refine z_iload_n h 3 dL_law_900 rfl (rfl : 900 + 1 = 901) ?_
        refine z_iconst h 1 dL_law_901 (by decide) (rfl : 901 + 1 = 902) ?_
        refine z_iadd h dL_law_902 (rfl : 902 + 1 = 903) ?_
        refine z_top (nI (i + 1)) (nI_add i 1) ?_
        refine z_sld h hX hbl hbA (i + 1) rfl (by omega) (by omega) dL_law_903 (rfl : 903 + 1 = 904) ?_
        refine z_aload_n h 0 dL_law_904 rfl (rfl : 904 + 1 = 905) ?_
        refine z_iload_n h 3 dL_law_905 rfl (rfl : 905 + 1 = 906) ?_
        refine z_iconst h 2 dL_law_906 (by decide) (rfl : 906 + 1 = 907) ?_
        refine z_iadd h dL_law_907 (rfl : 907 + 1 = 908) ?_
        refine z_top (nI (i + 2)) (nI_add i 2) ?_
        refine z_sld h hX hbl hbA (i + 2) rfl (by omega) (by omega) dL_law_908 (rfl : 908 + 1 = 909) ?_
        refine z_goF (z_runV (C := RX12) (T := TX12) (N := 46) (ci := 11) h [.int (xs (i + 1)), .int (xs (i + 2))] [.int r] zyX12_ordered (c_X12_ordered B I1 J (hJv _ _ _ hv) (xs (i + 1)) (xs (i + 2)) _ _ e2) gL_law_X12_ordered rfl rfl rfl ⟨rfl, rfl, by decide, by decide⟩ rfl (Nat.le_of_ble_eq_true rfl) ⟨by decide, by decide⟩ rfl dL_law_909) (rfl : 909 + 3 = 912) ?_
        refine z_icmp_eq (pc' := 915) h 1811 dL_law_912 (by decide) rfl (fun _ => ?_) (fun q => absurd rfl q)
        refine z_iinc h 3 (nI (i + 7)) [(3, .int (nI (i + 7))), (0, .ref b), (1, .ref (za B 0)), (2, .ref (za B 147))] dL_law_1811 rfl (nI_add i 7) (by decide) rfl (rfl : 1811 + 3 = 1814) ?_
        refine z_goto (pc' := 18) h dL_law_1814 (by decide) ?_
        refine z_sub (L' := [(0, .ref b), (1, .ref (za B 0)), (2, .ref (za B 147)), (3, .int (nI (i + 7)))]) [1, 2, 3, 0] rfl ?_
        exact ih (i + 7) (n + 1) I2 J (by omega) (by omega) hv'
      | 19, _ =>
        refine z_tabIn (off := 884) h 917 dL_law_33 (by decide) (by decide) (by decide +kernel) (by decide) ?_
        refine z_aload_n h 1 dL_law_917 rfl (rfl : 917 + 1 = 918) ?_
        refine z_aload_n h 0 dL_law_918 rfl (rfl : 918 + 1 = 919) ?_
        refine z_iload_n h 3 dL_law_919 rfl (rfl : 919 + 1 = 920) ?_
        refine z_iconst h 1 dL_law_920 (by decide) (rfl : 920 + 1 = 921) ?_
        refine z_iadd h dL_law_921 (rfl : 921 + 1 = 922) ?_
        refine z_top (nI (i + 1)) (nI_add i 1) ?_
        refine z_sld h hX hbl hbA (i + 1) rfl (by omega) (by omega) dL_law_922 (rfl : 922 + 1 = 923) ?_
        refine z_aload_n h 0 dL_law_923 rfl (rfl : 923 + 1 = 924) ?_
        refine z_iload_n h 3 dL_law_924 rfl (rfl : 924 + 1 = 925) ?_
        refine z_iconst h 2 dL_law_925 (by decide) (rfl : 925 + 1 = 926) ?_
        refine z_iadd h dL_law_926 (rfl : 926 + 1 = 927) ?_
        refine z_top (nI (i + 2)) (nI_add i 2) ?_
        refine z_sld h hX hbl hbA (i + 2) rfl (by omega) (by omega) dL_law_927 (rfl : 927 + 1 = 928) ?_
        refine z_aload_n h 0 dL_law_928 rfl (rfl : 928 + 1 = 929) ?_
        refine z_iload_n h 3 dL_law_929 rfl (rfl : 929 + 1 = 930) ?_
        refine z_iconst h 3 dL_law_930 (by decide) (rfl : 930 + 1 = 931) ?_
        refine z_iadd h dL_law_931 (rfl : 931 + 1 = 932) ?_
        refine z_top (nI (i + 3)) (nI_add i 3) ?_
        refine z_sld h hX hbl hbA (i + 3) rfl (by omega) (by omega) dL_law_932 (rfl : 932 + 1 = 933) ?_
        obtain ⟨r, I1, I2, e1, e2, hv'⟩ := hs_bargain n I J (xs (i + 1)) (xs (i + 2)) (xs (i + 3)) (by omega) hv
        refine z_goF (z_runV (C := RX11) (T := TX11) (N := 13) (ci := 10) h [.int (xs (i + 1)), .int (xs (i + 2)), .int (xs (i + 3))] [] zyX11_bargain (c_X11_bargain B I J (hJv _ _ _ hv) (xs (i + 1)) (xs (i + 2)) (xs (i + 3)) _ _ e1) gL_law_X11_bargain rfl rfl rfl ⟨rfl, rfl, by decide, by decide⟩ rfl (Nat.le_of_ble_eq_true rfl) ⟨by decide, by decide⟩ rfl dL_law_933) (rfl : 933 + 3 = 936) ?_
        refine z_aload_n h 2 dL_law_936 rfl (rfl : 936 + 1 = 937) ?_
        refine z_aload_n h 0 dL_law_937 rfl (rfl : 937 + 1 = 938) ?_
        refine z_iload_n h 3 dL_law_938 rfl (rfl : 938 + 1 = 939) ?_
        refine z_iconst h 1 dL_law_939 (by decide) (rfl : 939 + 1 = 940) ?_
        refine z_iadd h dL_law_940 (rfl : 940 + 1 = 941) ?_
        refine z_top (nI (i + 1)) (nI_add i 1) ?_
        refine z_sld h hX hbl hbA (i + 1) rfl (by omega) (by omega) dL_law_941 (rfl : 941 + 1 = 942) ?_
        refine z_aload_n h 0 dL_law_942 rfl (rfl : 942 + 1 = 943) ?_
        refine z_iload_n h 3 dL_law_943 rfl (rfl : 943 + 1 = 944) ?_
        refine z_iconst h 2 dL_law_944 (by decide) (rfl : 944 + 1 = 945) ?_
        refine z_iadd h dL_law_945 (rfl : 945 + 1 = 946) ?_
        refine z_top (nI (i + 2)) (nI_add i 2) ?_
        refine z_sld h hX hbl hbA (i + 2) rfl (by omega) (by omega) dL_law_946 (rfl : 946 + 1 = 947) ?_
        refine z_aload_n h 0 dL_law_947 rfl (rfl : 947 + 1 = 948) ?_
        refine z_iload_n h 3 dL_law_948 rfl (rfl : 948 + 1 = 949) ?_
        refine z_iconst h 3 dL_law_949 (by decide) (rfl : 949 + 1 = 950) ?_
        refine z_iadd h dL_law_950 (rfl : 950 + 1 = 951) ?_
        refine z_top (nI (i + 3)) (nI_add i 3) ?_
        refine z_sld h hX hbl hbA (i + 3) rfl (by omega) (by omega) dL_law_951 (rfl : 951 + 1 = 952) ?_
        refine z_goF (z_runV (C := RX12) (T := TX12) (N := 46) (ci := 11) h [.int (xs (i + 1)), .int (xs (i + 2)), .int (xs (i + 3))] [.int r] zyX12_bargain (c_X12_bargain B I1 J (hJv _ _ _ hv) (xs (i + 1)) (xs (i + 2)) (xs (i + 3)) _ _ e2) gL_law_X12_bargain rfl rfl rfl ⟨rfl, rfl, by decide, by decide⟩ rfl (Nat.le_of_ble_eq_true rfl) ⟨by decide, by decide⟩ rfl dL_law_952) (rfl : 952 + 3 = 955) ?_
        refine z_icmp_eq (pc' := 958) h 1811 dL_law_955 (by decide) rfl (fun _ => ?_) (fun q => absurd rfl q)
        refine z_iinc h 3 (nI (i + 7)) [(3, .int (nI (i + 7))), (0, .ref b), (1, .ref (za B 0)), (2, .ref (za B 147))] dL_law_1811 rfl (nI_add i 7) (by decide) rfl (rfl : 1811 + 3 = 1814) ?_
        refine z_goto (pc' := 18) h dL_law_1814 (by decide) ?_
        refine z_sub (L' := [(0, .ref b), (1, .ref (za B 0)), (2, .ref (za B 147)), (3, .int (nI (i + 7)))]) [1, 2, 3, 0] rfl ?_
        exact ih (i + 7) (n + 1) I2 J (by omega) (by omega) hv'
      | 20, _ =>
        refine z_tabIn (off := 927) h 960 dL_law_33 (by decide) (by decide) (by decide +kernel) (by decide) ?_
        refine z_aload_n h 1 dL_law_960 rfl (rfl : 960 + 1 = 961) ?_
        refine z_aload_n h 0 dL_law_961 rfl (rfl : 961 + 1 = 962) ?_
        refine z_iload_n h 3 dL_law_962 rfl (rfl : 962 + 1 = 963) ?_
        refine z_iconst h 1 dL_law_963 (by decide) (rfl : 963 + 1 = 964) ?_
        refine z_iadd h dL_law_964 (rfl : 964 + 1 = 965) ?_
        refine z_top (nI (i + 1)) (nI_add i 1) ?_
        refine z_sld h hX hbl hbA (i + 1) rfl (by omega) (by omega) dL_law_965 (rfl : 965 + 1 = 966) ?_
        obtain ⟨r, I1, I2, e1, e2, hv'⟩ := hs_reword n I J (xs (i + 1)) (by omega) hv
        refine z_goF (z_runV (C := RX11) (T := TX11) (N := 13) (ci := 10) h [.int (xs (i + 1))] [] zyX11_reword (c_X11_reword B I J (hJv _ _ _ hv) (xs (i + 1)) _ _ e1) gL_law_X11_reword rfl rfl rfl ⟨rfl, rfl, by decide, by decide⟩ rfl (Nat.le_of_ble_eq_true rfl) ⟨by decide, by decide⟩ rfl dL_law_966) (rfl : 966 + 3 = 969) ?_
        refine z_aload_n h 2 dL_law_969 rfl (rfl : 969 + 1 = 970) ?_
        refine z_aload_n h 0 dL_law_970 rfl (rfl : 970 + 1 = 971) ?_
        refine z_iload_n h 3 dL_law_971 rfl (rfl : 971 + 1 = 972) ?_
        refine z_iconst h 1 dL_law_972 (by decide) (rfl : 972 + 1 = 973) ?_
        refine z_iadd h dL_law_973 (rfl : 973 + 1 = 974) ?_
        refine z_top (nI (i + 1)) (nI_add i 1) ?_
        refine z_sld h hX hbl hbA (i + 1) rfl (by omega) (by omega) dL_law_974 (rfl : 974 + 1 = 975) ?_
        refine z_goF (z_runV (C := RX12) (T := TX12) (N := 46) (ci := 11) h [.int (xs (i + 1))] [.int r] zyX12_reword (c_X12_reword B I1 J (hJv _ _ _ hv) (xs (i + 1)) _ _ e2) gL_law_X12_reword rfl rfl rfl ⟨rfl, rfl, by decide, by decide⟩ rfl (Nat.le_of_ble_eq_true rfl) ⟨by decide, by decide⟩ rfl dL_law_975) (rfl : 975 + 3 = 978) ?_
        refine z_icmp_eq (pc' := 981) h 1811 dL_law_978 (by decide) rfl (fun _ => ?_) (fun q => absurd rfl q)
        refine z_iinc h 3 (nI (i + 7)) [(3, .int (nI (i + 7))), (0, .ref b), (1, .ref (za B 0)), (2, .ref (za B 147))] dL_law_1811 rfl (nI_add i 7) (by decide) rfl (rfl : 1811 + 3 = 1814) ?_
        refine z_goto (pc' := 18) h dL_law_1814 (by decide) ?_
        refine z_sub (L' := [(0, .ref b), (1, .ref (za B 0)), (2, .ref (za B 147)), (3, .int (nI (i + 7)))]) [1, 2, 3, 0] rfl ?_
        exact ih (i + 7) (n + 1) I2 J (by omega) (by omega) hv'
      | 21, _ =>
        refine z_tabIn (off := 950) h 983 dL_law_33 (by decide) (by decide) (by decide +kernel) (by decide) ?_
        refine z_aload_n h 1 dL_law_983 rfl (rfl : 983 + 1 = 984) ?_
        refine z_aload_n h 0 dL_law_984 rfl (rfl : 984 + 1 = 985) ?_
        refine z_iload_n h 3 dL_law_985 rfl (rfl : 985 + 1 = 986) ?_
        refine z_iconst h 1 dL_law_986 (by decide) (rfl : 986 + 1 = 987) ?_
        refine z_iadd h dL_law_987 (rfl : 987 + 1 = 988) ?_
        refine z_top (nI (i + 1)) (nI_add i 1) ?_
        refine z_sld h hX hbl hbA (i + 1) rfl (by omega) (by omega) dL_law_988 (rfl : 988 + 1 = 989) ?_
        refine z_aload_n h 0 dL_law_989 rfl (rfl : 989 + 1 = 990) ?_
        refine z_iload_n h 3 dL_law_990 rfl (rfl : 990 + 1 = 991) ?_
        refine z_iconst h 2 dL_law_991 (by decide) (rfl : 991 + 1 = 992) ?_
        refine z_iadd h dL_law_992 (rfl : 992 + 1 = 993) ?_
        refine z_top (nI (i + 2)) (nI_add i 2) ?_
        refine z_sld h hX hbl hbA (i + 2) rfl (by omega) (by omega) dL_law_993 (rfl : 993 + 1 = 994) ?_
        obtain ⟨r, I1, I2, e1, e2, hv'⟩ := hs_said n I J (xs (i + 1)) (xs (i + 2)) (by omega) hv
        refine z_goF (z_runV (C := RX11) (T := TX11) (N := 13) (ci := 10) h [.int (xs (i + 1)), .int (xs (i + 2))] [] zyX11_said (c_X11_said B I J (hJv _ _ _ hv) (xs (i + 1)) (xs (i + 2)) _ _ e1) gL_law_X11_said rfl rfl rfl ⟨rfl, rfl, by decide, by decide⟩ rfl (Nat.le_of_ble_eq_true rfl) ⟨by decide, by decide⟩ rfl dL_law_994) (rfl : 994 + 3 = 997) ?_
        refine z_aload_n h 2 dL_law_997 rfl (rfl : 997 + 1 = 998) ?_
        refine z_aload_n h 0 dL_law_998 rfl (rfl : 998 + 1 = 999) ?_
        refine z_iload_n h 3 dL_law_999 rfl (rfl : 999 + 1 = 1000) ?_
        refine z_iconst h 1 dL_law_1000 (by decide) (rfl : 1000 + 1 = 1001) ?_
        refine z_iadd h dL_law_1001 (rfl : 1001 + 1 = 1002) ?_
        refine z_top (nI (i + 1)) (nI_add i 1) ?_
        refine z_sld h hX hbl hbA (i + 1) rfl (by omega) (by omega) dL_law_1002 (rfl : 1002 + 1 = 1003) ?_
        refine z_aload_n h 0 dL_law_1003 rfl (rfl : 1003 + 1 = 1004) ?_
        refine z_iload_n h 3 dL_law_1004 rfl (rfl : 1004 + 1 = 1005) ?_
        refine z_iconst h 2 dL_law_1005 (by decide) (rfl : 1005 + 1 = 1006) ?_
        refine z_iadd h dL_law_1006 (rfl : 1006 + 1 = 1007) ?_
        refine z_top (nI (i + 2)) (nI_add i 2) ?_
        refine z_sld h hX hbl hbA (i + 2) rfl (by omega) (by omega) dL_law_1007 (rfl : 1007 + 1 = 1008) ?_
        refine z_goF (z_runV (C := RX12) (T := TX12) (N := 46) (ci := 11) h [.int (xs (i + 1)), .int (xs (i + 2))] [.int r] zyX12_said (c_X12_said B I1 J (hJv _ _ _ hv) (xs (i + 1)) (xs (i + 2)) _ _ e2) gL_law_X12_said rfl rfl rfl ⟨rfl, rfl, by decide, by decide⟩ rfl (Nat.le_of_ble_eq_true rfl) ⟨by decide, by decide⟩ rfl dL_law_1008) (rfl : 1008 + 3 = 1011) ?_
        refine z_icmp_eq (pc' := 1014) h 1811 dL_law_1011 (by decide) rfl (fun _ => ?_) (fun q => absurd rfl q)
        refine z_iinc h 3 (nI (i + 7)) [(3, .int (nI (i + 7))), (0, .ref b), (1, .ref (za B 0)), (2, .ref (za B 147))] dL_law_1811 rfl (nI_add i 7) (by decide) rfl (rfl : 1811 + 3 = 1814) ?_
        refine z_goto (pc' := 18) h dL_law_1814 (by decide) ?_
        refine z_sub (L' := [(0, .ref b), (1, .ref (za B 0)), (2, .ref (za B 147)), (3, .int (nI (i + 7)))]) [1, 2, 3, 0] rfl ?_
        exact ih (i + 7) (n + 1) I2 J (by omega) (by omega) hv'
      | 22, _ =>
        refine z_tabIn (off := 983) h 1016 dL_law_33 (by decide) (by decide) (by decide +kernel) (by decide) ?_
        refine z_aload_n h 1 dL_law_1016 rfl (rfl : 1016 + 1 = 1017) ?_
        refine z_aload_n h 0 dL_law_1017 rfl (rfl : 1017 + 1 = 1018) ?_
        refine z_iload_n h 3 dL_law_1018 rfl (rfl : 1018 + 1 = 1019) ?_
        refine z_iconst h 1 dL_law_1019 (by decide) (rfl : 1019 + 1 = 1020) ?_
        refine z_iadd h dL_law_1020 (rfl : 1020 + 1 = 1021) ?_
        refine z_top (nI (i + 1)) (nI_add i 1) ?_
        refine z_sld h hX hbl hbA (i + 1) rfl (by omega) (by omega) dL_law_1021 (rfl : 1021 + 1 = 1022) ?_
        refine z_aload_n h 0 dL_law_1022 rfl (rfl : 1022 + 1 = 1023) ?_
        refine z_iload_n h 3 dL_law_1023 rfl (rfl : 1023 + 1 = 1024) ?_
        refine z_iconst h 2 dL_law_1024 (by decide) (rfl : 1024 + 1 = 1025) ?_
        refine z_iadd h dL_law_1025 (rfl : 1025 + 1 = 1026) ?_
        refine z_top (nI (i + 2)) (nI_add i 2) ?_
        refine z_sld h hX hbl hbA (i + 2) rfl (by omega) (by omega) dL_law_1026 (rfl : 1026 + 1 = 1027) ?_
        refine z_aload_n h 0 dL_law_1027 rfl (rfl : 1027 + 1 = 1028) ?_
        refine z_iload_n h 3 dL_law_1028 rfl (rfl : 1028 + 1 = 1029) ?_
        refine z_iconst h 3 dL_law_1029 (by decide) (rfl : 1029 + 1 = 1030) ?_
        refine z_iadd h dL_law_1030 (rfl : 1030 + 1 = 1031) ?_
        refine z_top (nI (i + 3)) (nI_add i 3) ?_
        refine z_sld h hX hbl hbA (i + 3) rfl (by omega) (by omega) dL_law_1031 (rfl : 1031 + 1 = 1032) ?_
        obtain ⟨r, I1, I2, e1, e2, hv'⟩ := hs_next n I J (xs (i + 1)) (xs (i + 2)) (xs (i + 3)) (by omega) hv
        refine z_goF (z_runV (C := RX11) (T := TX11) (N := 13) (ci := 10) h [.int (xs (i + 1)), .int (xs (i + 2)), .int (xs (i + 3))] [] zyX11_next (c_X11_next B I J (hJv _ _ _ hv) (xs (i + 1)) (xs (i + 2)) (xs (i + 3)) _ _ e1) gL_law_X11_next rfl rfl rfl ⟨rfl, rfl, by decide, by decide⟩ rfl (Nat.le_of_ble_eq_true rfl) ⟨by decide, by decide⟩ rfl dL_law_1032) (rfl : 1032 + 3 = 1035) ?_
        refine z_aload_n h 2 dL_law_1035 rfl (rfl : 1035 + 1 = 1036) ?_
        refine z_aload_n h 0 dL_law_1036 rfl (rfl : 1036 + 1 = 1037) ?_
        refine z_iload_n h 3 dL_law_1037 rfl (rfl : 1037 + 1 = 1038) ?_
        refine z_iconst h 1 dL_law_1038 (by decide) (rfl : 1038 + 1 = 1039) ?_
        refine z_iadd h dL_law_1039 (rfl : 1039 + 1 = 1040) ?_
        refine z_top (nI (i + 1)) (nI_add i 1) ?_
        refine z_sld h hX hbl hbA (i + 1) rfl (by omega) (by omega) dL_law_1040 (rfl : 1040 + 1 = 1041) ?_
        refine z_aload_n h 0 dL_law_1041 rfl (rfl : 1041 + 1 = 1042) ?_
        refine z_iload_n h 3 dL_law_1042 rfl (rfl : 1042 + 1 = 1043) ?_
        refine z_iconst h 2 dL_law_1043 (by decide) (rfl : 1043 + 1 = 1044) ?_
        refine z_iadd h dL_law_1044 (rfl : 1044 + 1 = 1045) ?_
        refine z_top (nI (i + 2)) (nI_add i 2) ?_
        refine z_sld h hX hbl hbA (i + 2) rfl (by omega) (by omega) dL_law_1045 (rfl : 1045 + 1 = 1046) ?_
        refine z_aload_n h 0 dL_law_1046 rfl (rfl : 1046 + 1 = 1047) ?_
        refine z_iload_n h 3 dL_law_1047 rfl (rfl : 1047 + 1 = 1048) ?_
        refine z_iconst h 3 dL_law_1048 (by decide) (rfl : 1048 + 1 = 1049) ?_
        refine z_iadd h dL_law_1049 (rfl : 1049 + 1 = 1050) ?_
        refine z_top (nI (i + 3)) (nI_add i 3) ?_
        refine z_sld h hX hbl hbA (i + 3) rfl (by omega) (by omega) dL_law_1050 (rfl : 1050 + 1 = 1051) ?_
        refine z_goF (z_runV (C := RX12) (T := TX12) (N := 46) (ci := 11) h [.int (xs (i + 1)), .int (xs (i + 2)), .int (xs (i + 3))] [.int r] zyX12_next (c_X12_next B I1 J (hJv _ _ _ hv) (xs (i + 1)) (xs (i + 2)) (xs (i + 3)) _ _ e2) gL_law_X12_next rfl rfl rfl ⟨rfl, rfl, by decide, by decide⟩ rfl (Nat.le_of_ble_eq_true rfl) ⟨by decide, by decide⟩ rfl dL_law_1051) (rfl : 1051 + 3 = 1054) ?_
        refine z_icmp_eq (pc' := 1057) h 1811 dL_law_1054 (by decide) rfl (fun _ => ?_) (fun q => absurd rfl q)
        refine z_iinc h 3 (nI (i + 7)) [(3, .int (nI (i + 7))), (0, .ref b), (1, .ref (za B 0)), (2, .ref (za B 147))] dL_law_1811 rfl (nI_add i 7) (by decide) rfl (rfl : 1811 + 3 = 1814) ?_
        refine z_goto (pc' := 18) h dL_law_1814 (by decide) ?_
        refine z_sub (L' := [(0, .ref b), (1, .ref (za B 0)), (2, .ref (za B 147)), (3, .int (nI (i + 7)))]) [1, 2, 3, 0] rfl ?_
        exact ih (i + 7) (n + 1) I2 J (by omega) (by omega) hv'
      | 23, _ =>
        refine z_tabIn (off := 1026) h 1059 dL_law_33 (by decide) (by decide) (by decide +kernel) (by decide) ?_
        refine z_aload_n h 1 dL_law_1059 rfl (rfl : 1059 + 1 = 1060) ?_
        refine z_aload_n h 0 dL_law_1060 rfl (rfl : 1060 + 1 = 1061) ?_
        refine z_iload_n h 3 dL_law_1061 rfl (rfl : 1061 + 1 = 1062) ?_
        refine z_iconst h 1 dL_law_1062 (by decide) (rfl : 1062 + 1 = 1063) ?_
        refine z_iadd h dL_law_1063 (rfl : 1063 + 1 = 1064) ?_
        refine z_top (nI (i + 1)) (nI_add i 1) ?_
        refine z_sld h hX hbl hbA (i + 1) rfl (by omega) (by omega) dL_law_1064 (rfl : 1064 + 1 = 1065) ?_
        refine z_aload_n h 0 dL_law_1065 rfl (rfl : 1065 + 1 = 1066) ?_
        refine z_iload_n h 3 dL_law_1066 rfl (rfl : 1066 + 1 = 1067) ?_
        refine z_iconst h 2 dL_law_1067 (by decide) (rfl : 1067 + 1 = 1068) ?_
        refine z_iadd h dL_law_1068 (rfl : 1068 + 1 = 1069) ?_
        refine z_top (nI (i + 2)) (nI_add i 2) ?_
        refine z_sld h hX hbl hbA (i + 2) rfl (by omega) (by omega) dL_law_1069 (rfl : 1069 + 1 = 1070) ?_
        refine z_aload_n h 0 dL_law_1070 rfl (rfl : 1070 + 1 = 1071) ?_
        refine z_iload_n h 3 dL_law_1071 rfl (rfl : 1071 + 1 = 1072) ?_
        refine z_iconst h 3 dL_law_1072 (by decide) (rfl : 1072 + 1 = 1073) ?_
        refine z_iadd h dL_law_1073 (rfl : 1073 + 1 = 1074) ?_
        refine z_top (nI (i + 3)) (nI_add i 3) ?_
        refine z_sld h hX hbl hbA (i + 3) rfl (by omega) (by omega) dL_law_1074 (rfl : 1074 + 1 = 1075) ?_
        refine z_if_eq (pc' := 1078) h 1082 dL_law_1075 (by decide) rfl (fun c4 => ?_) (fun c4 => ?_)
        · skip
          refine z_iconst h 0 dL_law_1082 (by decide) (rfl : 1082 + 1 = 1083) ?_
          obtain ⟨r, I1, I2, e1, e2, hv'⟩ := hs_rounds n I J (xs (i + 1)) (xs (i + 2)) (0 : Int32) (by decide) (by omega) hv
          refine z_goF (z_runV (C := RX11) (T := TX11) (N := 13) (ci := 10) h [.int (xs (i + 1)), .int (xs (i + 2)), .int 0] [] zyX11_rounds (c_X11_rounds B I J (hJv _ _ _ hv) (xs (i + 1)) (xs (i + 2)) (0 : Int32) _ _ e1) gL_law_X11_rounds rfl rfl rfl ⟨rfl, rfl, by decide, by decide⟩ rfl (Nat.le_of_ble_eq_true rfl) ⟨by decide, by decide⟩ rfl dL_law_1083) (rfl : 1083 + 3 = 1086) ?_
          refine z_aload_n h 2 dL_law_1086 rfl (rfl : 1086 + 1 = 1087) ?_
          refine z_aload_n h 0 dL_law_1087 rfl (rfl : 1087 + 1 = 1088) ?_
          refine z_iload_n h 3 dL_law_1088 rfl (rfl : 1088 + 1 = 1089) ?_
          refine z_iconst h 1 dL_law_1089 (by decide) (rfl : 1089 + 1 = 1090) ?_
          refine z_iadd h dL_law_1090 (rfl : 1090 + 1 = 1091) ?_
          refine z_top (nI (i + 1)) (nI_add i 1) ?_
          refine z_sld h hX hbl hbA (i + 1) rfl (by omega) (by omega) dL_law_1091 (rfl : 1091 + 1 = 1092) ?_
          refine z_aload_n h 0 dL_law_1092 rfl (rfl : 1092 + 1 = 1093) ?_
          refine z_iload_n h 3 dL_law_1093 rfl (rfl : 1093 + 1 = 1094) ?_
          refine z_iconst h 2 dL_law_1094 (by decide) (rfl : 1094 + 1 = 1095) ?_
          refine z_iadd h dL_law_1095 (rfl : 1095 + 1 = 1096) ?_
          refine z_top (nI (i + 2)) (nI_add i 2) ?_
          refine z_sld h hX hbl hbA (i + 2) rfl (by omega) (by omega) dL_law_1096 (rfl : 1096 + 1 = 1097) ?_
          refine z_aload_n h 0 dL_law_1097 rfl (rfl : 1097 + 1 = 1098) ?_
          refine z_iload_n h 3 dL_law_1098 rfl (rfl : 1098 + 1 = 1099) ?_
          refine z_iconst h 3 dL_law_1099 (by decide) (rfl : 1099 + 1 = 1100) ?_
          refine z_iadd h dL_law_1100 (rfl : 1100 + 1 = 1101) ?_
          refine z_top (nI (i + 3)) (nI_add i 3) ?_
          refine z_sld h hX hbl hbA (i + 3) rfl (by omega) (by omega) dL_law_1101 (rfl : 1101 + 1 = 1102) ?_
          refine z_if_eq (pc' := 1105) h 1109 dL_law_1102 (by decide) rfl (fun _ => ?_) (fun q => absurd c4 q)
          refine z_iconst h 0 dL_law_1109 (by decide) (rfl : 1109 + 1 = 1110) ?_
          refine z_goF (z_runV (C := RX12) (T := TX12) (N := 46) (ci := 11) h [.int (xs (i + 1)), .int (xs (i + 2)), .int 0] [.int r] zyX12_rounds (c_X12_rounds B I1 J (hJv _ _ _ hv) (xs (i + 1)) (xs (i + 2)) (0 : Int32) _ _ e2) gL_law_X12_rounds rfl rfl rfl ⟨rfl, rfl, by decide, by decide⟩ rfl (Nat.le_of_ble_eq_true rfl) ⟨by decide, by decide⟩ rfl dL_law_1110) (rfl : 1110 + 3 = 1113) ?_
          refine z_icmp_eq (pc' := 1116) h 1811 dL_law_1113 (by decide) rfl (fun _ => ?_) (fun q => absurd rfl q)
          refine z_iinc h 3 (nI (i + 7)) [(3, .int (nI (i + 7))), (0, .ref b), (1, .ref (za B 0)), (2, .ref (za B 147))] dL_law_1811 rfl (nI_add i 7) (by decide) rfl (rfl : 1811 + 3 = 1814) ?_
          refine z_goto (pc' := 18) h dL_law_1814 (by decide) ?_
          refine z_sub (L' := [(0, .ref b), (1, .ref (za B 0)), (2, .ref (za B 147)), (3, .int (nI (i + 7)))]) [1, 2, 3, 0] rfl ?_
          exact ih (i + 7) (n + 1) I2 J (by omega) (by omega) hv'
        · skip
          refine z_iconst h 1 dL_law_1078 (by decide) (rfl : 1078 + 1 = 1079) ?_
          refine z_goto (pc' := 1083) h dL_law_1079 (by decide) ?_
          obtain ⟨r, I1, I2, e1, e2, hv'⟩ := hs_rounds n I J (xs (i + 1)) (xs (i + 2)) (1 : Int32) (by decide) (by omega) hv
          refine z_goF (z_runV (C := RX11) (T := TX11) (N := 13) (ci := 10) h [.int (xs (i + 1)), .int (xs (i + 2)), .int 1] [] zyX11_rounds (c_X11_rounds B I J (hJv _ _ _ hv) (xs (i + 1)) (xs (i + 2)) (1 : Int32) _ _ e1) gL_law_X11_rounds rfl rfl rfl ⟨rfl, rfl, by decide, by decide⟩ rfl (Nat.le_of_ble_eq_true rfl) ⟨by decide, by decide⟩ rfl dL_law_1083) (rfl : 1083 + 3 = 1086) ?_
          refine z_aload_n h 2 dL_law_1086 rfl (rfl : 1086 + 1 = 1087) ?_
          refine z_aload_n h 0 dL_law_1087 rfl (rfl : 1087 + 1 = 1088) ?_
          refine z_iload_n h 3 dL_law_1088 rfl (rfl : 1088 + 1 = 1089) ?_
          refine z_iconst h 1 dL_law_1089 (by decide) (rfl : 1089 + 1 = 1090) ?_
          refine z_iadd h dL_law_1090 (rfl : 1090 + 1 = 1091) ?_
          refine z_top (nI (i + 1)) (nI_add i 1) ?_
          refine z_sld h hX hbl hbA (i + 1) rfl (by omega) (by omega) dL_law_1091 (rfl : 1091 + 1 = 1092) ?_
          refine z_aload_n h 0 dL_law_1092 rfl (rfl : 1092 + 1 = 1093) ?_
          refine z_iload_n h 3 dL_law_1093 rfl (rfl : 1093 + 1 = 1094) ?_
          refine z_iconst h 2 dL_law_1094 (by decide) (rfl : 1094 + 1 = 1095) ?_
          refine z_iadd h dL_law_1095 (rfl : 1095 + 1 = 1096) ?_
          refine z_top (nI (i + 2)) (nI_add i 2) ?_
          refine z_sld h hX hbl hbA (i + 2) rfl (by omega) (by omega) dL_law_1096 (rfl : 1096 + 1 = 1097) ?_
          refine z_aload_n h 0 dL_law_1097 rfl (rfl : 1097 + 1 = 1098) ?_
          refine z_iload_n h 3 dL_law_1098 rfl (rfl : 1098 + 1 = 1099) ?_
          refine z_iconst h 3 dL_law_1099 (by decide) (rfl : 1099 + 1 = 1100) ?_
          refine z_iadd h dL_law_1100 (rfl : 1100 + 1 = 1101) ?_
          refine z_top (nI (i + 3)) (nI_add i 3) ?_
          refine z_sld h hX hbl hbA (i + 3) rfl (by omega) (by omega) dL_law_1101 (rfl : 1101 + 1 = 1102) ?_
          refine z_if_eq (pc' := 1105) h 1109 dL_law_1102 (by decide) rfl (fun q => absurd q c4) (fun _ => ?_)
          refine z_iconst h 1 dL_law_1105 (by decide) (rfl : 1105 + 1 = 1106) ?_
          refine z_goto (pc' := 1110) h dL_law_1106 (by decide) ?_
          refine z_goF (z_runV (C := RX12) (T := TX12) (N := 46) (ci := 11) h [.int (xs (i + 1)), .int (xs (i + 2)), .int 1] [.int r] zyX12_rounds (c_X12_rounds B I1 J (hJv _ _ _ hv) (xs (i + 1)) (xs (i + 2)) (1 : Int32) _ _ e2) gL_law_X12_rounds rfl rfl rfl ⟨rfl, rfl, by decide, by decide⟩ rfl (Nat.le_of_ble_eq_true rfl) ⟨by decide, by decide⟩ rfl dL_law_1110) (rfl : 1110 + 3 = 1113) ?_
          refine z_icmp_eq (pc' := 1116) h 1811 dL_law_1113 (by decide) rfl (fun _ => ?_) (fun q => absurd rfl q)
          refine z_iinc h 3 (nI (i + 7)) [(3, .int (nI (i + 7))), (0, .ref b), (1, .ref (za B 0)), (2, .ref (za B 147))] dL_law_1811 rfl (nI_add i 7) (by decide) rfl (rfl : 1811 + 3 = 1814) ?_
          refine z_goto (pc' := 18) h dL_law_1814 (by decide) ?_
          refine z_sub (L' := [(0, .ref b), (1, .ref (za B 0)), (2, .ref (za B 147)), (3, .int (nI (i + 7)))]) [1, 2, 3, 0] rfl ?_
          exact ih (i + 7) (n + 1) I2 J (by omega) (by omega) hv'
      | 24, _ =>
        refine z_tabIn (off := 1085) h 1118 dL_law_33 (by decide) (by decide) (by decide +kernel) (by decide) ?_
        refine z_aload_n h 1 dL_law_1118 rfl (rfl : 1118 + 1 = 1119) ?_
        refine z_aload_n h 0 dL_law_1119 rfl (rfl : 1119 + 1 = 1120) ?_
        refine z_iload_n h 3 dL_law_1120 rfl (rfl : 1120 + 1 = 1121) ?_
        refine z_iconst h 1 dL_law_1121 (by decide) (rfl : 1121 + 1 = 1122) ?_
        refine z_iadd h dL_law_1122 (rfl : 1122 + 1 = 1123) ?_
        refine z_top (nI (i + 1)) (nI_add i 1) ?_
        refine z_sld h hX hbl hbA (i + 1) rfl (by omega) (by omega) dL_law_1123 (rfl : 1123 + 1 = 1124) ?_
        refine z_aload_n h 0 dL_law_1124 rfl (rfl : 1124 + 1 = 1125) ?_
        refine z_iload_n h 3 dL_law_1125 rfl (rfl : 1125 + 1 = 1126) ?_
        refine z_iconst h 2 dL_law_1126 (by decide) (rfl : 1126 + 1 = 1127) ?_
        refine z_iadd h dL_law_1127 (rfl : 1127 + 1 = 1128) ?_
        refine z_top (nI (i + 2)) (nI_add i 2) ?_
        refine z_sld h hX hbl hbA (i + 2) rfl (by omega) (by omega) dL_law_1128 (rfl : 1128 + 1 = 1129) ?_
        obtain ⟨r, I1, I2, e1, e2, hv'⟩ := hs_answer n I J (xs (i + 1)) (xs (i + 2)) (by omega) hv
        refine z_goF (z_runV (C := RX11) (T := TX11) (N := 13) (ci := 10) h [.int (xs (i + 1)), .int (xs (i + 2))] [] zyX11_answer (c_X11_answer B I J (hJv _ _ _ hv) (xs (i + 1)) (xs (i + 2)) _ _ e1) gL_law_X11_answer rfl rfl rfl ⟨rfl, rfl, by decide, by decide⟩ rfl (Nat.le_of_ble_eq_true rfl) ⟨by decide, by decide⟩ rfl dL_law_1129) (rfl : 1129 + 3 = 1132) ?_
        refine z_aload_n h 2 dL_law_1132 rfl (rfl : 1132 + 1 = 1133) ?_
        refine z_aload_n h 0 dL_law_1133 rfl (rfl : 1133 + 1 = 1134) ?_
        refine z_iload_n h 3 dL_law_1134 rfl (rfl : 1134 + 1 = 1135) ?_
        refine z_iconst h 1 dL_law_1135 (by decide) (rfl : 1135 + 1 = 1136) ?_
        refine z_iadd h dL_law_1136 (rfl : 1136 + 1 = 1137) ?_
        refine z_top (nI (i + 1)) (nI_add i 1) ?_
        refine z_sld h hX hbl hbA (i + 1) rfl (by omega) (by omega) dL_law_1137 (rfl : 1137 + 1 = 1138) ?_
        refine z_aload_n h 0 dL_law_1138 rfl (rfl : 1138 + 1 = 1139) ?_
        refine z_iload_n h 3 dL_law_1139 rfl (rfl : 1139 + 1 = 1140) ?_
        refine z_iconst h 2 dL_law_1140 (by decide) (rfl : 1140 + 1 = 1141) ?_
        refine z_iadd h dL_law_1141 (rfl : 1141 + 1 = 1142) ?_
        refine z_top (nI (i + 2)) (nI_add i 2) ?_
        refine z_sld h hX hbl hbA (i + 2) rfl (by omega) (by omega) dL_law_1142 (rfl : 1142 + 1 = 1143) ?_
        refine z_goF (z_runV (C := RX12) (T := TX12) (N := 46) (ci := 11) h [.int (xs (i + 1)), .int (xs (i + 2))] [.int r] zyX12_answer (c_X12_answer B I1 J (hJv _ _ _ hv) (xs (i + 1)) (xs (i + 2)) _ _ e2) gL_law_X12_answer rfl rfl rfl ⟨rfl, rfl, by decide, by decide⟩ rfl (Nat.le_of_ble_eq_true rfl) ⟨by decide, by decide⟩ rfl dL_law_1143) (rfl : 1143 + 3 = 1146) ?_
        refine z_icmp_eq (pc' := 1149) h 1811 dL_law_1146 (by decide) rfl (fun _ => ?_) (fun q => absurd rfl q)
        refine z_iinc h 3 (nI (i + 7)) [(3, .int (nI (i + 7))), (0, .ref b), (1, .ref (za B 0)), (2, .ref (za B 147))] dL_law_1811 rfl (nI_add i 7) (by decide) rfl (rfl : 1811 + 3 = 1814) ?_
        refine z_goto (pc' := 18) h dL_law_1814 (by decide) ?_
        refine z_sub (L' := [(0, .ref b), (1, .ref (za B 0)), (2, .ref (za B 147)), (3, .int (nI (i + 7)))]) [1, 2, 3, 0] rfl ?_
        exact ih (i + 7) (n + 1) I2 J (by omega) (by omega) hv'
      | 25, _ =>
        refine z_tabIn (off := 1118) h 1151 dL_law_33 (by decide) (by decide) (by decide +kernel) (by decide) ?_
        refine z_aload_n h 1 dL_law_1151 rfl (rfl : 1151 + 1 = 1152) ?_
        refine z_aload_n h 0 dL_law_1152 rfl (rfl : 1152 + 1 = 1153) ?_
        refine z_iload_n h 3 dL_law_1153 rfl (rfl : 1153 + 1 = 1154) ?_
        refine z_iconst h 1 dL_law_1154 (by decide) (rfl : 1154 + 1 = 1155) ?_
        refine z_iadd h dL_law_1155 (rfl : 1155 + 1 = 1156) ?_
        refine z_top (nI (i + 1)) (nI_add i 1) ?_
        refine z_sld h hX hbl hbA (i + 1) rfl (by omega) (by omega) dL_law_1156 (rfl : 1156 + 1 = 1157) ?_
        refine z_aload_n h 0 dL_law_1157 rfl (rfl : 1157 + 1 = 1158) ?_
        refine z_iload_n h 3 dL_law_1158 rfl (rfl : 1158 + 1 = 1159) ?_
        refine z_iconst h 2 dL_law_1159 (by decide) (rfl : 1159 + 1 = 1160) ?_
        refine z_iadd h dL_law_1160 (rfl : 1160 + 1 = 1161) ?_
        refine z_top (nI (i + 2)) (nI_add i 2) ?_
        refine z_sld h hX hbl hbA (i + 2) rfl (by omega) (by omega) dL_law_1161 (rfl : 1161 + 1 = 1162) ?_
        refine z_aload_n h 0 dL_law_1162 rfl (rfl : 1162 + 1 = 1163) ?_
        refine z_iload_n h 3 dL_law_1163 rfl (rfl : 1163 + 1 = 1164) ?_
        refine z_iconst h 3 dL_law_1164 (by decide) (rfl : 1164 + 1 = 1165) ?_
        refine z_iadd h dL_law_1165 (rfl : 1165 + 1 = 1166) ?_
        refine z_top (nI (i + 3)) (nI_add i 3) ?_
        refine z_sld h hX hbl hbA (i + 3) rfl (by omega) (by omega) dL_law_1166 (rfl : 1166 + 1 = 1167) ?_
        obtain ⟨r, I1, I2, e1, e2, hv'⟩ := hs_fills n I J (xs (i + 1)) (xs (i + 2)) (xs (i + 3)) (by omega) hv
        refine z_goF (z_runV (C := RX11) (T := TX11) (N := 13) (ci := 10) h [.int (xs (i + 1)), .int (xs (i + 2)), .int (xs (i + 3))] [] zyX11_fills (c_X11_fills B I J (hJv _ _ _ hv) (xs (i + 1)) (xs (i + 2)) (xs (i + 3)) _ _ e1) gL_law_X11_fills rfl rfl rfl ⟨rfl, rfl, by decide, by decide⟩ rfl (Nat.le_of_ble_eq_true rfl) ⟨by decide, by decide⟩ rfl dL_law_1167) (rfl : 1167 + 3 = 1170) ?_
        refine z_aload_n h 2 dL_law_1170 rfl (rfl : 1170 + 1 = 1171) ?_
        refine z_aload_n h 0 dL_law_1171 rfl (rfl : 1171 + 1 = 1172) ?_
        refine z_iload_n h 3 dL_law_1172 rfl (rfl : 1172 + 1 = 1173) ?_
        refine z_iconst h 1 dL_law_1173 (by decide) (rfl : 1173 + 1 = 1174) ?_
        refine z_iadd h dL_law_1174 (rfl : 1174 + 1 = 1175) ?_
        refine z_top (nI (i + 1)) (nI_add i 1) ?_
        refine z_sld h hX hbl hbA (i + 1) rfl (by omega) (by omega) dL_law_1175 (rfl : 1175 + 1 = 1176) ?_
        refine z_aload_n h 0 dL_law_1176 rfl (rfl : 1176 + 1 = 1177) ?_
        refine z_iload_n h 3 dL_law_1177 rfl (rfl : 1177 + 1 = 1178) ?_
        refine z_iconst h 2 dL_law_1178 (by decide) (rfl : 1178 + 1 = 1179) ?_
        refine z_iadd h dL_law_1179 (rfl : 1179 + 1 = 1180) ?_
        refine z_top (nI (i + 2)) (nI_add i 2) ?_
        refine z_sld h hX hbl hbA (i + 2) rfl (by omega) (by omega) dL_law_1180 (rfl : 1180 + 1 = 1181) ?_
        refine z_aload_n h 0 dL_law_1181 rfl (rfl : 1181 + 1 = 1182) ?_
        refine z_iload_n h 3 dL_law_1182 rfl (rfl : 1182 + 1 = 1183) ?_
        refine z_iconst h 3 dL_law_1183 (by decide) (rfl : 1183 + 1 = 1184) ?_
        refine z_iadd h dL_law_1184 (rfl : 1184 + 1 = 1185) ?_
        refine z_top (nI (i + 3)) (nI_add i 3) ?_
        refine z_sld h hX hbl hbA (i + 3) rfl (by omega) (by omega) dL_law_1185 (rfl : 1185 + 1 = 1186) ?_
        refine z_goF (z_runV (C := RX12) (T := TX12) (N := 46) (ci := 11) h [.int (xs (i + 1)), .int (xs (i + 2)), .int (xs (i + 3))] [.int r] zyX12_fills (c_X12_fills B I1 J (hJv _ _ _ hv) (xs (i + 1)) (xs (i + 2)) (xs (i + 3)) _ _ e2) gL_law_X12_fills rfl rfl rfl ⟨rfl, rfl, by decide, by decide⟩ rfl (Nat.le_of_ble_eq_true rfl) ⟨by decide, by decide⟩ rfl dL_law_1186) (rfl : 1186 + 3 = 1189) ?_
        refine z_icmp_eq (pc' := 1192) h 1811 dL_law_1189 (by decide) rfl (fun _ => ?_) (fun q => absurd rfl q)
        refine z_iinc h 3 (nI (i + 7)) [(3, .int (nI (i + 7))), (0, .ref b), (1, .ref (za B 0)), (2, .ref (za B 147))] dL_law_1811 rfl (nI_add i 7) (by decide) rfl (rfl : 1811 + 3 = 1814) ?_
        refine z_goto (pc' := 18) h dL_law_1814 (by decide) ?_
        refine z_sub (L' := [(0, .ref b), (1, .ref (za B 0)), (2, .ref (za B 147)), (3, .int (nI (i + 7)))]) [1, 2, 3, 0] rfl ?_
        exact ih (i + 7) (n + 1) I2 J (by omega) (by omega) hv'
      | 26, _ =>
        refine z_tabIn (off := 1161) h 1194 dL_law_33 (by decide) (by decide) (by decide +kernel) (by decide) ?_
        refine z_aload_n h 1 dL_law_1194 rfl (rfl : 1194 + 1 = 1195) ?_
        refine z_aload_n h 0 dL_law_1195 rfl (rfl : 1195 + 1 = 1196) ?_
        refine z_iload_n h 3 dL_law_1196 rfl (rfl : 1196 + 1 = 1197) ?_
        refine z_iconst h 1 dL_law_1197 (by decide) (rfl : 1197 + 1 = 1198) ?_
        refine z_iadd h dL_law_1198 (rfl : 1198 + 1 = 1199) ?_
        refine z_top (nI (i + 1)) (nI_add i 1) ?_
        refine z_sld h hX hbl hbA (i + 1) rfl (by omega) (by omega) dL_law_1199 (rfl : 1199 + 1 = 1200) ?_
        refine z_aload_n h 0 dL_law_1200 rfl (rfl : 1200 + 1 = 1201) ?_
        refine z_iload_n h 3 dL_law_1201 rfl (rfl : 1201 + 1 = 1202) ?_
        refine z_iconst h 2 dL_law_1202 (by decide) (rfl : 1202 + 1 = 1203) ?_
        refine z_iadd h dL_law_1203 (rfl : 1203 + 1 = 1204) ?_
        refine z_top (nI (i + 2)) (nI_add i 2) ?_
        refine z_sld h hX hbl hbA (i + 2) rfl (by omega) (by omega) dL_law_1204 (rfl : 1204 + 1 = 1205) ?_
        refine z_aload_n h 0 dL_law_1205 rfl (rfl : 1205 + 1 = 1206) ?_
        refine z_iload_n h 3 dL_law_1206 rfl (rfl : 1206 + 1 = 1207) ?_
        refine z_iconst h 3 dL_law_1207 (by decide) (rfl : 1207 + 1 = 1208) ?_
        refine z_iadd h dL_law_1208 (rfl : 1208 + 1 = 1209) ?_
        refine z_top (nI (i + 3)) (nI_add i 3) ?_
        refine z_sld h hX hbl hbA (i + 3) rfl (by omega) (by omega) dL_law_1209 (rfl : 1209 + 1 = 1210) ?_
        obtain ⟨r, I1, I2, e1, e2, hv'⟩ := hs_reason n I J (xs (i + 1)) (xs (i + 2)) (xs (i + 3)) (by omega) hv
        refine z_goF (z_runV (C := RX11) (T := TX11) (N := 13) (ci := 10) h [.int (xs (i + 1)), .int (xs (i + 2)), .int (xs (i + 3))] [] zyX11_reason (c_X11_reason B I J (hJv _ _ _ hv) (xs (i + 1)) (xs (i + 2)) (xs (i + 3)) _ _ e1) gL_law_X11_reason rfl rfl rfl ⟨rfl, rfl, by decide, by decide⟩ rfl (Nat.le_of_ble_eq_true rfl) ⟨by decide, by decide⟩ rfl dL_law_1210) (rfl : 1210 + 3 = 1213) ?_
        refine z_aload_n h 2 dL_law_1213 rfl (rfl : 1213 + 1 = 1214) ?_
        refine z_aload_n h 0 dL_law_1214 rfl (rfl : 1214 + 1 = 1215) ?_
        refine z_iload_n h 3 dL_law_1215 rfl (rfl : 1215 + 1 = 1216) ?_
        refine z_iconst h 1 dL_law_1216 (by decide) (rfl : 1216 + 1 = 1217) ?_
        refine z_iadd h dL_law_1217 (rfl : 1217 + 1 = 1218) ?_
        refine z_top (nI (i + 1)) (nI_add i 1) ?_
        refine z_sld h hX hbl hbA (i + 1) rfl (by omega) (by omega) dL_law_1218 (rfl : 1218 + 1 = 1219) ?_
        refine z_aload_n h 0 dL_law_1219 rfl (rfl : 1219 + 1 = 1220) ?_
        refine z_iload_n h 3 dL_law_1220 rfl (rfl : 1220 + 1 = 1221) ?_
        refine z_iconst h 2 dL_law_1221 (by decide) (rfl : 1221 + 1 = 1222) ?_
        refine z_iadd h dL_law_1222 (rfl : 1222 + 1 = 1223) ?_
        refine z_top (nI (i + 2)) (nI_add i 2) ?_
        refine z_sld h hX hbl hbA (i + 2) rfl (by omega) (by omega) dL_law_1223 (rfl : 1223 + 1 = 1224) ?_
        refine z_aload_n h 0 dL_law_1224 rfl (rfl : 1224 + 1 = 1225) ?_
        refine z_iload_n h 3 dL_law_1225 rfl (rfl : 1225 + 1 = 1226) ?_
        refine z_iconst h 3 dL_law_1226 (by decide) (rfl : 1226 + 1 = 1227) ?_
        refine z_iadd h dL_law_1227 (rfl : 1227 + 1 = 1228) ?_
        refine z_top (nI (i + 3)) (nI_add i 3) ?_
        refine z_sld h hX hbl hbA (i + 3) rfl (by omega) (by omega) dL_law_1228 (rfl : 1228 + 1 = 1229) ?_
        refine z_goF (z_runV (C := RX12) (T := TX12) (N := 46) (ci := 11) h [.int (xs (i + 1)), .int (xs (i + 2)), .int (xs (i + 3))] [.int r] zyX12_reason (c_X12_reason B I1 J (hJv _ _ _ hv) (xs (i + 1)) (xs (i + 2)) (xs (i + 3)) _ _ e2) gL_law_X12_reason rfl rfl rfl ⟨rfl, rfl, by decide, by decide⟩ rfl (Nat.le_of_ble_eq_true rfl) ⟨by decide, by decide⟩ rfl dL_law_1229) (rfl : 1229 + 3 = 1232) ?_
        refine z_icmp_eq (pc' := 1235) h 1811 dL_law_1232 (by decide) rfl (fun _ => ?_) (fun q => absurd rfl q)
        refine z_iinc h 3 (nI (i + 7)) [(3, .int (nI (i + 7))), (0, .ref b), (1, .ref (za B 0)), (2, .ref (za B 147))] dL_law_1811 rfl (nI_add i 7) (by decide) rfl (rfl : 1811 + 3 = 1814) ?_
        refine z_goto (pc' := 18) h dL_law_1814 (by decide) ?_
        refine z_sub (L' := [(0, .ref b), (1, .ref (za B 0)), (2, .ref (za B 147)), (3, .int (nI (i + 7)))]) [1, 2, 3, 0] rfl ?_
        exact ih (i + 7) (n + 1) I2 J (by omega) (by omega) hv'
      | 27, _ =>
        refine z_tabIn (off := 1204) h 1237 dL_law_33 (by decide) (by decide) (by decide +kernel) (by decide) ?_
        refine z_aload_n h 1 dL_law_1237 rfl (rfl : 1237 + 1 = 1238) ?_
        refine z_aload_n h 0 dL_law_1238 rfl (rfl : 1238 + 1 = 1239) ?_
        refine z_iload_n h 3 dL_law_1239 rfl (rfl : 1239 + 1 = 1240) ?_
        refine z_iconst h 1 dL_law_1240 (by decide) (rfl : 1240 + 1 = 1241) ?_
        refine z_iadd h dL_law_1241 (rfl : 1241 + 1 = 1242) ?_
        refine z_top (nI (i + 1)) (nI_add i 1) ?_
        refine z_sld h hX hbl hbA (i + 1) rfl (by omega) (by omega) dL_law_1242 (rfl : 1242 + 1 = 1243) ?_
        refine z_aload_n h 0 dL_law_1243 rfl (rfl : 1243 + 1 = 1244) ?_
        refine z_iload_n h 3 dL_law_1244 rfl (rfl : 1244 + 1 = 1245) ?_
        refine z_iconst h 2 dL_law_1245 (by decide) (rfl : 1245 + 1 = 1246) ?_
        refine z_iadd h dL_law_1246 (rfl : 1246 + 1 = 1247) ?_
        refine z_top (nI (i + 2)) (nI_add i 2) ?_
        refine z_sld h hX hbl hbA (i + 2) rfl (by omega) (by omega) dL_law_1247 (rfl : 1247 + 1 = 1248) ?_
        refine z_aload_n h 0 dL_law_1248 rfl (rfl : 1248 + 1 = 1249) ?_
        refine z_iload_n h 3 dL_law_1249 rfl (rfl : 1249 + 1 = 1250) ?_
        refine z_iconst h 3 dL_law_1250 (by decide) (rfl : 1250 + 1 = 1251) ?_
        refine z_iadd h dL_law_1251 (rfl : 1251 + 1 = 1252) ?_
        refine z_top (nI (i + 3)) (nI_add i 3) ?_
        refine z_sld h hX hbl hbA (i + 3) rfl (by omega) (by omega) dL_law_1252 (rfl : 1252 + 1 = 1253) ?_
        refine z_if_eq (pc' := 1256) h 1260 dL_law_1253 (by decide) rfl (fun c5 => ?_) (fun c5 => ?_)
        · skip
          refine z_iconst h 0 dL_law_1260 (by decide) (rfl : 1260 + 1 = 1261) ?_
          obtain ⟨r, I1, I2, e1, e2, hv'⟩ := hs_open n I J (xs (i + 1)) (xs (i + 2)) (0 : Int32) (by decide) (by omega) hv
          refine z_goF (z_runV (C := RX11) (T := TX11) (N := 13) (ci := 10) h [.int (xs (i + 1)), .int (xs (i + 2)), .int 0] [] zyX11_open (c_X11_open B I J (hJv _ _ _ hv) (xs (i + 1)) (xs (i + 2)) (0 : Int32) _ _ e1) gL_law_X11_open rfl rfl rfl ⟨rfl, rfl, by decide, by decide⟩ rfl (Nat.le_of_ble_eq_true rfl) ⟨by decide, by decide⟩ rfl dL_law_1261) (rfl : 1261 + 3 = 1264) ?_
          refine z_aload_n h 2 dL_law_1264 rfl (rfl : 1264 + 1 = 1265) ?_
          refine z_aload_n h 0 dL_law_1265 rfl (rfl : 1265 + 1 = 1266) ?_
          refine z_iload_n h 3 dL_law_1266 rfl (rfl : 1266 + 1 = 1267) ?_
          refine z_iconst h 1 dL_law_1267 (by decide) (rfl : 1267 + 1 = 1268) ?_
          refine z_iadd h dL_law_1268 (rfl : 1268 + 1 = 1269) ?_
          refine z_top (nI (i + 1)) (nI_add i 1) ?_
          refine z_sld h hX hbl hbA (i + 1) rfl (by omega) (by omega) dL_law_1269 (rfl : 1269 + 1 = 1270) ?_
          refine z_aload_n h 0 dL_law_1270 rfl (rfl : 1270 + 1 = 1271) ?_
          refine z_iload_n h 3 dL_law_1271 rfl (rfl : 1271 + 1 = 1272) ?_
          refine z_iconst h 2 dL_law_1272 (by decide) (rfl : 1272 + 1 = 1273) ?_
          refine z_iadd h dL_law_1273 (rfl : 1273 + 1 = 1274) ?_
          refine z_top (nI (i + 2)) (nI_add i 2) ?_
          refine z_sld h hX hbl hbA (i + 2) rfl (by omega) (by omega) dL_law_1274 (rfl : 1274 + 1 = 1275) ?_
          refine z_aload_n h 0 dL_law_1275 rfl (rfl : 1275 + 1 = 1276) ?_
          refine z_iload_n h 3 dL_law_1276 rfl (rfl : 1276 + 1 = 1277) ?_
          refine z_iconst h 3 dL_law_1277 (by decide) (rfl : 1277 + 1 = 1278) ?_
          refine z_iadd h dL_law_1278 (rfl : 1278 + 1 = 1279) ?_
          refine z_top (nI (i + 3)) (nI_add i 3) ?_
          refine z_sld h hX hbl hbA (i + 3) rfl (by omega) (by omega) dL_law_1279 (rfl : 1279 + 1 = 1280) ?_
          refine z_if_eq (pc' := 1283) h 1287 dL_law_1280 (by decide) rfl (fun _ => ?_) (fun q => absurd c5 q)
          refine z_iconst h 0 dL_law_1287 (by decide) (rfl : 1287 + 1 = 1288) ?_
          refine z_goF (z_runV (C := RX12) (T := TX12) (N := 46) (ci := 11) h [.int (xs (i + 1)), .int (xs (i + 2)), .int 0] [.int r] zyX12_open (c_X12_open B I1 J (hJv _ _ _ hv) (xs (i + 1)) (xs (i + 2)) (0 : Int32) _ _ e2) gL_law_X12_open rfl rfl rfl ⟨rfl, rfl, by decide, by decide⟩ rfl (Nat.le_of_ble_eq_true rfl) ⟨by decide, by decide⟩ rfl dL_law_1288) (rfl : 1288 + 3 = 1291) ?_
          refine z_icmp_eq (pc' := 1294) h 1811 dL_law_1291 (by decide) rfl (fun _ => ?_) (fun q => absurd rfl q)
          refine z_iinc h 3 (nI (i + 7)) [(3, .int (nI (i + 7))), (0, .ref b), (1, .ref (za B 0)), (2, .ref (za B 147))] dL_law_1811 rfl (nI_add i 7) (by decide) rfl (rfl : 1811 + 3 = 1814) ?_
          refine z_goto (pc' := 18) h dL_law_1814 (by decide) ?_
          refine z_sub (L' := [(0, .ref b), (1, .ref (za B 0)), (2, .ref (za B 147)), (3, .int (nI (i + 7)))]) [1, 2, 3, 0] rfl ?_
          exact ih (i + 7) (n + 1) I2 J (by omega) (by omega) hv'
        · skip
          refine z_iconst h 1 dL_law_1256 (by decide) (rfl : 1256 + 1 = 1257) ?_
          refine z_goto (pc' := 1261) h dL_law_1257 (by decide) ?_
          obtain ⟨r, I1, I2, e1, e2, hv'⟩ := hs_open n I J (xs (i + 1)) (xs (i + 2)) (1 : Int32) (by decide) (by omega) hv
          refine z_goF (z_runV (C := RX11) (T := TX11) (N := 13) (ci := 10) h [.int (xs (i + 1)), .int (xs (i + 2)), .int 1] [] zyX11_open (c_X11_open B I J (hJv _ _ _ hv) (xs (i + 1)) (xs (i + 2)) (1 : Int32) _ _ e1) gL_law_X11_open rfl rfl rfl ⟨rfl, rfl, by decide, by decide⟩ rfl (Nat.le_of_ble_eq_true rfl) ⟨by decide, by decide⟩ rfl dL_law_1261) (rfl : 1261 + 3 = 1264) ?_
          refine z_aload_n h 2 dL_law_1264 rfl (rfl : 1264 + 1 = 1265) ?_
          refine z_aload_n h 0 dL_law_1265 rfl (rfl : 1265 + 1 = 1266) ?_
          refine z_iload_n h 3 dL_law_1266 rfl (rfl : 1266 + 1 = 1267) ?_
          refine z_iconst h 1 dL_law_1267 (by decide) (rfl : 1267 + 1 = 1268) ?_
          refine z_iadd h dL_law_1268 (rfl : 1268 + 1 = 1269) ?_
          refine z_top (nI (i + 1)) (nI_add i 1) ?_
          refine z_sld h hX hbl hbA (i + 1) rfl (by omega) (by omega) dL_law_1269 (rfl : 1269 + 1 = 1270) ?_
          refine z_aload_n h 0 dL_law_1270 rfl (rfl : 1270 + 1 = 1271) ?_
          refine z_iload_n h 3 dL_law_1271 rfl (rfl : 1271 + 1 = 1272) ?_
          refine z_iconst h 2 dL_law_1272 (by decide) (rfl : 1272 + 1 = 1273) ?_
          refine z_iadd h dL_law_1273 (rfl : 1273 + 1 = 1274) ?_
          refine z_top (nI (i + 2)) (nI_add i 2) ?_
          refine z_sld h hX hbl hbA (i + 2) rfl (by omega) (by omega) dL_law_1274 (rfl : 1274 + 1 = 1275) ?_
          refine z_aload_n h 0 dL_law_1275 rfl (rfl : 1275 + 1 = 1276) ?_
          refine z_iload_n h 3 dL_law_1276 rfl (rfl : 1276 + 1 = 1277) ?_
          refine z_iconst h 3 dL_law_1277 (by decide) (rfl : 1277 + 1 = 1278) ?_
          refine z_iadd h dL_law_1278 (rfl : 1278 + 1 = 1279) ?_
          refine z_top (nI (i + 3)) (nI_add i 3) ?_
          refine z_sld h hX hbl hbA (i + 3) rfl (by omega) (by omega) dL_law_1279 (rfl : 1279 + 1 = 1280) ?_
          refine z_if_eq (pc' := 1283) h 1287 dL_law_1280 (by decide) rfl (fun q => absurd q c5) (fun _ => ?_)
          refine z_iconst h 1 dL_law_1283 (by decide) (rfl : 1283 + 1 = 1284) ?_
          refine z_goto (pc' := 1288) h dL_law_1284 (by decide) ?_
          refine z_goF (z_runV (C := RX12) (T := TX12) (N := 46) (ci := 11) h [.int (xs (i + 1)), .int (xs (i + 2)), .int 1] [.int r] zyX12_open (c_X12_open B I1 J (hJv _ _ _ hv) (xs (i + 1)) (xs (i + 2)) (1 : Int32) _ _ e2) gL_law_X12_open rfl rfl rfl ⟨rfl, rfl, by decide, by decide⟩ rfl (Nat.le_of_ble_eq_true rfl) ⟨by decide, by decide⟩ rfl dL_law_1288) (rfl : 1288 + 3 = 1291) ?_
          refine z_icmp_eq (pc' := 1294) h 1811 dL_law_1291 (by decide) rfl (fun _ => ?_) (fun q => absurd rfl q)
          refine z_iinc h 3 (nI (i + 7)) [(3, .int (nI (i + 7))), (0, .ref b), (1, .ref (za B 0)), (2, .ref (za B 147))] dL_law_1811 rfl (nI_add i 7) (by decide) rfl (rfl : 1811 + 3 = 1814) ?_
          refine z_goto (pc' := 18) h dL_law_1814 (by decide) ?_
          refine z_sub (L' := [(0, .ref b), (1, .ref (za B 0)), (2, .ref (za B 147)), (3, .int (nI (i + 7)))]) [1, 2, 3, 0] rfl ?_
          exact ih (i + 7) (n + 1) I2 J (by omega) (by omega) hv'
      | 28, _ =>
        refine z_tabIn (off := 1263) h 1296 dL_law_33 (by decide) (by decide) (by decide +kernel) (by decide) ?_
        refine z_aload_n h 1 dL_law_1296 rfl (rfl : 1296 + 1 = 1297) ?_
        refine z_aload_n h 0 dL_law_1297 rfl (rfl : 1297 + 1 = 1298) ?_
        refine z_iload_n h 3 dL_law_1298 rfl (rfl : 1298 + 1 = 1299) ?_
        refine z_iconst h 1 dL_law_1299 (by decide) (rfl : 1299 + 1 = 1300) ?_
        refine z_iadd h dL_law_1300 (rfl : 1300 + 1 = 1301) ?_
        refine z_top (nI (i + 1)) (nI_add i 1) ?_
        refine z_sld h hX hbl hbA (i + 1) rfl (by omega) (by omega) dL_law_1301 (rfl : 1301 + 1 = 1302) ?_
        refine z_aload_n h 0 dL_law_1302 rfl (rfl : 1302 + 1 = 1303) ?_
        refine z_iload_n h 3 dL_law_1303 rfl (rfl : 1303 + 1 = 1304) ?_
        refine z_iconst h 2 dL_law_1304 (by decide) (rfl : 1304 + 1 = 1305) ?_
        refine z_iadd h dL_law_1305 (rfl : 1305 + 1 = 1306) ?_
        refine z_top (nI (i + 2)) (nI_add i 2) ?_
        refine z_sld h hX hbl hbA (i + 2) rfl (by omega) (by omega) dL_law_1306 (rfl : 1306 + 1 = 1307) ?_
        obtain ⟨r, I1, I2, e1, e2, hv'⟩ := hs_holds n I J (xs (i + 1)) (xs (i + 2)) (by omega) hv
        refine z_goF (z_runV (C := RX11) (T := TX11) (N := 13) (ci := 10) h [.int (xs (i + 1)), .int (xs (i + 2))] [] zyX11_holds (c_X11_holds B I J (hJv _ _ _ hv) (xs (i + 1)) (xs (i + 2)) _ _ e1) gL_law_X11_holds rfl rfl rfl ⟨rfl, rfl, by decide, by decide⟩ rfl (Nat.le_of_ble_eq_true rfl) ⟨by decide, by decide⟩ rfl dL_law_1307) (rfl : 1307 + 3 = 1310) ?_
        refine z_aload_n h 2 dL_law_1310 rfl (rfl : 1310 + 1 = 1311) ?_
        refine z_aload_n h 0 dL_law_1311 rfl (rfl : 1311 + 1 = 1312) ?_
        refine z_iload_n h 3 dL_law_1312 rfl (rfl : 1312 + 1 = 1313) ?_
        refine z_iconst h 1 dL_law_1313 (by decide) (rfl : 1313 + 1 = 1314) ?_
        refine z_iadd h dL_law_1314 (rfl : 1314 + 1 = 1315) ?_
        refine z_top (nI (i + 1)) (nI_add i 1) ?_
        refine z_sld h hX hbl hbA (i + 1) rfl (by omega) (by omega) dL_law_1315 (rfl : 1315 + 1 = 1316) ?_
        refine z_aload_n h 0 dL_law_1316 rfl (rfl : 1316 + 1 = 1317) ?_
        refine z_iload_n h 3 dL_law_1317 rfl (rfl : 1317 + 1 = 1318) ?_
        refine z_iconst h 2 dL_law_1318 (by decide) (rfl : 1318 + 1 = 1319) ?_
        refine z_iadd h dL_law_1319 (rfl : 1319 + 1 = 1320) ?_
        refine z_top (nI (i + 2)) (nI_add i 2) ?_
        refine z_sld h hX hbl hbA (i + 2) rfl (by omega) (by omega) dL_law_1320 (rfl : 1320 + 1 = 1321) ?_
        refine z_goF (z_runV (C := RX12) (T := TX12) (N := 46) (ci := 11) h [.int (xs (i + 1)), .int (xs (i + 2))] [.int r] zyX12_holds (c_X12_holds B I1 J (hJv _ _ _ hv) (xs (i + 1)) (xs (i + 2)) _ _ e2) gL_law_X12_holds rfl rfl rfl ⟨rfl, rfl, by decide, by decide⟩ rfl (Nat.le_of_ble_eq_true rfl) ⟨by decide, by decide⟩ rfl dL_law_1321) (rfl : 1321 + 3 = 1324) ?_
        refine z_icmp_eq (pc' := 1327) h 1811 dL_law_1324 (by decide) rfl (fun _ => ?_) (fun q => absurd rfl q)
        refine z_iinc h 3 (nI (i + 7)) [(3, .int (nI (i + 7))), (0, .ref b), (1, .ref (za B 0)), (2, .ref (za B 147))] dL_law_1811 rfl (nI_add i 7) (by decide) rfl (rfl : 1811 + 3 = 1814) ?_
        refine z_goto (pc' := 18) h dL_law_1814 (by decide) ?_
        refine z_sub (L' := [(0, .ref b), (1, .ref (za B 0)), (2, .ref (za B 147)), (3, .int (nI (i + 7)))]) [1, 2, 3, 0] rfl ?_
        exact ih (i + 7) (n + 1) I2 J (by omega) (by omega) hv'
      | 29, _ =>
        refine z_tabIn (off := 1296) h 1329 dL_law_33 (by decide) (by decide) (by decide +kernel) (by decide) ?_
        refine z_aload_n h 1 dL_law_1329 rfl (rfl : 1329 + 1 = 1330) ?_
        refine z_aload_n h 0 dL_law_1330 rfl (rfl : 1330 + 1 = 1331) ?_
        refine z_iload_n h 3 dL_law_1331 rfl (rfl : 1331 + 1 = 1332) ?_
        refine z_iconst h 1 dL_law_1332 (by decide) (rfl : 1332 + 1 = 1333) ?_
        refine z_iadd h dL_law_1333 (rfl : 1333 + 1 = 1334) ?_
        refine z_top (nI (i + 1)) (nI_add i 1) ?_
        refine z_sld h hX hbl hbA (i + 1) rfl (by omega) (by omega) dL_law_1334 (rfl : 1334 + 1 = 1335) ?_
        refine z_aload_n h 0 dL_law_1335 rfl (rfl : 1335 + 1 = 1336) ?_
        refine z_iload_n h 3 dL_law_1336 rfl (rfl : 1336 + 1 = 1337) ?_
        refine z_iconst h 2 dL_law_1337 (by decide) (rfl : 1337 + 1 = 1338) ?_
        refine z_iadd h dL_law_1338 (rfl : 1338 + 1 = 1339) ?_
        refine z_top (nI (i + 2)) (nI_add i 2) ?_
        refine z_sld h hX hbl hbA (i + 2) rfl (by omega) (by omega) dL_law_1339 (rfl : 1339 + 1 = 1340) ?_
        refine z_aload_n h 0 dL_law_1340 rfl (rfl : 1340 + 1 = 1341) ?_
        refine z_iload_n h 3 dL_law_1341 rfl (rfl : 1341 + 1 = 1342) ?_
        refine z_iconst h 3 dL_law_1342 (by decide) (rfl : 1342 + 1 = 1343) ?_
        refine z_iadd h dL_law_1343 (rfl : 1343 + 1 = 1344) ?_
        refine z_top (nI (i + 3)) (nI_add i 3) ?_
        refine z_sld h hX hbl hbA (i + 3) rfl (by omega) (by omega) dL_law_1344 (rfl : 1344 + 1 = 1345) ?_
        obtain ⟨r, I1, I2, e1, e2, hv'⟩ := hs_judge n I J (xs (i + 1)) (xs (i + 2)) (xs (i + 3)) (by omega) hv
        refine z_goF (z_runV (C := RX11) (T := TX11) (N := 13) (ci := 10) h [.int (xs (i + 1)), .int (xs (i + 2)), .int (xs (i + 3))] [] zyX11_judge (c_X11_judge B I J (hJv _ _ _ hv) (xs (i + 1)) (xs (i + 2)) (xs (i + 3)) _ _ e1) gL_law_X11_judge rfl rfl rfl ⟨rfl, rfl, by decide, by decide⟩ rfl (Nat.le_of_ble_eq_true rfl) ⟨by decide, by decide⟩ rfl dL_law_1345) (rfl : 1345 + 3 = 1348) ?_
        refine z_aload_n h 2 dL_law_1348 rfl (rfl : 1348 + 1 = 1349) ?_
        refine z_aload_n h 0 dL_law_1349 rfl (rfl : 1349 + 1 = 1350) ?_
        refine z_iload_n h 3 dL_law_1350 rfl (rfl : 1350 + 1 = 1351) ?_
        refine z_iconst h 1 dL_law_1351 (by decide) (rfl : 1351 + 1 = 1352) ?_
        refine z_iadd h dL_law_1352 (rfl : 1352 + 1 = 1353) ?_
        refine z_top (nI (i + 1)) (nI_add i 1) ?_
        refine z_sld h hX hbl hbA (i + 1) rfl (by omega) (by omega) dL_law_1353 (rfl : 1353 + 1 = 1354) ?_
        refine z_aload_n h 0 dL_law_1354 rfl (rfl : 1354 + 1 = 1355) ?_
        refine z_iload_n h 3 dL_law_1355 rfl (rfl : 1355 + 1 = 1356) ?_
        refine z_iconst h 2 dL_law_1356 (by decide) (rfl : 1356 + 1 = 1357) ?_
        refine z_iadd h dL_law_1357 (rfl : 1357 + 1 = 1358) ?_
        refine z_top (nI (i + 2)) (nI_add i 2) ?_
        refine z_sld h hX hbl hbA (i + 2) rfl (by omega) (by omega) dL_law_1358 (rfl : 1358 + 1 = 1359) ?_
        refine z_aload_n h 0 dL_law_1359 rfl (rfl : 1359 + 1 = 1360) ?_
        refine z_iload_n h 3 dL_law_1360 rfl (rfl : 1360 + 1 = 1361) ?_
        refine z_iconst h 3 dL_law_1361 (by decide) (rfl : 1361 + 1 = 1362) ?_
        refine z_iadd h dL_law_1362 (rfl : 1362 + 1 = 1363) ?_
        refine z_top (nI (i + 3)) (nI_add i 3) ?_
        refine z_sld h hX hbl hbA (i + 3) rfl (by omega) (by omega) dL_law_1363 (rfl : 1363 + 1 = 1364) ?_
        refine z_goF (z_runV (C := RX12) (T := TX12) (N := 46) (ci := 11) h [.int (xs (i + 1)), .int (xs (i + 2)), .int (xs (i + 3))] [.int r] zyX12_judge (c_X12_judge B I1 J (hJv _ _ _ hv) (xs (i + 1)) (xs (i + 2)) (xs (i + 3)) _ _ e2) gL_law_X12_judge rfl rfl rfl ⟨rfl, rfl, by decide, by decide⟩ rfl (Nat.le_of_ble_eq_true rfl) ⟨by decide, by decide⟩ rfl dL_law_1364) (rfl : 1364 + 3 = 1367) ?_
        refine z_icmp_eq (pc' := 1370) h 1811 dL_law_1367 (by decide) rfl (fun _ => ?_) (fun q => absurd rfl q)
        refine z_iinc h 3 (nI (i + 7)) [(3, .int (nI (i + 7))), (0, .ref b), (1, .ref (za B 0)), (2, .ref (za B 147))] dL_law_1811 rfl (nI_add i 7) (by decide) rfl (rfl : 1811 + 3 = 1814) ?_
        refine z_goto (pc' := 18) h dL_law_1814 (by decide) ?_
        refine z_sub (L' := [(0, .ref b), (1, .ref (za B 0)), (2, .ref (za B 147)), (3, .int (nI (i + 7)))]) [1, 2, 3, 0] rfl ?_
        exact ih (i + 7) (n + 1) I2 J (by omega) (by omega) hv'
      | 30, _ =>
        refine z_tabIn (off := 1339) h 1372 dL_law_33 (by decide) (by decide) (by decide +kernel) (by decide) ?_
        refine z_aload_n h 1 dL_law_1372 rfl (rfl : 1372 + 1 = 1373) ?_
        refine z_aload_n h 0 dL_law_1373 rfl (rfl : 1373 + 1 = 1374) ?_
        refine z_iload_n h 3 dL_law_1374 rfl (rfl : 1374 + 1 = 1375) ?_
        refine z_iconst h 1 dL_law_1375 (by decide) (rfl : 1375 + 1 = 1376) ?_
        refine z_iadd h dL_law_1376 (rfl : 1376 + 1 = 1377) ?_
        refine z_top (nI (i + 1)) (nI_add i 1) ?_
        refine z_sld h hX hbl hbA (i + 1) rfl (by omega) (by omega) dL_law_1377 (rfl : 1377 + 1 = 1378) ?_
        refine z_aload_n h 0 dL_law_1378 rfl (rfl : 1378 + 1 = 1379) ?_
        refine z_iload_n h 3 dL_law_1379 rfl (rfl : 1379 + 1 = 1380) ?_
        refine z_iconst h 2 dL_law_1380 (by decide) (rfl : 1380 + 1 = 1381) ?_
        refine z_iadd h dL_law_1381 (rfl : 1381 + 1 = 1382) ?_
        refine z_top (nI (i + 2)) (nI_add i 2) ?_
        refine z_sld h hX hbl hbA (i + 2) rfl (by omega) (by omega) dL_law_1382 (rfl : 1382 + 1 = 1383) ?_
        refine z_aload_n h 0 dL_law_1383 rfl (rfl : 1383 + 1 = 1384) ?_
        refine z_iload_n h 3 dL_law_1384 rfl (rfl : 1384 + 1 = 1385) ?_
        refine z_iconst h 3 dL_law_1385 (by decide) (rfl : 1385 + 1 = 1386) ?_
        refine z_iadd h dL_law_1386 (rfl : 1386 + 1 = 1387) ?_
        refine z_top (nI (i + 3)) (nI_add i 3) ?_
        refine z_sld h hX hbl hbA (i + 3) rfl (by omega) (by omega) dL_law_1387 (rfl : 1387 + 1 = 1388) ?_
        obtain ⟨r, I1, I2, e1, e2, hv'⟩ := hs_differ n I J (xs (i + 1)) (xs (i + 2)) (xs (i + 3)) (by omega) hv
        refine z_goF (z_runV (C := RX11) (T := TX11) (N := 13) (ci := 10) h [.int (xs (i + 1)), .int (xs (i + 2)), .int (xs (i + 3))] [] zyX11_differ (c_X11_differ B I J (hJv _ _ _ hv) (xs (i + 1)) (xs (i + 2)) (xs (i + 3)) _ _ e1) gL_law_X11_differ rfl rfl rfl ⟨rfl, rfl, by decide, by decide⟩ rfl (Nat.le_of_ble_eq_true rfl) ⟨by decide, by decide⟩ rfl dL_law_1388) (rfl : 1388 + 3 = 1391) ?_
        refine z_aload_n h 2 dL_law_1391 rfl (rfl : 1391 + 1 = 1392) ?_
        refine z_aload_n h 0 dL_law_1392 rfl (rfl : 1392 + 1 = 1393) ?_
        refine z_iload_n h 3 dL_law_1393 rfl (rfl : 1393 + 1 = 1394) ?_
        refine z_iconst h 1 dL_law_1394 (by decide) (rfl : 1394 + 1 = 1395) ?_
        refine z_iadd h dL_law_1395 (rfl : 1395 + 1 = 1396) ?_
        refine z_top (nI (i + 1)) (nI_add i 1) ?_
        refine z_sld h hX hbl hbA (i + 1) rfl (by omega) (by omega) dL_law_1396 (rfl : 1396 + 1 = 1397) ?_
        refine z_aload_n h 0 dL_law_1397 rfl (rfl : 1397 + 1 = 1398) ?_
        refine z_iload_n h 3 dL_law_1398 rfl (rfl : 1398 + 1 = 1399) ?_
        refine z_iconst h 2 dL_law_1399 (by decide) (rfl : 1399 + 1 = 1400) ?_
        refine z_iadd h dL_law_1400 (rfl : 1400 + 1 = 1401) ?_
        refine z_top (nI (i + 2)) (nI_add i 2) ?_
        refine z_sld h hX hbl hbA (i + 2) rfl (by omega) (by omega) dL_law_1401 (rfl : 1401 + 1 = 1402) ?_
        refine z_aload_n h 0 dL_law_1402 rfl (rfl : 1402 + 1 = 1403) ?_
        refine z_iload_n h 3 dL_law_1403 rfl (rfl : 1403 + 1 = 1404) ?_
        refine z_iconst h 3 dL_law_1404 (by decide) (rfl : 1404 + 1 = 1405) ?_
        refine z_iadd h dL_law_1405 (rfl : 1405 + 1 = 1406) ?_
        refine z_top (nI (i + 3)) (nI_add i 3) ?_
        refine z_sld h hX hbl hbA (i + 3) rfl (by omega) (by omega) dL_law_1406 (rfl : 1406 + 1 = 1407) ?_
        refine z_goF (z_runV (C := RX12) (T := TX12) (N := 46) (ci := 11) h [.int (xs (i + 1)), .int (xs (i + 2)), .int (xs (i + 3))] [.int r] zyX12_differ (c_X12_differ B I1 J (hJv _ _ _ hv) (xs (i + 1)) (xs (i + 2)) (xs (i + 3)) _ _ e2) gL_law_X12_differ rfl rfl rfl ⟨rfl, rfl, by decide, by decide⟩ rfl (Nat.le_of_ble_eq_true rfl) ⟨by decide, by decide⟩ rfl dL_law_1407) (rfl : 1407 + 3 = 1410) ?_
        refine z_icmp_eq (pc' := 1413) h 1811 dL_law_1410 (by decide) rfl (fun _ => ?_) (fun q => absurd rfl q)
        refine z_iinc h 3 (nI (i + 7)) [(3, .int (nI (i + 7))), (0, .ref b), (1, .ref (za B 0)), (2, .ref (za B 147))] dL_law_1811 rfl (nI_add i 7) (by decide) rfl (rfl : 1811 + 3 = 1814) ?_
        refine z_goto (pc' := 18) h dL_law_1814 (by decide) ?_
        refine z_sub (L' := [(0, .ref b), (1, .ref (za B 0)), (2, .ref (za B 147)), (3, .int (nI (i + 7)))]) [1, 2, 3, 0] rfl ?_
        exact ih (i + 7) (n + 1) I2 J (by omega) (by omega) hv'
      | 31, _ =>
        refine z_tabIn (off := 1382) h 1415 dL_law_33 (by decide) (by decide) (by decide +kernel) (by decide) ?_
        refine z_aload_n h 1 dL_law_1415 rfl (rfl : 1415 + 1 = 1416) ?_
        refine z_aload_n h 0 dL_law_1416 rfl (rfl : 1416 + 1 = 1417) ?_
        refine z_iload_n h 3 dL_law_1417 rfl (rfl : 1417 + 1 = 1418) ?_
        refine z_iconst h 1 dL_law_1418 (by decide) (rfl : 1418 + 1 = 1419) ?_
        refine z_iadd h dL_law_1419 (rfl : 1419 + 1 = 1420) ?_
        refine z_top (nI (i + 1)) (nI_add i 1) ?_
        refine z_sld h hX hbl hbA (i + 1) rfl (by omega) (by omega) dL_law_1420 (rfl : 1420 + 1 = 1421) ?_
        refine z_aload_n h 0 dL_law_1421 rfl (rfl : 1421 + 1 = 1422) ?_
        refine z_iload_n h 3 dL_law_1422 rfl (rfl : 1422 + 1 = 1423) ?_
        refine z_iconst h 2 dL_law_1423 (by decide) (rfl : 1423 + 1 = 1424) ?_
        refine z_iadd h dL_law_1424 (rfl : 1424 + 1 = 1425) ?_
        refine z_top (nI (i + 2)) (nI_add i 2) ?_
        refine z_sld h hX hbl hbA (i + 2) rfl (by omega) (by omega) dL_law_1425 (rfl : 1425 + 1 = 1426) ?_
        obtain ⟨r, I1, I2, e1, e2, hv'⟩ := hs_step n I J (xs (i + 1)) (xs (i + 2)) (by omega) hv
        refine z_goF (z_runV (C := RX11) (T := TX11) (N := 13) (ci := 10) h [.int (xs (i + 1)), .int (xs (i + 2))] [] zyX11_step (c_X11_step B I J (hJv _ _ _ hv) (xs (i + 1)) (xs (i + 2)) _ _ e1) gL_law_X11_step rfl rfl rfl ⟨rfl, rfl, by decide, by decide⟩ rfl (Nat.le_of_ble_eq_true rfl) ⟨by decide, by decide⟩ rfl dL_law_1426) (rfl : 1426 + 3 = 1429) ?_
        refine z_aload_n h 2 dL_law_1429 rfl (rfl : 1429 + 1 = 1430) ?_
        refine z_aload_n h 0 dL_law_1430 rfl (rfl : 1430 + 1 = 1431) ?_
        refine z_iload_n h 3 dL_law_1431 rfl (rfl : 1431 + 1 = 1432) ?_
        refine z_iconst h 1 dL_law_1432 (by decide) (rfl : 1432 + 1 = 1433) ?_
        refine z_iadd h dL_law_1433 (rfl : 1433 + 1 = 1434) ?_
        refine z_top (nI (i + 1)) (nI_add i 1) ?_
        refine z_sld h hX hbl hbA (i + 1) rfl (by omega) (by omega) dL_law_1434 (rfl : 1434 + 1 = 1435) ?_
        refine z_aload_n h 0 dL_law_1435 rfl (rfl : 1435 + 1 = 1436) ?_
        refine z_iload_n h 3 dL_law_1436 rfl (rfl : 1436 + 1 = 1437) ?_
        refine z_iconst h 2 dL_law_1437 (by decide) (rfl : 1437 + 1 = 1438) ?_
        refine z_iadd h dL_law_1438 (rfl : 1438 + 1 = 1439) ?_
        refine z_top (nI (i + 2)) (nI_add i 2) ?_
        refine z_sld h hX hbl hbA (i + 2) rfl (by omega) (by omega) dL_law_1439 (rfl : 1439 + 1 = 1440) ?_
        refine z_goF (z_runV (C := RX12) (T := TX12) (N := 46) (ci := 11) h [.int (xs (i + 1)), .int (xs (i + 2))] [.int r] zyX12_step (c_X12_step B I1 J (hJv _ _ _ hv) (xs (i + 1)) (xs (i + 2)) _ _ e2) gL_law_X12_step rfl rfl rfl ⟨rfl, rfl, by decide, by decide⟩ rfl (Nat.le_of_ble_eq_true rfl) ⟨by decide, by decide⟩ rfl dL_law_1440) (rfl : 1440 + 3 = 1443) ?_
        refine z_icmp_eq (pc' := 1446) h 1811 dL_law_1443 (by decide) rfl (fun _ => ?_) (fun q => absurd rfl q)
        refine z_iinc h 3 (nI (i + 7)) [(3, .int (nI (i + 7))), (0, .ref b), (1, .ref (za B 0)), (2, .ref (za B 147))] dL_law_1811 rfl (nI_add i 7) (by decide) rfl (rfl : 1811 + 3 = 1814) ?_
        refine z_goto (pc' := 18) h dL_law_1814 (by decide) ?_
        refine z_sub (L' := [(0, .ref b), (1, .ref (za B 0)), (2, .ref (za B 147)), (3, .int (nI (i + 7)))]) [1, 2, 3, 0] rfl ?_
        exact ih (i + 7) (n + 1) I2 J (by omega) (by omega) hv'
      | 32, _ =>
        refine z_tabIn (off := 1415) h 1448 dL_law_33 (by decide) (by decide) (by decide +kernel) (by decide) ?_
        refine z_aload_n h 1 dL_law_1448 rfl (rfl : 1448 + 1 = 1449) ?_
        refine z_aload_n h 0 dL_law_1449 rfl (rfl : 1449 + 1 = 1450) ?_
        refine z_iload_n h 3 dL_law_1450 rfl (rfl : 1450 + 1 = 1451) ?_
        refine z_iconst h 1 dL_law_1451 (by decide) (rfl : 1451 + 1 = 1452) ?_
        refine z_iadd h dL_law_1452 (rfl : 1452 + 1 = 1453) ?_
        refine z_top (nI (i + 1)) (nI_add i 1) ?_
        refine z_sld h hX hbl hbA (i + 1) rfl (by omega) (by omega) dL_law_1453 (rfl : 1453 + 1 = 1454) ?_
        refine z_aload_n h 0 dL_law_1454 rfl (rfl : 1454 + 1 = 1455) ?_
        refine z_iload_n h 3 dL_law_1455 rfl (rfl : 1455 + 1 = 1456) ?_
        refine z_iconst h 2 dL_law_1456 (by decide) (rfl : 1456 + 1 = 1457) ?_
        refine z_iadd h dL_law_1457 (rfl : 1457 + 1 = 1458) ?_
        refine z_top (nI (i + 2)) (nI_add i 2) ?_
        refine z_sld h hX hbl hbA (i + 2) rfl (by omega) (by omega) dL_law_1458 (rfl : 1458 + 1 = 1459) ?_
        obtain ⟨r, I1, I2, e1, e2, hv'⟩ := hs_moves n I J (xs (i + 1)) (xs (i + 2)) (by omega) hv
        refine z_goF (z_runV (C := RX11) (T := TX11) (N := 13) (ci := 10) h [.int (xs (i + 1)), .int (xs (i + 2))] [] zyX11_moves (c_X11_moves B I J (hJv _ _ _ hv) (xs (i + 1)) (xs (i + 2)) _ _ e1) gL_law_X11_moves rfl rfl rfl ⟨rfl, rfl, by decide, by decide⟩ rfl (Nat.le_of_ble_eq_true rfl) ⟨by decide, by decide⟩ rfl dL_law_1459) (rfl : 1459 + 3 = 1462) ?_
        refine z_aload_n h 2 dL_law_1462 rfl (rfl : 1462 + 1 = 1463) ?_
        refine z_aload_n h 0 dL_law_1463 rfl (rfl : 1463 + 1 = 1464) ?_
        refine z_iload_n h 3 dL_law_1464 rfl (rfl : 1464 + 1 = 1465) ?_
        refine z_iconst h 1 dL_law_1465 (by decide) (rfl : 1465 + 1 = 1466) ?_
        refine z_iadd h dL_law_1466 (rfl : 1466 + 1 = 1467) ?_
        refine z_top (nI (i + 1)) (nI_add i 1) ?_
        refine z_sld h hX hbl hbA (i + 1) rfl (by omega) (by omega) dL_law_1467 (rfl : 1467 + 1 = 1468) ?_
        refine z_aload_n h 0 dL_law_1468 rfl (rfl : 1468 + 1 = 1469) ?_
        refine z_iload_n h 3 dL_law_1469 rfl (rfl : 1469 + 1 = 1470) ?_
        refine z_iconst h 2 dL_law_1470 (by decide) (rfl : 1470 + 1 = 1471) ?_
        refine z_iadd h dL_law_1471 (rfl : 1471 + 1 = 1472) ?_
        refine z_top (nI (i + 2)) (nI_add i 2) ?_
        refine z_sld h hX hbl hbA (i + 2) rfl (by omega) (by omega) dL_law_1472 (rfl : 1472 + 1 = 1473) ?_
        refine z_goF (z_runV (C := RX12) (T := TX12) (N := 46) (ci := 11) h [.int (xs (i + 1)), .int (xs (i + 2))] [.int r] zyX12_moves (c_X12_moves B I1 J (hJv _ _ _ hv) (xs (i + 1)) (xs (i + 2)) _ _ e2) gL_law_X12_moves rfl rfl rfl ⟨rfl, rfl, by decide, by decide⟩ rfl (Nat.le_of_ble_eq_true rfl) ⟨by decide, by decide⟩ rfl dL_law_1473) (rfl : 1473 + 3 = 1476) ?_
        refine z_icmp_eq (pc' := 1479) h 1811 dL_law_1476 (by decide) rfl (fun _ => ?_) (fun q => absurd rfl q)
        refine z_iinc h 3 (nI (i + 7)) [(3, .int (nI (i + 7))), (0, .ref b), (1, .ref (za B 0)), (2, .ref (za B 147))] dL_law_1811 rfl (nI_add i 7) (by decide) rfl (rfl : 1811 + 3 = 1814) ?_
        refine z_goto (pc' := 18) h dL_law_1814 (by decide) ?_
        refine z_sub (L' := [(0, .ref b), (1, .ref (za B 0)), (2, .ref (za B 147)), (3, .int (nI (i + 7)))]) [1, 2, 3, 0] rfl ?_
        exact ih (i + 7) (n + 1) I2 J (by omega) (by omega) hv'
      | 33, _ =>
        refine z_tabIn (off := 1448) h 1481 dL_law_33 (by decide) (by decide) (by decide +kernel) (by decide) ?_
        refine z_aload_n h 1 dL_law_1481 rfl (rfl : 1481 + 1 = 1482) ?_
        refine z_aload_n h 0 dL_law_1482 rfl (rfl : 1482 + 1 = 1483) ?_
        refine z_iload_n h 3 dL_law_1483 rfl (rfl : 1483 + 1 = 1484) ?_
        refine z_iconst h 1 dL_law_1484 (by decide) (rfl : 1484 + 1 = 1485) ?_
        refine z_iadd h dL_law_1485 (rfl : 1485 + 1 = 1486) ?_
        refine z_top (nI (i + 1)) (nI_add i 1) ?_
        refine z_sld h hX hbl hbA (i + 1) rfl (by omega) (by omega) dL_law_1486 (rfl : 1486 + 1 = 1487) ?_
        refine z_aload_n h 0 dL_law_1487 rfl (rfl : 1487 + 1 = 1488) ?_
        refine z_iload_n h 3 dL_law_1488 rfl (rfl : 1488 + 1 = 1489) ?_
        refine z_iconst h 2 dL_law_1489 (by decide) (rfl : 1489 + 1 = 1490) ?_
        refine z_iadd h dL_law_1490 (rfl : 1490 + 1 = 1491) ?_
        refine z_top (nI (i + 2)) (nI_add i 2) ?_
        refine z_sld h hX hbl hbA (i + 2) rfl (by omega) (by omega) dL_law_1491 (rfl : 1491 + 1 = 1492) ?_
        refine z_aload_n h 0 dL_law_1492 rfl (rfl : 1492 + 1 = 1493) ?_
        refine z_iload_n h 3 dL_law_1493 rfl (rfl : 1493 + 1 = 1494) ?_
        refine z_iconst h 3 dL_law_1494 (by decide) (rfl : 1494 + 1 = 1495) ?_
        refine z_iadd h dL_law_1495 (rfl : 1495 + 1 = 1496) ?_
        refine z_top (nI (i + 3)) (nI_add i 3) ?_
        refine z_sld h hX hbl hbA (i + 3) rfl (by omega) (by omega) dL_law_1496 (rfl : 1496 + 1 = 1497) ?_
        refine z_aload_n h 0 dL_law_1497 rfl (rfl : 1497 + 1 = 1498) ?_
        refine z_iload_n h 3 dL_law_1498 rfl (rfl : 1498 + 1 = 1499) ?_
        refine z_iconst h 4 dL_law_1499 (by decide) (rfl : 1499 + 1 = 1500) ?_
        refine z_iadd h dL_law_1500 (rfl : 1500 + 1 = 1501) ?_
        refine z_top (nI (i + 4)) (nI_add i 4) ?_
        refine z_sld h hX hbl hbA (i + 4) rfl (by omega) (by omega) dL_law_1501 (rfl : 1501 + 1 = 1502) ?_
        obtain ⟨r, I1, I2, e1, e2, hv'⟩ := hs_think n I J (xs (i + 1)) (xs (i + 2)) (xs (i + 3)) (xs (i + 4)) (by omega) hv
        refine z_goF (z_runV (C := RX11) (T := TX11) (N := 13) (ci := 10) h [.int (xs (i + 1)), .int (xs (i + 2)), .int (xs (i + 3)), .int (xs (i + 4))] [] zyX11_think (c_X11_think B I J (hJv _ _ _ hv) (xs (i + 1)) (xs (i + 2)) (xs (i + 3)) (xs (i + 4)) _ _ e1) gL_law_X11_think rfl rfl rfl ⟨rfl, rfl, by decide, by decide⟩ rfl (Nat.le_of_ble_eq_true rfl) ⟨by decide, by decide⟩ rfl dL_law_1502) (rfl : 1502 + 3 = 1505) ?_
        refine z_aload_n h 2 dL_law_1505 rfl (rfl : 1505 + 1 = 1506) ?_
        refine z_aload_n h 0 dL_law_1506 rfl (rfl : 1506 + 1 = 1507) ?_
        refine z_iload_n h 3 dL_law_1507 rfl (rfl : 1507 + 1 = 1508) ?_
        refine z_iconst h 1 dL_law_1508 (by decide) (rfl : 1508 + 1 = 1509) ?_
        refine z_iadd h dL_law_1509 (rfl : 1509 + 1 = 1510) ?_
        refine z_top (nI (i + 1)) (nI_add i 1) ?_
        refine z_sld h hX hbl hbA (i + 1) rfl (by omega) (by omega) dL_law_1510 (rfl : 1510 + 1 = 1511) ?_
        refine z_aload_n h 0 dL_law_1511 rfl (rfl : 1511 + 1 = 1512) ?_
        refine z_iload_n h 3 dL_law_1512 rfl (rfl : 1512 + 1 = 1513) ?_
        refine z_iconst h 2 dL_law_1513 (by decide) (rfl : 1513 + 1 = 1514) ?_
        refine z_iadd h dL_law_1514 (rfl : 1514 + 1 = 1515) ?_
        refine z_top (nI (i + 2)) (nI_add i 2) ?_
        refine z_sld h hX hbl hbA (i + 2) rfl (by omega) (by omega) dL_law_1515 (rfl : 1515 + 1 = 1516) ?_
        refine z_aload_n h 0 dL_law_1516 rfl (rfl : 1516 + 1 = 1517) ?_
        refine z_iload_n h 3 dL_law_1517 rfl (rfl : 1517 + 1 = 1518) ?_
        refine z_iconst h 3 dL_law_1518 (by decide) (rfl : 1518 + 1 = 1519) ?_
        refine z_iadd h dL_law_1519 (rfl : 1519 + 1 = 1520) ?_
        refine z_top (nI (i + 3)) (nI_add i 3) ?_
        refine z_sld h hX hbl hbA (i + 3) rfl (by omega) (by omega) dL_law_1520 (rfl : 1520 + 1 = 1521) ?_
        refine z_aload_n h 0 dL_law_1521 rfl (rfl : 1521 + 1 = 1522) ?_
        refine z_iload_n h 3 dL_law_1522 rfl (rfl : 1522 + 1 = 1523) ?_
        refine z_iconst h 4 dL_law_1523 (by decide) (rfl : 1523 + 1 = 1524) ?_
        refine z_iadd h dL_law_1524 (rfl : 1524 + 1 = 1525) ?_
        refine z_top (nI (i + 4)) (nI_add i 4) ?_
        refine z_sld h hX hbl hbA (i + 4) rfl (by omega) (by omega) dL_law_1525 (rfl : 1525 + 1 = 1526) ?_
        refine z_goF (z_runV (C := RX12) (T := TX12) (N := 46) (ci := 11) h [.int (xs (i + 1)), .int (xs (i + 2)), .int (xs (i + 3)), .int (xs (i + 4))] [.int r] zyX12_think (c_X12_think B I1 J (hJv _ _ _ hv) (xs (i + 1)) (xs (i + 2)) (xs (i + 3)) (xs (i + 4)) _ _ e2) gL_law_X12_think rfl rfl rfl ⟨rfl, rfl, by decide, by decide⟩ rfl (Nat.le_of_ble_eq_true rfl) ⟨by decide, by decide⟩ rfl dL_law_1526) (rfl : 1526 + 3 = 1529) ?_
        refine z_icmp_eq (pc' := 1532) h 1811 dL_law_1529 (by decide) rfl (fun _ => ?_) (fun q => absurd rfl q)
        refine z_iinc h 3 (nI (i + 7)) [(3, .int (nI (i + 7))), (0, .ref b), (1, .ref (za B 0)), (2, .ref (za B 147))] dL_law_1811 rfl (nI_add i 7) (by decide) rfl (rfl : 1811 + 3 = 1814) ?_
        refine z_goto (pc' := 18) h dL_law_1814 (by decide) ?_
        refine z_sub (L' := [(0, .ref b), (1, .ref (za B 0)), (2, .ref (za B 147)), (3, .int (nI (i + 7)))]) [1, 2, 3, 0] rfl ?_
        exact ih (i + 7) (n + 1) I2 J (by omega) (by omega) hv'
      | 34, _ =>
        refine z_tabIn (off := 1501) h 1534 dL_law_33 (by decide) (by decide) (by decide +kernel) (by decide) ?_
        refine z_aload_n h 1 dL_law_1534 rfl (rfl : 1534 + 1 = 1535) ?_
        refine z_aload_n h 0 dL_law_1535 rfl (rfl : 1535 + 1 = 1536) ?_
        refine z_iload_n h 3 dL_law_1536 rfl (rfl : 1536 + 1 = 1537) ?_
        refine z_iconst h 1 dL_law_1537 (by decide) (rfl : 1537 + 1 = 1538) ?_
        refine z_iadd h dL_law_1538 (rfl : 1538 + 1 = 1539) ?_
        refine z_top (nI (i + 1)) (nI_add i 1) ?_
        refine z_sld h hX hbl hbA (i + 1) rfl (by omega) (by omega) dL_law_1539 (rfl : 1539 + 1 = 1540) ?_
        obtain ⟨r, I1, I2, e1, e2, hv'⟩ := hs_part n I J (xs (i + 1)) (by omega) hv
        refine z_goF (z_runV (C := RX11) (T := TX11) (N := 13) (ci := 10) h [.int (xs (i + 1))] [] zyX11_part (c_X11_part B I J (hJv _ _ _ hv) (xs (i + 1)) _ _ e1) gL_law_X11_part rfl rfl rfl ⟨rfl, rfl, by decide, by decide⟩ rfl (Nat.le_of_ble_eq_true rfl) ⟨by decide, by decide⟩ rfl dL_law_1540) (rfl : 1540 + 3 = 1543) ?_
        refine z_aload_n h 2 dL_law_1543 rfl (rfl : 1543 + 1 = 1544) ?_
        refine z_aload_n h 0 dL_law_1544 rfl (rfl : 1544 + 1 = 1545) ?_
        refine z_iload_n h 3 dL_law_1545 rfl (rfl : 1545 + 1 = 1546) ?_
        refine z_iconst h 1 dL_law_1546 (by decide) (rfl : 1546 + 1 = 1547) ?_
        refine z_iadd h dL_law_1547 (rfl : 1547 + 1 = 1548) ?_
        refine z_top (nI (i + 1)) (nI_add i 1) ?_
        refine z_sld h hX hbl hbA (i + 1) rfl (by omega) (by omega) dL_law_1548 (rfl : 1548 + 1 = 1549) ?_
        refine z_goF (z_runV (C := RX12) (T := TX12) (N := 46) (ci := 11) h [.int (xs (i + 1))] [.int r] zyX12_part (c_X12_part B I1 J (hJv _ _ _ hv) (xs (i + 1)) _ _ e2) gL_law_X12_part rfl rfl rfl ⟨rfl, rfl, by decide, by decide⟩ rfl (Nat.le_of_ble_eq_true rfl) ⟨by decide, by decide⟩ rfl dL_law_1549) (rfl : 1549 + 3 = 1552) ?_
        refine z_icmp_eq (pc' := 1555) h 1811 dL_law_1552 (by decide) rfl (fun _ => ?_) (fun q => absurd rfl q)
        refine z_iinc h 3 (nI (i + 7)) [(3, .int (nI (i + 7))), (0, .ref b), (1, .ref (za B 0)), (2, .ref (za B 147))] dL_law_1811 rfl (nI_add i 7) (by decide) rfl (rfl : 1811 + 3 = 1814) ?_
        refine z_goto (pc' := 18) h dL_law_1814 (by decide) ?_
        refine z_sub (L' := [(0, .ref b), (1, .ref (za B 0)), (2, .ref (za B 147)), (3, .int (nI (i + 7)))]) [1, 2, 3, 0] rfl ?_
        exact ih (i + 7) (n + 1) I2 J (by omega) (by omega) hv'
      | 35, _ =>
        refine z_tabIn (off := 1524) h 1557 dL_law_33 (by decide) (by decide) (by decide +kernel) (by decide) ?_
        refine z_aload_n h 1 dL_law_1557 rfl (rfl : 1557 + 1 = 1558) ?_
        refine z_aload_n h 0 dL_law_1558 rfl (rfl : 1558 + 1 = 1559) ?_
        refine z_iload_n h 3 dL_law_1559 rfl (rfl : 1559 + 1 = 1560) ?_
        refine z_iconst h 1 dL_law_1560 (by decide) (rfl : 1560 + 1 = 1561) ?_
        refine z_iadd h dL_law_1561 (rfl : 1561 + 1 = 1562) ?_
        refine z_top (nI (i + 1)) (nI_add i 1) ?_
        refine z_sld h hX hbl hbA (i + 1) rfl (by omega) (by omega) dL_law_1562 (rfl : 1562 + 1 = 1563) ?_
        refine z_aload_n h 0 dL_law_1563 rfl (rfl : 1563 + 1 = 1564) ?_
        refine z_iload_n h 3 dL_law_1564 rfl (rfl : 1564 + 1 = 1565) ?_
        refine z_iconst h 2 dL_law_1565 (by decide) (rfl : 1565 + 1 = 1566) ?_
        refine z_iadd h dL_law_1566 (rfl : 1566 + 1 = 1567) ?_
        refine z_top (nI (i + 2)) (nI_add i 2) ?_
        refine z_sld h hX hbl hbA (i + 2) rfl (by omega) (by omega) dL_law_1567 (rfl : 1567 + 1 = 1568) ?_
        refine z_aload_n h 0 dL_law_1568 rfl (rfl : 1568 + 1 = 1569) ?_
        refine z_iload_n h 3 dL_law_1569 rfl (rfl : 1569 + 1 = 1570) ?_
        refine z_iconst h 3 dL_law_1570 (by decide) (rfl : 1570 + 1 = 1571) ?_
        refine z_iadd h dL_law_1571 (rfl : 1571 + 1 = 1572) ?_
        refine z_top (nI (i + 3)) (nI_add i 3) ?_
        refine z_sld h hX hbl hbA (i + 3) rfl (by omega) (by omega) dL_law_1572 (rfl : 1572 + 1 = 1573) ?_
        obtain ⟨r, I1, I2, e1, e2, hv'⟩ := hs_far n I J (xs (i + 1)) (xs (i + 2)) (xs (i + 3)) (by omega) hv
        refine z_goF (z_runV (C := RX11) (T := TX11) (N := 13) (ci := 10) h [.int (xs (i + 1)), .int (xs (i + 2)), .int (xs (i + 3))] [] zyX11_far (c_X11_far B I J (hJv _ _ _ hv) (xs (i + 1)) (xs (i + 2)) (xs (i + 3)) _ _ e1) gL_law_X11_far rfl rfl rfl ⟨rfl, rfl, by decide, by decide⟩ rfl (Nat.le_of_ble_eq_true rfl) ⟨by decide, by decide⟩ rfl dL_law_1573) (rfl : 1573 + 3 = 1576) ?_
        refine z_aload_n h 2 dL_law_1576 rfl (rfl : 1576 + 1 = 1577) ?_
        refine z_aload_n h 0 dL_law_1577 rfl (rfl : 1577 + 1 = 1578) ?_
        refine z_iload_n h 3 dL_law_1578 rfl (rfl : 1578 + 1 = 1579) ?_
        refine z_iconst h 1 dL_law_1579 (by decide) (rfl : 1579 + 1 = 1580) ?_
        refine z_iadd h dL_law_1580 (rfl : 1580 + 1 = 1581) ?_
        refine z_top (nI (i + 1)) (nI_add i 1) ?_
        refine z_sld h hX hbl hbA (i + 1) rfl (by omega) (by omega) dL_law_1581 (rfl : 1581 + 1 = 1582) ?_
        refine z_aload_n h 0 dL_law_1582 rfl (rfl : 1582 + 1 = 1583) ?_
        refine z_iload_n h 3 dL_law_1583 rfl (rfl : 1583 + 1 = 1584) ?_
        refine z_iconst h 2 dL_law_1584 (by decide) (rfl : 1584 + 1 = 1585) ?_
        refine z_iadd h dL_law_1585 (rfl : 1585 + 1 = 1586) ?_
        refine z_top (nI (i + 2)) (nI_add i 2) ?_
        refine z_sld h hX hbl hbA (i + 2) rfl (by omega) (by omega) dL_law_1586 (rfl : 1586 + 1 = 1587) ?_
        refine z_aload_n h 0 dL_law_1587 rfl (rfl : 1587 + 1 = 1588) ?_
        refine z_iload_n h 3 dL_law_1588 rfl (rfl : 1588 + 1 = 1589) ?_
        refine z_iconst h 3 dL_law_1589 (by decide) (rfl : 1589 + 1 = 1590) ?_
        refine z_iadd h dL_law_1590 (rfl : 1590 + 1 = 1591) ?_
        refine z_top (nI (i + 3)) (nI_add i 3) ?_
        refine z_sld h hX hbl hbA (i + 3) rfl (by omega) (by omega) dL_law_1591 (rfl : 1591 + 1 = 1592) ?_
        refine z_goF (z_runV (C := RX12) (T := TX12) (N := 46) (ci := 11) h [.int (xs (i + 1)), .int (xs (i + 2)), .int (xs (i + 3))] [.int r] zyX12_far (c_X12_far B I1 J (hJv _ _ _ hv) (xs (i + 1)) (xs (i + 2)) (xs (i + 3)) _ _ e2) gL_law_X12_far rfl rfl rfl ⟨rfl, rfl, by decide, by decide⟩ rfl (Nat.le_of_ble_eq_true rfl) ⟨by decide, by decide⟩ rfl dL_law_1592) (rfl : 1592 + 3 = 1595) ?_
        refine z_icmp_eq (pc' := 1598) h 1811 dL_law_1595 (by decide) rfl (fun _ => ?_) (fun q => absurd rfl q)
        refine z_iinc h 3 (nI (i + 7)) [(3, .int (nI (i + 7))), (0, .ref b), (1, .ref (za B 0)), (2, .ref (za B 147))] dL_law_1811 rfl (nI_add i 7) (by decide) rfl (rfl : 1811 + 3 = 1814) ?_
        refine z_goto (pc' := 18) h dL_law_1814 (by decide) ?_
        refine z_sub (L' := [(0, .ref b), (1, .ref (za B 0)), (2, .ref (za B 147)), (3, .int (nI (i + 7)))]) [1, 2, 3, 0] rfl ?_
        exact ih (i + 7) (n + 1) I2 J (by omega) (by omega) hv'
      | 36, _ =>
        refine z_tabIn (off := 1567) h 1600 dL_law_33 (by decide) (by decide) (by decide +kernel) (by decide) ?_
        refine z_aload_n h 1 dL_law_1600 rfl (rfl : 1600 + 1 = 1601) ?_
        refine z_aload_n h 0 dL_law_1601 rfl (rfl : 1601 + 1 = 1602) ?_
        refine z_iload_n h 3 dL_law_1602 rfl (rfl : 1602 + 1 = 1603) ?_
        refine z_iconst h 1 dL_law_1603 (by decide) (rfl : 1603 + 1 = 1604) ?_
        refine z_iadd h dL_law_1604 (rfl : 1604 + 1 = 1605) ?_
        refine z_top (nI (i + 1)) (nI_add i 1) ?_
        refine z_sld h hX hbl hbA (i + 1) rfl (by omega) (by omega) dL_law_1605 (rfl : 1605 + 1 = 1606) ?_
        refine z_aload_n h 0 dL_law_1606 rfl (rfl : 1606 + 1 = 1607) ?_
        refine z_iload_n h 3 dL_law_1607 rfl (rfl : 1607 + 1 = 1608) ?_
        refine z_iconst h 2 dL_law_1608 (by decide) (rfl : 1608 + 1 = 1609) ?_
        refine z_iadd h dL_law_1609 (rfl : 1609 + 1 = 1610) ?_
        refine z_top (nI (i + 2)) (nI_add i 2) ?_
        refine z_sld h hX hbl hbA (i + 2) rfl (by omega) (by omega) dL_law_1610 (rfl : 1610 + 1 = 1611) ?_
        obtain ⟨r, I1, I2, e1, e2, hv'⟩ := hs_words n I J (xs (i + 1)) (xs (i + 2)) (by omega) hv
        refine z_goF (z_runV (C := RX11) (T := TX11) (N := 13) (ci := 10) h [.int (xs (i + 1)), .int (xs (i + 2))] [] zyX11_words (c_X11_words B I J (hJv _ _ _ hv) (xs (i + 1)) (xs (i + 2)) _ _ e1) gL_law_X11_words rfl rfl rfl ⟨rfl, rfl, by decide, by decide⟩ rfl (Nat.le_of_ble_eq_true rfl) ⟨by decide, by decide⟩ rfl dL_law_1611) (rfl : 1611 + 3 = 1614) ?_
        refine z_aload_n h 2 dL_law_1614 rfl (rfl : 1614 + 1 = 1615) ?_
        refine z_aload_n h 0 dL_law_1615 rfl (rfl : 1615 + 1 = 1616) ?_
        refine z_iload_n h 3 dL_law_1616 rfl (rfl : 1616 + 1 = 1617) ?_
        refine z_iconst h 1 dL_law_1617 (by decide) (rfl : 1617 + 1 = 1618) ?_
        refine z_iadd h dL_law_1618 (rfl : 1618 + 1 = 1619) ?_
        refine z_top (nI (i + 1)) (nI_add i 1) ?_
        refine z_sld h hX hbl hbA (i + 1) rfl (by omega) (by omega) dL_law_1619 (rfl : 1619 + 1 = 1620) ?_
        refine z_aload_n h 0 dL_law_1620 rfl (rfl : 1620 + 1 = 1621) ?_
        refine z_iload_n h 3 dL_law_1621 rfl (rfl : 1621 + 1 = 1622) ?_
        refine z_iconst h 2 dL_law_1622 (by decide) (rfl : 1622 + 1 = 1623) ?_
        refine z_iadd h dL_law_1623 (rfl : 1623 + 1 = 1624) ?_
        refine z_top (nI (i + 2)) (nI_add i 2) ?_
        refine z_sld h hX hbl hbA (i + 2) rfl (by omega) (by omega) dL_law_1624 (rfl : 1624 + 1 = 1625) ?_
        refine z_goF (z_runV (C := RX12) (T := TX12) (N := 46) (ci := 11) h [.int (xs (i + 1)), .int (xs (i + 2))] [.int r] zyX12_words (c_X12_words B I1 J (hJv _ _ _ hv) (xs (i + 1)) (xs (i + 2)) _ _ e2) gL_law_X12_words rfl rfl rfl ⟨rfl, rfl, by decide, by decide⟩ rfl (Nat.le_of_ble_eq_true rfl) ⟨by decide, by decide⟩ rfl dL_law_1625) (rfl : 1625 + 3 = 1628) ?_
        refine z_icmp_eq (pc' := 1631) h 1811 dL_law_1628 (by decide) rfl (fun _ => ?_) (fun q => absurd rfl q)
        refine z_iinc h 3 (nI (i + 7)) [(3, .int (nI (i + 7))), (0, .ref b), (1, .ref (za B 0)), (2, .ref (za B 147))] dL_law_1811 rfl (nI_add i 7) (by decide) rfl (rfl : 1811 + 3 = 1814) ?_
        refine z_goto (pc' := 18) h dL_law_1814 (by decide) ?_
        refine z_sub (L' := [(0, .ref b), (1, .ref (za B 0)), (2, .ref (za B 147)), (3, .int (nI (i + 7)))]) [1, 2, 3, 0] rfl ?_
        exact ih (i + 7) (n + 1) I2 J (by omega) (by omega) hv'
      | 37, _ =>
        refine z_tabIn (off := 1600) h 1633 dL_law_33 (by decide) (by decide) (by decide +kernel) (by decide) ?_
        refine z_aload_n h 1 dL_law_1633 rfl (rfl : 1633 + 1 = 1634) ?_
        refine z_aload_n h 0 dL_law_1634 rfl (rfl : 1634 + 1 = 1635) ?_
        refine z_iload_n h 3 dL_law_1635 rfl (rfl : 1635 + 1 = 1636) ?_
        refine z_iconst h 1 dL_law_1636 (by decide) (rfl : 1636 + 1 = 1637) ?_
        refine z_iadd h dL_law_1637 (rfl : 1637 + 1 = 1638) ?_
        refine z_top (nI (i + 1)) (nI_add i 1) ?_
        refine z_sld h hX hbl hbA (i + 1) rfl (by omega) (by omega) dL_law_1638 (rfl : 1638 + 1 = 1639) ?_
        refine z_aload_n h 0 dL_law_1639 rfl (rfl : 1639 + 1 = 1640) ?_
        refine z_iload_n h 3 dL_law_1640 rfl (rfl : 1640 + 1 = 1641) ?_
        refine z_iconst h 2 dL_law_1641 (by decide) (rfl : 1641 + 1 = 1642) ?_
        refine z_iadd h dL_law_1642 (rfl : 1642 + 1 = 1643) ?_
        refine z_top (nI (i + 2)) (nI_add i 2) ?_
        refine z_sld h hX hbl hbA (i + 2) rfl (by omega) (by omega) dL_law_1643 (rfl : 1643 + 1 = 1644) ?_
        refine z_aload_n h 0 dL_law_1644 rfl (rfl : 1644 + 1 = 1645) ?_
        refine z_iload_n h 3 dL_law_1645 rfl (rfl : 1645 + 1 = 1646) ?_
        refine z_iconst h 3 dL_law_1646 (by decide) (rfl : 1646 + 1 = 1647) ?_
        refine z_iadd h dL_law_1647 (rfl : 1647 + 1 = 1648) ?_
        refine z_top (nI (i + 3)) (nI_add i 3) ?_
        refine z_sld h hX hbl hbA (i + 3) rfl (by omega) (by omega) dL_law_1648 (rfl : 1648 + 1 = 1649) ?_
        obtain ⟨r, I1, I2, e1, e2, hv'⟩ := hs_worth n I J (xs (i + 1)) (xs (i + 2)) (xs (i + 3)) (by omega) hv
        refine z_goF (z_runV (C := RX11) (T := TX11) (N := 13) (ci := 10) h [.int (xs (i + 1)), .int (xs (i + 2)), .int (xs (i + 3))] [] zyX11_worth (c_X11_worth B I J (hJv _ _ _ hv) (xs (i + 1)) (xs (i + 2)) (xs (i + 3)) _ _ e1) gL_law_X11_worth rfl rfl rfl ⟨rfl, rfl, by decide, by decide⟩ rfl (Nat.le_of_ble_eq_true rfl) ⟨by decide, by decide⟩ rfl dL_law_1649) (rfl : 1649 + 3 = 1652) ?_
        refine z_aload_n h 2 dL_law_1652 rfl (rfl : 1652 + 1 = 1653) ?_
        refine z_aload_n h 0 dL_law_1653 rfl (rfl : 1653 + 1 = 1654) ?_
        refine z_iload_n h 3 dL_law_1654 rfl (rfl : 1654 + 1 = 1655) ?_
        refine z_iconst h 1 dL_law_1655 (by decide) (rfl : 1655 + 1 = 1656) ?_
        refine z_iadd h dL_law_1656 (rfl : 1656 + 1 = 1657) ?_
        refine z_top (nI (i + 1)) (nI_add i 1) ?_
        refine z_sld h hX hbl hbA (i + 1) rfl (by omega) (by omega) dL_law_1657 (rfl : 1657 + 1 = 1658) ?_
        refine z_aload_n h 0 dL_law_1658 rfl (rfl : 1658 + 1 = 1659) ?_
        refine z_iload_n h 3 dL_law_1659 rfl (rfl : 1659 + 1 = 1660) ?_
        refine z_iconst h 2 dL_law_1660 (by decide) (rfl : 1660 + 1 = 1661) ?_
        refine z_iadd h dL_law_1661 (rfl : 1661 + 1 = 1662) ?_
        refine z_top (nI (i + 2)) (nI_add i 2) ?_
        refine z_sld h hX hbl hbA (i + 2) rfl (by omega) (by omega) dL_law_1662 (rfl : 1662 + 1 = 1663) ?_
        refine z_aload_n h 0 dL_law_1663 rfl (rfl : 1663 + 1 = 1664) ?_
        refine z_iload_n h 3 dL_law_1664 rfl (rfl : 1664 + 1 = 1665) ?_
        refine z_iconst h 3 dL_law_1665 (by decide) (rfl : 1665 + 1 = 1666) ?_
        refine z_iadd h dL_law_1666 (rfl : 1666 + 1 = 1667) ?_
        refine z_top (nI (i + 3)) (nI_add i 3) ?_
        refine z_sld h hX hbl hbA (i + 3) rfl (by omega) (by omega) dL_law_1667 (rfl : 1667 + 1 = 1668) ?_
        refine z_goF (z_runV (C := RX12) (T := TX12) (N := 46) (ci := 11) h [.int (xs (i + 1)), .int (xs (i + 2)), .int (xs (i + 3))] [.int r] zyX12_worth (c_X12_worth B I1 J (hJv _ _ _ hv) (xs (i + 1)) (xs (i + 2)) (xs (i + 3)) _ _ e2) gL_law_X12_worth rfl rfl rfl ⟨rfl, rfl, by decide, by decide⟩ rfl (Nat.le_of_ble_eq_true rfl) ⟨by decide, by decide⟩ rfl dL_law_1668) (rfl : 1668 + 3 = 1671) ?_
        refine z_icmp_eq (pc' := 1674) h 1811 dL_law_1671 (by decide) rfl (fun _ => ?_) (fun q => absurd rfl q)
        refine z_iinc h 3 (nI (i + 7)) [(3, .int (nI (i + 7))), (0, .ref b), (1, .ref (za B 0)), (2, .ref (za B 147))] dL_law_1811 rfl (nI_add i 7) (by decide) rfl (rfl : 1811 + 3 = 1814) ?_
        refine z_goto (pc' := 18) h dL_law_1814 (by decide) ?_
        refine z_sub (L' := [(0, .ref b), (1, .ref (za B 0)), (2, .ref (za B 147)), (3, .int (nI (i + 7)))]) [1, 2, 3, 0] rfl ?_
        exact ih (i + 7) (n + 1) I2 J (by omega) (by omega) hv'
      | 38, _ =>
        refine z_tabIn (off := 1643) h 1676 dL_law_33 (by decide) (by decide) (by decide +kernel) (by decide) ?_
        refine z_aload_n h 1 dL_law_1676 rfl (rfl : 1676 + 1 = 1677) ?_
        refine z_aload_n h 0 dL_law_1677 rfl (rfl : 1677 + 1 = 1678) ?_
        refine z_iload_n h 3 dL_law_1678 rfl (rfl : 1678 + 1 = 1679) ?_
        refine z_iconst h 1 dL_law_1679 (by decide) (rfl : 1679 + 1 = 1680) ?_
        refine z_iadd h dL_law_1680 (rfl : 1680 + 1 = 1681) ?_
        refine z_top (nI (i + 1)) (nI_add i 1) ?_
        refine z_sld h hX hbl hbA (i + 1) rfl (by omega) (by omega) dL_law_1681 (rfl : 1681 + 1 = 1682) ?_
        refine z_aload_n h 0 dL_law_1682 rfl (rfl : 1682 + 1 = 1683) ?_
        refine z_iload_n h 3 dL_law_1683 rfl (rfl : 1683 + 1 = 1684) ?_
        refine z_iconst h 2 dL_law_1684 (by decide) (rfl : 1684 + 1 = 1685) ?_
        refine z_iadd h dL_law_1685 (rfl : 1685 + 1 = 1686) ?_
        refine z_top (nI (i + 2)) (nI_add i 2) ?_
        refine z_sld h hX hbl hbA (i + 2) rfl (by omega) (by omega) dL_law_1686 (rfl : 1686 + 1 = 1687) ?_
        obtain ⟨r, I1, I2, e1, e2, hv'⟩ := hs_best n I J (xs (i + 1)) (xs (i + 2)) (by omega) hv
        refine z_goF (z_runV (C := RX11) (T := TX11) (N := 13) (ci := 10) h [.int (xs (i + 1)), .int (xs (i + 2))] [] zyX11_best (c_X11_best B I J (hJv _ _ _ hv) (xs (i + 1)) (xs (i + 2)) _ _ e1) gL_law_X11_best rfl rfl rfl ⟨rfl, rfl, by decide, by decide⟩ rfl (Nat.le_of_ble_eq_true rfl) ⟨by decide, by decide⟩ rfl dL_law_1687) (rfl : 1687 + 3 = 1690) ?_
        refine z_aload_n h 2 dL_law_1690 rfl (rfl : 1690 + 1 = 1691) ?_
        refine z_aload_n h 0 dL_law_1691 rfl (rfl : 1691 + 1 = 1692) ?_
        refine z_iload_n h 3 dL_law_1692 rfl (rfl : 1692 + 1 = 1693) ?_
        refine z_iconst h 1 dL_law_1693 (by decide) (rfl : 1693 + 1 = 1694) ?_
        refine z_iadd h dL_law_1694 (rfl : 1694 + 1 = 1695) ?_
        refine z_top (nI (i + 1)) (nI_add i 1) ?_
        refine z_sld h hX hbl hbA (i + 1) rfl (by omega) (by omega) dL_law_1695 (rfl : 1695 + 1 = 1696) ?_
        refine z_aload_n h 0 dL_law_1696 rfl (rfl : 1696 + 1 = 1697) ?_
        refine z_iload_n h 3 dL_law_1697 rfl (rfl : 1697 + 1 = 1698) ?_
        refine z_iconst h 2 dL_law_1698 (by decide) (rfl : 1698 + 1 = 1699) ?_
        refine z_iadd h dL_law_1699 (rfl : 1699 + 1 = 1700) ?_
        refine z_top (nI (i + 2)) (nI_add i 2) ?_
        refine z_sld h hX hbl hbA (i + 2) rfl (by omega) (by omega) dL_law_1700 (rfl : 1700 + 1 = 1701) ?_
        refine z_goF (z_runV (C := RX12) (T := TX12) (N := 46) (ci := 11) h [.int (xs (i + 1)), .int (xs (i + 2))] [.int r] zyX12_best (c_X12_best B I1 J (hJv _ _ _ hv) (xs (i + 1)) (xs (i + 2)) _ _ e2) gL_law_X12_best rfl rfl rfl ⟨rfl, rfl, by decide, by decide⟩ rfl (Nat.le_of_ble_eq_true rfl) ⟨by decide, by decide⟩ rfl dL_law_1701) (rfl : 1701 + 3 = 1704) ?_
        refine z_icmp_eq (pc' := 1707) h 1811 dL_law_1704 (by decide) rfl (fun _ => ?_) (fun q => absurd rfl q)
        refine z_iinc h 3 (nI (i + 7)) [(3, .int (nI (i + 7))), (0, .ref b), (1, .ref (za B 0)), (2, .ref (za B 147))] dL_law_1811 rfl (nI_add i 7) (by decide) rfl (rfl : 1811 + 3 = 1814) ?_
        refine z_goto (pc' := 18) h dL_law_1814 (by decide) ?_
        refine z_sub (L' := [(0, .ref b), (1, .ref (za B 0)), (2, .ref (za B 147)), (3, .int (nI (i + 7)))]) [1, 2, 3, 0] rfl ?_
        exact ih (i + 7) (n + 1) I2 J (by omega) (by omega) hv'
      | 39, _ =>
        refine z_tabIn (off := 1676) h 1709 dL_law_33 (by decide) (by decide) (by decide +kernel) (by decide) ?_
        refine z_aload_n h 1 dL_law_1709 rfl (rfl : 1709 + 1 = 1710) ?_
        refine z_aload_n h 0 dL_law_1710 rfl (rfl : 1710 + 1 = 1711) ?_
        refine z_iload_n h 3 dL_law_1711 rfl (rfl : 1711 + 1 = 1712) ?_
        refine z_iconst h 1 dL_law_1712 (by decide) (rfl : 1712 + 1 = 1713) ?_
        refine z_iadd h dL_law_1713 (rfl : 1713 + 1 = 1714) ?_
        refine z_top (nI (i + 1)) (nI_add i 1) ?_
        refine z_sld h hX hbl hbA (i + 1) rfl (by omega) (by omega) dL_law_1714 (rfl : 1714 + 1 = 1715) ?_
        obtain ⟨r, I1, I2, e1, e2, hv'⟩ := hs_keep n I J (xs (i + 1)) (by omega) hv
        refine z_goF (z_runV (C := RX11) (T := TX11) (N := 13) (ci := 10) h [.int (xs (i + 1))] [] zyX11_keep (c_X11_keep B I J (hJv _ _ _ hv) (xs (i + 1)) _ _ e1) gL_law_X11_keep rfl rfl rfl ⟨rfl, rfl, by decide, by decide⟩ rfl (Nat.le_of_ble_eq_true rfl) ⟨by decide, by decide⟩ rfl dL_law_1715) (rfl : 1715 + 3 = 1718) ?_
        refine z_aload_n h 2 dL_law_1718 rfl (rfl : 1718 + 1 = 1719) ?_
        refine z_aload_n h 0 dL_law_1719 rfl (rfl : 1719 + 1 = 1720) ?_
        refine z_iload_n h 3 dL_law_1720 rfl (rfl : 1720 + 1 = 1721) ?_
        refine z_iconst h 1 dL_law_1721 (by decide) (rfl : 1721 + 1 = 1722) ?_
        refine z_iadd h dL_law_1722 (rfl : 1722 + 1 = 1723) ?_
        refine z_top (nI (i + 1)) (nI_add i 1) ?_
        refine z_sld h hX hbl hbA (i + 1) rfl (by omega) (by omega) dL_law_1723 (rfl : 1723 + 1 = 1724) ?_
        refine z_goF (z_runV (C := RX12) (T := TX12) (N := 46) (ci := 11) h [.int (xs (i + 1))] [.int r] zyX12_keep (c_X12_keep B I1 J (hJv _ _ _ hv) (xs (i + 1)) _ _ e2) gL_law_X12_keep rfl rfl rfl ⟨rfl, rfl, by decide, by decide⟩ rfl (Nat.le_of_ble_eq_true rfl) ⟨by decide, by decide⟩ rfl dL_law_1724) (rfl : 1724 + 3 = 1727) ?_
        refine z_icmp_eq (pc' := 1730) h 1811 dL_law_1727 (by decide) rfl (fun _ => ?_) (fun q => absurd rfl q)
        refine z_iinc h 3 (nI (i + 7)) [(3, .int (nI (i + 7))), (0, .ref b), (1, .ref (za B 0)), (2, .ref (za B 147))] dL_law_1811 rfl (nI_add i 7) (by decide) rfl (rfl : 1811 + 3 = 1814) ?_
        refine z_goto (pc' := 18) h dL_law_1814 (by decide) ?_
        refine z_sub (L' := [(0, .ref b), (1, .ref (za B 0)), (2, .ref (za B 147)), (3, .int (nI (i + 7)))]) [1, 2, 3, 0] rfl ?_
        exact ih (i + 7) (n + 1) I2 J (by omega) (by omega) hv'
      | 40, _ =>
        refine z_tabIn (off := 1699) h 1732 dL_law_33 (by decide) (by decide) (by decide +kernel) (by decide) ?_
        refine z_aload_n h 1 dL_law_1732 rfl (rfl : 1732 + 1 = 1733) ?_
        refine z_aload_n h 0 dL_law_1733 rfl (rfl : 1733 + 1 = 1734) ?_
        refine z_iload_n h 3 dL_law_1734 rfl (rfl : 1734 + 1 = 1735) ?_
        refine z_iconst h 1 dL_law_1735 (by decide) (rfl : 1735 + 1 = 1736) ?_
        refine z_iadd h dL_law_1736 (rfl : 1736 + 1 = 1737) ?_
        refine z_top (nI (i + 1)) (nI_add i 1) ?_
        refine z_sld h hX hbl hbA (i + 1) rfl (by omega) (by omega) dL_law_1737 (rfl : 1737 + 1 = 1738) ?_
        obtain ⟨r, I1, I2, e1, e2, hv'⟩ := hs_again n I J (xs (i + 1)) (by omega) hv
        refine z_goF (z_runV (C := RX11) (T := TX11) (N := 13) (ci := 10) h [.int (xs (i + 1))] [] zyX11_again (c_X11_again B I J (hJv _ _ _ hv) (xs (i + 1)) _ _ e1) gL_law_X11_again rfl rfl rfl ⟨rfl, rfl, by decide, by decide⟩ rfl (Nat.le_of_ble_eq_true rfl) ⟨by decide, by decide⟩ rfl dL_law_1738) (rfl : 1738 + 3 = 1741) ?_
        refine z_aload_n h 2 dL_law_1741 rfl (rfl : 1741 + 1 = 1742) ?_
        refine z_aload_n h 0 dL_law_1742 rfl (rfl : 1742 + 1 = 1743) ?_
        refine z_iload_n h 3 dL_law_1743 rfl (rfl : 1743 + 1 = 1744) ?_
        refine z_iconst h 1 dL_law_1744 (by decide) (rfl : 1744 + 1 = 1745) ?_
        refine z_iadd h dL_law_1745 (rfl : 1745 + 1 = 1746) ?_
        refine z_top (nI (i + 1)) (nI_add i 1) ?_
        refine z_sld h hX hbl hbA (i + 1) rfl (by omega) (by omega) dL_law_1746 (rfl : 1746 + 1 = 1747) ?_
        refine z_goF (z_runV (C := RX12) (T := TX12) (N := 46) (ci := 11) h [.int (xs (i + 1))] [.int r] zyX12_again (c_X12_again B I1 J (hJv _ _ _ hv) (xs (i + 1)) _ _ e2) gL_law_X12_again rfl rfl rfl ⟨rfl, rfl, by decide, by decide⟩ rfl (Nat.le_of_ble_eq_true rfl) ⟨by decide, by decide⟩ rfl dL_law_1747) (rfl : 1747 + 3 = 1750) ?_
        refine z_icmp_eq (pc' := 1753) h 1811 dL_law_1750 (by decide) rfl (fun _ => ?_) (fun q => absurd rfl q)
        refine z_iinc h 3 (nI (i + 7)) [(3, .int (nI (i + 7))), (0, .ref b), (1, .ref (za B 0)), (2, .ref (za B 147))] dL_law_1811 rfl (nI_add i 7) (by decide) rfl (rfl : 1811 + 3 = 1814) ?_
        refine z_goto (pc' := 18) h dL_law_1814 (by decide) ?_
        refine z_sub (L' := [(0, .ref b), (1, .ref (za B 0)), (2, .ref (za B 147)), (3, .int (nI (i + 7)))]) [1, 2, 3, 0] rfl ?_
        exact ih (i + 7) (n + 1) I2 J (by omega) (by omega) hv'
      | 41, _ =>
        refine z_tabIn (off := 1722) h 1755 dL_law_33 (by decide) (by decide) (by decide +kernel) (by decide) ?_
        refine z_aload_n h 1 dL_law_1755 rfl (rfl : 1755 + 1 = 1756) ?_
        refine z_aload_n h 0 dL_law_1756 rfl (rfl : 1756 + 1 = 1757) ?_
        refine z_iload_n h 3 dL_law_1757 rfl (rfl : 1757 + 1 = 1758) ?_
        refine z_iconst h 1 dL_law_1758 (by decide) (rfl : 1758 + 1 = 1759) ?_
        refine z_iadd h dL_law_1759 (rfl : 1759 + 1 = 1760) ?_
        refine z_top (nI (i + 1)) (nI_add i 1) ?_
        refine z_sld h hX hbl hbA (i + 1) rfl (by omega) (by omega) dL_law_1760 (rfl : 1760 + 1 = 1761) ?_
        refine z_aload_n h 0 dL_law_1761 rfl (rfl : 1761 + 1 = 1762) ?_
        refine z_iload_n h 3 dL_law_1762 rfl (rfl : 1762 + 1 = 1763) ?_
        refine z_iconst h 2 dL_law_1763 (by decide) (rfl : 1763 + 1 = 1764) ?_
        refine z_iadd h dL_law_1764 (rfl : 1764 + 1 = 1765) ?_
        refine z_top (nI (i + 2)) (nI_add i 2) ?_
        refine z_sld h hX hbl hbA (i + 2) rfl (by omega) (by omega) dL_law_1765 (rfl : 1765 + 1 = 1766) ?_
        obtain ⟨r, I1, I2, e1, e2, hv'⟩ := hs_since n I J (xs (i + 1)) (xs (i + 2)) (by omega) hv
        refine z_goF (z_runV (C := RX11) (T := TX11) (N := 13) (ci := 10) h [.int (xs (i + 1)), .int (xs (i + 2))] [] zyX11_since (c_X11_since B I J (hJv _ _ _ hv) (xs (i + 1)) (xs (i + 2)) _ _ e1) gL_law_X11_since rfl rfl rfl ⟨rfl, rfl, by decide, by decide⟩ rfl (Nat.le_of_ble_eq_true rfl) ⟨by decide, by decide⟩ rfl dL_law_1766) (rfl : 1766 + 3 = 1769) ?_
        refine z_aload_n h 2 dL_law_1769 rfl (rfl : 1769 + 1 = 1770) ?_
        refine z_aload_n h 0 dL_law_1770 rfl (rfl : 1770 + 1 = 1771) ?_
        refine z_iload_n h 3 dL_law_1771 rfl (rfl : 1771 + 1 = 1772) ?_
        refine z_iconst h 1 dL_law_1772 (by decide) (rfl : 1772 + 1 = 1773) ?_
        refine z_iadd h dL_law_1773 (rfl : 1773 + 1 = 1774) ?_
        refine z_top (nI (i + 1)) (nI_add i 1) ?_
        refine z_sld h hX hbl hbA (i + 1) rfl (by omega) (by omega) dL_law_1774 (rfl : 1774 + 1 = 1775) ?_
        refine z_aload_n h 0 dL_law_1775 rfl (rfl : 1775 + 1 = 1776) ?_
        refine z_iload_n h 3 dL_law_1776 rfl (rfl : 1776 + 1 = 1777) ?_
        refine z_iconst h 2 dL_law_1777 (by decide) (rfl : 1777 + 1 = 1778) ?_
        refine z_iadd h dL_law_1778 (rfl : 1778 + 1 = 1779) ?_
        refine z_top (nI (i + 2)) (nI_add i 2) ?_
        refine z_sld h hX hbl hbA (i + 2) rfl (by omega) (by omega) dL_law_1779 (rfl : 1779 + 1 = 1780) ?_
        refine z_goF (z_runV (C := RX12) (T := TX12) (N := 46) (ci := 11) h [.int (xs (i + 1)), .int (xs (i + 2))] [.int r] zyX12_since (c_X12_since B I1 J (hJv _ _ _ hv) (xs (i + 1)) (xs (i + 2)) _ _ e2) gL_law_X12_since rfl rfl rfl ⟨rfl, rfl, by decide, by decide⟩ rfl (Nat.le_of_ble_eq_true rfl) ⟨by decide, by decide⟩ rfl dL_law_1780) (rfl : 1780 + 3 = 1783) ?_
        refine z_icmp_eq (pc' := 1786) h 1811 dL_law_1783 (by decide) rfl (fun _ => ?_) (fun q => absurd rfl q)
        refine z_iinc h 3 (nI (i + 7)) [(3, .int (nI (i + 7))), (0, .ref b), (1, .ref (za B 0)), (2, .ref (za B 147))] dL_law_1811 rfl (nI_add i 7) (by decide) rfl (rfl : 1811 + 3 = 1814) ?_
        refine z_goto (pc' := 18) h dL_law_1814 (by decide) ?_
        refine z_sub (L' := [(0, .ref b), (1, .ref (za B 0)), (2, .ref (za B 147)), (3, .int (nI (i + 7)))]) [1, 2, 3, 0] rfl ?_
        exact ih (i + 7) (n + 1) I2 J (by omega) (by omega) hv'
      | 42, _ =>
        refine z_tabIn (off := 1755) h 1788 dL_law_33 (by decide) (by decide) (by decide +kernel) (by decide) ?_
        refine z_aload_n h 1 dL_law_1788 rfl (rfl : 1788 + 1 = 1789) ?_
        refine z_aload_n h 0 dL_law_1789 rfl (rfl : 1789 + 1 = 1790) ?_
        refine z_iload_n h 3 dL_law_1790 rfl (rfl : 1790 + 1 = 1791) ?_
        refine z_iconst h 1 dL_law_1791 (by decide) (rfl : 1791 + 1 = 1792) ?_
        refine z_iadd h dL_law_1792 (rfl : 1792 + 1 = 1793) ?_
        refine z_top (nI (i + 1)) (nI_add i 1) ?_
        refine z_sld h hX hbl hbA (i + 1) rfl (by omega) (by omega) dL_law_1793 (rfl : 1793 + 1 = 1794) ?_
        obtain ⟨r, I1, I2, e1, e2, hv'⟩ := hs_count n I J (xs (i + 1)) (by omega) hv
        refine z_goF (z_runV (C := RX11) (T := TX11) (N := 13) (ci := 10) h [.int (xs (i + 1))] [] zyX11_count (c_X11_count B I J (hJv _ _ _ hv) (xs (i + 1)) _ _ e1) gL_law_X11_count rfl rfl rfl ⟨rfl, rfl, by decide, by decide⟩ rfl (Nat.le_of_ble_eq_true rfl) ⟨by decide, by decide⟩ rfl dL_law_1794) (rfl : 1794 + 3 = 1797) ?_
        refine z_aload_n h 2 dL_law_1797 rfl (rfl : 1797 + 1 = 1798) ?_
        refine z_aload_n h 0 dL_law_1798 rfl (rfl : 1798 + 1 = 1799) ?_
        refine z_iload_n h 3 dL_law_1799 rfl (rfl : 1799 + 1 = 1800) ?_
        refine z_iconst h 1 dL_law_1800 (by decide) (rfl : 1800 + 1 = 1801) ?_
        refine z_iadd h dL_law_1801 (rfl : 1801 + 1 = 1802) ?_
        refine z_top (nI (i + 1)) (nI_add i 1) ?_
        refine z_sld h hX hbl hbA (i + 1) rfl (by omega) (by omega) dL_law_1802 (rfl : 1802 + 1 = 1803) ?_
        refine z_goF (z_runV (C := RX12) (T := TX12) (N := 46) (ci := 11) h [.int (xs (i + 1))] [.int r] zyX12_count (c_X12_count B I1 J (hJv _ _ _ hv) (xs (i + 1)) _ _ e2) gL_law_X12_count rfl rfl rfl ⟨rfl, rfl, by decide, by decide⟩ rfl (Nat.le_of_ble_eq_true rfl) ⟨by decide, by decide⟩ rfl dL_law_1803) (rfl : 1803 + 3 = 1806) ?_
        refine z_icmp_eq (pc' := 1809) h 1811 dL_law_1806 (by decide) rfl (fun _ => ?_) (fun q => absurd rfl q)
        refine z_iinc h 3 (nI (i + 7)) [(3, .int (nI (i + 7))), (0, .ref b), (1, .ref (za B 0)), (2, .ref (za B 147))] dL_law_1811 rfl (nI_add i 7) (by decide) rfl (rfl : 1811 + 3 = 1814) ?_
        refine z_goto (pc' := 18) h dL_law_1814 (by decide) ?_
        refine z_sub (L' := [(0, .ref b), (1, .ref (za B 0)), (2, .ref (za B 147)), (3, .int (nI (i + 7)))]) [1, 2, 3, 0] rfl ?_
        exact ih (i + 7) (n + 1) I2 J (by omega) (by omega) hv'
      | q + 43, hq => exact absurd hq (by omega)
    · refine z_tabOut h 1811 dL_law_33 (by omega) (by decide) ?_
      refine z_iinc h 3 (nI (i + 7)) [(3, .int (nI (i + 7))), (0, .ref b), (1, .ref (za B 0)), (2, .ref (za B 147))] dL_law_1811 rfl (nI_add i 7) (by decide) rfl (rfl : 1811 + 3 = 1814) ?_
      refine z_goto (pc' := 18) h dL_law_1814 (by decide) ?_
      refine z_sub (L' := [(0, .ref b), (1, .ref (za B 0)), (2, .ref (za B 147)), (3, .int (nI (i + 7)))]) [1, 2, 3, 0] rfl ?_
      exact ih (i + 7) (n + 1) I J (by omega) (by omega) (hd_ n I J hv)
