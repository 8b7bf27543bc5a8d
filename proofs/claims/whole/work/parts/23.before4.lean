/-- what BEFORE gives -/
noncomputable def sBe (T : Nat → Int32) (m : Nat) (a b g tm : Int32) : Int32 := @ite _ ((sB T a b g tm m tm 0 True).2.2 ∧ (sB T a b g tm m tm 0 True).1 = 0) (Classical.propDecidable _) (sB T a b g tm m tm 0 True).2.1 0
theorem l_valueBefore (J : zJ) {I : zM} {d m tm : Nat} {T : Nat → Int32} (w : vDo I d T m) (htm : tm ≤ 5) (a b g : Int32) : f_X1_valueBefore J d a b g (nI tm) I = some (sBe T m a b g (nI tm), I) := by
  have hm := w.1
  obtain ⟨r, e1, e2⟩ := l_vb J w htm a b g m zF 0 0 (by omega) (by unfold zF; omega) (by omega)
  have e1' : f_X1_valueBefore_14 J d a b g (nI tm) zF 0 0 (nI m - 1) I = some r := e1
  rw [Nat.sub_zero] at e2
  unfold f_X1_valueBefore sBe
  rw [w.2.1, e1', Option.bind_some]
  rcases e2 with ⟨q, f', h1, h2, h3, h4⟩ | ⟨h1, h2⟩
  · rw [h2]
    by_cases hf : f' = tm
    · have h0 : (sB T a b g (nI tm) m (nI tm) 0 True).1 = 0 := by
        rw [h3, hf, Nat.sub_self]
        rfl
      rw [if_pos ⟨h4, h0⟩]
      exact if_pos (congrArg nI hf)
    · have h0 : ¬ (sB T a b g (nI tm) m (nI tm) 0 True).1 = 0 := by
        rw [h3]
        exact nI_ne0 (by omega) (by omega)
      rw [if_neg (fun q => h0 q.2)]
      exact if_neg (fun e => hf ((nI_eq (by omega) (by omega)).mp e))
  · rw [h1, if_neg (fun q => h2 q.1)]
    rfl
theorem l_beforeOf (J : zJ) {I : zM} {m : Nat} (h6 : I 147 6 = nI m) (hm : m ≤ 24) (a b g : Int32) : f_X12_beforeOf J a b g I = some (sBe (I 152) m a b g (I 147 8), I) := by
  obtain ⟨q, e1⟩ := l_bo J I a b g m zF (I 147 8) 0 True hm (by unfold zF; omega)
  rw [← zb_t (P := True) trivial] at e1
  unfold f_X12_beforeOf sBe
  rw [h6, e1, Option.bind_some]
  show (if zb _ = 0 then _ else _) = _
  by_cases x : (sB (I 152) a b g (I 147 8) m (I 147 8) 0 True).2.2
  · rw [if_neg (fun z => zb_eq0.mp z x)]
    by_cases h0 : (sB (I 152) a b g (I 147 8) m (I 147 8) 0 True).1 = 0
    · rw [if_pos (show _ = (0 : Int32) from h0), if_pos ⟨x, h0⟩]
    · rw [if_neg (fun z => h0 z), if_neg (fun z => h0 z.2)]
  · rw [if_pos (zb_eq0.mpr x), if_neg (fun z => x z.1)]
