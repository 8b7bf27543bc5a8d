/-! ===== what comes round ===== -/
theorem pg : ∀ N n (x : Nat → Nat), (∀ i, i < n → x i < N) → (∀ i j, i < j → j < n → x i ≠ x j) → n ≤ N := by
  intro N
  induction N with
  | zero =>
    intro n x h _
    rcases Nat.eq_zero_or_pos n with e | e
    · omega
    · exact absurd (h 0 e) (by omega)
  | succ N ih =>
    intro n x h hi
    by_cases hx : ∃ i, i < n ∧ x i = N
    · obtain ⟨i, hin, hxi⟩ := hx
      have key : n - 1 ≤ N := by
        refine ih (n - 1) (fun k => if k < i then x k else x (k + 1)) (fun k hk => ?_) (fun a b hab hb => ?_)
        · show (if k < i then x k else x (k + 1)) < N
          by_cases c : k < i
          · rw [if_pos c]
            have h1 := h k (by omega)
            have h2 := hi k i c hin
            omega
          · rw [if_neg c]
            have h1 := h (k + 1) (by omega)
            have h2 := hi i (k + 1) (by omega) (by omega)
            omega
        · show (if a < i then x a else x (a + 1)) ≠ (if b < i then x b else x (b + 1))
          by_cases c : a < i
          · rw [if_pos c]
            by_cases d : b < i
            · rw [if_pos d]
              exact hi a b hab (by omega)
            · rw [if_neg d]
              exact hi a (b + 1) (by omega) (by omega)
          · rw [if_neg c, if_neg (show ¬ b < i by omega)]
            exact hi (a + 1) (b + 1) (by omega) (by omega)
      omega
    · have : n ≤ N := ih n x (fun i hin => by
        have h1 := h i hin
        have h2 : x i ≠ N := fun e => hx ⟨i, hin, e⟩
        omega) hi
      omega
theorem leastN {P : Nat → Prop} : ∀ n, P n → ∃ m, P m ∧ m ≤ n ∧ ∀ k, k < m → ¬ P k := by
  intro n
  induction n using Nat.strongRecOn with
  | ind n ih =>
    intro h
    by_cases c : ∃ k, k < n ∧ P k
    · obtain ⟨k, hk, pk⟩ := c
      obtain ⟨m, a, b, d⟩ := ih k hk pk
      exact ⟨m, a, by omega, d⟩
    · exact ⟨n, h, Nat.le_refl _, fun k hk pk => c ⟨k, hk, pk⟩⟩
/-- from 0 on by f -/
def it (f : Nat → Nat) : Nat → Nat
  | 0 => 0
  | n + 1 => f (it f n)
theorem it_lt {f : Nat → Nat} (hf : ∀ a, f a < 46656) : ∀ n, it f n < 46656 := by
  intro n
  cases n with
  | zero => show 0 < 46656; decide
  | succ n => exact hf _
def isRing (f : Nat → Nat) (mu lam : Nat) : Prop := 1 ≤ lam ∧ it f (mu + lam) = it f mu ∧ ∀ i j, i < j → j < mu + lam → it f i ≠ it f j
theorem ring_ex {f : Nat → Nat} (hf : ∀ a, f a < 46656) : ∃ mu lam, isRing f mu lam ∧ mu + lam ≤ 46656 := by
  have h1 : ∃ n, n ≤ 46656 ∧ ∃ i, i < n ∧ it f i = it f n := by
    by_cases c : ∃ n, n ≤ 46656 ∧ ∃ i, i < n ∧ it f i = it f n
    · exact c
    · have := pg 46656 46657 (it f) (fun i _ => it_lt hf i) (fun i j hij hj e => c ⟨j, by omega, i, hij, e⟩)
      omega
  obtain ⟨n, hn, h2⟩ := h1
  obtain ⟨m, ⟨i, hi, e⟩, hm, hl⟩ := leastN (P := fun n => ∃ i, i < n ∧ it f i = it f n) n h2
  refine ⟨i, m - i, ⟨by omega, ?_, fun a b hab hb e2 => ?_⟩, by omega⟩
  · rw [show i + (m - i) = m by omega]
    exact e.symm
  · exact hl b (by omega) ⟨a, hab, e2⟩
theorem it_per {f : Nat → Nat} {mu lam : Nat} (h : isRing f mu lam) : ∀ j, it f (mu + j + lam) = it f (mu + j) := by
  intro j
  induction j with
  | zero => exact h.2.1
  | succ j ih =>
    have e : mu + (j + 1) + lam = (mu + j + lam) + 1 := by omega
    rw [e]
    show f (it f (mu + j + lam)) = f (it f (mu + j))
    rw [ih]
theorem it_p {f : Nat → Nat} {mu lam t : Nat} (h : isRing f mu lam) (ht : mu ≤ t) : it f (t + lam) = it f t := by
  have e := it_per h (t - mu)
  rw [show mu + (t - mu) = t by omega] at e
  exact e
theorem it_ps {f : Nat → Nat} {mu lam t : Nat} (h : isRing f mu lam) (ht : mu ≤ t) : ∀ q, it f (t + lam * q) = it f t := by
  intro q
  induction q with
  | zero => rfl
  | succ q ih =>
    rw [Nat.mul_succ, ← Nat.add_assoc, it_p h (by omega)]
    exact ih
/-- the place of the ring where it is -/
theorem it_mod {f : Nat → Nat} {mu lam t : Nat} (h : isRing f mu lam) (ht : mu ≤ t) : it f t = it f (mu + (t - mu) % lam) := by
  have e := Nat.mod_add_div (t - mu) lam
  have q := it_ps h (show mu ≤ mu + (t - mu) % lam by omega) ((t - mu) / lam)
  rw [Nat.add_assoc, e, show mu + (t - mu) = t by omega] at q
  exact q
theorem it_eq {f : Nat → Nat} {mu lam a b : Nat} (h : isRing f mu lam) (hab : a < b) (e : it f a = it f b) : mu ≤ a ∧ lam ≤ b - a := by
  have hl := h.1
  have inj : ∀ i j, i < mu + lam → j < mu + lam → it f i = it f j → i = j := fun i j hi hj e => by
    rcases Nat.lt_trichotomy i j with c | c | c
    · exact absurd e (h.2.2 i j c hj)
    · exact c
    · exact absurd e.symm (h.2.2 j i c hi)
  by_cases ca : mu ≤ a
  · refine ⟨ca, ?_⟩
    have ma := Nat.mod_lt (a - mu) hl
    have mb := Nat.mod_lt (b - mu) hl
    rw [it_mod h ca, it_mod h (show mu ≤ b by omega)] at e
    have r := inj _ _ (by omega) (by omega) e
    have da := Nat.mod_add_div (a - mu) lam
    have db := Nat.mod_add_div (b - mu) lam
    have lt : lam * ((a - mu) / lam) < lam * ((b - mu) / lam) := by omega
    have lq : (a - mu) / lam < (b - mu) / lam := Nat.lt_of_mul_lt_mul_left lt
    have le := Nat.mul_le_mul_left lam (show (a - mu) / lam + 1 ≤ (b - mu) / lam from lq)
    rw [Nat.mul_succ] at le
    omega
  · exfalso
    by_cases cb : b < mu + lam
    · exact h.2.2 a b hab cb e
    · have mb := Nat.mod_lt (b - mu) hl
      rw [it_mod h (show mu ≤ b by omega)] at e
      have r := inj _ _ (by omega) (by omega) e
      omega
theorem ring_one {f : Nat → Nat} {mu lam : Nat} (h : isRing f mu lam) {s r : Nat} (hr : 1 ≤ r) (e : it f s = it f (s + r)) (hn : ∀ q, 1 ≤ q → q < r → it f s ≠ it f (s + q)) : mu ≤ s ∧ r = lam := by
  obtain ⟨h1, h2⟩ := it_eq h (show s < s + r by omega) e
  refine ⟨h1, ?_⟩
  by_cases c : lam < r
  · exact absurd (it_p h h1).symm (hn lam h.1 c)
  · omega
