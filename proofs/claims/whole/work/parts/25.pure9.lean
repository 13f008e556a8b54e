theorem isM_neg {n : Nat} {x : Int32} (h : x < 0) : isM n x = false := inB_lt (by rw [nI_0]; exact h)
theorem isM_ge {n : Nat} {x : Int32} (hn : n < 1000) (h : nI n ≤ x) : isM n x = false := by
  cases hz : isM n x with
  | false => rfl
  | true =>
    obtain ⟨j, hj, rfl⟩ := isM_t hn hz
    have := (nI_leI (by omega) (by omega)).mp h
    omega
theorem isM_lt {n : Nat} {x : Int32} (hn : n < 1000) (h0 : ¬ x < 0) (h : ¬ nI n ≤ x) : isM n x = true := by
  obtain ⟨j, hj, rfl⟩ := nI_of h0
  have : j < n := by
    rcases Nat.lt_or_ge j n with q | q
    · exact q
    · exact absurd ((nI_leI (by omega) hj).mpr q) h
  exact isM_N hn this
theorem any_t {g : Nat → Bool} {k : Nat} : ∀ {n : Nat}, k < n → g k = true → anyB g n = true
  | 0, h, _ => by omega
  | n + 1, h, hg => by
    rw [anyB]
    by_cases e : k = n
    · subst e; rw [hg]; simp
    · rw [any_t (by omega) hg]; rfl
theorem fel_hit {R : Nat → Nat} {n a k : Nat} (hk : 1 ≤ k) (hk2 : k ≤ fe (R (2 + 6 * a + 0)) (R (2 + 6 * a + 5))) (h1 : 1 < k → who R (R (2 + 6 * a + 1) + 1) n = none) (h : who R (R (2 + 6 * a + 1) + k) n ≠ none) : wI (who R (R (2 + 6 * a + 1) + k) n) = wI (felN R n a) := by
  have hf := fe_2 (R (2 + 6 * a + 0)) (R (2 + 6 * a + 5))
  rw [fel_n, if_neg (by omega)]
  rcases (show k = 1 ∨ k = 2 by omega) with rfl | rfl
  · split
    · rfl
    · cases hw : who R (R (2 + 6 * a + 1) + 1) n with
      | none => exact absurd hw h
      | some q => rfl
  · rw [if_neg (by omega), h1 (by omega)]; rfl
theorem fel_miss {R : Nat → Nat} {n a k : Nat} (h1 : 1 < k → who R (R (2 + 6 * a + 1) + 1) n = none) (h2 : 2 < k → who R (R (2 + 6 * a + 1) + 2) n = none) (hk : fe (R (2 + 6 * a + 0)) (R (2 + 6 * a + 5)) < k) : wI (felN R n a) = -1 := by
  rw [fel_n]
  split
  · rfl
  · split
    · rw [h1 (by omega)]; rfl
    · rw [h1 (by omega), h2 (by have := fe_2 (R (2 + 6 * a + 0)) (R (2 + 6 * a + 5)); omega)]; rfl
