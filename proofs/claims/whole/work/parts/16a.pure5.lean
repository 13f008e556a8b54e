theorem wis_lt {f : Nat → Nat} : ∀ {k b : Nat}, wisF f k = some b → b < k
  | 0, b, h => by simp [wisF] at h
  | k + 1, b, h => by
    rw [wisF] at h
    cases hw : wisF f k with
    | none => rw [hw] at h; have h : some k = some b := h; cases h; omega
    | some q =>
      rw [hw] at h
      have h : (if f k ≤ f q then some q else some k) = some b := h
      have := wis_lt hw
      split at h <;> cases h <;> omega
theorem wis_b {f : Nat → Nat} {k n : Nat} (hk : k ≤ n) (hn : n ≤ 10) : ∀ q, wisF f k = some q → q < 1000 := fun q h => by have := wis_lt h; omega
def bsI (c : Nat → Option Nat) (k : Nat) : Int32 := if (bstF 0 c k).2 = 0 then -1 else nI (bstF 0 c k).1
theorem bs_le {c : Nat → Option Nat} {k : Nat} (e : bstF 0 c (k + 1) = bstF 0 c k) : bsI c (k + 1) = bsI c k := by unfold bsI; rw [e]
theorem bs_gt {c : Nat → Option Nat} {k v : Nat} (e : bstF 0 c (k + 1) = (k, v + 1)) : bsI c (k + 1) = nI k := by unfold bsI; rw [e]; rfl
theorem bst_1le {b : Nat} {c : Nat → Option Nat} (hc : ∀ i, ∃ v, c i = some v) : ∀ k, 0 < k → 1 ≤ (bstF b c k).2
  | 0, h => by omega
  | k + 1, _ => by
    obtain ⟨v, hv⟩ := hc k
    by_cases h2 : v + 1 ≤ (bstF b c k).2
    · rw [bst_le hv h2]; omega
    · rw [bst_gt hv h2]; show 1 ≤ v + 1; omega
theorem bs_pos {c : Nat → Option Nat} {k : Nat} (hk : 0 < k) (hc : ∀ i, ∃ v, c i = some v) : bsI c k = nI (bstF 0 c k).1 := by
  have := bst_1le (b := 0) hc k hk
  unfold bsI; rw [if_neg (by omega)]
theorem bst_le1 {b : Nat} {c : Nat → Option Nat} : ∀ k, (bstF b c k).1 ≤ b + k
  | 0 => Nat.le_refl _
  | k + 1 => by
    have ih := bst_le1 (b := b) (c := c) k
    cases h : c k with
    | none => rw [bst_n h]; omega
    | some v =>
      by_cases h2 : v + 1 ≤ (bstF b c k).2
      · rw [bst_le h h2]; omega
      · rw [bst_gt h h2]; show k ≤ b + (k + 1); omega
theorem bvH_b {R : Nat → Nat} {e0 j : Nat} (hn : R 1 ≤ 10) : ∀ i v, bvH R e0 j i = some v → v < 101 := fun i v h => by
  unfold bvH at h
  cases h; have := ka_le (pasN (va_up R (2 + 6 * i + 1) e0) j) (R 1); omega
def sp_undo (R Rk : Nat → Nat) (x : Int32) : SP := if x = 0 then (R, some 3, 0) else (Rk, none, nI (Rk 1))
/-! the tape -/
theorem iincM (x : Int32) : x + Int32.ofInt (-1) = x - nI 1 := by
  rw [show Int32.ofInt (-1) = -nI 1 from by decide +kernel, Int32.sub_eq_add_neg]
theorem k_zero {k : Nat} (hk : k < 1000) (h : nI k - nI 1 < 0) : k = 0 := by
  rcases Nat.eq_zero_or_pos k with z | z
  · exact z
  · exact absurd h (by rw [pk_sub z]; exact nI_pos (by omega))
theorem k_pos {k : Nat} (h : ¬ nI k - nI 1 < 0) : 1 ≤ k := by
  rcases Nat.eq_zero_or_pos k with z | z
  · subst z; exact absurd (by decide +kernel) h
  · exact z
def byS (x : Int32) (k : Nat) : Int32 := (x >>> (nI (8 * k) &&& 31)) &&& nI 255
def fdF (f : Nat → Int32) (c : Nat) (x : Int32) : Nat → (Nat → Int32)
  | 0 => f
  | n + 1 => fdF (upd f c (byS x n)) (c + 1) x n
def fdO (t : Nat) (y : Int32) : Option Nat := if inB y (nI 1) (nI 4) = true then (if t + cl y ≤ 120 then none else some 1) else some 0
def FdM (I : TI) (J : TJ) (F : TI) (w : Int64) (t : Nat) (x y : Int32) : Value → TI → TJ → TI → Int64 → Prop := fun v I2 J2 F2 w2 =>
  (fdO t y = none → v = .int (nI (t + cl y)) ∧ I2 = va_up I 50 (fdF (I 50) t x (cl y)) ∧ F2 = va_up F 43 (va_up (F 43) 7 (nI (t + cl y)))) ∧ (∀ k, fdO t y = some k → v = .int (fC k) ∧ I2 = fnd I 45 k ∧ F2 = F) ∧ J2 = J ∧ w2 = w
theorem fdF_step {f : Nat → Int32} {c k : Nat} {x : Int32} (hk : 1 ≤ k) : fdF f c x k = fdF (upd f c (byS x (k - 1))) (c + 1) x (k - 1) := by
  obtain ⟨n, rfl⟩ : ∃ n, k = n + 1 := ⟨k - 1, by omega⟩
  rfl
theorem up_selfF {F : TI} {P j : Nat} {v : Int32} (h : F P j = v) : va_up F P (va_up (F P) j v) = F := by
  funext Q
  by_cases e : Q = P
  · subst e; rw [up_s]; funext i
    by_cases e2 : i = j
    · subst e2; rw [up_s, h]
    · rw [up_n _ _ e2]
  · rw [up_n _ _ e]
theorem bsI_0 (c : Nat → Option Nat) : ¬ 0 ≤ bsI c 0 := by
  show ¬ (0 : Int32) ≤ -1
  decide +kernel
