theorem lt6 {k : Nat} (h : k < 6) : k = 0 ∨ k = 1 ∨ k = 2 ∨ k = 3 ∨ k = 4 ∨ k = 5 := by omega
theorem wI_s (q : Nat) : wI (some q) = nI q := rfl
theorem nI_le0 {a : Nat} (ha : a < 2 ^ 31) (h : nI a ≤ 0) : a = 0 := by
  rcases Nat.eq_zero_or_pos a with z | z
  · exact z
  · exact absurd h (nI_nle z ha)
theorem nI_gt0 {a : Nat} (h : ¬ nI a ≤ 0) : 0 < a := by
  rcases Nat.eq_zero_or_pos a with z | z
  · subst z; exact absurd (by decide +kernel) h
  · exact z
theorem whoSome {o : Option Nat} (h : 0 ≤ wI o) : ∃ q, o = some q := by
  cases o with
  | none => exact absurd h (by decide +kernel)
  | some q => exact ⟨q, rfl⟩
theorem whoNone {o : Option Nat} (hb : ∀ q, o = some q → q < 1000) (h : ¬ 0 ≤ wI o) : o = none := by
  cases o with
  | none => rfl
  | some q => exact absurd (nI_pos' (by have := hb q rfl; omega)) h
theorem whoSome' {o : Option Nat} (h : ¬ wI o < 0) : ∃ q, o = some q := by
  cases o with
  | none => exact absurd wI_neg h
  | some q => exact ⟨q, rfl⟩
theorem whoNone' {o : Option Nat} (hb : ∀ q, o = some q → q < 1000) (h : wI o < 0) : o = none := by
  cases o with
  | none => rfl
  | some q => exact absurd h (wI_pos (hb q rfl))
theorem who_b {R : Nat → Nat} {s n : Nat} (hn : n ≤ 10) : ∀ q, who R s n = some q → q < 1000 := fun q h => by have := (who_lt h).1; omega
theorem fel_b {R : Nat → Nat} {n m : Nat} (hn : n ≤ 10) : ∀ q, felN R n m = some q → q < 1000 := fun q h => by have := felN_lt h; omega
theorem fel_n (R : Nat → Nat) (n m : Nat) : felN R n m = (if fe (R (2 + 6 * m + 0)) (R (2 + 6 * m + 5)) = 0 then none else if fe (R (2 + 6 * m + 0)) (R (2 + 6 * m + 5)) = 1 then who R (R (2 + 6 * m + 1) + 1) n else (who R (R (2 + 6 * m + 1) + 1) n).or (who R (R (2 + 6 * m + 1) + 2) n)) := rfl
theorem fe_2 (k t : Nat) : fe k t ≤ 2 := by unfold fe; repeat' split
                                            all_goals omega
/-- the search from far to near -/
def felJ (R : Nat → Nat) (n m : Nat) (j : Nat) (o : Option Nat) : Option Nat := if j = 0 then o else if j = 1 then (who R (R (2 + 6 * m + 1) + 1) n).or o else (who R (R (2 + 6 * m + 1) + 1) n).or ((who R (R (2 + 6 * m + 1) + 2) n).or o)
theorem felJ_start (R : Nat → Nat) (n m : Nat) : felJ R n m (fe (R (2 + 6 * m + 0)) (R (2 + 6 * m + 5))) none = felN R n m := by
  have h := fe_2 (R (2 + 6 * m + 0)) (R (2 + 6 * m + 5))
  unfold felJ felN
  split
  · rfl
  · split
    · simp
    · simp
theorem felJ_step {R : Nat → Nat} {n m j : Nat} {o : Option Nat} (hj : 0 < j) (hj2 : j ≤ 2) : felJ R n m (j - 1) ((who R (R (2 + 6 * m + 1) + j) n).or o) = felJ R n m j o := by
  unfold felJ
  rcases (show j = 1 ∨ j = 2 by omega) with rfl | rfl <;> rfl
theorem b1 {c : Prop} [Decidable c] (h : c) : nI 1 = bI (decide c) := by simp [h]; rfl
theorem b0 {c : Prop} [Decidable c] (h : ¬ c) : nI 0 = bI (decide c) := by simp [h]; rfl
theorem bt1 {b : Bool} (h : b = true) : nI 1 = bI b := by rw [h]; rfl
theorem bf0 {b : Bool} (h : b = false) : nI 0 = bI b := by rw [h]; rfl
theorem nI_or (a b : Nat) : nI a ||| nI b = nI (a ||| b) := by
  apply Int32.toBitVec_inj.mp
  simp [nI]
theorem red_some {R : Nat → Nat} {n m : Nat} (h : redN R n m = true) : ∃ o, felN R n m = some o := by
  unfold redN at h
  cases hf : felN R n m with
  | none => rw [hf] at h; simp [redO] at h
  | some o => exact ⟨o, rfl⟩
theorem red_eq {R : Nat → Nat} {n m o : Nat} (h : felN R n m = some o) : redN R n m = if 60 ≤ R (2 + 6 * m + 5) then false else rdK (R (2 + 6 * m + 0)) (R (2 + 6 * o + 3)) (R 0) := by
  unfold redN
  rw [h]
  rfl
theorem red_none {R : Nat → Nat} {n m : Nat} (h : felN R n m = none) : redN R n m = false := by
  unfold redN
  rw [h]
  rfl
def addN (R : Nat → Nat) (k s v d : Nat) : Nat → Nat := va_up (va_up (va_up (va_up (va_up (va_up (va_up R (2 + 6 * R 1 + 0) k) (2 + 6 * R 1 + 1) s) (2 + 6 * R 1 + 2) v) (2 + 6 * R 1 + 3) d) (2 + 6 * R 1 + 4) 0) (2 + 6 * R 1 + 5) 0) 1 (R 1 + 1)
/-- a night as far as member k -/
def parN (R : Nat → Nat) (k : Nat) : Nat → Nat := fun j => if 2 ≤ j ∧ (j - 2) / 6 < k then nigN R j else R j
theorem par_0 (R : Nat → Nat) : parN R 0 = R := by funext j; simp [parN]
theorem par_at {R : Nat → Nat} {k m j : Nat} (hk : k ≤ m) (hj : j < 6) : parN R k (2 + 6 * m + j) = R (2 + 6 * m + j) := by
  unfold parN
  rw [if_neg (by omega)]
theorem par_1 (R : Nat → Nat) (k : Nat) : parN R k 1 = R 1 := by simp [parN]
theorem par_step {R : Nat → Nat} {k : Nat} (hk : k < R 1) : va_up (va_up (parN R k) (2 + 6 * k + 4) (R (2 + 6 * k + 4) ||| gotN R (R 1) k)) (2 + 6 * k + 5) (clt (R (2 + 6 * k + 5)) (R (2 + 6 * k + 0)) (redN R (R 1) k)) = parN R (k + 1) := by
  funext j
  by_cases h5 : j = 2 + 6 * k + 5
  · subst h5
    rw [up_s]
    unfold parN
    rw [if_pos (by omega), nig_5 R hk]
  · rw [up_n _ _ h5]
    by_cases h4 : j = 2 + 6 * k + 4
    · subst h4
      rw [up_s]
      unfold parN
      rw [if_pos (by omega), nig_4 R hk]
    · rw [up_n _ _ h4]
      unfold parN
      by_cases hlt : 2 ≤ j ∧ (j - 2) / 6 < k
      · rw [if_pos hlt, if_pos (by omega)]
      · rw [if_neg hlt]
        by_cases hk2 : 2 ≤ j ∧ (j - 2) / 6 < k + 1
        · rw [if_pos hk2]
          have : j = 2 + 6 * k + (j - 2 - 6 * k) := by omega
          rw [this, nig_j R (by omega)]
        · rw [if_neg hk2]
theorem par_end (R : Nat → Nat) : va_up (parN R (R 1)) 0 (R 0 + 1) = nigN R := by
  funext j
  by_cases h0 : j = 0
  · subst h0; rw [up_s, nig_0]
  · rw [up_n _ _ h0]
    unfold parN
    by_cases hc : 2 ≤ j ∧ (j - 2) / 6 < R 1
    · rw [if_pos hc]
    · rw [if_neg hc]
      unfold nigN
      rw [if_neg h0, if_neg hc]
/-- the reference's state behind what changes its row (and its two scratch rows) -/
def MdP (I : TI) (J : TJ) (F : TI) (w : Int64) (R2 : Nat → Nat) : TI → TJ → TI → Int64 → Prop := fun I2 J2 F2 w2 => I2 44 = nr R2 ∧ (∀ P, P ≠ 44 → P ≠ 46 → P ≠ 47 → I2 P = I P) ∧ J2 = J ∧ F2 = F ∧ w2 = w
set_option maxRecDepth 100000 in
theorem set_bit : ∀ v, v < 10 → ∀ q, q < 1024 → ((nI q >>> (nI v &&& 31)) &&& nI 1 = nI 1 ↔ q.testBit v = true) := by decide +kernel
set_option maxRecDepth 100000 in
theorem set_bit2 : ∀ v, v < 10 → ∀ q, q < 1024 → (nI q &&& (nI 1 <<< (nI v &&& 31)) = 0 ↔ q.testBit v = false) := by decide +kernel
def allB (f : Nat → Bool) : Nat → Bool
  | 0 => true
  | m + 1 => allB f m && f m
def anyB (f : Nat → Bool) : Nat → Bool
  | 0 => false
  | m + 1 => anyB f m || f m
def sprF (R : Nat → Nat) (v m : Nat) : Bool := decide (R (2 + 6 * m + 0) = 3) || (decide (R (2 + 6 * m + 2) = v) || (R (2 + 6 * m + 4)).testBit v)
def herF (R : Nat → Nat) (m : Nat) : Bool := (R (2 + 6 * m + 4)).testBit (R (2 + 6 * m + 2))
theorem up_self {α : Type} {f : Nat → Nat → α} {P : Nat} {x : Nat → α} (h : ∀ i, x i = f P i) : va_up f P x = f := by
  funext Q
  by_cases e : Q = P
  · subst e; rw [up_s]; funext i; exact h i
  · rw [up_n _ _ e]
theorem cp_step {f h2 : Nat → Int32} {k : Nat} : upd (fun i => if i < k then f i else h2 i) k (f k) = fun i => if i < k + 1 then f i else h2 i := by
  funext i
  by_cases e : i = k
  · subst e; rw [pk_us]; simp
  · rw [pk_un e]
    by_cases h : i < k
    · rw [if_pos h, if_pos (by omega)]
    · rw [if_neg h, if_neg (by omega)]
theorem cp_stepN {f h2 : Nat → Nat} {k : Nat} : va_up (fun i => if i < k then f i else h2 i) k (f k) = fun i => if i < k + 1 then f i else h2 i := by
  funext i
  by_cases e : i = k
  · subst e; rw [up_s]; simp
  · rw [up_n _ _ e]
    by_cases h : i < k
    · rw [if_pos h, if_pos (by omega)]
    · rw [if_neg h, if_neg (by omega)]
theorem pcn_le (a : Nat) : pcn a ≤ 10 := by unfold pcn; omega
