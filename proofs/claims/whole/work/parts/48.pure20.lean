def bkC (R : Nat → Nat) (b : Int32) (m : Nat) (f : Nat → Int64) (k : Nat) : Nat → Int64 := fun i => if i < k then nrM b (nI (pasN R i (2 + 6 * m + 4))).toInt64 else f i
theorem bkC_step {R : Nat → Nat} {b : Int32} {m k : Nat} {f : Nat → Int64} : vp_updL (bkC R b m f k) k (nrM b (nI (pasN R k (2 + 6 * m + 4))).toInt64) = bkC R b m f (k + 1) := by
  funext i
  by_cases e : i = k
  · subst e; rw [pk_uLs]; unfold bkC; rw [if_pos (by omega)]
  · rw [pk_uLn e]; unfold bkC
    by_cases h : i < k
    · rw [if_pos h, if_pos (by omega)]
    · rw [if_neg h, if_neg (by omega)]
theorem bkC_0 {R : Nat → Nat} {b : Int32} {m : Nat} {f : Nat → Int64} : bkC R b m f 0 = f := by funext i; unfold bkC; rw [if_neg (by omega)]
def BkC (I : TI) (J : TJ) (F : TI) (w : Int64) (R : Nat → Nat) (x y : Int32) (Z : Nat → Nat) : Value → TI → TJ → TI → Int64 → Prop := fun r I2 J2 F2 w2 =>
  (bkO I (R 1) x y = none → r = .int (nI (Z (cl x))) ∧ BS I F R I2 F2 ∧ J2 = va_up J (35 + 2 * cl x) (bkC R (I 51 (cl x)) (cl y) (J (35 + 2 * cl x)) (Z (cl x)))) ∧ (∀ k, bkO I (R 1) x y = some k → r = .int (fC k) ∧ I2 = fnd I 42 k ∧ J2 = J ∧ F2 = F) ∧ w2 = w
theorem rdC_at {R : Nat → Nat} {m o i k z : Nat} {f : Nat → Int64} (hk : k < 6) : rdC R m o f z (6 * i + k + 1) = rdC R m o f z (6 * i + k) + (if allB (soF (va_up (va_up R (2 + 6 * m + 0) i) (2 + 6 * o + 0) k) m f) z = true then 1 else 0) := by
  rw [rdC, show (6 * i + k) / 6 = i by omega, show (6 * i + k) % 6 = k by omega]
