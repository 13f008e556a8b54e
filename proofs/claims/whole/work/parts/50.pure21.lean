def zrF (f : Nat → Int64) (k : Nat) : Nat → Int64 := fun i => if i < k then 0 else f i
theorem zr_0 (f : Nat → Int64) : zrF f 0 = f := by funext i; simp [zrF]
theorem zr_step {f : Nat → Int64} {k : Nat} : vp_updL (zrF f k) k 0 = zrF f (k + 1) := by
  funext i
  by_cases e : i = k
  · subst e; rw [pk_uLs]; unfold zrF; rw [if_pos (by omega)]
  · rw [pk_uLn e]; unfold zrF
    by_cases h : i < k
    · rw [if_pos h, if_pos (by omega)]
    · rw [if_neg h, if_neg (by omega)]
def ShC (I : TI) (J : TJ) (F : TI) (w : Int64) (x b n : Int32) : Value → TI → TJ → TI → Int64 → Prop := fun v I2 J2 F2 w2 =>
  (shO x b n = none → v = .int (if b = 0 then nI 0 else n) ∧ I2 = I ∧ J2 = va_up J (35 + 2 * cl x) (zrF (J (35 + 2 * cl x)) 40) ∧ F2 = va_up F (34 + 2 * cl x) (va_up (va_up (F (34 + 2 * cl x)) 0 b) 1 (if b = 0 then nI 0 else n))) ∧ (∀ k, shO x b n = some k → v = .int (fC k) ∧ I2 = fnd I 42 k ∧ J2 = J ∧ F2 = F) ∧ w2 = w
