/-- the sheets of the class hold the bits and the sizes that the reference's hold -/
def ShH (I F : TI) : Prop := ∀ a, a < 4 → F (34 + 2 * a) 0 = I 51 a ∧ F (34 + 2 * a) 1 = I 52 a
def WrC (I : TI) (J : TJ) (F : TI) (w : Int64) (x y : Int32) (v : Int64) : Value → TI → TJ → TI → Int64 → Prop := fun r I2 J2 F2 w2 =>
  (wrO I x y = none → r = .long (J (35 + 2 * cl x) (cl y)) ∧ I2 = I ∧ J2 = va_up J (35 + 2 * cl x) (vp_updL (J (35 + 2 * cl x)) (cl y) (nrM (I 51 (cl x)) v))) ∧ (∀ k, wrO I x y = some k → r = .long (fC k).toInt64 ∧ I2 = fnd I 42 k ∧ J2 = J) ∧ F2 = F ∧ w2 = w
def CpC (I : TI) (J : TJ) (F : TI) (w : Int64) (x f y t n : Int32) : Value → TI → TJ → TI → Int64 → Prop := fun r I2 J2 F2 w2 =>
  (cpO I x f y t n = none → r = .int n ∧ I2 = I ∧ J2 = va_up J (35 + 2 * cl y) (va_cpy (J (35 + 2 * cl x)) (J (35 + 2 * cl y)) (cl f) (cl t) (cl n))) ∧ (∀ k, cpO I x f y t n = some k → r = .int (fC k) ∧ I2 = fnd I 42 k ∧ J2 = J) ∧ F2 = F ∧ w2 = w
