def LaC (I : TI) (J : TJ) (F : TI) (w : Int64) (R : Nat → Nat) (x : Int32) (z : Nat → Nat) : Value → TI → TJ → TI → Int64 → Prop := fun r I2 J2 F2 w2 =>
  (bdO I x = none → r = .int (nI (layN R (J (35 + 2 * cl x)) (min (z (cl x)) (R 1))).2) ∧ BS I F (layN R (J (35 + 2 * cl x)) (min (z (cl x)) (R 1))).1 I2 F2) ∧ (∀ k, bdO I x = some k → r = .int (fC k) ∧ I2 = fnd I 42 k) ∧ J2 = J ∧ F2 = F ∧ w2 = w
theorem bs_lay {I F I1 : TI} {R : Nat → Nat} {f : Nat → Int64} {k q : Nat} (hl : layOk (f k) = true) (hq : q < 1024) (hv : (f k).toInt32 = nI q) (hk : k < R 1) (K : BS I F (layN R f k).1 I1 F) : BS I F (layN R f (k + 1)).1 (va_up I1 6 (upd (I1 6) k (nI q))) F := by
  rw [lay_t hl, hv, cl_n (by omega)]
  exact ⟨ch_put (j := 4) K.1 (by rw [lay_1]; exact hk) (by decide) (by decide) rfl, fun Q hQ => by rw [up_n _ _ (by omega)]; exact K.2.1 Q hQ, fun _ _ => rfl⟩
