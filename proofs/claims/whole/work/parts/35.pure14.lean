def rowP (y : Int32) : Nat := if y = nI 2 then 4 else if y = nI 3 then 5 else if y = nI 4 then 6 else 7
theorem ki_row (y : Int32) : KI (rowP y) 10 := by
  unfold rowP
  split
  · exact ki_4
  · split
    · exact ki_5
    · split
      · exact ki_6
      · exact ki_7
theorem part_ok {y v : Int32} (h : isPartB y v = true) : ∃ q u : Nat, 2 ≤ q ∧ q ≤ 5 ∧ u < 2 ^ 31 ∧ y = nI q ∧ v = nI u ∧ rowP y = 2 + q := by
  rcases in04 h with rfl | rfl | rfl | rfl
  · rw [isPartB, if_pos rfl] at h
    obtain ⟨j, -, hj, rfl⟩ := inB_r (by decide) (by decide) h
    exact ⟨2, j, by omega, by omega, by omega, rfl, rfl, by decide +kernel⟩
  · rw [isPartB, if_neg (by decide +kernel), if_pos rfl] at h
    obtain ⟨j, -, hj, rfl⟩ := inB_r (by decide) (by decide) h
    exact ⟨3, j, by omega, by omega, by omega, rfl, rfl, by decide +kernel⟩
  · rw [isPartB, if_neg (by decide +kernel), if_neg (by decide +kernel), if_pos rfl] at h
    obtain ⟨j, -, hj, rfl⟩ := inB_r (by decide) (by decide) h
    exact ⟨4, j, by omega, by omega, by omega, rfl, rfl, by decide +kernel⟩
  · rw [isPartB, if_neg (by decide +kernel), if_neg (by decide +kernel), if_neg (by decide +kernel), if_pos rfl] at h
    obtain ⟨j, -, hj, rfl⟩ := inB_r (by decide) (by decide) h
    exact ⟨5, j, by omega, by omega, by omega, rfl, rfl, by decide +kernel⟩
theorem st_up : ∀ j, j < 7 → inB (nI j) (-1) (nI 6) = true ∧ ¬ nI j < 0 := by decide +kernel
theorem st_no {x : Int32} (h1 : ¬ x = -1) (h2 : inB x (nI 0) (nI 6) = false) : ¬ inB x (-1) (nI 6) = true := by
  intro h
  by_cases hx : 0 ≤ x
  · obtain ⟨j, hj, rfl⟩ := st_in h hx
    rw [inB_N (by omega) (by decide) (by decide)] at h2
    simp only [Bool.and_eq_false_iff, decide_eq_false_iff_not] at h2
    omega
  · apply h1
    simp only [inB, Bool.and_eq_true, decide_eq_true_eq] at h
    have a1 := Int32.le_iff_toInt_le.mp h.1
    have a2 : ¬ (0 : Int32).toInt ≤ x.toInt := fun z => hx (Int32.le_iff_toInt_le.mpr z)
    rw [show (-1 : Int32).toInt = -1 by decide +kernel] at a1
    rw [show (0 : Int32).toInt = 0 by decide +kernel] at a2
    exact Int32.toInt_inj.mp (by rw [show (-1 : Int32).toInt = -1 by decide +kernel]; omega)
/-- behind image of the class -/
def ImC (I : TI) (J : TJ) (F : TI) (w : Int64) (R : Nat → Nat) : Value → TI → TJ → TI → Int64 → Prop := fun x I2 J2 F2 w2 => x = .int (nI 1) ∧ Ch I2 F2 21 R ∧ F2 0 3 = nI 1 ∧ (∀ Q, ¬ (21 ≤ Q ∧ Q ≤ 30) → I2 Q = I Q) ∧ (∀ Q, ¬ (21 ≤ Q ∧ Q ≤ 30) → Q ≠ 0 → F2 Q = F Q) ∧ J2 = J ∧ w2 = w
theorem im_c {I I2 : TI} {J J2 : TJ} {F F2 : TI} {w w2 : Int64} {R : Nat → Nat} (h : ChP I J F w 21 R I2 J2 F2 w2) : ImC I J F w R (.int (nI 1)) I2 J2 (va_up F2 0 (va_up (F2 0) 3 (nI 1))) w2 := by
  obtain ⟨h1, h2, h3, h4⟩ := h
  refine ⟨rfl, ⟨by rw [up_n _ _ (by omega)]; exact h1.1, by rw [up_n _ _ (by omega)]; exact h1.2.1, h1.2.2⟩, by rw [up_s, up_s], fun Q hQ => (h2 Q (by omega)).1, fun Q hQ h0 => by rw [up_n _ _ h0]; exact (h2 Q (by omega)).2, h3, h4⟩
