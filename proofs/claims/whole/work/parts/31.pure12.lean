/-- a public call that uses the trial chapel: present R, trial Rt -/
def BT (I F : TI) (R Rt : Nat → Nat) (I3 F3 : TI) : Prop := BS I F R I3 F3 ∧ Ch I3 F3 11 Rt
theorem bt_t {I F I1 F1 I2 F2 : TI} {J J2 : TJ} {w w2 : Int64} {R R2 : Nat → Nat} (h : BS I F R I1 F1) (h2 : ChP I1 J F1 w 11 R2 I2 J2 F2 w2) : BT I F R R2 I2 F2 := ⟨bs_t h h2, h2.1⟩
theorem in04 {y v : Int32} (h : isPartB y v = true) : y = nI 2 ∨ y = nI 3 ∨ y = nI 4 ∨ y = nI 5 := by
  unfold isPartB at h
  by_cases e2 : y = nI 2
  · exact Or.inl e2
  · by_cases e3 : y = nI 3
    · exact Or.inr (Or.inl e3)
    · by_cases e4 : y = nI 4
      · exact Or.inr (Or.inr (Or.inl e4))
      · by_cases e5 : y = nI 5
        · exact Or.inr (Or.inr (Or.inr e5))
        · rw [if_neg e2, if_neg e3, if_neg e4, if_neg e5] at h; cases h
