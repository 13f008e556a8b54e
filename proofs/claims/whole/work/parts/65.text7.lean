theorem tkc_u {B : Nat → Nat} {t p P : Nat} {F : TI} {f : Nat → Int32} (h : TkC B t p F) (hP : 31 ≠ P) : TkC B t p (va_up F P f) := by
  unfold TkC at h ⊢
  rw [up_n _ _ hP]
  exact h
theorem tpc_k {I I1 F F1 : TI} {B : Nat → Nat} {t : Nat} (h : TpC I F B t) (e : I1 32 = I 32) (e0 : F1 31 0 = F 31 0) : TpC I1 F1 B t := ⟨e0.trans h.1, h.2.1, fun k hk => by rw [e]; exact h.2.2 k hk⟩
theorem ch_31 {I F : TI} {b : Nat} {R : Nat → Nat} {f : Nat → Int32} (h : Ch I F b R) (hb : b ≠ 31 := by decide) : Ch I (va_up F 31 f) b R := by
  unfold Ch at h ⊢
  rw [up_n _ _ hb]
  exact h
theorem ch_cc {I I2 F F2 : TI} {b : Nat} {R : Nat → Nat} (h : Ch I F b R) (h2 : ∀ Q, ¬ (11 ≤ Q ∧ Q ≤ 20) → I2 Q = I Q) (h3 : ∀ Q, ¬ (11 ≤ Q ∧ Q ≤ 20) → Q ≠ 31 → F2 Q = F Q) (hb : b + 9 < 11) (hb2 : b ≠ 31) : Ch I2 F2 b R := by
  unfold Ch at h ⊢
  rw [h3 b (by omega) hb2, h2 (b + 1) (by omega), h2 (b + 2) (by omega), h2 (b + 3) (by omega), h2 (b + 4) (by omega), h2 (b + 5) (by omega), h2 (b + 6) (by omega), h2 (b + 7) (by omega)]
  exact h
