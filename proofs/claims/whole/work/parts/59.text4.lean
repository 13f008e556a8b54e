theorem kd_neg {B : Nat → Nat} {t p : Nat} (h : kdI B t p < 0) : ¬ (tkK B t p = 1 ∧ tkV B t p < 6) := by
  intro q
  rw [kdI, if_pos q] at h
  exact absurd h (nI_pos (by omega))
theorem kd_pos {B : Nat → Nat} {t p : Nat} (h : ¬ kdI B t p < 0) : (tkK B t p = 1 ∧ tkV B t p < 6) ∧ kdI B t p = nI (tkV B t p) := by
  by_cases q : tkK B t p = 1 ∧ tkV B t p < 6
  · exact ⟨q, by rw [kdI, if_pos q]⟩
  · rw [kdI, if_neg q] at h
    exact absurd (by decide +kernel) h
theorem tp_i {I I1 F : TI} {B : Nat → Nat} {t : Nat} (h : TpM I F B t) (e : I1 50 = I 50) : TpM I1 F B t := ⟨h.1, h.2.1, fun k hk => by rw [e]; exact h.2.2 k hk⟩
def ChM (I : TI) (J : TJ) (F : TI) (q : SP) : Value → TI → TJ → TI → Int64 → Prop := fun x I2 J2 F2 _ => x = .int q.2.2 ∧ I2 44 = nr q.1 ∧ (∀ P, P ≠ 44 → P ≠ 56 → I2 P = I P) ∧ J = J2 ∧ (∀ Q, Q ≠ 43 → F2 Q = F Q) ∧ F2 43 7 = nI 0 ∧ F2 43 20 = F 43 20
theorem nI_z {a : Nat} (ha : a < 2 ^ 31) (h : nI a = 0) : a = 0 := (nI_eq (b := 0) ha (by decide)).mp h
theorem chp_f0 {B : Nat → Nat} {t f n p : Nat} {R : Nat → Nat} (hf : 0 < f) (h : (itmS B t R p).1 = false) : chpS B t f R p n = (false, R, tkS B t (itmS B t R p).2.2) := by
  obtain ⟨k, rfl⟩ : ∃ k, f = k + 1 := ⟨f - 1, by omega⟩
  rw [chpS, if_neg (by rw [h]; decide)]
theorem chp_f1 {B : Nat → Nat} {t f n p : Nat} {R : Nat → Nat} (hf : 0 < f) (h : (itmS B t R p).1 = true) (h0 : tkK B t (itmS B t R p).2.2 = 0) : chpS B t f R p n = (true, (itmS B t R p).2.1, n + 1) := by
  obtain ⟨k, rfl⟩ : ∃ k, f = k + 1 := ⟨f - 1, by omega⟩
  rw [chpS, if_pos h, if_pos h0]
theorem chp_f2 {B : Nat → Nat} {t f n p : Nat} {R : Nat → Nat} (hf : 0 < f) (h : (itmS B t R p).1 = true) (h0 : ¬ tkK B t (itmS B t R p).2.2 = 0) (h3 : ¬ tkK B t (itmS B t R p).2.2 = 3) : chpS B t f R p n = (false, R, tkS B t (itmS B t R p).2.2) := by
  obtain ⟨k, rfl⟩ : ∃ k, f = k + 1 := ⟨f - 1, by omega⟩
  rw [chpS, if_pos h, if_neg h0, if_neg h3]
theorem chp_f3 {B : Nat → Nat} {t f n p : Nat} {R : Nat → Nat} (hf : 0 < f) (h : (itmS B t R p).1 = true) (h3 : tkK B t (itmS B t R p).2.2 = 3) : chpS B t f R p n = chpS B t (f - 1) (itmS B t R p).2.1 (tkE B t (itmS B t R p).2.2) (n + 1) := by
  obtain ⟨k, rfl⟩ : ∃ k, f = k + 1 := ⟨f - 1, by omega⟩
  rw [chpS, if_pos h, if_neg (by omega), if_pos h3]
  rfl
theorem spc_f {R B : Nat → Nat} {t n : Nat} {R1 : Nat → Nat} (h : chpS B t (t + 1) R 0 0 = (false, R1, n)) : sp_chapel R B t = (R, none, (-1) - nI n) := by
  rw [sp_chapel, h, if_neg Bool.false_ne_true]
theorem spc_t {R B : Nat → Nat} {t n : Nat} {R1 : Nat → Nat} (h : chpS B t (t + 1) R 0 0 = (true, R1, n)) : sp_chapel R B t = (R1, none, nI n) := by
  rw [sp_chapel, h, if_pos rfl]
theorem tkK_59 {B : Nat → Nat} {t p : Nat} (h : 3 ≤ tkK B t p) : tkK B t p = 3 ↔ B (tkS B t p) = 59 := by
  unfold tkK at h ⊢
  revert h
  repeat' split
  all_goals (intro h; simp_all)
