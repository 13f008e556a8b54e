theorem wc {B : Nat → Nat} {t p lo hi : Nat} {F : TI} (h : TkC B t p F) (hl : lo < 999) (hh : hi < 999) : (decide (F 31 4 = nI 2) && inB (F 31 5) (nI lo) (nI hi)) = txN B t p lo (hi + 1) := by
  obtain ⟨-, -, h3, -, h4⟩ := h
  have h5 := tkK_5 B t p
  by_cases hK : tkK B t p = 2
  · have hv : tkV B t p ≤ 1000 := by
      rw [tkV, if_neg (by omega)]; exact nmv_le _ _ _
    rw [h3, h4 hK, hK, inB_N (by omega) (by omega) (by omega), Bool.eq_iff_iff]
    simp only [txN, Bool.and_eq_true, decide_eq_true_eq]
    constructor
    · rintro ⟨-, q1, q2⟩
      exact ⟨hK, by omega, by omega⟩
    · rintro ⟨-, q1, q2⟩
      exact ⟨trivial, by omega, by omega⟩
  · have : ¬ F 31 4 = nI 2 := by
      rw [h3]
      intro q
      exact hK ((nI_eq (a := tkK B t p) (b := 2) (by omega) (by decide)).mp q)
    simp [this, txN, hK]
theorem wcM {B : Nat → Nat} {t p n : Nat} {F : TI} (h : TkC B t p F) (hn : n ≤ 10) : (decide (F 31 4 = nI 2) && inB (F 31 5) (nI 0) (nI n - nI 1)) = txN B t p 0 n := by
  by_cases h0 : n = 0
  · subst h0
    have e1 : inB (F 31 5) (nI 0) (nI 0 - nI 1) = false := by
      cases hq : inB (F 31 5) (nI 0) (nI 0 - nI 1) with
      | false => rfl
      | true =>
        obtain ⟨j, hj, -⟩ := isM_t (n := 0) (by decide) hq
        omega
    rw [e1]
    simp [txN]
  · rw [pk_sub (by omega), wc h (by decide) (by omega), show n - 1 + 1 = n by omega]
theorem wcV {B : Nat → Nat} {t p lo n : Nat} {F : TI} (h : TkC B t p F) (hc : txN B t p lo n = true) : F 31 5 = nI (tkV B t p) ∧ lo ≤ tkV B t p ∧ tkV B t p < n := by
  simp only [txN, Bool.and_eq_true, decide_eq_true_eq] at hc
  exact ⟨h.2.2.2.2 hc.1, hc.2.1, hc.2.2⟩
theorem wcW {B : Nat → Nat} {t p i : Nat} {F : TI} (h : TkC B t p F) (hK : tkK B t p = 1) (hi : i < 9) : F 31 5 = nI i ↔ tkV B t p = i := by
  have h9 : tkV B t p ≤ 9 := by rw [tkV, if_pos hK]; exact wid_9 _ _ _ 9 (by omega)
  rw [h.2.2.2.1 hK, wvI]
  split
  · rename_i e
    exact ⟨fun q => absurd q (nI_m1 (by omega)), fun q => by omega⟩
  · exact nI_eq (by omega) (by omega)
theorem wcK {B : Nat → Nat} {t p : Nat} {F : TI} (h : TkC B t p F) (hK : tkK B t p = 1) : inB (F 31 5) (nI 0) (nI 5) = decide (tkV B t p < 6) := by
  have h9 : tkV B t p ≤ 9 := by rw [tkV, if_pos hK]; exact wid_9 _ _ _ 9 (by omega)
  rw [h.2.2.2.1 hK, wvI]
  split
  · rename_i e
    rw [e]
    decide +kernel
  · rw [inB_N (by omega) (by decide) (by decide), Bool.eq_iff_iff]
    simp only [Bool.and_eq_true, decide_eq_true_eq]
    omega
theorem mn_n {a b : Nat} (ha : a < 2 ^ 31) (hb : b < 2 ^ 31) : (if nI b < nI a then nI b else nI a) = nI (min a b) := by
  by_cases h : b < a
  · rw [if_pos ((nI_ltI hb ha).mpr h), show min a b = b by omega]
  · rw [if_neg (fun q => h ((nI_ltI hb ha).mp q)), show min a b = a by omega]
theorem ch_frc {I F F2 : TI} {b : Nat} {R : Nat → Nat} (h : Ch I F b R) (hf : FrC F F2) (hb : b ≠ 31) : Ch I F2 b R := by
  unfold Ch at h ⊢
  rw [hf.1 b hb]
  exact h
def ItC (I : TI) (J : TJ) (F : TI) (w : Int64) (B : Nat → Nat) (t : Nat) (q : txPR) : Value → TI → TJ → TI → Int64 → Prop := fun x I2 J2 F2 w2 => x = .int (bI q.1) ∧ Ch I2 F2 11 q.2.1 ∧ (∀ Q, ¬ (11 ≤ Q ∧ Q ≤ 20) → I2 Q = I Q) ∧ (∀ Q, ¬ (11 ≤ Q ∧ Q ≤ 20) → Q ≠ 31 → F2 Q = F Q) ∧ F2 31 0 = F 31 0 ∧ J = J2 ∧ w = w2 ∧ TkC B t q.2.2 F2
/-- an item that failed: the chapel is as it was -/
theorem itc_f {I : TI} {J : TJ} {F F2 : TI} {w : Int64} {B : Nat → Nat} {t p : Nat} {R : Nat → Nat} {q : txPR} {v : Int32} (h : Ch I F 11 R) (hf : FrC F F2) (hK : TkC B t p F2) (e : q = (false, R, p)) (hv : v = nI 0) : ItC I J F w B t q (.int v) I J F2 w := by
  subst e hv
  exact ⟨rfl, ch_frc h hf (by decide), fun _ _ => rfl, fun Q _ hQ => hf.1 Q hQ, hf.2, rfl, rfl, hK⟩
def PaC (I : TI) (J : TJ) (F : TI) (w : Int64) (q : txPR) : Value → TI → TJ → TI → Int64 → Prop := fun x I2 J2 F2 w2 => x = .int (if q.1 = true then nI q.2.2 else (-1) - nI q.2.2) ∧ (q.1 = true → Ch I2 F2 11 q.2.1) ∧ (∀ Q, ¬ (11 ≤ Q ∧ Q ≤ 20) → I2 Q = I Q) ∧ (∀ Q, ¬ (11 ≤ Q ∧ Q ≤ 20) → Q ≠ 31 → F2 Q = F Q) ∧ F2 31 0 = F 31 0 ∧ J = J2 ∧ w = w2
def ChC (I : TI) (J : TJ) (F : TI) (w : Int64) (q : SP) : Value → TI → TJ → TI → Int64 → Prop := fun x I2 J2 F2 w2 => x = .int q.2.2 ∧ Ch I2 F2 1 q.1 ∧ (∀ Q, ¬ (1 ≤ Q ∧ Q ≤ 20) → I2 Q = I Q) ∧ (∀ Q, ¬ (1 ≤ Q ∧ Q ≤ 20) → Q ≠ 31 → F2 Q = F Q) ∧ F2 31 0 = nI 0 ∧ J = J2 ∧ w = w2
def FdC (I : TI) (J : TJ) (F : TI) (w : Int64) (t : Nat) (x y : Int32) : Value → TI → TJ → TI → Int64 → Prop := fun v I2 J2 F2 w2 =>
  (fdO t y = none → v = .int (nI (t + cl y)) ∧ I2 = va_up I 32 (fdF (I 32) t x (cl y)) ∧ F2 = va_up F 31 (va_up (F 31) 0 (nI (t + cl y)))) ∧ (∀ k, fdO t y = some k → v = .int (fC k) ∧ I2 = fnd I 42 k ∧ F2 = F) ∧ J2 = J ∧ w2 = w
theorem m1_neg {s : Nat} (h : s < 1000) : (-1 : Int32) - nI s < 0 := by
  have : ∀ s, s < 1000 → (-1 : Int32) - nI s < 0 := by decide +kernel
  exact this s h
