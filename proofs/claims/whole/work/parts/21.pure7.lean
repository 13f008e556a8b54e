def bdV (I : TI) (x : Int32) : Int32 := (bdO I x).elim (nI 0) fC
theorem bd_k {I : TI} {x : Int32} {k : Nat} (h : bdO I x = some k) : k = 0 ∨ k = 5 := by
  unfold bdO at h
  split at h
  · split at h
    · cases h; exact Or.inr rfl
    · cases h
  · cases h; exact Or.inl rfl
theorem bd_0 {I : TI} {x : Int32} (h : bdV I x = 0) : bdO I x = none := by
  cases hb : bdO I x with
  | none => rfl
  | some k =>
    exfalso
    unfold bdV at h
    rw [hb] at h
    rcases bd_k hb with rfl | rfl
    · exact absurd h (by decide +kernel)
    · exact absurd h (by decide +kernel)
theorem bd_1 {I : TI} {x : Int32} (h : ¬ bdV I x = 0) : ∃ k, bdO I x = some k ∧ bdV I x = fC k ∧ k < 7 ∧ (-1000000001) - fC k = nI k := by
  cases hb : bdO I x with
  | none => exact absurd (by unfold bdV; rw [hb]; rfl) h
  | some k =>
    refine ⟨k, rfl, by unfold bdV; rw [hb]; rfl, ?_⟩
    rcases bd_k hb with rfl | rfl
    · exact ⟨by decide, by decide +kernel⟩
    · exact ⟨by decide, by decide +kernel⟩
theorem bd_n {I : TI} {x : Int32} (h : bdO I x = none) : ∃ a : Nat, a < 4 ∧ x = nI a ∧ ¬ I 51 a = 0 := by
  unfold bdO at h
  split at h
  · rename_i h1
    obtain ⟨a, -, ha, rfl⟩ := inB_r (by decide) (by decide) h1
    rw [cl_n (by omega)] at h
    split at h
    · cases h
    · exact ⟨a, by omega, rfl, by assumption⟩
  · cases h
def LaM (I : TI) (J : TJ) (F : TI) (w : Int64) (R : Nat → Nat) (x : Int32) (z : Nat) : Value → TI → TJ → TI → Int64 → Prop := fun r I2 J2 F2 w2 =>
  (bdO I x = none → r = .int (nI (layN R (fun i => J 53 (40 * cl x + i)) (min z (R 1))).2) ∧ I2 = va_up I 44 (nr (layN R (fun i => J 53 (40 * cl x + i)) (min z (R 1))).1)) ∧ (∀ k, bdO I x = some k → r = .int (fC k) ∧ I2 = fnd I 45 k) ∧ J2 = J ∧ F2 = F ∧ w2 = w
theorem lay_t {R : Nat → Nat} {f : Nat → Int64} {k : Nat} (h : layOk (f k) = true) : layN R f (k + 1) = (va_up (layN R f k).1 (2 + 6 * k + 4) (cl (f k).toInt32), (layN R f k).2 + 1) := by rw [layN, if_pos h]
theorem lay_f {R : Nat → Nat} {f : Nat → Int64} {k : Nat} (h : ¬ layOk (f k) = true) : layN R f (k + 1) = layN R f k := by rw [layN, if_neg h]
def bkO (I : TI) (n : Nat) (x y : Int32) : Option Nat := (bdO I x).elim (if isM n y = true then none else some 0) some
def bkF (R : Nat → Nat) (b : Int32) (m a : Nat) (f : Nat → Int64) (k : Nat) : Nat → Int64 := fun i => if 40 * a ≤ i ∧ i < 40 * a + k then nrM b (nI (pasN R (i - 40 * a) (2 + 6 * m + 4))).toInt64 else f i
theorem bk_step {R : Nat → Nat} {b : Int32} {m a k : Nat} {f : Nat → Int64} : vp_updL (bkF R b m a f k) (40 * a + k) (nrM b (nI (pasN R k (2 + 6 * m + 4))).toInt64) = bkF R b m a f (k + 1) := by
  funext i
  by_cases e : i = 40 * a + k
  · subst e; rw [pk_uLs]; unfold bkF; rw [if_pos (by omega), show 40 * a + k - 40 * a = k by omega]
  · rw [pk_uLn e]; unfold bkF
    by_cases h : 40 * a ≤ i ∧ i < 40 * a + k
    · rw [if_pos h, if_pos (by omega)]
    · rw [if_neg h, if_neg (by omega)]
theorem bk_0 {R : Nat → Nat} {b : Int32} {m a : Nat} {f : Nat → Int64} : bkF R b m a f 0 = f := by funext i; unfold bkF; rw [if_neg (by omega)]
def BkM (I : TI) (J : TJ) (F : TI) (w : Int64) (R : Nat → Nat) (x y : Int32) (Z : Nat → Nat) : Value → TI → TJ → TI → Int64 → Prop := fun r I2 J2 F2 w2 =>
  (bkO I (R 1) x y = none → r = .int (nI (Z (cl x))) ∧ AhS I R I2 ∧ J2 = va_up J 53 (bkF R (I 51 (cl x)) (cl y) (cl x) (J 53) (Z (cl x)))) ∧ (∀ k, bkO I (R 1) x y = some k → r = .int (fC k) ∧ I2 = fnd I 45 k ∧ J2 = J) ∧ F2 = F ∧ w2 = w
def soF (R : Nat → Nat) (m : Nat) (f : Nat → Int64) (i : Nat) : Bool := decide (f i = (nI (pasN R i (2 + 6 * m + 4))).toInt64)
theorem all_f {g : Nat → Bool} {k : Nat} (h : allB g k = false) : ∀ n, k ≤ n → allB g n = false
  | 0, hn => by rw [show k = 0 by omega] at h; exact h
  | n + 1, hn => by
    rcases Nat.lt_or_ge k (n + 1) with q | q
    · rw [allB, all_f h n (by omega)]; rfl
    · rw [show n + 1 = k by omega]; exact h
def rdO (I : TI) (n : Nat) (x y z : Int32) : Option Nat := (bdO I x).elim (if isM n y = true ∧ isM n z = true ∧ y ≠ z then none else some 0) some
def rdC (R : Nat → Nat) (m o : Nat) (f : Nat → Int64) (z : Nat) : Nat → Nat
  | 0 => 0
  | c + 1 => rdC R m o f z c + (if allB (soF (va_up (va_up R (2 + 6 * m + 0) (c / 6)) (2 + 6 * o + 0) (c % 6)) m f) z = true then 1 else 0)
def RdM (I : TI) (J : TJ) (F : TI) (w : Int64) (R : Nat → Nat) (x y z : Int32) (Z : Nat → Nat) : Value → TI → TJ → TI → Int64 → Prop := fun r I2 J2 F2 w2 =>
  (rdO I (R 1) x y z = none → r = .int (nI (rdC R (cl y) (cl z) (fun i => J 53 (40 * cl x + i)) (Z (cl x)) 36)) ∧ AhS I R I2) ∧ (∀ k, rdO I (R 1) x y z = some k → r = .int (fC k) ∧ I2 = fnd I 45 k) ∧ J2 = J ∧ F2 = F ∧ w2 = w
theorem rdC_le {R : Nat → Nat} {m o z : Nat} {f : Nat → Int64} : ∀ c, rdC R m o f z c ≤ c
  | 0 => Nat.le_refl _
  | c + 1 => by have := rdC_le (R := R) (m := m) (o := o) (z := z) (f := f) c; rw [rdC]; split <;> omega
