/-! sheets -/
def nrM (b : Int32) (v : Int64) : Int64 := if b = nI 8 then (v <<< ((nI 56).toInt64 &&& 63)) >>> ((nI 56).toInt64 &&& 63) else if b = nI 16 then (v <<< ((nI 48).toInt64 &&& 63)) >>> ((nI 48).toInt64 &&& 63) else v
def shO (x b n : Int32) : Option Nat := if inB x (nI 0) (nI 3) = true ∧ (b = 0 ∨ b = nI 8 ∨ b = nI 16 ∨ b = nI 64) then (if n < 0 then some 6 else if n ≤ nI 40 then none else some 0) else some 0
def ShM (I : TI) (J : TJ) (F : TI) (w : Int64) (x b n : Int32) : Value → TI → TJ → TI → Int64 → Prop := fun v I2 J2 F2 w2 =>
  (shO x b n = none → v = .int (if b = 0 then nI 0 else n) ∧ I2 = va_up (va_up I 51 (upd (I 51) (cl x) b)) 52 (upd (I 52) (cl x) (if b = 0 then nI 0 else n)) ∧ J2 = va_up J 53 (fun i => if 40 * cl x ≤ i ∧ i < 40 * cl x + 40 then 0 else J 53 i)) ∧ (∀ k, shO x b n = some k → v = .int (fC k) ∧ I2 = fnd I 45 k ∧ J2 = J) ∧ F2 = F ∧ w2 = w
theorem sh_step {f : Nat → Int64} {a k : Nat} : vp_updL (fun i => if a ≤ i ∧ i < a + k then 0 else f i) (a + k) 0 = fun i => if a ≤ i ∧ i < a + (k + 1) then 0 else f i := by
  funext i
  by_cases e : i = a + k
  · subst e; rw [pk_uLs, if_pos (by omega)]
  · rw [pk_uLn e]
    by_cases h : a ≤ i ∧ i < a + k
    · rw [if_pos h, if_pos (by omega)]
    · rw [if_neg h, if_neg (by omega)]
theorem sh_0 {J : TJ} {a : Nat} : va_up J 53 (fun i => if a ≤ i ∧ i < a + 0 then 0 else J 53 i) = J := up_self (fun i => by rw [if_neg (by omega)])
/-- a sheet's trouble -/
def bdO (I : TI) (x : Int32) : Option Nat := if inB x (nI 0) (nI 3) = true then (if I 51 (cl x) = 0 then some 5 else none) else some 0
def wrO (I : TI) (x y : Int32) : Option Nat := if inB x (nI 0) (nI 3) = true then (if I 51 (cl x) = 0 then some 5 else if inB y (nI 0) (I 52 (cl x) - nI 1) = true then none else some 0) else some 0
def WrM (I : TI) (J : TJ) (F : TI) (w : Int64) (x y : Int32) (v : Int64) : Value → TI → TJ → TI → Int64 → Prop := fun r I2 J2 F2 w2 =>
  (wrO I x y = none → r = .long (J 53 (40 * cl x + cl y)) ∧ I2 = I ∧ J2 = va_up J 53 (vp_updL (J 53) (40 * cl x + cl y) (nrM (I 51 (cl x)) v))) ∧ (∀ k, wrO I x y = some k → r = .long (fC k).toInt64 ∧ I2 = fnd I 45 k ∧ J2 = J) ∧ F2 = F ∧ w2 = w
def parB (z f n : Int32) : Bool := decide (0 ≤ f) && (decide (0 ≤ n) && (decide (n ≤ z) && decide (f ≤ z - n)))
theorem par_t {z : Nat} {f n : Int32} (hz : z ≤ 40) (h : parB (nI z) f n = true) : ∃ a b : Nat, f = nI a ∧ n = nI b ∧ a + b ≤ z := by
  simp only [parB, Bool.and_eq_true, decide_eq_true_eq] at h
  obtain ⟨h1, h2, h3, h4⟩ := h
  obtain ⟨a, ha, rfl⟩ := nI_of (Int32.not_lt.mpr h1)
  obtain ⟨b, hb, rfl⟩ := nI_of (Int32.not_lt.mpr h2)
  have h5 := (nI_leI hb (by omega)).mp h3
  rw [pk_sub h5, nI_leI ha (by omega)] at h4
  exact ⟨a, b, rfl, rfl, by omega⟩
def cpO (I : TI) (x f y t n : Int32) : Option Nat := if inB x (nI 0) (nI 3) = true ∧ inB y (nI 0) (nI 3) = true then (if I 51 (cl x) = 0 ∨ I 51 (cl y) = 0 then some 5 else if I 51 (cl x) = I 51 (cl y) then (if parB (I 52 (cl x)) f n = true ∧ parB (I 52 (cl y)) t n = true then none else some 0) else some 2) else some 0
def CpM (I : TI) (J : TJ) (F : TI) (w : Int64) (x f y t n : Int32) : Value → TI → TJ → TI → Int64 → Prop := fun r I2 J2 F2 w2 =>
  (cpO I x f y t n = none → r = .int n ∧ I2 = I ∧ J2 53 = va_cpy (J 53) (J 53) (40 * cl x + cl f) (40 * cl y + cl t) (cl n) ∧ ∀ P, P ≠ 53 → P ≠ 54 → J2 P = J P) ∧ (∀ k, cpO I x f y t n = some k → r = .int (fC k) ∧ I2 = fnd I 45 k ∧ J2 = J) ∧ F2 = F ∧ w2 = w
theorem cpy_step {f h2 : Nat → Int64} {s d k : Nat} : vp_updL (va_cpy f h2 s d k) (d + k) (f (s + k)) = va_cpy f h2 s d (k + 1) := by
  funext i
  by_cases e : i = d + k
  · subst e; rw [pk_uLs]; unfold va_cpy; rw [if_pos (by omega), show s + (d + k - d) = s + k by omega]
  · rw [pk_uLn e]; unfold va_cpy
    by_cases h : d ≤ i ∧ i < d + k
    · rw [if_pos h, if_pos (by omega)]
    · rw [if_neg h, if_neg (by omega)]
theorem cpy_0 {f h2 : Nat → Int64} {s d : Nat} : va_cpy f h2 s d 0 = h2 := by funext i; unfold va_cpy; rw [if_neg (by omega)]
theorem upL_fill {f h2 : Nat → Int64} {k : Nat} : vp_updL (fun i => if i < k then f i else h2 i) k (f k) = fun i => if i < k + 1 then f i else h2 i := by
  funext i
  by_cases e : i = k
  · subst e; rw [pk_uLs]; simp
  · rw [pk_uLn e]
    by_cases h : i < k
    · rw [if_pos h, if_pos (by omega)]
    · rw [if_neg h, if_neg (by omega)]
/-- what a sheet's numbers make of the row: k looked at -/
def layOk (v : Int64) : Bool := decide (0 ≤ v) && decide (v ≤ 1023)
def layN (R : Nat → Nat) (f : Nat → Int64) : Nat → (Nat → Nat) × Nat
  | 0 => (R, 0)
  | k + 1 => if layOk (f k) = true then (va_up (layN R f k).1 (2 + 6 * k + 4) (cl (f k).toInt32), (layN R f k).2 + 1) else layN R f k
theorem lay_1 (R : Nat → Nat) (f : Nat → Int64) : ∀ k, (layN R f k).1 1 = R 1
  | 0 => rfl
  | k + 1 => by
    rw [layN]
    split
    · exact (up_n (layN R f k).1 (k := 2 + 6 * k + 4) (j := 1) (cl (f k).toInt32) (by omega)).trans (lay_1 R f k)
    · exact lay_1 R f k
theorem lay_le (R : Nat → Nat) (f : Nat → Int64) : ∀ k, (layN R f k).2 ≤ k
  | 0 => Nat.le_refl _
  | k + 1 => by
    have := lay_le R f k
    rw [layN]
    split
    · show (layN R f k).2 + 1 ≤ k + 1; omega
    · omega
theorem lay_q {v : Int64} (h : layOk v = true) : ∃ q : Nat, q < 1024 ∧ v = lN q ∧ v.toInt32 = nI q := by
  simp only [layOk, Bool.and_eq_true, decide_eq_true_eq] at h
  have h0 : ¬ v < 0 := Int64.not_lt.mpr h.1
  obtain ⟨q, hq, rfl⟩ := pk_lOf h0
  have h2 := h.2
  rw [show (1023 : Int64) = lN 1023 from by decide +kernel, pk_lLE hq (by decide)] at h2
  exact ⟨q, by omega, rfl, lN_i q⟩
