theorem i6_gt {v : Int32} (h : nI 6 ≤ v) : nI 5 < v := by
  have h1 := Int32.le_iff_toInt_le.mp h
  rw [Int32.lt_iff_toInt_lt]
  rw [show (nI 6).toInt = 6 by decide +kernel] at h1
  rw [show (nI 5).toInt = 5 by decide +kernel]
  omega
theorem i6_le {v : Int32} (h : ¬ nI 6 ≤ v) : ¬ nI 5 < v := by
  intro h2
  apply h
  have h1 := Int32.lt_iff_toInt_lt.mp h2
  rw [Int32.le_iff_toInt_le]
  rw [show (nI 5).toInt = 5 by decide +kernel] at h1
  rw [show (nI 6).toInt = 6 by decide +kernel]
  omega
/-- the greatest of the k lowest verses -/
def grD (a : Nat) : Nat → Nat
  | 0 => 0
  | k + 1 => if a.testBit k = true then 2 ^ k else grD a k
set_option maxRecDepth 100000 in
theorem grD_10 : ∀ a, a < 1024 → grD a 10 = grn a := by decide +kernel
theorem grD_go {a k : Nat} (hk : 1 ≤ k) (h : a.testBit (k - 1) = false) : grD a (k - 1) = grD a k := by
  obtain ⟨n, rfl⟩ : ∃ n, k = n + 1 := ⟨k - 1, by omega⟩
  have h : a.testBit n = false := h
  show grD a n = if a.testBit n = true then 2 ^ n else grD a n
  rw [if_neg (by rw [h]; decide)]
theorem grD_hit {a k : Nat} (hk : 1 ≤ k) (h : a.testBit (k - 1) = true) : grD a k = 2 ^ (k - 1) := by
  obtain ⟨n, rfl⟩ : ∃ n, k = n + 1 := ⟨k - 1, by omega⟩
  have h : a.testBit n = true := h
  show (if a.testBit n = true then 2 ^ n else grD a n) = 2 ^ n
  rw [if_pos h]
def getK (k t d n : Nat) : Bool := if 60 ≤ t then false else if k = 1 then decide (3 ≤ d) else if k = 4 then decide (3 ≤ d) else if k = 2 then boyB d n else if k = 5 then boyB d n else if k = 3 then true else decide (5 ≤ d)
/-- a chapel of the class, at base b, is the row R -/
def Ch (I F : TI) (b : Nat) (R : Nat → Nat) : Prop := F b 0 = nI (R 0) ∧ F b 1 = nI (R 1) ∧ (∀ m, m < R 1 → I (b + 1) m = nI (R (2 + 6 * m + 0)) ∧ I (b + 2) m = nI (R (2 + 6 * m + 1)) ∧ I (b + 3) m = nI (R (2 + 6 * m + 2)) ∧ I (b + 4) m = nI (R (2 + 6 * m + 3)) ∧ I (b + 5) m = nI (R (2 + 6 * m + 4)) ∧ I (b + 6) m = nI (R (2 + 6 * m + 5))) ∧ ∀ s, s < 12 → I (b + 7) s = wI (who R s (R 1))
theorem wI_eq {o : Option Nat} (hb : ∀ q, o = some q → q < 1000) : wI o = -1 ↔ o = none := by
  cases o with
  | none => exact ⟨fun _ => rfl, fun _ => rfl⟩
  | some q =>
    refine ⟨fun h => ?_, fun h => by cases h⟩
    have h : nI q = -1 := h
    have h2 := congrArg Int32.toInt h
    rw [nI_toInt (by have := hb q rfl; omega), show (-1 : Int32).toInt = -1 by decide +kernel] at h2
    omega
theorem who_big {R : Nat → Nat} (ok : okR R) {x : Nat} (hx : 12 ≤ x) : who R x (R 1) = none := by
  cases h : who R x (R 1) with
  | none => rfl
  | some m =>
    have h1 := who_lt h
    have h2 := (ok.2.1 m h1.1).2.1
    omega
