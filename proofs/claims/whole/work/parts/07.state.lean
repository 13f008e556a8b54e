/-! the state: int rows by their places, long rows, int fields by place and slot, the one long field; the heap is what it says -/
def kdl : List (Nat × Nat × List Nat) := [(3, 3, [3, 13, 23, 0, 33, 35, 44]), (3, 0, [0, 0, 4, 5, 6, 7, 8, 9, 10, 11, 12]), (0, 10, []), (0, 10, []), (0, 10, []), (0, 10, []), (0, 10, []), (0, 10, []), (0, 12, []), (0, 10, []), (0, 10, []), (3, 0, [0, 0, 14, 15, 16, 17, 18, 19, 20, 21, 22]), (0, 10, []), (0, 10, []), (0, 10, []), (0, 10, []), (0, 10, []), (0, 10, []), (0, 12, []), (0, 10, []), (0, 10, []), (3, 0, [0, 0, 24, 25, 26, 27, 28, 29, 30, 31, 32]), (0, 10, []), (0, 10, []), (0, 10, []), (0, 10, []), (0, 10, []), (0, 10, []), (0, 12, []), (0, 10, []), (0, 10, []), (3, 2, [0, 34, 0, 0, 0, 0]), (0, 120, []), (2, 4, []), (3, 1, [0, 0, 37]), (1, 40, []), (3, 1, [0, 0, 39]), (1, 40, []), (3, 1, [0, 0, 41]), (1, 40, []), (3, 1, [0, 0, 43]), (1, 40, []), (0, 7, []), (3, 4, [46, 47, 48, 49, 50, 51, 52, 0, 0, 0, 0, 1, 0, 0, 53, 54, 55, 56, 57, 58, 0]), (0, 62, []), (0, 7, []), (0, 10, []), (0, 10, []), (0, 62, []), (0, 62, []), (0, 120, []), (0, 4, []), (0, 4, []), (1, 160, []), (1, 40, []), (0, 62, []), (0, 62, [])]
def kd (P : Nat) : Nat × Nat × List Nat := kdl.getD P (9, 0, [])
def fldV (g : GG) (f : Nat → Int32) (w : Int64) : List Nat → Nat → List Value
  | [], _ => []
  | 0 :: r, k => .int (f k) :: fldV g f w r (k + 1)
  | 1 :: r, k => .long w :: fldV g f w r (k + 1)
  | (q + 2) :: r, k => .ref (ga g q) :: fldV g f w r (k + 1)
def shF (g : GG) (i : Nat) : Option Nat := if i < 4 then some (ga g (34 + 2 * i)) else none
def cellOf (g : GG) (t : Nat × Nat × List Nat) (i : Nat → Int32) (j : Nat → Int64) (f : Nat → Int32) (w : Int64) : va_E :=
  if t.1 = 0 then ci g t.2.1 i else if t.1 = 1 then cj g t.2.1 j else if t.1 = 2 then cs g t.2.1 (shF g) else co t.2.1 (fldV g f w t.2.2 0)
def hp (g : GG) (I : Nat → Nat → Int32) (J : Nat → Nat → Int64) (F : Nat → Nat → Int32) (w : Int64) : Hp := fun P => cellOf g (kd P) (I P) (J P) (F P) w
theorem fldV_len (g : GG) (f : Nat → Int32) (w : Int64) : ∀ (r : List Nat) (k : Nat), (fldV g f w r k).length = r.length
  | [], _ => rfl
  | 0 :: r, k => by simp [fldV, fldV_len g f w r (k + 1)]
  | 1 :: r, k => by simp [fldV, fldV_len g f w r (k + 1)]
  | (q + 2) :: r, k => by simp [fldV, fldV_len g f w r (k + 1)]
theorem fldV_at (g : GG) (f : Nat → Int32) (w : Int64) : ∀ (r : List Nat) (k i d : Nat), r[i]? = some d → (fldV g f w r k)[i]? = some (match d with | 0 => .int (f (k + i)) | 1 => .long w | q + 2 => .ref (ga g q))
  | [], _, i, d, h => by simp at h
  | a :: r, k, 0, d, h => by
    simp at h
    subst h
    match a with
    | 0 => rfl
    | 1 => rfl
    | q + 2 => rfl
  | a :: r, k, i + 1, d, h => by
    have h2 := fldV_at g f w r (k + 1) i d (by simpa using h)
    rw [show k + 1 + i = k + (i + 1) by omega] at h2
    match a with
    | 0 => simpa [fldV] using h2
    | 1 => simpa [fldV] using h2
    | q + 2 => simpa [fldV] using h2
theorem fldV_congr (g : GG) (f f2 : Nat → Int32) (w : Int64) : ∀ (r : List Nat) (k : Nat), (∀ i, k ≤ i → f i = f2 i) → fldV g f w r k = fldV g f2 w r k
  | [], _, _ => rfl
  | 0 :: r, k, h => by simp only [fldV]; rw [h k (Nat.le_refl k), fldV_congr g f f2 w r (k + 1) (fun i hi => h i (by omega))]
  | 1 :: r, k, h => by simp only [fldV]; rw [fldV_congr g f f2 w r (k + 1) (fun i hi => h i (by omega))]
  | (q + 2) :: r, k, h => by simp only [fldV]; rw [fldV_congr g f f2 w r (k + 1) (fun i hi => h i (by omega))]
theorem fldV_set (g : GG) (f : Nat → Int32) (w : Int64) (v : Int32) : ∀ (r : List Nat) (k i : Nat), r[i]? = some 0 → (fldV g f w r k).set i (.int v) = fldV g (va_up f (k + i) v) w r k
  | [], _, i, h => by simp at h
  | a :: r, k, 0, h => by
    simp at h
    subst h
    simp only [fldV, List.set_cons_zero, Nat.add_zero]
    rw [fldV_congr g f (va_up f k v) w r (k + 1) (fun i hi => by simp [va_up]; omega)]
    simp [va_up]
  | a :: r, k, i + 1, h => by
    have h2 := fldV_set g f w v r (k + 1) i (by simpa using h)
    rw [show k + 1 + i = k + (i + 1) by omega] at h2
    match a with
    | 0 =>
      simp only [fldV, List.set_cons_succ, h2]
      congr 2
      simp [va_up]
    | 1 => simp only [fldV, List.set_cons_succ, h2]
    | q + 2 => simp only [fldV, List.set_cons_succ, h2]
theorem fldV_setL (g : GG) (f : Nat → Int32) (w v : Int64) : ∀ (r : List Nat) (k i : Nat), r[i]? = some 1 → (∀ j : Nat, r[j]? = some 1 → j = i) → (fldV g f w r k).set i (.long v) = fldV g f v r k
  | [], _, i, h, _ => by simp at h
  | a :: r, k, 0, h, hu => by
    simp at h
    subst h
    simp only [fldV, List.set_cons_zero]
    have hn : ∀ j : Nat, r[j]? ≠ some 1 := fun j hj => by
      have := hu (j + 1) (by simpa using hj)
      omega
    have : ∀ (r : List Nat) (k : Nat), (∀ j : Nat, r[j]? ≠ some 1) → fldV g f w r k = fldV g f v r k := by
      intro r
      induction r with
      | nil => intro k _; rfl
      | cons b r ih =>
        intro k hh
        have h1 := ih (k + 1) (fun j hj => hh (j + 1) (by simpa using hj))
        have h0 := hh 0
        match b, h0 with
        | 0, _ => simp only [fldV, h1]
        | 1, h0 => simp at h0
        | q + 2, _ => simp only [fldV, h1]
    rw [this r (k + 1) hn]
  | a :: r, k, i + 1, h, hu => by
    have h2 := fldV_setL g f w v r (k + 1) i (by simpa using h) (fun j hj => by
      have := hu (j + 1) (by simpa using hj)
      omega)
    have h0 : a ≠ 1 := fun z => by
      have := hu 0 (by simp [z])
      omega
    match a, h0 with
    | 0, _ => simp only [fldV, List.set_cons_succ, h2]
    | 1, h0 => exact absurd rfl h0
    | q + 2, _ => simp only [fldV, List.set_cons_succ, h2]
section HP
variable {g : GG} {I : Nat → Nat → Int32} {J : Nat → Nat → Int64} {F : Nat → Nat → Int32} {w : Int64} {P n k : Nat}
def KI (P n : Nat) : Prop := P < 57 ∧ kd P = (0, n, [])
def KJ (P n : Nat) : Prop := P < 57 ∧ kd P = (1, n, [])
def KO (P cn : Nat) (r : List Nat) : Prop := P < 57 ∧ kd P = (3, cn, r)
theorem hp_i (h : KI P n) : hp g I J F w P = ci g n (I P) := by simp [hp, h.2, cellOf]
theorem hp_j (h : KJ P n) : hp g I J F w P = cj g n (J P) := by simp [hp, h.2, cellOf]
theorem hp_o {cn : Nat} {r : List Nat} (h : KO P cn r) : hp g I J F w P = co cn (fldV g (F P) w r 0) := by simp [hp, h.2, cellOf]
theorem hp_s : hp g I J F w 33 = cs g 4 (shF g) := rfl
theorem hp_ui (h : KI P n) (f : Nat → Int32) : va_up (hp g I J F w) P (ci g n f) = hp g (va_up I P f) J F w := by
  funext Q
  by_cases hq : Q = P
  · subst hq
    rw [hp_i h]
    simp [va_up]
  · simp [va_up, hq, hp]
theorem hp_uj (h : KJ P n) (f : Nat → Int64) : va_up (hp g I J F w) P (cj g n f) = hp g I (va_up J P f) F w := by
  funext Q
  by_cases hq : Q = P
  · subst hq
    rw [hp_j h]
    simp [va_up]
  · simp [va_up, hq, hp]
theorem hp_uo {cn : Nat} {r : List Nat} (h : KO P cn r) (hk : r[k]? = some 0) (v : Int32) : va_up (hp g I J F w) P (co cn ((fldV g (F P) w r 0).set k (.int v))) = hp g I J (va_up F P (va_up (F P) k v)) w := by
  funext Q
  by_cases hq : Q = P
  · subst hq
    rw [hp_o h, fldV_set g (F Q) w v r 0 k hk]
    simp [va_up]
  · simp [va_up, hq, hp]
end HP
