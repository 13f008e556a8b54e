/-! what each public call does, as a triple: the row behind it, a finding, or else the answer -/
abbrev SP : Type := (Nat → Nat) × Option Nat × Int32
def fC (k : Nat) : Int32 := (-1000000001) - nI k
def outV (o : Option Nat) (v : Int32) : Int32 := o.elim v fC
def bmp (f : Nat → Int32) (o : Option Nat) : Nat → Int32 := o.elim f (fun k => upd f k (f k + 1))
def MdR (I : TI) (J : TJ) (F : TI) (w : Int64) (t : SP) : Value → TI → TJ → TI → Int64 → Prop := fun x I2 J2 F2 w2 => x = .int (outV t.2.1 t.2.2) ∧ I2 44 = nr t.1 ∧ I2 45 = bmp (I 45) t.2.1 ∧ (∀ P, P ≠ 44 → P ≠ 45 → P ≠ 46 → P ≠ 47 → P ≠ 48 → P ≠ 49 → I2 P = I P) ∧ J2 = J ∧ F2 = F ∧ w2 = w
/-- the row is R, nothing else but scratch has changed -/
def AhS (I : TI) (R : Nat → Nat) (I3 : TI) : Prop := I3 44 = nr R ∧ ∀ P, P ≠ 44 → P ≠ 46 → P ≠ 47 → P ≠ 48 → P ≠ 49 → I3 P = I P
/-- .. and the place Q holds the row Rs -/
def AhK (Q : Nat) (I : TI) (Rs R : Nat → Nat) (I3 : TI) : Prop := I3 44 = nr R ∧ (∀ k, k < 62 → I3 Q k = nI (Rs k)) ∧ ∀ P, P ≠ 44 → P ≠ 46 → P ≠ 47 → P ≠ Q → I3 P = I P
theorem AhK.S {Q : Nat} {I : TI} {Rs R : Nat → Nat} {I3 : TI} (h : AhK Q I Rs R I3) (hQ : Q = 48 ∨ Q = 49) : AhS I R I3 := ⟨h.1, fun P q1 q2 q3 q4 q5 => h.2.2 P q1 q2 q3 (by rcases hQ with rfl | rfl <;> assumption)⟩
theorem md_val {I I3 : TI} {J : TJ} {F : TI} {w : Int64} {R : Nat → Nat} {t : SP} {v : Int32} (h : AhS I R I3) (hs : t = (R, none, v)) : MdR I J F w t (.int v) I3 J F w := by
  subst hs
  exact ⟨rfl, h.1, h.2 45 (by decide) (by decide) (by decide) (by decide) (by decide), fun P q1 q2 q3 q4 q5 q6 => h.2 P q1 q3 q4 q5 q6, rfl, rfl, rfl⟩
theorem md_find {I I3 : TI} {J : TJ} {F : TI} {w : Int64} {R : Nat → Nat} {t : SP} {k : Nat} {x : Int32} (h : AhS I R I3) (hx : x = fC k) (hs : t = (R, some k, 0)) : MdR I J F w t (.int x) (fnd I3 45 k) J F w := by
  subst hs
  subst hx
  have e := h.2 45 (by decide) (by decide) (by decide) (by decide) (by decide)
  refine ⟨rfl, ?_, ?_, fun P q1 q2 q3 q4 q5 q6 => ?_, rfl, rfl, rfl⟩
  · show va_up _ 45 _ 44 = _
    rw [up_n _ _ (by decide)]; exact h.1
  · show va_up _ 45 _ 45 = _
    rw [up_s, e]; rfl
  · show va_up _ 45 _ P = _
    rw [up_n _ _ q2]; exact h.2 P q1 q3 q4 q5 q6
theorem ah_0 {I : TI} {R : Nat → Nat} (h : I 44 = nr R) : AhS I R I := ⟨h, fun _ _ _ _ _ _ => rfl⟩
theorem ah_u {I I3 : TI} {R R2 : Nat → Nat} (h : AhS I R I3) : AhS I R2 (va_up I3 44 (nr R2)) := ⟨up_s _ _ _, fun P q1 q2 q3 q4 q5 => by rw [up_n _ _ q1]; exact h.2 P q1 q2 q3 q4 q5⟩
theorem ah_m {I I1 I2 : TI} {J J2 : TJ} {F F2 : TI} {w w2 : Int64} {R R2 : Nat → Nat} (h : AhS I R I1) (h2 : MdP I1 J F w R2 I2 J2 F2 w2) : AhS I R2 I2 := ⟨h2.1, fun P q1 q2 q3 q4 q5 => (h2.2.1 P q1 q2 q3).trans (h.2 P q1 q2 q3 q4 q5)⟩
theorem ahk_0 {I : TI} {R : Nat → Nat} {Q : Nat} (h : I 44 = nr R) (hQ : Q ≠ 44) : AhK Q I R R (va_up I Q (fun k => if k < 62 then I 44 k else I Q k)) := ⟨by rw [up_n _ _ (fun z => hQ z.symm)]; exact h, fun k hk => by rw [up_s, h]; simp [hk, nr], fun P q1 q2 q3 q4 => by rw [up_n _ _ q4]⟩
theorem ahk_u {I I3 : TI} {Rs R R2 : Nat → Nat} {Q : Nat} (h : AhK Q I Rs R I3) (hQ : Q ≠ 44) : AhK Q I Rs R2 (va_up I3 44 (nr R2)) := ⟨up_s _ _ _, fun k hk => by rw [up_n _ _ hQ]; exact h.2.1 k hk, fun P q1 q2 q3 q4 => by rw [up_n _ _ q1]; exact h.2.2 P q1 q2 q3 q4⟩
theorem ahk_m {I I1 I2 : TI} {J J2 : TJ} {F F2 : TI} {w w2 : Int64} {Rs R R2 : Nat → Nat} {Q : Nat} (h : AhK Q I Rs R I1) (hQ : Q = 48 ∨ Q = 49) (h2 : MdP I1 J F w R2 I2 J2 F2 w2) : AhK Q I Rs R2 I2 := ⟨h2.1, fun k hk => by rw [h2.2.1 Q (by omega) (by omega) (by omega)]; exact h.2.1 k hk, fun P q1 q2 q3 q4 => (h2.2.1 P q1 q2 q3).trans (h.2.2 P q1 q2 q3 q4)⟩
theorem inB_r {v : Int32} {lo hi : Nat} (hl : lo < 2 ^ 31) (hh : hi < 2 ^ 31) (h : inB v (nI lo) (nI hi) = true) : ∃ j : Nat, lo ≤ j ∧ j ≤ hi ∧ v = nI j := by
  simp only [inB, Bool.and_eq_true, decide_eq_true_eq] at h
  have h0 : ¬ v < 0 := by
    rw [Int32.lt_iff_toInt_lt]
    have h1 := Int32.le_iff_toInt_le.mp h.1
    rw [nI_toInt hl] at h1
    rw [Int32.toInt_zero]
    omega
  obtain ⟨j, hj, rfl⟩ := nI_of h0
  exact ⟨j, (nI_leI hl hj).mp h.1, (nI_leI hj hh).mp h.2, rfl⟩
def knwF (R : Nat → Nat) : Int32 := orF (fun m => nI (R (2 + 6 * m + 4))) (R 1)
def cl (x : Int32) : Nat := x.toNatClampNeg
theorem cl_n {n : Nat} (h : n < 2 ^ 31) : cl (nI n) = n := nI_clamp h
def sp_seat (R : Nat → Nat) (x : Int32) : SP := if inB x (nI 0) (nI 11) = true then (R, none, wI (who R (cl x) (R 1))) else (R, some 0, 0)
def sp_now (R : Nat → Nat) (x : Int32) : SP := if x = nI 0 then (R, none, nI (R 0)) else if x = nI 1 then (R, none, gapF (orF (fun m => nI 1 <<< (nI (R (2 + 6 * m + 1)) &&& 31)) (R 1)) 12) else if x = nI 2 then (R, none, orF (fun m => nI 1 <<< (nI (R (2 + 6 * m + 2)) &&& 31)) (R 1)) else if x = nI 3 then (R, none, knwF R) else if x = nI 4 then (R, none, sumF (fun m => nI (pcn (R (2 + 6 * m + 4)))) (R 1)) else if x = nI 5 then (R, none, sumF (fun m => nI (R (2 + 6 * m + 5))) (R 1)) else (R, some 0, 0)
def sp_member (R : Nat → Nat) (k x v : Int32) : SP := if inB k (nI 0) (nI 5) = true ∧ inB x (nI 0) (nI 11) = true ∧ inB v (nI 0) (nI 9) = true then (if R 1 = 10 then (R, some 1, 0) else if who R (cl x) (R 1) = none then (addN R (cl k) (cl x) (cl v) 5, none, nI (R 1)) else (R, some 4, 0)) else (R, some 0, 0)
def ofV (R : Nat → Nat) (a j : Nat) : Int32 := if j = 6 then nI (fe (R (2 + 6 * a + 0)) (R (2 + 6 * a + 5))) else if j = 7 then wI (felN R (R 1) a) else if j = 8 then bI (redN R (R 1) a) else if j = 9 then nI (tel (R (2 + 6 * a + 0)) (R (2 + 6 * a + 4))) else nI (R (2 + 6 * a + j))
def sp_of (R : Nat → Nat) (x y : Int32) : SP := if isM (R 1) x = true ∧ inB y (nI 0) (nI 9) = true then (R, none, ofV R (cl x) (cl y)) else (R, some 0, 0)
def isPartB (x v : Int32) : Bool := if x = nI 2 then inB v (nI 0) (nI 9) else if x = nI 3 then inB v (nI 1) (nI 9) else if x = nI 4 then inB v (nI 0) (nI 1023) else if x = nI 5 then inB v (nI 0) (nI 99) else false
def sp_set (R : Nat → Nat) (x y v : Int32) : SP := if isM (R 1) x = true ∧ isPartB y v = true then (va_up R (2 + 6 * cl x + cl y) (cl v), none, nI (R (2 + 6 * cl x + cl y))) else (R, some 0, 0)
theorem isPart_t {x v : Int32} (h : isPartB x v = true) : ∃ a b : Nat, x = nI a ∧ v = nI b ∧ 2 ≤ a ∧ a ≤ 5 ∧ b ≤ 1023 ∧ (a = 2 → b ≤ 9) ∧ (a = 3 → 1 ≤ b ∧ b ≤ 9) ∧ (a = 5 → b ≤ 99) := by
  unfold isPartB at h
  split at h
  · obtain ⟨j, h1, h2, rfl⟩ := inB_r (by decide) (by decide) h
    exact ⟨2, j, by assumption, rfl, by omega, by omega, by omega, by omega, by omega, by omega⟩
  · split at h
    · obtain ⟨j, h1, h2, rfl⟩ := inB_r (by decide) (by decide) h
      exact ⟨3, j, by assumption, rfl, by omega, by omega, by omega, by omega, by omega, by omega⟩
    · split at h
      · obtain ⟨j, h1, h2, rfl⟩ := inB_r (by decide) (by decide) h
        exact ⟨4, j, by assumption, rfl, by omega, by omega, by omega, by omega, by omega, by omega⟩
      · split at h
        · obtain ⟨j, h1, h2, rfl⟩ := inB_r (by decide) (by decide) h
          exact ⟨5, j, by assumption, rfl, by omega, by omega, by omega, by omega, by omega, by omega⟩
        · cases h
def sp_move (R : Nat → Nat) (x y : Int32) : SP := if isM (R 1) x = true ∧ inB y (nI 0) (nI 11) = true then (if who R (cl y) (R 1) = none ∨ who R (cl y) (R 1) = some (cl x) then (va_up R (2 + 6 * cl x + 1) (cl y), none, nI (R (2 + 6 * cl x + 1))) else (R, some 4, 0)) else (R, some 0, 0)
def sp_turn (R : Nat → Nat) (x y : Int32) : SP := if isM (R 1) x = true ∧ inB y (nI 0) (nI 5) = true then (va_up R (2 + 6 * cl x + 0) (cl y), none, nI (R (2 + 6 * cl x + 0))) else (R, some 0, 0)
def undB (o k : Nat) : Bool := decide (k = 0) || (decide (k = o) || ((decide (k = 1) && decide (o = 4)) || (decide (k = 2) && decide (o = 5))))
def sp_as (R : Nat → Nat) (x y : Int32) : SP := if isM (R 1) x = true ∧ inB y (nI 0) (nI 5) = true then (if undB (R (2 + 6 * cl x + 0)) (cl y) = true then (R, none, nI (R (2 + 6 * cl x + 4))) else (R, some 2, 0)) else (R, some 0, 0)
def sp_nights (R : Nat → Nat) (x : Int32) : SP := if inB x (nI 1) (nI 60) = true then (if R 0 + cl x ≤ 99999 then (pasN R (cl x), none, knwF (pasN R (cl x))) else (R, some 4, 0)) else (R, some 0, 0)
def sp_on (R : Nat → Nat) (x y z : Int32) : SP := if isM (R 1) x = true ∧ inB y (nI 0) (nI 100) = true ∧ inB z (nI 0) (nI 1) = true then (R, none, nI (pasN R (cl y) (2 + 6 * cl x + (4 + cl z)))) else (R, some 0, 0)
/-- the first of f numbers from k on -/
def firF (p : Nat → Bool) : Nat → Nat → Option Nat
  | 0, _ => none
  | f + 1, k => if p k = true then some k else firF p f (k + 1)
def firSP (R : Nat → Nat) (o : Option Nat) : SP := o.elim (R, some 3, 0) (fun k => (R, none, nI k))
def sp_learns (R : Nat → Nat) (x y : Int32) : SP := if isM (R 1) x = true ∧ inB y (nI 0) (nI 9) = true then firSP R (firF (fun k => (pasN R k (2 + 6 * cl x + 4)).testBit (cl y)) 101 0) else (R, some 0, 0)
def sp_spreads (R : Nat → Nat) (y : Int32) : SP := if inB y (nI 0) (nI 9) = true then firSP R (firF (fun k => allB (sprF (pasN R k) (cl y)) (R 1)) 101 0) else (R, some 0, 0)
def sp_heresy (R : Nat → Nat) : SP := firSP R (firF (fun k => anyB (herF (pasN R k)) (R 1)) 101 0)
/-- of several the least: the best so far, and how much (one more; 0: none yet) -/
def bstF (b0 : Nat) (c : Nat → Option Nat) : Nat → Nat × Nat
  | 0 => (b0, 0)
  | k + 1 => (c k).elim (bstF b0 c k) (fun v => if v + 1 ≤ (bstF b0 c k).2 then bstF b0 c k else (k, v + 1))
def moI : Nat → Int32
  | 0 => -1
  | q + 1 => nI q
theorem moI_le {v q : Nat} (hv : v < 10000) (hq : q < 10000) : nI v ≤ moI q ↔ v + 1 ≤ q := by
  cases q with
  | zero =>
    refine ⟨fun h => ?_, fun h => by omega⟩
    have h1 := Int32.le_iff_toInt_le.mp h
    rw [nI_toInt (by omega), show (moI 0).toInt = -1 by decide +kernel] at h1
    omega
  | succ q => show nI v ≤ nI q ↔ _; rw [nI_leI (by omega) (by omega)]; omega
def bvS (R : Nat → Nat) (m n x : Nat) : Option Nat := if who R x (R 1) = none ∨ who R x (R 1) = some m then some (pcn (pasN (va_up R (2 + 6 * m + 1) x) n (2 + 6 * m + 4))) else none
def sp_best (R : Nat → Nat) (x y : Int32) : SP := if isM (R 1) x = true ∧ inB y (nI 1) (nI 40) = true then (R, none, nI (bstF 0 (bvS R (cl x) (cl y)) 12).1) else (R, some 0, 0)
def bvK (R : Nat → Nat) (m n k : Nat) : Option Nat := some (pcn (pasN (va_up R (2 + 6 * m + 0) k) n (2 + 6 * m + 4)))
def sp_kind (R : Nat → Nat) (x y : Int32) : SP := if isM (R 1) x = true ∧ inB y (nI 1) (nI 40) = true then (R, none, nI (bstF 0 (bvK R (cl x) (cl y)) 6).1) else (R, some 0, 0)
def depP (R : Nat → Nat) (m o n d : Nat) : Bool := (pasN (va_up R (2 + 6 * m + 3) d) n (2 + 6 * o + 4)).testBit (R (2 + 6 * m + 2))
def sp_deep (R : Nat → Nat) (x y z : Int32) : SP := if isM (R 1) x = true ∧ isM (R 1) y = true ∧ x ≠ y ∧ inB z (nI 0) (nI 40) = true then firSP R (firF (depP R (cl x) (cl y) (cl z)) 9 1) else (R, some 0, 0)
def emp (R : Nat → Nat) (n : Nat) : Nat → Nat → Nat
  | 0, s => s
  | f + 1, s => if who R s n = none then s else emp R n f (s + 1)
def kaN (R : Nat → Nat) : Nat → Nat
  | 0 => 0
  | m + 1 => kaN R m + pcn (R (2 + 6 * m + 4))
def bvH (R : Nat → Nat) (x n m : Nat) : Option Nat := some (kaN (pasN (va_up R (2 + 6 * m + 1) x) n) (R 1))
def sp_shift (R : Nat → Nat) (y : Int32) : SP := if inB y (nI 1) (nI 40) = true then (if R 1 = 0 then (R, some 3, 0) else (R, none, nI (bstF 0 (bvH R (emp R (R 1) 12 0) (cl y)) (R 1)).1)) else (R, some 0, 0)
/-- from k - 1 down to 0 the first -/
def dnF (p : Nat → Bool) : Nat → Option Nat
  | 0 => none
  | k + 1 => if p k = true then some k else dnF p k
def beaP (R : Nat → Nat) (m n v t : Nat) : Bool := decide (v ≤ pcn (pasN (va_up R (2 + 6 * m + 5) t) n (2 + 6 * m + 4)))
def sp_bears (R : Nat → Nat) (x y z : Int32) : SP := if isM (R 1) x = true ∧ inB y (nI 0) (nI 40) = true ∧ inB z (nI 0) (nI 10) = true then firSP R (dnF (beaP R (cl x) (cl y) (cl z)) 100) else (R, some 0, 0)
def wisF (f : Nat → Nat) : Nat → Option Nat
  | 0 => none
  | m + 1 => (wisF f m).elim (some m) (fun b => if f m ≤ f b then some b else some m)
def sp_wisest (R : Nat → Nat) (y : Int32) : SP := if inB y (nI 0) (nI 100) = true then firSP R (wisF (fun m => pcn (pasN R (cl y) (2 + 6 * m + 4))) (R 1)) else (R, some 0, 0)
theorem firSP_s (R : Nat → Nat) (k : Nat) : firSP R (some k) = (R, none, nI k) := rfl
theorem firSP_n (R : Nat → Nat) : firSP R none = (R, some 3, 0) := rfl
theorem ok_seat {R : Nat → Nat} {m x : Nat} (ok : okR R) (hm : m < R 1) (hx : x < 12) (hw : who R x (R 1) = none ∨ who R x (R 1) = some m) : okR (va_up R (2 + 6 * m + 1) x) := by
  obtain ⟨h1, h2, h3, h4⟩ := ok
  have e1 : va_up R (2 + 6 * m + 1) x 1 = R 1 := up_n _ _ (by omega)
  have key : ∀ k, k < R 1 → k ≠ m → R (2 + 6 * k + 1) ≠ x := by
    intro k hk hkm he
    rcases hw with hw | hw
    · exact who_none hw k hk he
    · have := who_lt hw
      exact hkm (h3 k m hk hm (by rw [he, this.2]))
  refine ⟨by rw [e1]; exact h1, fun k hk => ?_, fun k j hk hj he => ?_, fun k hk => ?_⟩
  · rw [e1] at hk
    have f : ∀ i, i < 6 → i ≠ 1 → va_up R (2 + 6 * m + 1) x (2 + 6 * k + i) = R (2 + 6 * k + i) := fun i _ _ => up_n _ _ (by omega)
    rw [f 0 (by omega) (by omega), f 2 (by omega) (by omega), f 3 (by omega) (by omega), f 4 (by omega) (by omega), f 5 (by omega) (by omega)]
    by_cases hkm : k = m
    · subst hkm; rw [up_s]
      obtain ⟨a0, a1, a2, a3, a4, a5⟩ := h2 k hk
      exact ⟨a0, hx, a2, a3, a4, a5⟩
    · rw [up_n _ _ (by omega)]; exact h2 k hk
  · rw [e1] at hk hj
    by_cases hkm : k = m
    · by_cases hjm : j = m
      · omega
      · subst hkm
        rw [up_s, up_n _ _ (by omega)] at he
        exact absurd he.symm (key j hj hjm)
    · by_cases hjm : j = m
      · subst hjm
        rw [up_s, up_n _ _ (by omega)] at he
        exact absurd he (key k hk hkm)
      · rw [up_n _ _ (by omega), up_n _ _ (by omega)] at he
        exact h3 k j hk hj he
  · have := h1
    rw [up_n _ _ (by omega)]; exact h4 k hk
theorem ok_put {R : Nat → Nat} {m j v : Nat} (ok : okR R) (hm : m < R 1) (hj : j < 6) (h0 : j = 0 → v < 6) (h1 : j ≠ 1) (h2 : j = 2 → v < 10) (h3 : j = 3 → 1 ≤ v ∧ v ≤ 9) (h4 : j = 4 → v < 1024) (h5 : j = 5 → v < 100) : okR (va_up R (2 + 6 * m + j) v) := by
  obtain ⟨q1, q2, q3, q4⟩ := ok
  have e1 : va_up R (2 + 6 * m + j) v 1 = R 1 := up_n _ _ (by omega)
  have eS : ∀ k, va_up R (2 + 6 * m + j) v (2 + 6 * k + 1) = R (2 + 6 * k + 1) := fun k => up_n _ _ (by omega)
  refine ⟨by rw [e1]; exact q1, fun k hk => ?_, fun k i hk hi he => ?_, fun k hk => by rw [up_n _ _ (by omega)]; exact q4 k hk⟩
  · rw [e1] at hk
    obtain ⟨a0, a1, a2, a3, a4, a5⟩ := q2 k hk
    rw [eS]
    have f : ∀ i, i < 6 → va_up R (2 + 6 * m + j) v (2 + 6 * k + i) = if k = m ∧ i = j then v else R (2 + 6 * k + i) := by
      intro i hi
      by_cases hc : k = m ∧ i = j
      · obtain ⟨rfl, rfl⟩ := hc
        rw [up_s, if_pos ⟨rfl, rfl⟩]
      · rw [if_neg hc, up_n _ _ (by omega)]
    rw [f 0 (by omega), f 2 (by omega), f 3 (by omega), f 4 (by omega), f 5 (by omega)]
    refine ⟨?_, a1, ?_, ?_, ?_, ?_⟩
    · split
      · exact h0 (by omega)
      · exact a0
    · split
      · exact h2 (by omega)
      · exact a2
    · split
      · exact h3 (by omega)
      · exact a3
    · split
      · exact h4 (by omega)
      · exact a4
    · split
      · exact h5 (by omega)
      · exact a5
  · rw [e1] at hk hi
    rw [eS, eS] at he
    exact q3 k i hk hi he
def sp_count (R : Nat → Nat) (tm : Int32) (x : Int32) : SP := if x = nI 0 then (R, none, nI (R 1)) else if x = nI 1 then (R, none, tm) else if x = nI 2 then (R, none, sumF (fun m => nI (R (2 + 6 * m + 3))) (R 1)) else if x = nI 3 then (R, none, nI 12 - nI (R 1)) else (R, some 0, 0)
def sp_status (R : Nat → Nat) (f : Nat → Int32) (x : Int32) : SP := if inB x (-1) (nI 6) = true then (if x < 0 then (R, none, sumF f 7) else (R, none, f (cl x))) else (R, some 0, 0)
theorem st_in {x : Int32} (h : inB x (-1) (nI 6) = true) (h2 : 0 ≤ x) : ∃ j : Nat, j < 7 ∧ x = nI j := by
  simp only [inB, Bool.and_eq_true, decide_eq_true_eq] at h
  obtain ⟨j, hj, rfl⟩ := nI_of (Int32.not_lt.mpr h2)
  have := (nI_leI hj (by decide)).mp h.2
  exact ⟨j, by omega, rfl⟩
