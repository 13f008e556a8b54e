/-! plain numbers -/
def bI (b : Bool) : Int32 := if b = true then 1 else 0
theorem bI_0 {b : Bool} : bI b = 0 ↔ b = false := by cases b <;> decide +kernel
theorem bI_n0 {b : Bool} : ¬ bI b = 0 ↔ b = true := by cases b <;> decide +kernel
theorem nar_bI (b : Bool) : narrow .boolean (.int (bI b)) = .int (bI b) := by cases b <;> decide +kernel
theorem bI_t : bI true = nI 1 := by decide +kernel
theorem bI_f : bI false = nI 0 := by decide +kernel
theorem ofI (n : Nat) : Int32.ofInt (n : Int) = nI n := by
  apply Int32.toBitVec_inj.mp
  simp [nI]
theorem iincN (a n : Nat) : nI a + Int32.ofInt (n : Int) = nI (a + n) := by rw [ofI, nI_add]
theorem iincD {a : Nat} (h : 1 ≤ a) : nI a + Int32.ofInt (-1) = nI (a - 1) := by
  rw [show Int32.ofInt (-1) = -1 from by decide +kernel]
  exact sb_m1 h
def inB (v lo hi : Int32) : Bool := decide (lo ≤ v) && decide (v ≤ hi)
theorem inB_N {v : Nat} {lo hi : Nat} (hv : v < 2 ^ 31) (hl : lo < 2 ^ 31) (hh : hi < 2 ^ 31) : inB (nI v) (nI lo) (nI hi) = (decide (lo ≤ v) && decide (v ≤ hi)) := by
  simp [inB, nI_leI hl hv, nI_leI hv hh]
theorem inB_t {v : Int32} {hi : Nat} (hh : hi < 2 ^ 31) (h : inB v (nI 0) (nI hi) = true) : ∃ j : Nat, j ≤ hi ∧ v = nI j := by
  simp only [inB, Bool.and_eq_true, decide_eq_true_eq] at h
  rw [nI_0] at h
  have h0 : ¬ v < 0 := by
    rw [Int32.lt_iff_toInt_lt]
    have := Int32.le_iff_toInt_le.mp h.1
    omega
  obtain ⟨j, hj, rfl⟩ := nI_of h0
  exact ⟨j, (nI_leI hj hh).mp h.2, rfl⟩
/-- the findings: BEYOND less k -/
def fnd (I : TI) (P k : Nat) : TI := va_up I P (upd (I P) k (I P k + 1))
theorem up_s {α : Type} (f : Nat → α) (k : Nat) (v : α) : va_up f k v k = v := by simp [va_up]
theorem up_n {α : Type} (f : Nat → α) {k j : Nat} (v : α) (h : j ≠ k) : va_up f k v j = f j := by simp [va_up, h]
theorem hu_43 : ∀ j : Nat, ([46, 47, 48, 49, 50, 51, 52, 0, 0, 0, 0, 1, 0, 0, 53, 54, 55, 56, 57, 58, 0] : List Nat)[j]? = some 1 → j = 11 := by
  intro j hj
  have hl := (List.getElem?_eq_some_iff.mp hj).1
  have : ∀ j, j < 21 → ([46, 47, 48, 49, 50, 51, 52, 0, 0, 0, 0, 1, 0, 0, 53, 54, 55, 56, 57, 58, 0] : List Nat)[j]? = some 1 → j = 11 := by decide +kernel
  exact this j (by simpa using hl) hj
section NB
variable {p : Program} {l : Launch} {e : Env} {R : Room} {s : State} {m : MethodId} {args : Array Value} {below : List Frame} {meth : Method} {c : Code} {g : GG} {A : Nat → Prop} {cc : ByteArray} {nL : Nat} {own : String} {w0 : Cond} {ret : Option FieldType} {cells slots : Nat} {Q : State → Prop} {pc : Nat} {lv : List (Option Value)} {st : List Value} {h : Hp}
theorem s_dropAt (i : Nat) (kk : AW p l e R s m args below meth c g A nL cells slots Q pc (lv.set i none) st h) : AW p l e R s m args below meth c g A nL cells slots Q pc lv st h := fun H locs ls hP hD hS hv => kk H locs ls hP hD hS ⟨hv.1, hv.2.1, fun j v q => hv.2.2 j v (by
  by_cases hj : j = i
  · subst hj
    have hl : j < lv.length := by
      have := (List.getElem?_eq_some_iff.mp q).1
      simpa using this
    rw [List.getElem?_set_self hl] at q
    cases q
  · rw [List.getElem?_set_ne (fun z => hj z.symm)] at q
    exact q)⟩
theorem s_name {x : Int32} (kk : ∀ y : Int32, y = x → AW p l e R s m args below meth c g A nL cells slots Q pc lv (.int y :: st) h) : AW p l e R s m args below meth c g A nL cells slots Q pc lv (.int x :: st) h := kk x rfl
theorem s_icmp_eqN (X : AX p s m args meth c g A cc nL own w0 ret) {a b : Nat} {off : Int} {tgt : Nat} (hd : decode cc pc = .ok (.if_icmp .eq off, 3)) (ht : (pc : Int) + off = (tgt : Int)) (ha : a < 2 ^ 31) (hb : b < 2 ^ 31) (kt : a = b → AW p l e R s m args below meth c g A nL cells slots Q tgt lv st h) (kf : ¬ a = b → AW p l e R s m args below meth c g A nL cells slots Q (pc + 3) lv st h) : AW p l e R s m args below meth c g A nL cells slots Q pc lv (.int (nI b) :: .int (nI a) :: st) h :=
  a_icmp_eq X hd ht (fun q => kt ((nI_eq ha hb).mp q)) (fun q => kf (fun z => q ((nI_eq ha hb).mpr z)))
theorem s_icmp_neN (X : AX p s m args meth c g A cc nL own w0 ret) {a b : Nat} {off : Int} {tgt : Nat} (hd : decode cc pc = .ok (.if_icmp .ne off, 3)) (ht : (pc : Int) + off = (tgt : Int)) (ha : a < 2 ^ 31) (hb : b < 2 ^ 31) (kt : ¬ a = b → AW p l e R s m args below meth c g A nL cells slots Q tgt lv st h) (kf : a = b → AW p l e R s m args below meth c g A nL cells slots Q (pc + 3) lv st h) : AW p l e R s m args below meth c g A nL cells slots Q pc lv (.int (nI b) :: .int (nI a) :: st) h :=
  a_icmp_ne X hd ht (fun q => kt (fun z => q ((nI_eq ha hb).mpr z))) (fun q => kf ((nI_eq ha hb).mp q))
theorem s_icmp_ltN (X : AX p s m args meth c g A cc nL own w0 ret) {a b : Nat} {off : Int} {tgt : Nat} (hd : decode cc pc = .ok (.if_icmp .lt off, 3)) (ht : (pc : Int) + off = (tgt : Int)) (ha : a < 2 ^ 31) (hb : b < 2 ^ 31) (kt : a < b → AW p l e R s m args below meth c g A nL cells slots Q tgt lv st h) (kf : ¬ a < b → AW p l e R s m args below meth c g A nL cells slots Q (pc + 3) lv st h) : AW p l e R s m args below meth c g A nL cells slots Q pc lv (.int (nI b) :: .int (nI a) :: st) h :=
  a_icmp_lt X hd ht (fun q => kt ((nI_ltI ha hb).mp q)) (fun q => kf (fun z => q ((nI_ltI ha hb).mpr z)))
theorem s_icmp_geN (X : AX p s m args meth c g A cc nL own w0 ret) {a b : Nat} {off : Int} {tgt : Nat} (hd : decode cc pc = .ok (.if_icmp .ge off, 3)) (ht : (pc : Int) + off = (tgt : Int)) (ha : a < 2 ^ 31) (hb : b < 2 ^ 31) (kt : b ≤ a → AW p l e R s m args below meth c g A nL cells slots Q tgt lv st h) (kf : ¬ b ≤ a → AW p l e R s m args below meth c g A nL cells slots Q (pc + 3) lv st h) : AW p l e R s m args below meth c g A nL cells slots Q pc lv (.int (nI b) :: .int (nI a) :: st) h :=
  a_icmp_ge X hd ht (fun q => kt ((nI_leI hb ha).mp q)) (fun q => kf (fun z => q ((nI_leI hb ha).mpr z)))
theorem s_icmp_gtN (X : AX p s m args meth c g A cc nL own w0 ret) {a b : Nat} {off : Int} {tgt : Nat} (hd : decode cc pc = .ok (.if_icmp .gt off, 3)) (ht : (pc : Int) + off = (tgt : Int)) (ha : a < 2 ^ 31) (hb : b < 2 ^ 31) (kt : b < a → AW p l e R s m args below meth c g A nL cells slots Q tgt lv st h) (kf : ¬ b < a → AW p l e R s m args below meth c g A nL cells slots Q (pc + 3) lv st h) : AW p l e R s m args below meth c g A nL cells slots Q pc lv (.int (nI b) :: .int (nI a) :: st) h :=
  a_icmp_gt X hd ht (fun q => kt ((nI_ltI hb ha).mp q)) (fun q => kf (fun z => q ((nI_ltI hb ha).mpr z)))
theorem s_icmp_leN (X : AX p s m args meth c g A cc nL own w0 ret) {a b : Nat} {off : Int} {tgt : Nat} (hd : decode cc pc = .ok (.if_icmp .le off, 3)) (ht : (pc : Int) + off = (tgt : Int)) (ha : a < 2 ^ 31) (hb : b < 2 ^ 31) (kt : a ≤ b → AW p l e R s m args below meth c g A nL cells slots Q tgt lv st h) (kf : ¬ a ≤ b → AW p l e R s m args below meth c g A nL cells slots Q (pc + 3) lv st h) : AW p l e R s m args below meth c g A nL cells slots Q pc lv (.int (nI b) :: .int (nI a) :: st) h :=
  a_icmp_le X hd ht (fun q => kt ((nI_leI ha hb).mp q)) (fun q => kf (fun z => q ((nI_leI ha hb).mpr z)))
end NB
/-! sets of verses -/
def pcn (a : Nat) : Nat := a % 2 + a / 2 % 2 + a / 4 % 2 + a / 8 % 2 + a / 16 % 2 + a / 32 % 2 + a / 64 % 2 + a / 128 % 2 + a / 256 % 2 + a / 512 % 2
def grn (a : Nat) : Nat := if 512 ≤ a then 512 else if 256 ≤ a then 256 else if 128 ≤ a then 128 else if 64 ≤ a then 64 else if 32 ≤ a then 32 else if 16 ≤ a then 16 else if 8 ≤ a then 8 else if 4 ≤ a then 4 else if 2 ≤ a then 2 else a
set_option maxRecDepth 100000 in
theorem set_step : ∀ a, a < 1024 → a ≠ 0 → (nI a &&& (nI a - nI 1)) = nI (a &&& (a - 1)) ∧ a &&& (a - 1) < a ∧ pcn (a &&& (a - 1)) + 1 = pcn a ∧ (¬ a &&& (a - 1) = 0 → grn (a &&& (a - 1)) = grn a) ∧ (a &&& (a - 1) = 0 → grn a = a) := by decide +kernel
theorem inB_lt {v lo hi : Int32} (h : v < lo) : inB v lo hi = false := by
  simp only [inB, Bool.and_eq_false_iff, decide_eq_false_iff_not]
  exact Or.inl (Int32.not_le.mpr h)
theorem inB_gt {v lo hi : Int32} (h : hi < v) : inB v lo hi = false := by
  simp only [inB, Bool.and_eq_false_iff, decide_eq_false_iff_not]
  exact Or.inr (Int32.not_le.mpr h)
theorem inB_ok {v lo hi : Int32} (h : ¬ v < lo) (h2 : ¬ hi < v) : inB v lo hi = true := by
  simp only [inB, Bool.and_eq_true, decide_eq_true_eq]
  exact ⟨Int32.not_lt.mp h, Int32.not_lt.mp h2⟩
def isM (n : Nat) (x : Int32) : Bool := inB x (nI 0) (nI n - nI 1)
theorem isM_t {n : Nat} {x : Int32} (hn : n < 1000) (h : isM n x = true) : ∃ j : Nat, j < n ∧ x = nI j := by
  cases n with
  | zero =>
    exfalso
    simp only [isM, inB, Bool.and_eq_true, decide_eq_true_eq] at h
    have h1 := Int32.le_iff_toInt_le.mp h.1
    have h2 := Int32.le_iff_toInt_le.mp h.2
    rw [show (nI 0 - nI 1).toInt = -1 by decide +kernel] at h2
    rw [show (nI 0).toInt = 0 by decide +kernel] at h1
    omega
  | succ k =>
    have e : nI (k + 1) - nI 1 = nI k := by rw [pk_sub (by omega)]; rfl
    unfold isM at h
    rw [e] at h
    obtain ⟨j, hj, rfl⟩ := inB_t (by omega) h
    exact ⟨j, by omega, rfl⟩
theorem isM_N {n j : Nat} (hn : n < 1000) (hj : j < n) : isM n (nI j) = true := by
  have e : nI n - nI 1 = nI (n - 1) := pk_sub (by omega)
  unfold isM
  rw [e, inB_N (by omega) (by decide) (by omega)]
  simp; omega
/-! the row of numbers, by plain numbers -/
def nr (R : Nat → Nat) : Nat → Int32 := fun k => nI (R k)
theorem nr_up (R : Nat → Nat) (k v : Nat) : upd (nr R) k (nI v) = nr (va_up R k v) := by
  funext j
  by_cases h : j = k
  · subst h; simp [pk_us, nr, va_up]
  · rw [pk_un h]; simp [nr, va_up, h]
/-! who sits where -/
def who (R : Nat → Nat) (s : Nat) : Nat → Option Nat
  | 0 => none
  | m + 1 => if R (2 + 6 * m + 1) = s then some m else who R s m
def wI : Option Nat → Int32
  | none => -1
  | some m => nI m
theorem wI_neg : wI none < 0 := by decide +kernel
theorem wI_pos {m : Nat} (h : m < 1000) : ¬ wI (some m) < 0 := nI_pos (by omega)
theorem who_lt {R : Nat → Nat} {s : Nat} : ∀ {n m : Nat}, who R s n = some m → m < n ∧ R (2 + 6 * m + 1) = s
  | 0, m, h => by simp [who] at h
  | n + 1, m, h => by
    simp only [who] at h
    split at h
    · cases h; exact ⟨by omega, by assumption⟩
    · have := who_lt h; exact ⟨by omega, this.2⟩
theorem who_none {R : Nat → Nat} {s : Nat} : ∀ {n : Nat}, who R s n = none → ∀ m, m < n → R (2 + 6 * m + 1) ≠ s
  | 0, _, m, hm => by omega
  | n + 1, h, m, hm => by
    simp only [who] at h
    split at h
    · cases h
    · rename_i hne
      by_cases e : m = n
      · subst e; exact hne
      · exact who_none h m (by omega)
def orF (f : Nat → Int32) : Nat → Int32
  | 0 => nI 0
  | m + 1 => orF f m ||| f m
def sumF (f : Nat → Int32) : Nat → Int32
  | 0 => nI 0
  | m + 1 => sumF f m + f m
theorem orF_congr {f f2 : Nat → Int32} : ∀ {n : Nat}, (∀ m, m < n → f m = f2 m) → orF f n = orF f2 n
  | 0, _ => rfl
  | n + 1, h => by simp only [orF]; rw [orF_congr (fun m hm => h m (by omega)), h n (by omega)]
theorem sumF_congr {f f2 : Nat → Int32} : ∀ {n : Nat}, (∀ m, m < n → f m = f2 m) → sumF f n = sumF f2 n
  | 0, _ => rfl
  | n + 1, h => by simp only [sumF]; rw [sumF_congr (fun m hm => h m (by omega)), h n (by omega)]
def gapB (t : Int32) (s : Nat) : Bool := decide ((t >>> (nI s &&& 31)) &&& nI 1 = 0) && (!decide (t &&& ((nI 1 <<< (nI s &&& 31)) - nI 1) = 0) && !decide (t >>> (nI (s + 1) &&& 31) = 0))
def gapF (t : Int32) : Nat → Int32
  | 0 => nI 0
  | s + 1 => gapF t s ||| (if gapB t s = true then nI 1 <<< (nI s &&& 31) else nI 0)
theorem fl1 {x y : Int32} (h : ¬ x = y) : nI 1 = bI (!decide (x = y)) := by simp [h]; rfl
theorem fl0 {x y : Int32} (h : x = y) : nI 0 = bI (!decide (x = y)) := by simp [h]; rfl
theorem gap_step {t x4 x5 : Int32} {k : Nat} (h4 : x4 = bI (!decide (t &&& ((nI 1 <<< (nI k &&& 31)) - nI 1) = 0))) (h5 : x5 = bI (!decide (t >>> (nI (k + 1) &&& 31) = 0))) :
    gapF t (k + 1) = gapF t k ||| (if (t >>> (nI k &&& 31)) &&& nI 1 = 0 ∧ ¬ x4 = 0 ∧ ¬ x5 = 0 then nI 1 <<< (nI k &&& 31) else nI 0) := by
  simp only [gapF, h4, h5, bI_n0]
  congr 1
  simp only [gapB, Bool.and_eq_true, decide_eq_true_eq]
def heldI (v lo hi : Int32) : Int32 := if v < lo then lo else if hi < v then hi else v
/-! what each kind does -/
def fe (k t : Nat) : Nat := if k = 3 then 0 else if k = 1 then 2 else if k = 4 then 2 else if k = 5 then (if t < 10 then 2 else 1) else 1
def felN (R : Nat → Nat) (n m : Nat) : Option Nat :=
  if fe (R (2 + 6 * m + 0)) (R (2 + 6 * m + 5)) = 0 then none else if fe (R (2 + 6 * m + 0)) (R (2 + 6 * m + 5)) = 1 then who R (R (2 + 6 * m + 1) + 1) n
  else (who R (R (2 + 6 * m + 1) + 1) n).or (who R (R (2 + 6 * m + 1) + 2) n)
def boyB (d t : Nat) : Bool := decide (7 ≤ d + t % 4)
def rdK (k d t : Nat) : Bool := if k = 1 then decide (3 ≤ d) else if k = 4 then decide (3 ≤ d) else if k = 2 then boyB d t else if k = 5 then boyB d t || decide (d = 9) else decide (5 ≤ d)
def redO (R : Nat → Nat) (m : Nat) : Option Nat → Bool
  | none => false
  | some o => if 60 ≤ R (2 + 6 * m + 5) then false else rdK (R (2 + 6 * m + 0)) (R (2 + 6 * o + 3)) (R 0)
def redN (R : Nat → Nat) (n m : Nat) : Bool := redO R m (felN R n m)
def lsn (q : Nat) : Nat := q - (q &&& (q - 1))
def tel (k q : Nat) : Nat := if k = 1 then lsn q else if k = 4 then (if 4 ≤ pcn q then grn q else lsn q) else if k = 2 then q - grn q else if k = 5 then q - grn q else if k = 3 then q else 0
def tirI (k : Nat) (rd : Bool) : Int32 := if k = 1 then (if rd = true then nI 3 else (-5)) + nI 2 else if k = 4 then (if rd = true then nI 3 else (-5)) + nI 5 else if k = 2 then nI 2 * (if rd = true then nI 3 else (-5)) else if k = 5 then nI 2 * (if rd = true then nI 3 else (-5)) else if k = 3 then nI 0 else (if rd = true then nI 3 else (-5))
def clt (t k : Nat) (rd : Bool) : Nat := (heldI (nI t + tirI k rd) (nI 0) (nI 99)).toNatClampNeg
set_option maxRecDepth 100000 in
theorem clt_ok : ∀ t, t < 100 → ∀ k, k < 6 → ∀ rd, heldI (nI t + tirI k rd) (nI 0) (nI 99) = nI (clt t k rd) ∧ clt t k rd < 100 := by decide +kernel
def rdV (R : Nat → Nat) : Option Nat → Nat
  | none => 0
  | some o => 2 ^ R (2 + 6 * o + 2)
def toldO (R : Nat → Nat) : Option Nat → Nat
  | none => 0
  | some f => tel (R (2 + 6 * f + 0)) (R (2 + 6 * f + 4))
def clr (x v : Nat) : Nat := x &&& (1023 - 2 ^ v)
def gotX (R : Nat → Nat) (n m : Nat) : Nat := (if redN R n m = true then rdV R (felN R n m) else 0) ||| toldO R (who R (R (2 + 6 * m + 1) + 1) n)
def gotN (R : Nat → Nat) (n m : Nat) : Nat := if R (2 + 6 * m + 0) = 4 then gotX R n m else clr (gotX R n m) (R (2 + 6 * m + 2))
set_option maxRecDepth 100000 in
theorem set_ls : ∀ q, q < 1024 → nI q &&& (-(nI q)) = nI (lsn q) ∧ lsn q < 1024 := by decide +kernel
set_option maxRecDepth 100000 in
theorem set_gr : ∀ q, q < 1024 → nI q &&& ((nI (grn q)) ^^^ (-1)) = nI (q - grn q) ∧ grn q < 1024 := by decide +kernel
set_option maxRecDepth 100000 in
theorem shl_v : ∀ v, v < 10 → nI 1 <<< (nI v &&& 31) = nI (2 ^ v) ∧ 2 ^ v < 1024 := by decide +kernel
set_option maxRecDepth 100000 in
theorem set_clr : ∀ v, v < 10 → ∀ x, x < 1024 → nI x &&& ((nI (2 ^ v)) ^^^ (-1)) = nI (clr x v) := by decide +kernel
theorem clr_lt (x v : Nat) : clr x v < 1024 := by
  unfold clr
  exact Nat.lt_of_le_of_lt (Nat.and_le_right (n := x) (m := 1023 - 2 ^ v)) (Nat.lt_of_le_of_lt (Nat.sub_le _ _) (by decide))
theorem or_lt {a b : Nat} (ha : a < 1024) (hb : b < 1024) : a ||| b < 1024 := Nat.or_lt_two_pow (n := 10) ha hb
theorem tel_lt {k q : Nat} (h : q < 1024) : tel k q < 1024 := by
  have h1 := (set_ls q h).2
  have h2 := (set_gr q h).2
  unfold tel
  repeat' split
  all_goals omega
def okR (R : Nat → Nat) : Prop := R 1 ≤ 10 ∧ (∀ m, m < R 1 → R (2 + 6 * m + 0) < 6 ∧ R (2 + 6 * m + 1) < 12 ∧ R (2 + 6 * m + 2) < 10 ∧ (1 ≤ R (2 + 6 * m + 3) ∧ R (2 + 6 * m + 3) ≤ 9) ∧ R (2 + 6 * m + 4) < 1024 ∧ R (2 + 6 * m + 5) < 100) ∧ (∀ m k, m < R 1 → k < R 1 → R (2 + 6 * m + 1) = R (2 + 6 * k + 1) → m = k) ∧ ∀ k, 62 ≤ k → R k = 0
theorem felN_lt {R : Nat → Nat} {n m o : Nat} (h : felN R n m = some o) : o < n := by
  unfold felN at h
  split at h
  · cases h
  · split at h
    · exact (who_lt h).1
    · cases hw : who R (R (2 + 6 * m + 1) + 1) n with
      | none => rw [hw] at h; exact (who_lt (by simpa using h)).1
      | some q => rw [hw] at h; simp at h; subst h; exact (who_lt hw).1
theorem gotX_lt {R : Nat → Nat} (h : okR R) (m : Nat) : gotX R (R 1) m < 1024 := by
  unfold gotX
  refine or_lt ?_ ?_
  · split
    · cases hf : felN R (R 1) m with
      | none => simp [rdV]
      | some o => exact (shl_v _ (h.2.1 o (felN_lt hf)).2.2.1).2
    · omega
  · cases hw : who R (R (2 + 6 * m + 1) + 1) (R 1) with
    | none => simp [toldO]
    | some f => exact tel_lt (h.2.1 f (who_lt hw).1).2.2.2.2.1
theorem gotN_lt {R : Nat → Nat} (h : okR R) (m : Nat) : gotN R (R 1) m < 1024 := by
  unfold gotN
  split
  · exact gotX_lt h m
  · exact clr_lt _ _
/-- a night -/
def nigN (R : Nat → Nat) : Nat → Nat := fun k => if k = 0 then R 0 + 1 else if 2 ≤ k ∧ (k - 2) / 6 < R 1 then (if (k - 2) % 6 = 4 then R k ||| gotN R (R 1) ((k - 2) / 6) else if (k - 2) % 6 = 5 then clt (R k) (R (2 + 6 * ((k - 2) / 6) + 0)) (redN R (R 1) ((k - 2) / 6)) else R k) else R k
def pasN (R : Nat → Nat) : Nat → (Nat → Nat)
  | 0 => R
  | k + 1 => nigN (pasN R k)
theorem nig_0 (R : Nat → Nat) : nigN R 0 = R 0 + 1 := by simp [nigN]
theorem nig_1 (R : Nat → Nat) : nigN R 1 = R 1 := by simp [nigN]
theorem nig_j (R : Nat → Nat) {m j : Nat} (hj : j < 4) : nigN R (2 + 6 * m + j) = R (2 + 6 * m + j) := by
  have e2 : (2 + 6 * m + j - 2) % 6 = j := by omega
  unfold nigN
  rw [if_neg (by omega), e2, if_neg (show ¬ j = 4 by omega), if_neg (show ¬ j = 5 by omega)]
  split <;> rfl
theorem nig_4 (R : Nat → Nat) {m : Nat} (hm : m < R 1) : nigN R (2 + 6 * m + 4) = R (2 + 6 * m + 4) ||| gotN R (R 1) m := by
  have e1 : (2 + 6 * m + 4 - 2) / 6 = m := by omega
  have e2 : (2 + 6 * m + 4 - 2) % 6 = 4 := by omega
  unfold nigN
  rw [if_neg (by omega), e1, e2, if_pos ⟨by omega, hm⟩, if_pos rfl]
theorem nig_5 (R : Nat → Nat) {m : Nat} (hm : m < R 1) : nigN R (2 + 6 * m + 5) = clt (R (2 + 6 * m + 5)) (R (2 + 6 * m + 0)) (redN R (R 1) m) := by
  have e1 : (2 + 6 * m + 5 - 2) / 6 = m := by omega
  have e2 : (2 + 6 * m + 5 - 2) % 6 = 5 := by omega
  unfold nigN
  rw [if_neg (by omega), e1, e2, if_pos ⟨by omega, hm⟩, if_neg (by omega), if_pos rfl]
theorem okR_nig {R : Nat → Nat} (h : okR R) : okR (nigN R) := by
  obtain ⟨h1, h2, h3, h4⟩ := h
  have hh : okR R := ⟨h1, h2, h3, h4⟩
  refine ⟨by rw [nig_1]; exact h1, fun m hm => ?_, fun m k hm hk he => ?_, fun k hk => ?_⟩
  · rw [nig_1] at hm
    obtain ⟨a0, a1, a2, a3, a4, a5⟩ := h2 m hm
    rw [nig_j R (by omega), nig_j R (by omega), nig_j R (by omega), nig_j R (by omega), nig_4 R hm, nig_5 R hm]
    exact ⟨a0, a1, a2, a3, or_lt a4 (gotN_lt hh m), (clt_ok _ a5 _ a0 _).2⟩
  · rw [nig_1] at hm hk
    rw [nig_j R (by omega), nig_j R (by omega)] at he
    exact h3 m k hm hk he
  · unfold nigN
    rw [if_neg (by omega), if_neg (by omega)]
    exact h4 k hk
theorem okR_pas {R : Nat → Nat} (h : okR R) : ∀ k, okR (pasN R k)
  | 0 => h
  | k + 1 => okR_nig (okR_pas h k)
theorem pas_1 (R : Nat → Nat) : ∀ k, pasN R k 1 = R 1
  | 0 => rfl
  | k + 1 => by rw [pasN, nig_1, pas_1 R k]
theorem pas_0 (R : Nat → Nat) : ∀ k, pasN R k 0 = R 0 + k
  | 0 => rfl
  | k + 1 => by rw [pasN, nig_0, pas_0 R k]; omega
