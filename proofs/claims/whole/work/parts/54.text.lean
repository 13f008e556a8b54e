/-! the text of a chapel: tokens of the tape B (t bytes) from a place on; both sides are tied to these -/
def tx_spn (q : Nat → Bool) : Nat → Nat → Nat
  | 0, p => p
  | f + 1, p => if q p = true then tx_spn q f (p + 1) else p
def tx_run (q : Nat → Bool) (t p : Nat) : Nat := tx_spn q (t - p) p
theorem tx_go {q : Nat → Bool} {t p : Nat} (h : p < t) (hq : q p = true) : tx_run q t p = tx_run q t (p + 1) := by
  unfold tx_run
  rw [show t - p = (t - (p + 1)) + 1 by omega, tx_spn, if_pos hq]
theorem tx_st {q : Nat → Bool} {t p : Nat} (h : p < t) (hq : q p = false) : tx_run q t p = p := by
  unfold tx_run
  rw [show t - p = (t - (p + 1)) + 1 by omega, tx_spn, if_neg (by rw [hq]; decide)]
theorem tx_en {q : Nat → Bool} {t p : Nat} (h : t ≤ p) : tx_run q t p = p := by
  unfold tx_run
  rw [show t - p = 0 by omega, tx_spn]
theorem tx_spn_le (q : Nat → Bool) : ∀ (f p : Nat), p ≤ tx_spn q f p ∧ tx_spn q f p ≤ p + f
  | 0, p => ⟨Nat.le_refl _, Nat.le_refl _⟩
  | f + 1, p => by
    rw [tx_spn]
    have := tx_spn_le q f (p + 1)
    split <;> omega
theorem tx_le {q : Nat → Bool} {t p : Nat} (h : p ≤ t) : p ≤ tx_run q t p ∧ tx_run q t p ≤ t := by
  have := tx_spn_le q (t - p) p
  unfold tx_run
  omega
theorem tx_spn_all (q : Nat → Bool) : ∀ (f p i : Nat), p ≤ i → i < tx_spn q f p → q i = true
  | 0, p, i, h1, h2 => by rw [tx_spn] at h2; omega
  | f + 1, p, i, h1, h2 => by
    rw [tx_spn] at h2
    by_cases hq : q p = true
    · rw [if_pos hq] at h2
      by_cases hi : i = p
      · rw [hi]; exact hq
      · exact tx_spn_all q f (p + 1) i (by omega) h2
    · rw [if_neg hq] at h2; omega
theorem tx_all {q : Nat → Bool} {t p i : Nat} (h1 : p ≤ i) (h2 : i < tx_run q t p) : q i = true := tx_spn_all q (t - p) p i h1 h2
def tkB (B : Nat → Nat) (i : Nat) : Bool := decide (B i = 32)
def tkL (B : Nat → Nat) (i : Nat) : Bool := decide (97 ≤ B i) && decide (B i ≤ 122)
def tkD (B : Nat → Nat) (i : Nat) : Bool := decide (48 ≤ B i) && decide (B i ≤ 57)
def tkS (B : Nat → Nat) (t p : Nat) : Nat := tx_run (tkB B) t p
def tkK (B : Nat → Nat) (t p : Nat) : Nat := if t ≤ tkS B t p then 0 else if tkL B (tkS B t p) = true then 1 else if tkD B (tkS B t p) = true then 2 else if B (tkS B t p) = 59 then 3 else 4
def tkE (B : Nat → Nat) (t p : Nat) : Nat := if tkK B t p = 0 then tkS B t p else if tkK B t p = 1 then tx_run (tkL B) t (tkS B t p) else if tkK B t p = 2 then tx_run (tkD B) t (tkS B t p) else tkS B t p + 1
def nmv (B : Nat → Nat) (s : Nat) : Nat → Nat
  | 0 => 0
  | k + 1 => min 1000 (10 * nmv B s k + (B (s + k) - 48))
def txW : List (List Nat) := [[109, 101, 109, 98, 101, 114], [101, 108, 100, 101, 114], [98, 111, 121], [115, 116, 114, 97, 110, 103, 101, 114], [104, 101, 114, 101, 116, 105, 99], [99, 104, 111, 105, 114, 98, 111, 121], [107, 110, 111, 119, 115], [109, 111, 118, 101], [100, 101, 101, 112]]
def wdE (B : Nat → Nat) (s n i : Nat) : Bool := decide (n = (txW.getD i []).length ∧ ∀ j, j < n → B (s + j) = (txW.getD i []).getD j 0)
def widK (B : Nat → Nat) (s n : Nat) : Nat → Nat
  | 0 => 9
  | k + 1 => if wdE B s n k = true then k else widK B s n k
def tkV (B : Nat → Nat) (t p : Nat) : Nat := if tkK B t p = 1 then widK B (tkS B t p) (tkE B t p - tkS B t p) 9 else nmv B (tkS B t p) (tkE B t p - tkS B t p)
theorem tkS_le {B : Nat → Nat} {t p : Nat} (h : p ≤ t) : p ≤ tkS B t p ∧ tkS B t p ≤ t := tx_le h
theorem tkK_0 {B : Nat → Nat} {t p : Nat} (h : t ≤ tkS B t p) : tkK B t p = 0 := by unfold tkK; rw [if_pos h]
theorem tkK_1 {B : Nat → Nat} {t p : Nat} (h : ¬ t ≤ tkS B t p) (h1 : tkL B (tkS B t p) = true) : tkK B t p = 1 := by unfold tkK; rw [if_neg h, if_pos h1]
theorem tkK_2 {B : Nat → Nat} {t p : Nat} (h : ¬ t ≤ tkS B t p) (h1 : tkL B (tkS B t p) = false) (h2 : tkD B (tkS B t p) = true) : tkK B t p = 2 := by unfold tkK; rw [if_neg h, if_neg (by rw [h1]; decide), if_pos h2]
theorem tkK_3 {B : Nat → Nat} {t p : Nat} (h : ¬ t ≤ tkS B t p) (h1 : tkL B (tkS B t p) = false) (h2 : tkD B (tkS B t p) = false) (h3 : B (tkS B t p) = 59) : tkK B t p = 3 := by unfold tkK; rw [if_neg h, if_neg (by rw [h1]; decide), if_neg (by rw [h2]; decide), if_pos h3]
theorem tkK_4 {B : Nat → Nat} {t p : Nat} (h : ¬ t ≤ tkS B t p) (h1 : tkL B (tkS B t p) = false) (h2 : tkD B (tkS B t p) = false) (h3 : ¬ B (tkS B t p) = 59) : tkK B t p = 4 := by unfold tkK; rw [if_neg h, if_neg (by rw [h1]; decide), if_neg (by rw [h2]; decide), if_neg h3]
theorem tkK_lt {B : Nat → Nat} {t p : Nat} (h : tkK B t p ≠ 0) : tkS B t p < t := by
  rcases Nat.lt_or_ge (tkS B t p) t with h2 | h2
  · exact h2
  · exact absurd (tkK_0 h2) h
theorem tkK_5 (B : Nat → Nat) (t p : Nat) : tkK B t p ≤ 4 := by
  unfold tkK
  repeat' split
  all_goals omega
theorem tkE_0 {B : Nat → Nat} {t p : Nat} (h : tkK B t p = 0) : tkE B t p = tkS B t p := by unfold tkE; rw [if_pos h]
theorem tkE_1 {B : Nat → Nat} {t p : Nat} (h : tkK B t p = 1) : tkE B t p = tx_run (tkL B) t (tkS B t p) := by unfold tkE; rw [if_neg (by omega), if_pos h]
theorem tkE_2 {B : Nat → Nat} {t p : Nat} (h : tkK B t p = 2) : tkE B t p = tx_run (tkD B) t (tkS B t p) := by unfold tkE; rw [if_neg (by omega), if_neg (by omega), if_pos h]
theorem tkE_3 {B : Nat → Nat} {t p : Nat} (h : 3 ≤ tkK B t p) : tkE B t p = tkS B t p + 1 := by unfold tkE; rw [if_neg (by omega), if_neg (by omega), if_neg (by omega)]
theorem tkK_L {B : Nat → Nat} {t p : Nat} (h : tkK B t p = 1) : tkL B (tkS B t p) = true := by
  cases hl : tkL B (tkS B t p) with
  | true => rfl
  | false => unfold tkK at h; rw [hl] at h; revert h; repeat' split
             all_goals simp_all
theorem tkK_D {B : Nat → Nat} {t p : Nat} (h : tkK B t p = 2) : tkD B (tkS B t p) = true := by
  cases hl : tkD B (tkS B t p) with
  | true => rfl
  | false => unfold tkK at h; rw [hl] at h; revert h; repeat' split
             all_goals simp_all
theorem tkE_le {B : Nat → Nat} {t p : Nat} (h : p ≤ t) : tkS B t p ≤ tkE B t p ∧ tkE B t p ≤ t := by
  have h1 := tkS_le (B := B) h
  have h5 := tkK_5 B t p
  by_cases h0 : tkK B t p = 0
  · rw [tkE_0 h0]; omega
  · have h2 := tkK_lt h0
    by_cases k1 : tkK B t p = 1
    · rw [tkE_1 k1]; exact tx_le h1.2
    · by_cases k2 : tkK B t p = 2
      · rw [tkE_2 k2]; exact tx_le h1.2
      · rw [tkE_3 (by omega)]; omega
theorem tkE_gt {B : Nat → Nat} {t p : Nat} (h : p ≤ t) (h0 : tkK B t p ≠ 0) : tkS B t p < tkE B t p := by
  have h1 := tkS_le (B := B) h
  have h2 := tkK_lt h0
  have h5 := tkK_5 B t p
  by_cases k1 : tkK B t p = 1
  · rw [tkE_1 k1, tx_go h2 (tkK_L k1)]
    have := tx_le (q := tkL B) (t := t) (p := tkS B t p + 1) (by omega)
    omega
  · by_cases k2 : tkK B t p = 2
    · rw [tkE_2 k2, tx_go h2 (tkK_D k2)]
      have := tx_le (q := tkD B) (t := t) (p := tkS B t p + 1) (by omega)
      omega
    · rw [tkE_3 (by omega)]; omega
theorem nmv_le (B : Nat → Nat) (s : Nat) : ∀ k, nmv B s k ≤ 1000
  | 0 => by simp [nmv]
  | k + 1 => by rw [nmv]; omega
/-! the reference's number: held at 10000 -/
def nmr (B : Nat → Nat) (s : Nat) : Nat → Nat
  | 0 => 0
  | k + 1 => if 999 < nmr B s k then 10000 else 10 * nmr B s k + (B (s + k) - 48)
theorem nmr_ok {B : Nat → Nat} {s : Nat} : ∀ {k : Nat}, (∀ j, j < k → tkD B (s + j) = true) → nmr B s k ≤ 10000 ∧ min 1000 (nmr B s k) = nmv B s k
  | 0, _ => by simp [nmr, nmv]
  | k + 1, h => by
    have ih := nmr_ok (k := k) (fun j hj => h j (by omega))
    have hd := h k (by omega)
    simp only [tkD, Bool.and_eq_true, decide_eq_true_eq] at hd
    rw [nmr, nmv]
    split <;> omega
/-! the reference's words: their numbers to the base 27 -/
def hnN (B : Nat → Nat) (s : Nat) : Nat → Nat
  | 0 => 0
  | k + 1 => 27 * hnN B s k + (B (s + k) - 96)
def hsv (B : Nat → Nat) (s : Nat) : Nat → Int64
  | 0 => 0
  | k + 1 => if k < 12 then 27 * hsv B s k + (nI (B (s + k))).toInt64 - 96 else -1
def cdR : List Nat → Nat
  | [] => 0
  | x :: r => 27 * cdR r + (x - 96)
theorem hn_cd (B : Nat → Nat) (s : Nat) : ∀ (r : List Nat) (n : Nat), (∀ x ∈ r, 97 ≤ x ∧ x ≤ 122) → (∀ j, j < n → tkL B (s + j) = true) → (hnN B s n = cdR r ↔ n = r.length ∧ ∀ j, j < n → B (s + j) = r.reverse.getD j 0)
  | [], 0, _, _ => by simp [hnN, cdR]
  | [], n + 1, _, h => by
    have hl := h n (by omega)
    simp only [tkL, Bool.and_eq_true, decide_eq_true_eq] at hl
    simp only [hnN, cdR, List.length_nil]
    constructor
    · intro q; omega
    · intro q; omega
  | x :: r, 0, hx, _ => by
    have := hx x List.mem_cons_self
    simp only [hnN, cdR, List.length_cons]
    constructor
    · intro q; omega
    · intro q; omega
  | x :: r, n + 1, hx, h => by
    have ih := hn_cd B s r n (fun y hy => hx y (List.mem_cons_of_mem _ hy)) (fun j hj => h j (by omega))
    have h1 := hx x List.mem_cons_self
    have hl := h n (by omega)
    simp only [tkL, Bool.and_eq_true, decide_eq_true_eq] at hl
    have e0 : hnN B s (n + 1) = cdR (x :: r) ↔ hnN B s n = cdR r ∧ B (s + n) = x := by
      rw [hnN, cdR]
      omega
    rw [e0, ih]
    constructor
    · rintro ⟨⟨q1, q2⟩, q3⟩
      refine ⟨by rw [q1, List.length_cons], fun j hj => ?_⟩
      rw [List.reverse_cons, List.getD_eq_getElem?_getD]
      by_cases hj2 : j = n
      · subst hj2
        rw [List.getElem?_append_right (by rw [List.length_reverse]; omega), List.length_reverse, q1, Nat.sub_self]
        rw [← q1]; simpa using q3
      · rw [List.getElem?_append_left (by rw [List.length_reverse]; omega), ← List.getD_eq_getElem?_getD]
        exact q2 j (by omega)
    · rintro ⟨q1, q2⟩
      have q1 : n = r.length := by rw [List.length_cons] at q1; omega
      refine ⟨⟨q1, fun j hj => ?_⟩, ?_⟩
      · have := q2 j (by omega)
        rw [List.reverse_cons, List.getD_eq_getElem?_getD, List.getElem?_append_left (by rw [List.length_reverse]; omega), ← List.getD_eq_getElem?_getD] at this
        exact this
      · have := q2 n (by omega)
        rw [List.reverse_cons, List.getD_eq_getElem?_getD, List.getElem?_append_right (by rw [List.length_reverse]; omega), List.length_reverse, ← q1, Nat.sub_self] at this
        simpa using this
def tx_cdN : List Nat := [189450486, 2896470, 1888, 206754213222, 3180787626, 34700796277, 6132988, 267413, 82528]
theorem cd_ok : ∀ i, i < 9 → cdR (txW.getD i []).reverse = tx_cdN.getD i 0 ∧ (∀ x ∈ (txW.getD i []).reverse, 97 ≤ x ∧ x ≤ 122) ∧ tx_cdN.getD i 0 < 27 ^ 12 := by decide +kernel
theorem wdE_hn {B : Nat → Nat} {s n i : Nat} (hi : i < 9) (h : ∀ j, j < n → tkL B (s + j) = true) : wdE B s n i = true ↔ hnN B s n = tx_cdN.getD i 0 := by
  obtain ⟨c1, c2, -⟩ := cd_ok i hi
  have := hn_cd B s (txW.getD i []).reverse n c2 h
  rw [c1, List.reverse_reverse, List.length_reverse] at this
  rw [this, wdE, decide_eq_true_eq]
theorem cd_inj : ∀ i, i < 9 → ∀ j, j < 9 → tx_cdN.getD i 0 = tx_cdN.getD j 0 → i = j := by decide +kernel
theorem widK_some {B : Nat → Nat} {s n : Nat} : ∀ {k i : Nat}, widK B s n k = i → i < 9 → i < k ∧ wdE B s n i = true
  | 0, i, h, h9 => by rw [widK] at h; omega
  | k + 1, i, h, h9 => by
    rw [widK] at h
    by_cases hw : wdE B s n k = true
    · rw [if_pos hw] at h; subst h; exact ⟨by omega, hw⟩
    · rw [if_neg hw] at h
      have := widK_some h h9
      exact ⟨by omega, this.2⟩
theorem widK_eq {B : Nat → Nat} {s n i : Nat} (hl : ∀ j, j < n → tkL B (s + j) = true) (hi : i < 9) (hw : wdE B s n i = true) : ∀ {k : Nat}, k ≤ 9 → i < k → widK B s n k = i
  | 0, _, h => by omega
  | k + 1, h9, h => by
    rw [widK]
    by_cases hk : wdE B s n k = true
    · rw [if_pos hk]
      have q1 := (wdE_hn hi hl).mp hw
      have q2 := (wdE_hn (i := k) (by omega) hl).mp hk
      exact (cd_inj i hi k (by omega) (q1.symm.trans q2)).symm
    · rw [if_neg hk]
      have : i ≠ k := fun z => hk (z ▸ hw)
      exact widK_eq hl hi hw (by omega) (by omega)
theorem wid_hn {B : Nat → Nat} {s n i : Nat} (hl : ∀ j, j < n → tkL B (s + j) = true) (hi : i < 9) : widK B s n 9 = i ↔ hnN B s n = tx_cdN.getD i 0 := by
  rw [← wdE_hn hi hl]
  exact ⟨fun h => (widK_some h hi).2, fun h => widK_eq hl hi h (Nat.le_refl _) hi⟩
theorem hn_lt {B : Nat → Nat} {s : Nat} : ∀ {n : Nat}, (∀ j, j < n → tkL B (s + j) = true) → hnN B s n < 27 ^ n
  | 0, _ => by simp [hnN]
  | n + 1, h => by
    have ih := hn_lt (n := n) (fun j hj => h j (by omega))
    have hl := h n (by omega)
    simp only [tkL, Bool.and_eq_true, decide_eq_true_eq] at hl
    rw [hnN, Nat.pow_succ]
    omega
theorem hn_ge {B : Nat → Nat} {s : Nat} : ∀ {n : Nat}, (∀ j, j < n + 1 → tkL B (s + j) = true) → 27 ^ n ≤ hnN B s (n + 1)
  | 0, h => by
    have hl := h 0 (by omega)
    simp only [tkL, Bool.and_eq_true, decide_eq_true_eq] at hl
    simp only [hnN]
    omega
  | n + 1, h => by
    have ih := hn_ge (n := n) (fun j hj => h j (by omega))
    rw [hnN, Nat.pow_succ]
    omega
theorem hs_hn {B : Nat → Nat} {s : Nat} : ∀ {n : Nat}, n ≤ 12 → (∀ j, j < n → tkL B (s + j) = true) → hsv B s n = lN (hnN B s n)
  | 0, _, _ => rfl
  | n + 1, h12, h => by
    have ih := hs_hn (n := n) (by omega) (fun j hj => h j (by omega))
    have hl := h n (by omega)
    simp only [tkL, Bool.and_eq_true, decide_eq_true_eq] at hl
    rw [hsv, if_pos (by omega), ih, hnN, nI_l (by omega), show (27 : Int64) = lN 27 from rfl, show (96 : Int64) = lN 96 from rfl, lN_mul, lN_add, lN_sub (by omega)]
    congr 1
    omega
theorem hs_big {B : Nat → Nat} {s n : Nat} (h : 12 < n) : hsv B s n = -1 := by
  obtain ⟨k, rfl⟩ : ∃ k, n = k + 1 := ⟨n - 1, by omega⟩
  rw [hsv, if_neg (by omega)]
theorem lN_inj {a b : Nat} (ha : a < 2 ^ 63) (hb : b < 2 ^ 63) (h : lN a = lN b) : a = b := by
  have h1 : (lN a).toInt = (lN b).toInt := by rw [h]
  rw [show (lN a).toInt = (a : Int) from lg_ofNat_toInt ha, show (lN b).toInt = (b : Int) from lg_ofNat_toInt hb] at h1
  omega
theorem p27 : (27 : Nat) ^ 12 = 150094635296999121 := by decide +kernel
theorem lN_neg {a : Nat} (ha : a < 2 ^ 63) : lN a ≠ -1 := by
  intro h
  have h1 : (lN a).toInt = (-1 : Int64).toInt := by rw [h]
  rw [show (lN a).toInt = (a : Int) from lg_ofNat_toInt ha, show (-1 : Int64).toInt = -1 by decide +kernel] at h1
  omega
theorem wid_hs {B : Nat → Nat} {s n i : Nat} (hl : ∀ j, j < n → tkL B (s + j) = true) (hi : i < 9) : hsv B s n = lN (tx_cdN.getD i 0) ↔ widK B s n 9 = i := by
  have hc := (cd_ok i hi).2.2
  rw [p27] at hc
  rw [wid_hn hl hi]
  by_cases h12 : n ≤ 12
  · have h1 := hn_lt hl
    have h2 : 27 ^ n ≤ 27 ^ 12 := Nat.pow_le_pow_right (by omega) h12
    rw [p27] at h2
    rw [hs_hn h12 hl]
    exact ⟨fun q => lN_inj (by omega) (by omega) q, fun q => by rw [q]⟩
  · rw [hs_big (by omega)]
    constructor
    · intro q; exact absurd q.symm (lN_neg (by omega))
    · intro q
      obtain ⟨k, rfl⟩ : ∃ k, n = k + 1 := ⟨n - 1, by omega⟩
      have h1 := hn_ge hl
      have h2 : 27 ^ 12 ≤ 27 ^ k := Nat.pow_le_pow_right (by omega) (by omega)
      rw [p27] at h2
      omega
/-! the items -/
def txN (B : Nat → Nat) (t p lo n : Nat) : Bool := decide (tkK B t p = 2) && (decide (lo ≤ tkV B t p) && decide (tkV B t p < n))
abbrev txPR : Type := Bool × (Nat → Nat) × Nat
def mwS (B : Nat → Nat) (t p : Nat) : Bool × Nat × Nat := if tkK B t p = 1 ∧ tkV B t p = 8 then (if txN B t (tkE B t p) 1 10 = true then (true, tkV B t (tkE B t p), tkE B t (tkE B t p)) else (false, 0, tkE B t p)) else (true, 5, p)
def memS (B : Nat → Nat) (t : Nat) (R : Nat → Nat) (p k : Nat) : txPR :=
  if R 1 = 10 then (false, R, p) else
  if txN B t (tkE B t p) 0 12 = true ∧ who R (tkV B t (tkE B t p)) (R 1) = none then
    (if txN B t (tkE B t (tkE B t p)) 0 10 = true then
      (if (mwS B t (tkE B t (tkE B t (tkE B t p)))).1 = true then (true, addN R k (tkV B t (tkE B t p)) (tkV B t (tkE B t (tkE B t p))) (mwS B t (tkE B t (tkE B t (tkE B t p)))).2.1, (mwS B t (tkE B t (tkE B t (tkE B t p)))).2.2)
      else (false, R, (mwS B t (tkE B t (tkE B t (tkE B t p)))).2.2))
    else (false, R, tkE B t (tkE B t p)))
  else (false, R, tkE B t p)
def knwS (B : Nat → Nat) (t : Nat) (R : Nat → Nat) (p : Nat) : txPR :=
  if txN B t (tkE B t p) 0 (R 1) = true then
    (if txN B t (tkE B t (tkE B t p)) 0 10 = true then (true, va_up R (2 + 6 * tkV B t (tkE B t p) + 4) (R (2 + 6 * tkV B t (tkE B t p) + 4) ||| 2 ^ tkV B t (tkE B t (tkE B t p))), tkE B t (tkE B t (tkE B t p)))
    else (false, R, tkE B t (tkE B t p)))
  else (false, R, tkE B t p)
def movS (B : Nat → Nat) (t : Nat) (R : Nat → Nat) (p : Nat) : txPR :=
  if txN B t (tkE B t p) 0 (R 1) = true then
    (if txN B t (tkE B t (tkE B t p)) 0 12 = true ∧ who R (tkV B t (tkE B t (tkE B t p))) (R 1) = none then (true, va_up R (2 + 6 * tkV B t (tkE B t p) + 1) (tkV B t (tkE B t (tkE B t p))), tkE B t (tkE B t (tkE B t p)))
    else (false, R, tkE B t (tkE B t p)))
  else (false, R, tkE B t p)
def itmS (B : Nat → Nat) (t : Nat) (R : Nat → Nat) (p : Nat) : txPR :=
  if tkK B t p = 1 ∧ tkV B t p < 6 then memS B t R p (tkV B t p) else if tkK B t p = 1 ∧ tkV B t p = 6 then knwS B t R p else if tkK B t p = 1 ∧ tkV B t p = 7 then movS B t R p else (false, R, p)
def chpS (B : Nat → Nat) (t : Nat) : Nat → (Nat → Nat) → Nat → Nat → txPR
  | 0, R, _, _ => (false, R, 0)
  | f + 1, R, p, n => if (itmS B t R p).1 = true then (if tkK B t (itmS B t R p).2.2 = 0 then (true, (itmS B t R p).2.1, n + 1) else if tkK B t (itmS B t R p).2.2 = 3 then chpS B t f (itmS B t R p).2.1 (tkE B t (itmS B t R p).2.2) (n + 1) else (false, R, tkS B t (itmS B t R p).2.2)) else (false, R, tkS B t (itmS B t R p).2.2)
def sp_chapel (R B : Nat → Nat) (t : Nat) : SP := if (chpS B t (t + 1) R 0 0).1 = true then ((chpS B t (t + 1) R 0 0).2.1, none, nI (chpS B t (t + 1) R 0 0).2.2) else (R, none, (-1) - nI (chpS B t (t + 1) R 0 0).2.2)
