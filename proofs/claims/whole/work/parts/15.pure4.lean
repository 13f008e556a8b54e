theorem fb_holes : ∀ (m n : Nat) (f : Nat → Nat), (∀ i, i < n → f i < m) → (∀ i j, i < j → j < n → f i ≠ f j) → n ≤ m := by
  intro m
  induction m with
  | zero =>
    intro n f h1 _
    rcases Nat.eq_zero_or_pos n with h | h
    · omega
    · exact absurd (h1 0 h) (Nat.not_lt_zero _)
  | succ m ih =>
    intro n f h1 h2
    by_cases hx : ∃ i, i < n ∧ f i = m
    · obtain ⟨a, ha, hfa⟩ := hx
      have hg := ih (n - 1) (fun i => if i < a then f i else f (i + 1)) (by
        intro i hi
        by_cases q : i < a
        · simp only [if_pos q]
          have b1 := h1 i (by omega)
          have b2 := h2 i a q ha
          omega
        · simp only [if_neg q]
          have b1 := h1 (i + 1) (by omega)
          have b2 := h2 a (i + 1) (by omega) (by omega)
          omega) (by
        intro i j hij hj
        by_cases q : i < a
        · by_cases r : j < a
          · simp only [if_pos q, if_pos r]
            exact h2 i j hij (by omega)
          · simp only [if_pos q, if_neg r]
            exact h2 i (j + 1) (by omega) (by omega)
        · have r : ¬ j < a := by omega
          simp only [if_neg q, if_neg r]
          exact h2 (i + 1) (j + 1) (by omega) (by omega))
      omega
    · have hg := ih n f (fun i hi => by
        have b1 := h1 i hi
        have b2 : f i ≠ m := fun e => hx ⟨i, hi, e⟩
        omega) h2
      omega
theorem fir_hit {p : Nat → Bool} {k n : Nat} (hk : k < n) (h : p k = true) : firF p (n - k) k = some k := by
  obtain ⟨f, hf⟩ : ∃ f, n - k = f + 1 := ⟨n - k - 1, by omega⟩
  rw [hf, firF, if_pos h]
theorem fir_go {p : Nat → Bool} {k n : Nat} (hk : k < n) (h : p k = false) : firF p (n - k) k = firF p (n - (k + 1)) (k + 1) := by
  obtain ⟨f, hf⟩ : ∃ f, n - k = f + 1 := ⟨n - k - 1, by omega⟩
  rw [hf, firF, if_neg (by rw [h]; decide), show n - (k + 1) = f by omega]
theorem bst_n {b : Nat} {c : Nat → Option Nat} {k : Nat} (h : c k = none) : bstF b c (k + 1) = bstF b c k := by rw [bstF, h]; rfl
theorem bst_le {b v : Nat} {c : Nat → Option Nat} {k : Nat} (h : c k = some v) (h2 : v + 1 ≤ (bstF b c k).2) : bstF b c (k + 1) = bstF b c k := by
  rw [bstF, h]; show (if _ then _ else _) = _; rw [if_pos h2]
theorem bst_gt {b v : Nat} {c : Nat → Option Nat} {k : Nat} (h : c k = some v) (h2 : ¬ v + 1 ≤ (bstF b c k).2) : bstF b c (k + 1) = (k, v + 1) := by
  rw [bstF, h]; show (if _ then _ else _) = _; rw [if_neg h2]
theorem bst_b {b B : Nat} {c : Nat → Option Nat} (hc : ∀ i v, c i = some v → v < B) : ∀ k, (bstF b c k).2 ≤ B
  | 0 => Nat.zero_le _
  | k + 1 => by
    cases h : c k with
    | none => rw [bst_n h]; exact bst_b hc k
    | some v =>
      by_cases h2 : v + 1 ≤ (bstF b c k).2
      · rw [bst_le h h2]; exact bst_b hc k
      · rw [bst_gt h h2]; exact hc k v h
theorem bst_1 {c : Nat → Option Nat} (hc : ∀ i, (c i).isSome = true → i < 1000) (b : Nat) (hb : b < 1000) : ∀ k, (bstF b c k).1 < 1000
  | 0 => hb
  | k + 1 => by
    cases h : c k with
    | none => rw [bst_n h]; exact bst_1 hc b hb k
    | some v =>
      by_cases h2 : v + 1 ≤ (bstF b c k).2
      · rw [bst_le h h2]; exact bst_1 hc b hb k
      · rw [bst_gt h h2]; exact hc k (by rw [h]; rfl)
/-! the seats in order -/
def ordS (R : Nat → Nat) (n : Nat) : Nat → Nat → Nat → Option Nat
  | 0, _, _ => none
  | f + 1, s, j => (who R s n).elim (ordS R n f (s + 1) j) (fun m => if j = 0 then some m else ordS R n f (s + 1) (j - 1))
def cntS (R : Nat → Nat) (n : Nat) : Nat → Nat → Nat
  | 0, _ => 0
  | f + 1, s => (if who R s n = none then 0 else 1) + cntS R n f (s + 1)
theorem ord_some {R : Nat → Nat} {n : Nat} : ∀ (f s j : Nat), j < cntS R n f s → ∃ m, ordS R n f s j = some m ∧ m < n
  | 0, _, j, h => by simp [cntS] at h
  | f + 1, s, j, h => by
    rw [cntS] at h
    rw [ordS]
    cases hw : who R s n with
    | none =>
      rw [hw, if_pos rfl, Nat.zero_add] at h
      exact ord_some f (s + 1) j h
    | some m =>
      rw [hw, if_neg (by simp)] at h
      show ∃ q, (if j = 0 then some m else ordS R n f (s + 1) (j - 1)) = some q ∧ q < n
      by_cases hj : j = 0
      · rw [if_pos hj]; exact ⟨m, rfl, (who_lt hw).1⟩
      · rw [if_neg hj]; exact ord_some f (s + 1) (j - 1) (by omega)
theorem ord_none {R : Nat → Nat} {n : Nat} : ∀ (f s j : Nat), cntS R n f s ≤ j → ordS R n f s j = none
  | 0, _, j, _ => rfl
  | f + 1, s, j, h => by
    rw [cntS] at h
    rw [ordS]
    cases hw : who R s n with
    | none =>
      rw [hw, if_pos rfl, Nat.zero_add] at h
      exact ord_none f (s + 1) j h
    | some m =>
      rw [hw, if_neg (by simp)] at h
      show (if j = 0 then some m else ordS R n f (s + 1) (j - 1)) = none
      rw [if_neg (by omega)]; exact ord_none f (s + 1) (j - 1) (by omega)
theorem cnt_step {R : Nat → Nat} {n : Nat} (hn : who R (R (2 + 6 * n + 1)) n = none) : ∀ (f s : Nat), cntS R (n + 1) f s = cntS R n f s + (if s ≤ R (2 + 6 * n + 1) ∧ R (2 + 6 * n + 1) < s + f then 1 else 0)
  | 0, s => by simp only [cntS]; rw [if_neg (by omega)]
  | f + 1, s => by
    rw [cntS, cntS, cnt_step hn f (s + 1)]
    by_cases hx : R (2 + 6 * n + 1) = s
    · have hs : who R s n = none := by rw [← hx]; exact hn
      have hs1 : who R s (n + 1) = some n := by simp [who, hx]
      rw [hs, hs1, if_neg (by simp), if_pos rfl, if_neg (show ¬ (s + 1 ≤ R (2 + 6 * n + 1) ∧ R (2 + 6 * n + 1) < s + 1 + f) by omega), if_pos (by omega)]
      omega
    · have hs1 : who R s (n + 1) = who R s n := by simp [who, hx]
      rw [hs1]
      by_cases hc : s ≤ R (2 + 6 * n + 1) ∧ R (2 + 6 * n + 1) < s + (f + 1)
      · rw [if_pos hc, if_pos (show s + 1 ≤ R (2 + 6 * n + 1) ∧ R (2 + 6 * n + 1) < s + 1 + f by omega)]; omega
      · rw [if_neg hc, if_neg (show ¬ (s + 1 ≤ R (2 + 6 * n + 1) ∧ R (2 + 6 * n + 1) < s + 1 + f) by omega)]; omega
theorem cnt_0 (R : Nat → Nat) : ∀ (f s : Nat), cntS R 0 f s = 0
  | 0, _ => rfl
  | f + 1, s => by simp [cntS, who, cnt_0 R f (s + 1)]
theorem cnt_n {R : Nat → Nat} : ∀ (n : Nat), (∀ m, m < n → R (2 + 6 * m + 1) < 12) → (∀ m k, m < n → k < n → R (2 + 6 * m + 1) = R (2 + 6 * k + 1) → m = k) → cntS R n 12 0 = n
  | 0, _, _ => cnt_0 R 12 0
  | n + 1, h1, h2 => by
    have hw : who R (R (2 + 6 * n + 1)) n = none := by
      cases h : who R (R (2 + 6 * n + 1)) n with
      | none => rfl
      | some m =>
        have := who_lt h
        have := h2 m n (by omega) (by omega) this.2
        omega
    have := h1 n (by omega)
    rw [cnt_step hw, cnt_n n (fun m hm => h1 m (by omega)) (fun m k hm hk => h2 m k (by omega) (by omega)), if_pos (by omega)]
theorem cnt_ok {R : Nat → Nat} (ok : okR R) : cntS R (R 1) 12 0 = R 1 := cnt_n (R 1) (fun m hm => (ok.2.1 m hm).2.1) ok.2.2.1
def sp_verse (R : Nat → Nat) (x : Int32) : SP := if x < 0 then (R, some 0, 0) else if nI (R 1) ≤ x then (R, some 3, 0) else (R, none, nI (R (2 + 6 * ((ordS R (R 1) 12 0 (cl x)).getD 0) + 2)))
theorem ord_stepN {R : Nat → Nat} {n s j : Nat} (hs : s < 12) (h : who R s n = none) : ordS R n (12 - s) s j = ordS R n (12 - (s + 1)) (s + 1) j := by
  obtain ⟨f, hf⟩ : ∃ f, 12 - s = f + 1 := ⟨12 - s - 1, by omega⟩
  rw [hf, ordS, h, show 12 - (s + 1) = f by omega]; rfl
theorem ord_stepS {R : Nat → Nat} {n s j m : Nat} (hs : s < 12) (h : who R s n = some m) (hj : 0 < j) : ordS R n (12 - s) s j = ordS R n (12 - (s + 1)) (s + 1) (j - 1) := by
  obtain ⟨f, hf⟩ : ∃ f, 12 - s = f + 1 := ⟨12 - s - 1, by omega⟩
  rw [hf, ordS, h, show 12 - (s + 1) = f by omega]; show (if j = 0 then _ else _) = _; rw [if_neg (by omega)]
theorem ord_hit {R : Nat → Nat} {n s m : Nat} (hs : s < 12) (h : who R s n = some m) : ordS R n (12 - s) s 0 = some m := by
  obtain ⟨f, hf⟩ : ∃ f, 12 - s = f + 1 := ⟨12 - s - 1, by omega⟩
  rw [hf, ordS, h]; rfl
/-! the least empty seat -/
theorem emp_sp {R : Nat → Nat} {n : Nat} : ∀ (f s : Nat), (∃ i, i < f ∧ who R (s + i) n = none) → emp R n f s < s + f ∧ who R (emp R n f s) n = none
  | 0, s, h => by obtain ⟨i, hi, -⟩ := h; omega
  | f + 1, s, h => by
    rw [emp]
    by_cases hw : who R s n = none
    · rw [if_pos hw]; exact ⟨by omega, hw⟩
    · rw [if_neg hw]
      obtain ⟨i, hi, hz⟩ := h
      have hi0 : i ≠ 0 := fun z => hw (by rw [z] at hz; exact hz)
      have := emp_sp f (s + 1) ⟨i - 1, by omega, by rw [show s + 1 + (i - 1) = s + i by omega]; exact hz⟩
      exact ⟨by omega, this.2⟩
theorem emp_ok {R : Nat → Nat} (ok : okR R) : emp R (R 1) 12 0 < 12 ∧ who R (emp R (R 1) 12 0) (R 1) = none := by
  have h : ∃ i, i < 12 ∧ who R (0 + i) (R 1) = none := by
    refine Classical.byContradiction fun hx => ?_
    have hs : ∀ i, i < 12 → ∃ m, who R i (R 1) = some m := fun i hi => by
      cases hw : who R i (R 1) with
      | none => exact absurd ⟨i, hi, by rw [Nat.zero_add]; exact hw⟩ hx
      | some m => exact ⟨m, rfl⟩
    have := fb_holes 10 12 (fun i => (who R i (R 1)).getD 0) (fun i hi => by
      obtain ⟨m, hm⟩ := hs i hi
      have := (who_lt hm).1
      have := ok.1
      show (who R i (R 1)).getD 0 < 10
      rw [hm]; show m < 10; omega) (fun i j hij hj he => by
      obtain ⟨m, hm⟩ := hs i (by omega)
      obtain ⟨k, hk⟩ := hs j hj
      have he : (who R i (R 1)).getD 0 = (who R j (R 1)).getD 0 := he
      rw [hm, hk] at he
      have he : m = k := he
      subst he
      have := (who_lt hm).2
      have := (who_lt hk).2
      omega)
    omega
  have := emp_sp 12 0 h
  exact ⟨by omega, this.2⟩
theorem emp_go {R : Nat → Nat} {n s : Nat} (hs : s < 12) (h : ¬ who R s n = none) : emp R n (12 - s) s = emp R n (12 - (s + 1)) (s + 1) := by
  obtain ⟨f, hf⟩ : ∃ f, 12 - s = f + 1 := ⟨12 - s - 1, by omega⟩
  rw [hf, emp, if_neg h, show 12 - (s + 1) = f by omega]
theorem emp_hit {R : Nat → Nat} {n s : Nat} (h : who R s n = none) : emp R n (12 - s) s = s := by
  cases hf : 12 - s with
  | zero => rfl
  | succ f => rw [emp, if_pos h]
theorem sumF_nI {f : Nat → Nat} : ∀ n, sumF (fun m => nI (f m)) n = nI (Nat.rec 0 (fun m a => a + f m) n)
  | 0 => rfl
  | n + 1 => by rw [sumF, sumF_nI n, nI_add]
theorem ka_eq (R : Nat → Nat) : ∀ n, sumF (fun m => nI (pcn (R (2 + 6 * m + 4)))) n = nI (kaN R n)
  | 0 => rfl
  | n + 1 => by rw [sumF, ka_eq R n, nI_add, kaN]
theorem ka_le (R : Nat → Nat) : ∀ n, kaN R n ≤ 10 * n
  | 0 => Nat.zero_le _
  | n + 1 => by have := ka_le R n; have := pcn_le (R (2 + 6 * n + 4)); rw [kaN]; omega
theorem bvS_b {R : Nat → Nat} {m n : Nat} : ∀ i v, bvS R m n i = some v → v < 11 := fun i v h => by
  unfold bvS at h
  split at h
  · cases h; have := pcn_le (pasN (va_up R (2 + 6 * m + 1) i) n (2 + 6 * m + 4)); omega
  · cases h
theorem bvK_b {R : Nat → Nat} {m n : Nat} : ∀ i v, bvK R m n i = some v → v < 11 := fun i v h => by
  unfold bvK at h
  cases h; have := pcn_le (pasN (va_up R (2 + 6 * m + 0) i) n (2 + 6 * m + 4)); omega
theorem dn_hit {p : Nat → Bool} {t : Nat} (h : p t = true) : dnF p (t + 1) = some t := by rw [dnF, if_pos h]
theorem dn_go {p : Nat → Bool} {t : Nat} (h : p t = false) : dnF p (t + 1) = dnF p t := by rw [dnF, if_neg (by rw [h]; decide)]
