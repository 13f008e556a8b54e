/-! the reference's token against the tokens of the text -/
theorem tk_let {B : Nat → Nat} {t p : Nat} (hK : tkK B t p = 1) : ∀ j, j < tkE B t p - tkS B t p → tkL B (tkS B t p + j) = true := by
  intro j hj
  rw [tkE_1 hK] at hj
  exact tx_all (t := t) (p := tkS B t p) (by omega) (by omega)
def txwB (B : Nat → Nat) (t p i : Nat) : Bool := decide (tkK B t p = 1) && decide (tkV B t p = i)
theorem isw {B : Nat → Nat} {t p i : Nat} {F : TI} {w : Int64} (h : TkM B t p F w) (hi : i < 9) : (decide (F 43 8 = nI 1) && decide (w = lN (tx_cdN.getD i 0))) = txwB B t p i := by
  obtain ⟨-, -, h3, h4, -, -⟩ := h
  have h5 := tkK_5 B t p
  by_cases hK : tkK B t p = 1
  · rw [h3, h4 hK, hK]
    have := wid_hs (tk_let hK) hi
    rw [Bool.eq_iff_iff]
    simp only [txwB, Bool.and_eq_true, decide_eq_true_eq]
    rw [this, hK, tkV, if_pos hK]
    exact ⟨fun q => ⟨rfl, q.2⟩, fun q => ⟨rfl, q.2⟩⟩
  · have : ¬ F 43 8 = nI 1 := by
      rw [h3]
      intro q
      have := (nI_eq (a := min 3 (tkK B t p)) (b := 1) (by omega) (by decide)).mp q
      omega
    simp [this, txwB, hK]
def kdI (B : Nat → Nat) (t p : Nat) : Int32 := if tkK B t p = 1 ∧ tkV B t p < 6 then nI (tkV B t p) else -1
theorem wn {B : Nat → Nat} {t p lo hi : Nat} {F : TI} {w : Int64} (h : TkM B t p F w) (hl : lo < 999) (hh : hi < 999) : (decide (F 43 8 = nI 2) && inB (F 43 12) (nI lo) (nI hi)) = txN B t p lo (hi + 1) := by
  obtain ⟨-, -, h3, -, h4, -⟩ := h
  have h5 := tkK_5 B t p
  by_cases hK : tkK B t p = 2
  · obtain ⟨v, v1, v2, v3⟩ := h4 hK
    rw [h3, v1, hK, inB_N (by omega) (by omega) (by omega), Bool.eq_iff_iff]
    simp only [txN, Bool.and_eq_true, decide_eq_true_eq]
    constructor
    · rintro ⟨-, q1, q2⟩
      exact ⟨hK, by omega, by omega⟩
    · rintro ⟨-, q1, q2⟩
      exact ⟨rfl, by omega, by omega⟩
  · have : ¬ F 43 8 = nI 2 := by
      rw [h3]
      intro q
      have := (nI_eq (a := min 3 (tkK B t p)) (b := 2) (by omega) (by decide)).mp q
      omega
    simp [this, txN, hK]
theorem wnM {B : Nat → Nat} {t p n : Nat} {F : TI} {w : Int64} (h : TkM B t p F w) (hn : n ≤ 10) : (decide (F 43 8 = nI 2) && inB (F 43 12) (nI 0) (nI n - nI 1)) = txN B t p 0 n := by
  by_cases h0 : n = 0
  · subst h0
    have e1 : inB (F 43 12) (nI 0) (nI 0 - nI 1) = false := by
      cases hq : inB (F 43 12) (nI 0) (nI 0 - nI 1) with
      | false => rfl
      | true =>
        obtain ⟨j, hj, -⟩ := isM_t (n := 0) (by decide) hq
        omega
    rw [e1]
    simp [txN]
  · rw [pk_sub (by omega), wn h (by decide) (by omega), show n - 1 + 1 = n by omega]
theorem wnV {B : Nat → Nat} {t p lo n : Nat} {F : TI} {w : Int64} (h : TkM B t p F w) (hn : n ≤ 1000) (hc : txN B t p lo n = true) : F 43 12 = nI (tkV B t p) ∧ lo ≤ tkV B t p ∧ tkV B t p < n := by
  simp only [txN, Bool.and_eq_true, decide_eq_true_eq] at hc
  obtain ⟨-, -, h3, -, h4, -⟩ := h
  obtain ⟨v, v1, v2, v3⟩ := h4 hc.1
  rw [v1, show v = tkV B t p by omega]
  exact ⟨rfl, hc.2.1, hc.2.2⟩
theorem tk_g {B : Nat → Nat} {t p : Nat} {F : TI} {w : Int64} {v : Int32} (h : TkM B t p F w) : TkM B t p (va_up F 43 (va_up (F 43) 13 v)) w := by
  unfold TkM
  simp only [ug]
  exact h
def WnM (I : TI) (J : TJ) (F : TI) (B : Nat → Nat) (t p : Nat) (v : Int32) (c : Bool) : Value → TI → TJ → TI → Int64 → Prop := fun x I2 J2 F2 w2 => x = .int v ∧ I = I2 ∧ J = J2 ∧ FrF F F2 ∧ F2 43 13 = bI c ∧ TkM B t (if c = true then tkE B t p else p) F2 w2
def MwM (I : TI) (J : TJ) (F : TI) (B : Nat → Nat) (t p : Nat) : Value → TI → TJ → TI → Int64 → Prop := fun x I2 J2 F2 w2 => ∃ y : Int32, x = .int y ∧ I = I2 ∧ J = J2 ∧ FrF F F2 ∧ F2 43 13 = bI (mwS B t p).1 ∧ TkM B t (mwS B t p).2.2 F2 w2 ∧ ((mwS B t p).1 = true → y = nI (mwS B t p).2.1)
def ItM (I : TI) (J : TJ) (F : TI) (B : Nat → Nat) (t : Nat) (q : txPR) : TI → TJ → TI → Int64 → Prop := fun I2 J2 F2 w2 => I2 44 = nr q.2.1 ∧ (∀ P, P ≠ 44 → I2 P = I P) ∧ J = J2 ∧ FrF F F2 ∧ F2 43 13 = bI q.1 ∧ TkM B t q.2.2 F2 w2
/-! where the items end, and that the row stays sound -/
theorem mw_le {B : Nat → Nat} {t p : Nat} (hp : p ≤ t) : p ≤ (mwS B t p).2.2 ∧ (mwS B t p).2.2 ≤ t := by
  have h1 := tkE_le (B := B) hp
  have h2 := tkE_le (B := B) h1.2
  have h3 := tkS_le (B := B) hp
  have h4 := tkS_le (B := B) h1.2
  unfold mwS
  repeat' split
  all_goals (simp only []; omega)
theorem mw_d {B : Nat → Nat} {t p : Nat} (h : (mwS B t p).1 = true) : 1 ≤ (mwS B t p).2.1 ∧ (mwS B t p).2.1 ≤ 9 := by
  unfold mwS at h ⊢
  split
  · rename_i h1
    rw [if_pos h1] at h
    split
    · rename_i h2
      simp only [txN, Bool.and_eq_true, decide_eq_true_eq] at h2
      simp only []
      omega
    · rename_i h2
      rw [if_neg h2] at h
      exact absurd h Bool.false_ne_true
  · simp only []
    omega
theorem ok_add {R : Nat → Nat} {k x v d : Nat} (ok : okR R) (h9 : R 1 < 10) (hk : k < 6) (hx : x < 12) (hv : v < 10) (hd : 1 ≤ d ∧ d ≤ 9) (hw : who R x (R 1) = none) : okR (addN R k x v d) := by
  have a1 := add_1 R k x v d
  obtain ⟨n0, n1, n2, n3, n4, n5⟩ := add_new R k x v d
  refine ⟨by rw [a1]; omega, ?_, ?_, ?_⟩
  · intro m hm
    rw [a1] at hm
    by_cases h : m < R 1
    · rw [add_old (j := 0) h (by decide), add_old (j := 1) h (by decide), add_old (j := 2) h (by decide), add_old (j := 3) h (by decide), add_old (j := 4) h (by decide), add_old (j := 5) h (by decide)]
      exact ok.2.1 m h
    · have e : m = R 1 := by omega
      subst e
      rw [n0, n1, n2, n3, n4, n5]
      exact ⟨hk, hx, hv, hd, by omega, by omega⟩
  · intro m j hm hj he
    rw [a1] at hm hj
    by_cases h : m < R 1
    · by_cases h2 : j < R 1
      · rw [add_old (j := 1) h (by decide), add_old (j := 1) h2 (by decide)] at he
        exact ok.2.2.1 m j h h2 he
      · have e : j = R 1 := by omega
        subst e
        rw [add_old (j := 1) h (by decide), n1] at he
        exact absurd he (who_none hw m h)
    · have e : m = R 1 := by omega
      subst e
      by_cases h2 : j < R 1
      · rw [add_old (j := 1) h2 (by decide), n1] at he
        exact absurd he.symm (who_none hw j h2)
      · omega
  · intro j hj
    unfold addN
    rw [up_n _ _ (by omega), up_n _ _ (by omega), up_n _ _ (by omega), up_n _ _ (by omega), up_n _ _ (by omega), up_n _ _ (by omega), up_n _ _ (by omega)]
    exact ok.2.2.2 j hj
theorem add_0 {R : Nat → Nat} {k x v d : Nat} : addN R k x v d 0 = R 0 := by
  unfold addN
  rw [up_n _ _ (by omega), up_n _ _ (by omega), up_n _ _ (by omega), up_n _ _ (by omega), up_n _ _ (by omega), up_n _ _ (by omega), up_n _ _ (by omega)]
/-- what an item keeps: the row's soundness, the night; how far it reads -/
def itG (t p : Nat) (R : Nat → Nat) (q : txPR) : Prop := (okR q.2.1 ∧ q.2.1 0 = R 0) ∧ q.2.2 ≤ t ∧ p ≤ q.2.2 ∧ (q.1 = true → p < q.2.2)
theorem mem_G {B : Nat → Nat} {t p k : Nat} {R : Nat → Nat} (hp : p ≤ t) (ok : okR R) (hk : k < 6) (hw0 : tkK B t p ≠ 0) : itG t p R (memS B t R p k) := by
  have h1 := tkE_le (B := B) hp
  have h2 := tkE_le (B := B) h1.2
  have h3 := tkE_le (B := B) h2.2
  have s0 := tkS_le (B := B) hp
  have s1 := tkS_le (B := B) h1.2
  have s2 := tkS_le (B := B) h2.2
  have g0 := tkE_gt (B := B) hp hw0
  have hm := mw_le (B := B) h3.2
  have hn := ok.1
  unfold memS
  split
  · exact ⟨⟨ok, rfl⟩, by simp only []; omega, by simp only []; omega, fun q => by simp only [Bool.false_eq_true] at q⟩
  · split
    · rename_i hA hB
      split
      · rename_i hC
        split
        · rename_i hD
          have c1 := hB.1
          simp only [txN, Bool.and_eq_true, decide_eq_true_eq] at c1 hC
          refine ⟨⟨ok_add ok (by omega) hk (by omega) (by omega) (mw_d hD) hB.2, by simp only []; exact add_0⟩, ?_, ?_, fun _ => ?_⟩ <;> (simp only []; omega)
        · exact ⟨⟨ok, rfl⟩, by simp only []; omega, by simp only []; omega, fun q => by simp only [Bool.false_eq_true] at q⟩
      · exact ⟨⟨ok, rfl⟩, by simp only []; omega, by simp only []; omega, fun q => by simp only [Bool.false_eq_true] at q⟩
    · exact ⟨⟨ok, rfl⟩, by simp only []; omega, by simp only []; omega, fun q => by simp only [Bool.false_eq_true] at q⟩
theorem or_2 {a v : Nat} (ha : a < 1024) (hv : v < 10) : a ||| 2 ^ v < 1024 := or_lt ha (Nat.pow_lt_pow_right (by omega) hv)
theorem knw_G {B : Nat → Nat} {t p : Nat} {R : Nat → Nat} (hp : p ≤ t) (ok : okR R) (hw0 : tkK B t p ≠ 0) : itG t p R (knwS B t R p) := by
  have h1 := tkE_le (B := B) hp
  have h2 := tkE_le (B := B) h1.2
  have h3 := tkE_le (B := B) h2.2
  have s0 := tkS_le (B := B) hp
  have s1 := tkS_le (B := B) h1.2
  have s2 := tkS_le (B := B) h2.2
  have g0 := tkE_gt (B := B) hp hw0
  unfold knwS
  split
  · rename_i hA
    split
    · rename_i hC
      simp only [txN, Bool.and_eq_true, decide_eq_true_eq] at hA hC
      have hq := ok.2.1 _ hA.2.2
      refine ⟨⟨ok_put ok hA.2.2 (by decide) (by omega) (by decide) (by omega) (by omega) (fun _ => or_2 hq.2.2.2.2.1 hC.2.2) (by omega), by simp only []; rw [up_n _ _ (by omega)]⟩, ?_, ?_, fun _ => ?_⟩ <;> (simp only []; omega)
    · exact ⟨⟨ok, rfl⟩, by simp only []; omega, by simp only []; omega, fun q => by simp only [Bool.false_eq_true] at q⟩
  · exact ⟨⟨ok, rfl⟩, by simp only []; omega, by simp only []; omega, fun q => by simp only [Bool.false_eq_true] at q⟩
theorem mov_G {B : Nat → Nat} {t p : Nat} {R : Nat → Nat} (hp : p ≤ t) (ok : okR R) (hw0 : tkK B t p ≠ 0) : itG t p R (movS B t R p) := by
  have h1 := tkE_le (B := B) hp
  have h2 := tkE_le (B := B) h1.2
  have h3 := tkE_le (B := B) h2.2
  have s0 := tkS_le (B := B) hp
  have s1 := tkS_le (B := B) h1.2
  have s2 := tkS_le (B := B) h2.2
  have g0 := tkE_gt (B := B) hp hw0
  unfold movS
  split
  · rename_i hA
    split
    · rename_i hC
      have c1 := hC.1
      simp only [txN, Bool.and_eq_true, decide_eq_true_eq] at hA c1
      refine ⟨⟨ok_seat ok hA.2.2 c1.2.2 (Or.inl hC.2), by simp only []; rw [up_n _ _ (by omega)]⟩, ?_, ?_, fun _ => ?_⟩ <;> (simp only []; omega)
    · exact ⟨⟨ok, rfl⟩, by simp only []; omega, by simp only []; omega, fun q => by simp only [Bool.false_eq_true] at q⟩
  · exact ⟨⟨ok, rfl⟩, by simp only []; omega, by simp only []; omega, fun q => by simp only [Bool.false_eq_true] at q⟩
theorem itm_G {B : Nat → Nat} {t p : Nat} {R : Nat → Nat} (hp : p ≤ t) (ok : okR R) : itG t p R (itmS B t R p) := by
  unfold itmS
  split
  · rename_i h
    exact mem_G hp ok h.2 (by omega)
  · split
    · rename_i h
      exact knw_G hp ok (by omega)
    · split
      · rename_i h
        exact mov_G hp ok (by omega)
      · exact ⟨⟨ok, rfl⟩, hp, Nat.le_refl _, fun q => by simp only [Bool.false_eq_true] at q⟩
theorem chp_G {B : Nat → Nat} {t : Nat} : ∀ (f : Nat) {R : Nat → Nat} {p n : Nat}, p ≤ t → okR R → (chpS B t f R p n).1 = true → okR (chpS B t f R p n).2.1 ∧ (chpS B t f R p n).2.1 0 = R 0
  | 0, R, p, n, _, _, h => by rw [chpS] at h; exact absurd h Bool.false_ne_true
  | f + 1, R, p, n, hp, ok, h => by
    have g := itm_G (B := B) hp ok
    have h1 := tkE_le (B := B) g.2.1
    rw [chpS] at h ⊢
    split
    · rename_i a1
      rw [if_pos a1] at h
      split
      · exact g.1
      · rename_i a2
        rw [if_neg a2] at h
        split
        · rename_i a3
          rw [if_pos a3] at h
          have := chp_G f h1.2 g.1.1 h
          exact ⟨this.1, this.2.trans g.1.2⟩
        · rename_i a3
          rw [if_neg a3] at h
          exact absurd h Bool.false_ne_true
    · rename_i a1
      rw [if_neg a1] at h
      exact absurd h Bool.false_ne_true
theorem chp_n {B : Nat → Nat} {t : Nat} : ∀ (f : Nat) {R : Nat → Nat} {p n : Nat}, p ≤ t → okR R → (chpS B t f R p n).2.2 ≤ n + f + t
  | 0, R, p, n, _, _ => by rw [chpS]; simp only []; omega
  | f + 1, R, p, n, hp, ok => by
    have g := itm_G (B := B) hp ok
    have h1 := tkE_le (B := B) g.2.1
    have s1 := tkS_le (B := B) g.2.1
    rw [chpS]
    split
    · split
      · simp only []; omega
      · split
        · have := chp_n (B := B) f (n := n + 1) h1.2 g.1.1
          omega
        · simp only []; omega
    · simp only []; omega
