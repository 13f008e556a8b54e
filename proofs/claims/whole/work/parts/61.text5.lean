/-! the class's tape and token; its texts -/
theorem lt9 {k : Nat} (h : k < 9) : k = 0 ∨ k = 1 ∨ k = 2 ∨ k = 3 ∨ k = 4 ∨ k = 5 ∨ k = 6 ∨ k = 7 ∨ k = 8 := by omega
theorem tx_shr : ∀ i, i < 9 → nI (txLen.getD i 0) >>> ((0 : Int32) &&& 31) = nI (txLen.getD i 0) := by decide +kernel
theorem tx_ch : ∀ i, i < 9 → ∀ j, j < 8 → j < txLen.getD i 0 → (((txByt.getD i []).getD j 0 &&& nI 255).toUInt32 % 65536).toInt32 = nI ((txW.getD i []).getD j 0) ∧ narrow .char (.int (nI ((txW.getD i []).getD j 0))) = .int (nI ((txW.getD i []).getD j 0)) := by decide +kernel
theorem tx_ln : ∀ i, i < 9 → txLen.getD i 0 = (txW.getD i []).length ∧ txLen.getD i 0 ≤ 8 := by decide +kernel
def TpC (I F : TI) (B : Nat → Nat) (t : Nat) : Prop := F 31 0 = nI t ∧ t ≤ 120 ∧ ∀ k, k < t → I 32 k = nI (B k) ∧ B k < 256
def wvI (v : Nat) : Int32 := if v = 9 then -1 else nI v
def TkC (B : Nat → Nat) (t p : Nat) (F : TI) : Prop := F 31 2 = nI (tkS B t p) ∧ F 31 3 = nI (tkE B t p) ∧ F 31 4 = nI (tkK B t p) ∧ (tkK B t p = 1 → F 31 5 = wvI (tkV B t p)) ∧ (tkK B t p = 2 → F 31 5 = nI (tkV B t p))
/-- nothing but the tape's own fields -/
def FrC (F F2 : TI) : Prop := (∀ Q, Q ≠ 31 → F2 Q = F Q) ∧ F2 31 0 = F 31 0
theorem frc_0 (F : TI) : FrC F F := ⟨fun _ _ => rfl, rfl⟩
theorem frc_t {F F1 F2 : TI} (h : FrC F F1) (h2 : FrC F1 F2) : FrC F F2 := ⟨fun Q hQ => (h2.1 Q hQ).trans (h.1 Q hQ), h2.2.trans h.2⟩
theorem frc_u {F F1 : TI} {j : Nat} {v : Int32} (h : FrC F F1) (hj : j ≠ 0) : FrC F (va_up F1 31 (va_up (F1 31) j v)) := by
  refine ⟨fun Q hQ => ?_, ?_⟩
  · rw [up_n _ _ hQ]; exact h.1 Q hQ
  · rw [up_s, up_n _ _ (fun z => hj z.symm)]; exact h.2
theorem tc_f {I F F1 : TI} {B : Nat → Nat} {t : Nat} (hT : TpC I F B t) (h : FrC F F1) : TpC I F1 B t := ⟨h.2.trans hT.1, hT.2⟩
theorem tc_i {I I1 F : TI} {B : Nat → Nat} {t : Nat} (h : TpC I F B t) (e : I1 32 = I 32) : TpC I1 F B t := ⟨h.1, h.2.1, fun k hk => by rw [e]; exact h.2.2 k hk⟩
def AdC (I : TI) (J : TJ) (F : TI) (w : Int64) (B : Nat → Nat) (t p : Nat) : TI → TJ → TI → Int64 → Prop := fun I2 J2 F2 w2 => I = I2 ∧ J = J2 ∧ w = w2 ∧ FrC F F2 ∧ TkC B t p F2
/-- what takeWord and takeNumber leave: the end, the kind, the value; the start as it was -/
def TwC (I : TI) (J : TJ) (F : TI) (w : Int64) (q e0 : Nat) (v : Int32) : TI → TJ → TI → Int64 → Prop := fun I2 J2 F2 w2 => I = I2 ∧ J = J2 ∧ w = w2 ∧ FrC F F2 ∧ F2 31 2 = F 31 2 ∧ F2 31 3 = nI e0 ∧ F2 31 4 = nI q ∧ F2 31 5 = v
theorem wdE_len {B : Nat → Nat} {s n i : Nat} (h : ¬ txLen.getD i 0 = n) (hi : i < 9) : wdE B s n i = false := by
  rw [wdE, decide_eq_false_iff_not]
  rintro ⟨q, -⟩
  exact h ((tx_ln i hi).1.trans q.symm)
theorem wdE_ne {B : Nat → Nat} {s n i j : Nat} (hj : j < n) (h : ¬ B (s + j) = (txW.getD i []).getD j 0) : wdE B s n i = false := by
  rw [wdE, decide_eq_false_iff_not]
  rintro ⟨-, q⟩
  exact h (q j hj)
theorem wdE_ok {B : Nat → Nat} {s n i : Nat} (hi : i < 9) (hn : txLen.getD i 0 = n) (h : ∀ j, j < n → B (s + j) = (txW.getD i []).getD j 0) : wdE B s n i = true := by
  rw [wdE, decide_eq_true_eq]
  exact ⟨hn.symm.trans (tx_ln i hi).1, h⟩
theorem wid_9 (B : Nat → Nat) (s n : Nat) : ∀ k, k ≤ 9 → widK B s n k ≤ 9
  | 0, _ => by rw [widK]; omega
  | k + 1, h => by
    rw [widK]
    have := wid_9 B s n k (by omega)
    split <;> omega
theorem wv_step {B : Nat → Nat} {s n k : Nat} (hk : k < 9) : wvI (widK B s n (k + 1)) = if wdE B s n k = true then nI k else wvI (widK B s n k) := by
  rw [widK]
  split
  · rw [wvI, if_neg (by omega)]
  · rfl
theorem txw_b : ∀ i, i < 9 → ∀ j, j < 8 → (txW.getD i []).getD j 0 < 256 := by decide +kernel
/-! a kind's line up: ABOVE -/
def upS (q : Int32) : Int32 := if 0 ≤ q ∧ q < 6 then ([-1, 0, 0, 0, 1, 2] : List Int32).getD (cl q) 0 else q
def upK (a : Nat) : Nat → Int32
  | 0 => nI a
  | k + 1 => upS (upK a k)
theorem upS_n {x : Nat} (hx : x < 6) : upS (nI x) = ([-1, 0, 0, 0, 1, 2] : List Int32).getD x 0 := by
  have : ∀ x, x < 6 → upS (nI x) = ([-1, 0, 0, 0, 1, 2] : List Int32).getD x 0 := by decide +kernel
  exact this x hx
theorem und_any : ∀ a, a < 6 → ∀ b, b < 6 → undB a b = (List.range 6).any (fun j => decide (upK a j = nI b)) := by decide +kernel
theorem und_mon : ∀ a, a < 6 → ∀ j, j < 6 → ∀ i, i < 6 → (decide (j ≤ i) && decide (upK a j = -1)) = true → upK a i = -1 := by decide +kernel
theorem und_or : ∀ a, a < 6 → ∀ j, j < 6 → upK a j = -1 ∨ inB (upK a j) (nI 0) (nI 5) = true := by decide +kernel
theorem und_all (a : Nat) (ha : a < 6) (b : Nat) (hb : b < 6) : (undB a b = true ↔ ∃ j, j < 6 ∧ upK a j = nI b) ∧ (∀ j, j < 6 → ∀ i, i < 6 → j ≤ i → upK a j = -1 → upK a i = -1) ∧ (∀ j, j < 6 → upK a j = -1 ∨ inB (upK a j) (nI 0) (nI 5) = true) := by
  refine ⟨?_, fun j hj i hi h1 h2 => und_mon a ha j hj i hi (by simp [h1, h2]), und_or a ha⟩
  rw [und_any a ha b hb, List.any_eq_true]
  constructor
  · rintro ⟨j, hj, e⟩
    exact ⟨j, List.mem_range.mp hj, of_decide_eq_true e⟩
  · rintro ⟨j, hj, e⟩
    exact ⟨j, List.mem_range.mpr hj, decide_eq_true e⟩
theorem und_t {a b k : Nat} (ha : a < 6) (hb : b < 6) (hk : k < 6) (h : upK a k = nI b) : undB a b = true := ((und_all a ha b hb).1).mpr ⟨k, hk, h⟩
theorem und_f {a b : Nat} (ha : a < 6) (hb : b < 6) (h : ∀ j, j < 6 → ¬ upK a j = nI b) : undB a b = false := by
  cases hq : undB a b with
  | false => rfl
  | true =>
    obtain ⟨j, hj, e⟩ := ((und_all a ha b hb).1).mp hq
    exact absurd e (h j hj)
theorem und_x {a b k : Nat} {q : Int32} (ha : a < 6) (hb : b < 6) (hk : k < 6) (hq : upK a k = q) (hno : ∀ j, j < k → ¬ upK a j = nI b) (hc : inB q (nI 0) (nI 5) = false) : undB a b = false := by
  refine und_f ha hb (fun j hj => ?_)
  rcases Nat.lt_or_ge j k with h | h
  · exact hno j h
  · have h1 : upK a k = -1 := by
      rcases (und_all a ha b hb).2.2 k hk with z | z
      · exact z
      · rw [hq] at z; rw [z] at hc; cases hc
    rw [(und_all a ha b hb).2.1 k hk j hj h h1]
    exact nI_m1 (by omega)
