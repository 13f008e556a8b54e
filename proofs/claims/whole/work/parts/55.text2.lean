/-! the reference's tape and token -/
def btI (B : Nat → Nat) (t k : Nat) : Int32 := if k < t then nI (B k) else -1
theorem bt_lt {B : Nat → Nat} {t k : Nat} (h : k < t) : btI B t k = nI (B k) := by rw [btI, if_pos h]
theorem bt_ge {B : Nat → Nat} {t k : Nat} (h : t ≤ k) : btI B t k = -1 := by rw [btI, if_neg (by omega)]
theorem nI_m1 {c : Nat} (hc : c < 2 ^ 31) : ¬ (-1 : Int32) = nI c := by
  intro h
  have h1 : (-1 : Int32).toInt = (nI c).toInt := by rw [h]
  rw [nI_toInt hc, show (-1 : Int32).toInt = -1 by decide +kernel] at h1
  omega
theorem bt_eq {B : Nat → Nat} {t k c : Nat} (hB : ∀ k, k < t → B k < 256) (hc : c < 2 ^ 31) (h : btI B t k = nI c) : k < t ∧ B k = c := by
  by_cases hk : k < t
  · rw [bt_lt hk] at h
    have := hB k hk
    exact ⟨hk, (nI_eq (by omega) hc).mp h⟩
  · rw [bt_ge (by omega)] at h
    exact absurd h (nI_m1 hc)
theorem bt_ne {B : Nat → Nat} {t k : Nat} (h : ¬ btI B t k = nI 32) : tx_run (tkB B) t k = k := by
  by_cases hk : k < t
  · rw [bt_lt hk] at h
    refine tx_st hk ?_
    simp only [tkB, decide_eq_false_iff_not]
    intro q
    rw [q] at h
    exact h rfl
  · exact tx_en (by omega)
theorem bt_0t {B : Nat → Nat} {t k : Nat} (h : 0 ≤ btI B t k) : k < t := by
  by_cases hk : k < t
  · exact hk
  · rw [bt_ge (by omega)] at h
    exact absurd h (by decide +kernel)
theorem bt_0f {B : Nat → Nat} {t k : Nat} (hB : ∀ k, k < t → B k < 256) (h : ¬ 0 ≤ btI B t k) : t ≤ k := by
  by_cases hk : k < t
  · rw [bt_lt hk] at h
    have := hB k hk
    exact absurd (nI_pos' (by omega)) h
  · omega
theorem bt_in {B : Nat → Nat} {t k lo hi : Nat} (hB : ∀ k, k < t → B k < 256) (hl : lo < 2 ^ 31) (hh : hi < 2 ^ 31) : inB (btI B t k) (nI lo) (nI hi) = (decide (k < t) && (decide (lo ≤ B k) && decide (B k ≤ hi))) := by
  by_cases hk : k < t
  · have := hB k hk
    rw [bt_lt hk, inB_N (by omega) hl hh]
    simp [hk]
  · rw [bt_ge (by omega), inB_lt]
    · simp [hk]
    · refine Int32.lt_iff_toInt_lt.mpr ?_
      rw [nI_toInt hl, show (-1 : Int32).toInt = -1 by decide +kernel]
      omega
def TpM (I F : TI) (B : Nat → Nat) (t : Nat) : Prop := F 43 7 = nI t ∧ t ≤ 120 ∧ ∀ k, k < t → I 50 k = nI (B k) ∧ B k < 256
def TkM (B : Nat → Nat) (t p : Nat) (F : TI) (w : Int64) : Prop := F 43 9 = nI (tkS B t p) ∧ F 43 10 = nI (tkE B t p) ∧ F 43 8 = nI (min 3 (tkK B t p)) ∧ (tkK B t p = 1 → w = hsv B (tkS B t p) (tkE B t p - tkS B t p)) ∧ (tkK B t p = 2 → ∃ v, F 43 12 = nI v ∧ v ≤ 10000 ∧ min 1000 v = tkV B t p) ∧ (3 ≤ tkK B t p → F 43 12 = nI (B (tkS B t p)))
/-- nothing but the text's own fields -/
def FrF (F F2 : TI) : Prop := (∀ Q, Q ≠ 43 → F2 Q = F Q) ∧ F2 43 7 = F 43 7 ∧ F2 43 20 = F 43 20
/-- nor 'good' -/
def FrA (F F2 : TI) : Prop := FrF F F2 ∧ F2 43 13 = F 43 13
theorem frf_0 (F : TI) : FrF F F := ⟨fun _ _ => rfl, rfl, rfl⟩
theorem fra_0 (F : TI) : FrA F F := ⟨frf_0 F, rfl⟩
theorem frf_t {F F1 F2 : TI} (h : FrF F F1) (h2 : FrF F1 F2) : FrF F F2 := ⟨fun Q hQ => (h2.1 Q hQ).trans (h.1 Q hQ), h2.2.1.trans h.2.1, h2.2.2.trans h.2.2⟩
theorem frf_u {F F1 : TI} {j : Nat} {v : Int32} (h : FrF F F1) (hj : j ≠ 7 ∧ j ≠ 20) : FrF F (va_up F1 43 (va_up (F1 43) j v)) := by
  refine ⟨fun Q hQ => ?_, ?_, ?_⟩
  · rw [up_n _ _ hQ]; exact h.1 Q hQ
  · rw [up_s, up_n _ _ (fun z => hj.1 z.symm)]; exact h.2.1
  · rw [up_s, up_n _ _ (fun z => hj.2 z.symm)]; exact h.2.2
theorem fra_u {F F1 : TI} {j : Nat} {v : Int32} (h : FrA F F1) (hj : (j ≠ 7 ∧ j ≠ 20) ∧ j ≠ 13) : FrA F (va_up F1 43 (va_up (F1 43) j v)) := by
  refine ⟨frf_u h.1 hj.1, ?_⟩
  rw [up_s, up_n _ _ (fun z => hj.2 z.symm)]; exact h.2
theorem tp_f {I F F1 : TI} {B : Nat → Nat} {t : Nat} (hT : TpM I F B t) (h : FrF F F1) : TpM I F1 B t := ⟨h.2.1.trans hT.1, hT.2⟩
theorem ug {F : TI} {P j k : Nat} {v : Int32} : va_up F P (va_up (F P) j v) P k = if k = j then v else F P k := by
  rw [up_s]
  by_cases h : k = j
  · rw [if_pos h, h, up_s]
  · rw [if_neg h, up_n _ _ h]
def AdM (I : TI) (J : TJ) (F : TI) (B : Nat → Nat) (t p : Nat) : TI → TJ → TI → Int64 → Prop := fun I2 J2 F2 w2 => I = I2 ∧ J = J2 ∧ FrA F F2 ∧ TkM B t p F2 w2
