/-- behind what changes one chapel of the class alone -/
def ChP (I : TI) (J : TJ) (F : TI) (w : Int64) (b : Nat) (R2 : Nat → Nat) : TI → TJ → TI → Int64 → Prop := fun I2 J2 F2 w2 => Ch I2 F2 b R2 ∧ (∀ Q, ¬ (b ≤ Q ∧ Q ≤ b + 9) → I2 Q = I Q ∧ F2 Q = F Q) ∧ J2 = J ∧ w2 = w
theorem cpy_at {f h2 : Nat → Int32} {n i : Nat} (h : i < n) : va_cpy f h2 0 0 n i = f i := by
  unfold va_cpy
  rw [if_pos ⟨Nat.zero_le _, by omega⟩]
  congr 1
  omega
set_option maxHeartbeats 4000000 in
theorem become_ok {I : TI} {J : TJ} {F : TI} {w : Int64} {b b2 : Nat} (hb : isB b) (hb2 : isB b2) (hne : b ≠ b2) {R : Nat → Nat} (ok : okR R) (hC : Ch I F b2 R) :
    ∀ {I2 F2 : TI}, (∀ Q, ¬ (b ≤ Q ∧ Q ≤ b + 9) → I2 Q = I Q ∧ F2 Q = F Q) → F2 b 0 = F b2 0 → F2 b 1 = F b2 1 → (∀ j, 1 ≤ j → j ≤ 6 → ∀ m, m < 10 → I2 (b + j) m = I (b2 + j) m) → (∀ x, x < 12 → I2 (b + 7) x = I (b2 + 7) x) → ChP I J F w b R I2 J F2 w := by
  intro I2 F2 h1 h2 h3 h4 h5
  have hn := ok.1
  refine ⟨⟨h2.trans hC.1, h3.trans hC.2.1, fun m hm => ?_, fun x hx => (h5 x hx).trans (hC.2.2.2 x hx)⟩, h1, rfl, rfl⟩
  obtain ⟨m0, m1, m2, m3, m4, m5⟩ := hC.2.2.1 m hm
  exact ⟨(h4 1 (by omega) (by omega) m (by omega)).trans m0, (h4 2 (by omega) (by omega) m (by omega)).trans m1, (h4 3 (by omega) (by omega) m (by omega)).trans m2, (h4 4 (by omega) (by omega) m (by omega)).trans m3, (h4 5 (by omega) (by omega) m (by omega)).trans m4, (h4 6 (by omega) (by omega) m (by omega)).trans m5⟩
theorem get_eq {k t d n : Nat} (hd : 1 ≤ d) (h3 : k ≠ 3) : getK k t d n = if 60 ≤ t then false else rdK k d n := by
  unfold getK rdK
  by_cases h60 : 60 ≤ t
  · rw [if_pos h60, if_pos h60]
  · rw [if_neg h60, if_neg h60]
    by_cases h1 : k = 1
    · rw [if_pos h1, if_pos h1]
    · rw [if_neg h1, if_neg h1]
      by_cases h4 : k = 4
      · rw [if_pos h4, if_pos h4]
      · rw [if_neg h4, if_neg h4]
        by_cases h2 : k = 2
        · rw [if_pos h2, if_pos h2]
        · rw [if_neg h2, if_neg h2]
          by_cases h5 : k = 5
          · rw [if_pos h5, if_pos h5]
            by_cases h9 : d = 9
            · subst h9
              have : boyB 9 n = true := by simp only [boyB, decide_eq_true_eq]; omega
              rw [this]; rfl
            · simp [h9]
          · rw [if_neg h5, if_neg h5, if_neg h3]
theorem red_cls {R : Nat → Nat} (ok : okR R) {a : Nat} (ha : a < R 1) : redN R (R 1) a = (felN R (R 1) a).any (fun q => getK (R (2 + 6 * a + 0)) (R (2 + 6 * a + 5)) (R (2 + 6 * q + 3)) (R 0)) := by
  cases hf : felN R (R 1) a with
  | none => rw [red_none hf]; rfl
  | some q =>
    rw [red_eq hf]
    have hq := ok.2.1 q (felN_lt hf)
    show _ = getK _ _ _ _
    rw [get_eq hq.2.2.2.1.1]
    intro h3
    unfold felN at hf
    rw [h3] at hf
    simp [fe] at hf
theorem ch_89 {I F : TI} {b : Nat} {R : Nat → Nat} {x y : Nat → Int32} (h : Ch I F b R) : Ch (va_up (va_up I (b + 8) x) (b + 9) y) F b R := by
  refine ⟨h.1, h.2.1, fun m hm => ?_, fun s hs => ?_⟩
  · rw [up_n _ _ (show b + 1 ≠ b + 9 by omega), up_n _ _ (show b + 1 ≠ b + 8 by omega), up_n _ _ (show b + 2 ≠ b + 9 by omega), up_n _ _ (show b + 2 ≠ b + 8 by omega), up_n _ _ (show b + 3 ≠ b + 9 by omega), up_n _ _ (show b + 3 ≠ b + 8 by omega), up_n _ _ (show b + 4 ≠ b + 9 by omega), up_n _ _ (show b + 4 ≠ b + 8 by omega), up_n _ _ (show b + 5 ≠ b + 9 by omega), up_n _ _ (show b + 5 ≠ b + 8 by omega), up_n _ _ (show b + 6 ≠ b + 9 by omega), up_n _ _ (show b + 6 ≠ b + 8 by omega)]
    exact h.2.2.1 m hm
  · rw [up_n _ _ (show b + 7 ≠ b + 9 by omega), up_n _ _ (show b + 7 ≠ b + 8 by omega)]; exact h.2.2.2 s hs
theorem who_cong {R R2 : Nat → Nat} {s : Nat} : ∀ {n : Nat}, (∀ m, m < n → R2 (2 + 6 * m + 1) = R (2 + 6 * m + 1)) → who R2 s n = who R s n
  | 0, _ => rfl
  | n + 1, h => by rw [who, who, h n (by omega), who_cong (fun m hm => h m (by omega))]
theorem par_seat (R : Nat → Nat) (k m : Nat) : parN R k (2 + 6 * m + 1) = R (2 + 6 * m + 1) := by
  unfold parN
  split
  · exact nig_j R (by omega)
  · rfl
theorem ch_56 {I1 F : TI} {b k : Nat} {R : Nat → Nat} (hk : k < R 1) (h : Ch I1 F b (parN R k)) : Ch (va_up (va_up I1 (b + 5) (upd (I1 (b + 5)) k (nI (R (2 + 6 * k + 4) ||| gotN R (R 1) k)))) (b + 6) (upd (I1 (b + 6)) k (nI (clt (R (2 + 6 * k + 5)) (R (2 + 6 * k + 0)) (redN R (R 1) k))))) F b (parN R (k + 1)) := by
  obtain ⟨h1, h2, h3, h4⟩ := h
  rw [par_1] at h2 h3 h4
  refine ⟨h1, by rw [par_1]; exact h2, fun m hm => ?_, fun s hs => ?_⟩
  · rw [par_1] at hm
    obtain ⟨m0, m1, m2, m3, m4, m5⟩ := h3 m hm
    rw [up_n _ _ (show b + 1 ≠ b + 6 by omega), up_n _ _ (show b + 1 ≠ b + 5 by omega), up_n _ _ (show b + 2 ≠ b + 6 by omega), up_n _ _ (show b + 2 ≠ b + 5 by omega), up_n _ _ (show b + 3 ≠ b + 6 by omega), up_n _ _ (show b + 3 ≠ b + 5 by omega), up_n _ _ (show b + 4 ≠ b + 6 by omega), up_n _ _ (show b + 4 ≠ b + 5 by omega), up_n _ _ (show b + 5 ≠ b + 6 by omega), up_s, up_s]
    have e : ∀ j, parN R (k + 1) (2 + 6 * m + j) = va_up (va_up (parN R k) (2 + 6 * k + 4) (R (2 + 6 * k + 4) ||| gotN R (R 1) k)) (2 + 6 * k + 5) (clt (R (2 + 6 * k + 5)) (R (2 + 6 * k + 0)) (redN R (R 1) k)) (2 + 6 * m + j) := fun j => by rw [par_step hk]
    rw [e 0, e 1, e 2, e 3, e 4, e 5]
    rw [up_n _ _ (show 2 + 6 * m + 0 ≠ 2 + 6 * k + 5 by omega), up_n _ _ (show 2 + 6 * m + 0 ≠ 2 + 6 * k + 4 by omega), up_n _ _ (show 2 + 6 * m + 1 ≠ 2 + 6 * k + 5 by omega), up_n _ _ (show 2 + 6 * m + 1 ≠ 2 + 6 * k + 4 by omega), up_n _ _ (show 2 + 6 * m + 2 ≠ 2 + 6 * k + 5 by omega), up_n _ _ (show 2 + 6 * m + 2 ≠ 2 + 6 * k + 4 by omega), up_n _ _ (show 2 + 6 * m + 3 ≠ 2 + 6 * k + 5 by omega), up_n _ _ (show 2 + 6 * m + 3 ≠ 2 + 6 * k + 4 by omega), up_n _ _ (show 2 + 6 * m + 4 ≠ 2 + 6 * k + 5 by omega)]
    refine ⟨m0, m1, m2, m3, ?_, ?_⟩
    · by_cases hm2 : m = k
      · subst hm2; rw [pk_us, up_s]
      · rw [pk_un hm2, up_n _ _ (by omega)]; exact m4
    · by_cases hm2 : m = k
      · subst hm2; rw [pk_us, up_s]
      · rw [pk_un hm2, up_n _ _ (by omega), up_n _ _ (by omega)]; exact m5
  · rw [up_n _ _ (show b + 7 ≠ b + 6 by omega), up_n _ _ (show b + 7 ≠ b + 5 by omega), h4 s hs, par_1]
    congr 1
    exact who_cong (fun m _ => by rw [par_seat, par_seat])
theorem ch_end {I I1 F : TI} {J : TJ} {w : Int64} {b : Nat} {R : Nat → Nat} (h : Ch I1 F b (parN R (R 1))) (hfr : ∀ Q, Q ≠ b + 5 → Q ≠ b + 6 → Q ≠ b + 8 → Q ≠ b + 9 → I1 Q = I Q) : ChP I J F w b (nigN R) I1 J (va_up F b (va_up (F b) 0 (nI (R 0 + 1)))) w := by
  obtain ⟨h1, h2, h3, h4⟩ := h
  rw [par_1] at h2 h3 h4
  have hj : ∀ m j, m < R 1 → j < 6 → nigN R (2 + 6 * m + j) = parN R (R 1) (2 + 6 * m + j) := fun m j hm hj => by
    unfold parN; rw [if_pos (by omega)]
  refine ⟨⟨?_, ?_, fun m hm => ?_, fun s hs => ?_⟩, fun Q hQ => ⟨hfr Q (by omega) (by omega) (by omega) (by omega), up_n _ _ (by omega)⟩, rfl, rfl⟩
  · rw [up_s, up_s, nig_0]
  · rw [up_s, up_n _ _ (by decide), nig_1]; exact h2
  · rw [nig_1] at hm
    rw [hj m 0 hm (by omega), hj m 1 hm (by omega), hj m 2 hm (by omega), hj m 3 hm (by omega), hj m 4 hm (by omega), hj m 5 hm (by omega)]
    exact h3 m hm
  · rw [h4 s hs, nig_1]
    congr 1
    exact who_cong (fun m hm => by rw [hj m 1 hm (by omega)])
theorem held_mm (t x : Int32) : (if nI 0 < (if (t + x) < nI 99 then (t + x) else nI 99) then (if (t + x) < nI 99 then (t + x) else nI 99) else nI 0) = heldI (t + x) (nI 0) (nI 99) := by
  generalize t + x = z
  unfold heldI
  by_cases h1 : z < nI 99
  · rw [if_pos h1]
    have h2 : ¬ nI 99 < z := fun q => by
      have a1 := Int32.lt_iff_toInt_lt.mp h1
      have a2 := Int32.lt_iff_toInt_lt.mp q
      omega
    rw [if_neg h2]
    by_cases h0 : nI 0 < z
    · have h3 : ¬ z < nI 0 := fun q => by
        have a1 := Int32.lt_iff_toInt_lt.mp h0
        have a2 := Int32.lt_iff_toInt_lt.mp q
        omega
      rw [if_pos h0, if_neg h3]
    · rw [if_neg h0]
      by_cases h3 : z < nI 0
      · rw [if_pos h3]
      · rw [if_neg h3]
        apply Int32.toInt_inj.mp
        have a1 : ¬ (nI 0).toInt < z.toInt := fun q => h0 (Int32.lt_iff_toInt_lt.mpr q)
        have a2 : ¬ z.toInt < (nI 0).toInt := fun q => h3 (Int32.lt_iff_toInt_lt.mpr q)
        omega
  · rw [if_neg h1, if_pos (by decide +kernel)]
    have a1 : ¬ z.toInt < (nI 99).toInt := fun q => h1 (Int32.lt_iff_toInt_lt.mpr q)
    rw [show (nI 99).toInt = 99 by decide +kernel] at a1
    have h3 : ¬ z < nI 0 := fun q => by
      have a2 := Int32.lt_iff_toInt_lt.mp q
      rw [show (nI 0).toInt = 0 by decide +kernel] at a2
      omega
    rw [if_neg h3]
    by_cases h4 : nI 99 < z
    · rw [if_pos h4]
    · rw [if_neg h4]
      apply Int32.toInt_inj.mp
      have a2 : ¬ (nI 99).toInt < z.toInt := fun q => h4 (Int32.lt_iff_toInt_lt.mpr q)
      rw [show (nI 99).toInt = 99 by decide +kernel] at a2 ⊢
      omega
