theorem who_of {R : Nat → Nat} {s m : Nat} : ∀ {n : Nat}, (∀ i j, i < n → j < n → R (2 + 6 * i + 1) = R (2 + 6 * j + 1) → i = j) → m < n → R (2 + 6 * m + 1) = s → who R s n = some m
  | 0, _, h, _ => by omega
  | n + 1, hd, h, hs => by
    rw [who]
    by_cases e : R (2 + 6 * n + 1) = s
    · rw [if_pos e, hd m n h (by omega) (hs.trans e.symm)]
    · rw [if_neg e]
      exact who_of (fun i j hi hj => hd i j (by omega) (by omega)) (by
        rcases Nat.lt_or_ge m n with q | q
        · exact q
        · exact absurd (by rw [← hs, show m = n by omega]) e) hs
theorem who_no {R : Nat → Nat} {s : Nat} : ∀ {n : Nat}, (∀ m, m < n → R (2 + 6 * m + 1) ≠ s) → who R s n = none
  | 0, _ => rfl
  | n + 1, h => by rw [who, if_neg (h n (by omega)), who_no (fun m hm => h m (by omega))]
theorem who_seat {R : Nat → Nat} {a x s : Nat} (ok : okR R) (ha : a < R 1) (hx : x < 12) (hw : who R x (R 1) = none ∨ who R x (R 1) = some a) : who (va_up R (2 + 6 * a + 1) x) s (R 1) = if s = x then some a else if s = R (2 + 6 * a + 1) then none else who R s (R 1) := by
  have ok2 := ok_seat ok ha hx hw
  have e1 : va_up R (2 + 6 * a + 1) x 1 = R 1 := up_n _ _ (by omega)
  have hd := ok2.2.2.1
  rw [e1] at hd
  by_cases hs : s = x
  · rw [if_pos hs]
    exact who_of hd ha (by rw [up_s]; exact hs.symm)
  · rw [if_neg hs]
    by_cases ho : s = R (2 + 6 * a + 1)
    · rw [if_pos ho]
      refine who_no (fun m hm => ?_)
      by_cases hma : m = a
      · subst hma; rw [up_s]; exact fun z => hs z.symm
      · rw [up_n _ _ (by omega), ho]
        exact fun z => hma (ok.2.2.1 m a hm ha z)
    · rw [if_neg ho]
      cases h : who R s (R 1) with
      | none =>
        refine who_no (fun m hm => ?_)
        by_cases hma : m = a
        · subst hma; rw [up_s]; exact fun z => hs z.symm
        · rw [up_n _ _ (by omega)]; exact who_none h m hm
      | some m =>
        have hm := who_lt h
        have hma : m ≠ a := fun z => ho (by rw [← hm.2, z])
        exact who_of hd hm.1 (by rw [up_n _ _ (by omega)]; exact hm.2)
theorem ch_seat {I F : TI} {b a x : Nat} {R : Nat → Nat} (ok : okR R) (h : Ch I F b R) (ha : a < R 1) (hx : x < 12) (hw : who R x (R 1) = none ∨ who R x (R 1) = some a) : Ch (va_up (va_up I (b + 7) (upd (upd (I (b + 7)) (R (2 + 6 * a + 1)) (-1)) x (nI a))) (b + 2) (upd (I (b + 2)) a (nI x))) F b (va_up R (2 + 6 * a + 1) x) := by
  obtain ⟨h1, h2, h3, h4⟩ := h
  have e1 : va_up R (2 + 6 * a + 1) x 1 = R 1 := up_n _ _ (by omega)
  refine ⟨by rw [up_n _ _ (by omega)]; exact h1, by rw [e1]; exact h2, fun m hm => ?_, fun s hs => ?_⟩
  · rw [e1] at hm
    obtain ⟨m0, m1, m2, m3, m4, m5⟩ := h3 m hm
    have f : ∀ i, i < 6 → i ≠ 1 → va_up R (2 + 6 * a + 1) x (2 + 6 * m + i) = R (2 + 6 * m + i) := fun i _ _ => up_n _ _ (by omega)
    rw [f 0 (by omega) (by omega), f 2 (by omega) (by omega), f 3 (by omega) (by omega), f 4 (by omega) (by omega), f 5 (by omega) (by omega)]
    rw [up_n _ _ (show b + 1 ≠ b + 2 by omega), up_n _ _ (show b + 1 ≠ b + 7 by omega), up_s, up_n _ _ (show b + 3 ≠ b + 2 by omega), up_n _ _ (show b + 3 ≠ b + 7 by omega), up_n _ _ (show b + 4 ≠ b + 2 by omega), up_n _ _ (show b + 4 ≠ b + 7 by omega), up_n _ _ (show b + 5 ≠ b + 2 by omega), up_n _ _ (show b + 5 ≠ b + 7 by omega), up_n _ _ (show b + 6 ≠ b + 2 by omega), up_n _ _ (show b + 6 ≠ b + 7 by omega)]
    refine ⟨m0, ?_, m2, m3, m4, m5⟩
    by_cases hma : m = a
    · subst hma; rw [pk_us, up_s]
    · rw [pk_un hma, up_n _ _ (by omega)]; exact m1
  · rw [up_n _ _ (show b + 7 ≠ b + 2 by omega), up_s, e1, who_seat ok ha hx hw]
    by_cases hs1 : s = x
    · subst hs1; rw [pk_us, if_pos rfl]; rfl
    · rw [pk_un hs1, if_neg hs1]
      by_cases hs2 : s = R (2 + 6 * a + 1)
      · rw [if_pos hs2, hs2, pk_us]; rfl
      · rw [pk_un hs2, if_neg hs2]; exact h4 s hs
theorem ch_put {I F : TI} {b a j v P : Nat} {R : Nat → Nat} (h : Ch I F b R) (ha : a < R 1) (hj : j < 6) (hj1 : j ≠ 1) (hP : P = b + 1 + j) : Ch (va_up I P (upd (I P) a (nI v))) F b (va_up R (2 + 6 * a + j) v) := by
  obtain ⟨h1, h2, h3, h4⟩ := h
  have e1 : va_up R (2 + 6 * a + j) v 1 = R 1 := up_n _ _ (by omega)
  have key : ∀ m i, m < R 1 → i < 6 → I (b + 1 + i) m = nI (R (2 + 6 * m + i)) → va_up I P (upd (I P) a (nI v)) (b + 1 + i) m = nI (va_up R (2 + 6 * a + j) v (2 + 6 * m + i)) := by
    intro m i hm hi he
    by_cases hij : i = j
    · subst hij
      rw [← hP, up_s]
      by_cases hma : m = a
      · subst hma; rw [pk_us, up_s]
      · rw [pk_un hma, up_n _ _ (by omega), hP]; exact he
    · rw [up_n _ _ (by omega), up_n _ _ (by omega)]; exact he
  refine ⟨by rw [up_n _ _ (by omega)]; exact h1, by rw [e1]; exact h2, fun m hm => ?_, fun s hs => ?_⟩
  · rw [e1] at hm
    obtain ⟨m0, m1, m2, m3, m4, m5⟩ := h3 m hm
    exact ⟨key m 0 hm (by omega) m0, key m 1 hm (by omega) m1, key m 2 hm (by omega) m2, key m 3 hm (by omega) m3, key m 4 hm (by omega) m4, key m 5 hm (by omega) m5⟩
  · rw [up_n _ _ (by omega), e1, h4 s hs]
    congr 1
    exact (who_cong (fun m hm => up_n _ _ (by omega))).symm
/-! what a public call leaves of the class: the present chapel, the findings -/
def BS (I F : TI) (R : Nat → Nat) (I3 F3 : TI) : Prop := Ch I3 F3 1 R ∧ (∀ Q, ¬ (1 ≤ Q ∧ Q ≤ 20) → I3 Q = I Q) ∧ ∀ Q, ¬ (1 ≤ Q ∧ Q ≤ 20) → F3 Q = F Q
def BvR (I : TI) (J : TJ) (F : TI) (w : Int64) (t : SP) : Value → TI → TJ → TI → Int64 → Prop := fun x I2 J2 F2 w2 => x = .int (outV t.2.1 t.2.2) ∧ Ch I2 F2 1 t.1 ∧ I2 42 = bmp (I 42) t.2.1 ∧ (∀ Q, ¬ (1 ≤ Q ∧ Q ≤ 20) → Q ≠ 42 → I2 Q = I Q) ∧ (∀ Q, ¬ (1 ≤ Q ∧ Q ≤ 20) → F2 Q = F Q) ∧ J2 = J ∧ w2 = w
theorem bv_val {I I3 : TI} {J : TJ} {F F3 : TI} {w : Int64} {R : Nat → Nat} {t : SP} {v : Int32} (h : BS I F R I3 F3) (hs : t = (R, none, v)) : BvR I J F w t (.int v) I3 J F3 w := by
  subst hs
  exact ⟨rfl, h.1, h.2.1 42 (by decide), fun Q q1 q2 => h.2.1 Q q1, h.2.2, rfl, rfl⟩
theorem ch_far {I F : TI} {b P : Nat} {R : Nat → Nat} {x : Nat → Int32} (h : Ch I F b R) (hP : ¬ (b ≤ P ∧ P ≤ b + 9)) : Ch (va_up I P x) F b R := by
  refine ⟨h.1, h.2.1, fun m hm => ?_, fun s hs => ?_⟩
  · rw [up_n _ _ (show b + 1 ≠ P by omega), up_n _ _ (show b + 2 ≠ P by omega), up_n _ _ (show b + 3 ≠ P by omega), up_n _ _ (show b + 4 ≠ P by omega), up_n _ _ (show b + 5 ≠ P by omega), up_n _ _ (show b + 6 ≠ P by omega)]
    exact h.2.2.1 m hm
  · rw [up_n _ _ (show b + 7 ≠ P by omega)]; exact h.2.2.2 s hs
theorem bv_find {I I3 : TI} {J : TJ} {F F3 : TI} {w : Int64} {R : Nat → Nat} {t : SP} {k : Nat} {x : Int32} (h : BS I F R I3 F3) (hx : x = fC k) (hs : t = (R, some k, 0)) : BvR I J F w t (.int x) (fnd I3 42 k) J F3 w := by
  subst hs
  subst hx
  refine ⟨rfl, ch_far h.1 (by omega), ?_, fun Q q1 q2 => ?_, h.2.2, rfl, rfl⟩
  · show va_up _ 42 _ 42 = _
    rw [up_s, h.2.1 42 (by decide)]; rfl
  · show va_up _ 42 _ Q = _
    rw [up_n _ _ q2]; exact h.2.1 Q q1
theorem bs_0 {I F : TI} {R : Nat → Nat} (h : Ch I F 1 R) : BS I F R I F := ⟨h, fun _ _ => rfl, fun _ _ => rfl⟩
theorem ch_keep {I F I2 F2 : TI} {b c : Nat} {R : Nat → Nat} (h : Ch I F b R) (hk : ∀ Q, ¬ (c ≤ Q ∧ Q ≤ c + 9) → I2 Q = I Q ∧ F2 Q = F Q) (hbc : b + 9 < c ∨ c + 9 < b) : Ch I2 F2 b R := by
  refine ⟨by rw [(hk b (by omega)).2]; exact h.1, by rw [(hk b (by omega)).2]; exact h.2.1, fun m hm => ?_, fun s hs => ?_⟩
  · rw [(hk (b + 1) (by omega)).1, (hk (b + 2) (by omega)).1, (hk (b + 3) (by omega)).1, (hk (b + 4) (by omega)).1, (hk (b + 5) (by omega)).1, (hk (b + 6) (by omega)).1]
    exact h.2.2.1 m hm
  · rw [(hk (b + 7) (by omega)).1]; exact h.2.2.2 s hs
theorem bs_t {I F I1 F1 I2 F2 : TI} {J J2 : TJ} {w w2 : Int64} {R R2 : Nat → Nat} (h : BS I F R I1 F1) (h2 : ChP I1 J F1 w 11 R2 I2 J2 F2 w2) : BS I F R I2 F2 := ⟨ch_keep h.1 h2.2.1 (by omega), fun Q hQ => (h2.2.1 Q (by omega)).1.trans (h.2.1 Q hQ), fun Q hQ => (h2.2.1 Q (by omega)).2.trans (h.2.2 Q hQ)⟩
theorem bs_p {I F I1 F1 I2 F2 : TI} {J J2 : TJ} {w w2 : Int64} {R R2 : Nat → Nat} (h : BS I F R I1 F1) (h2 : ChP I1 J F1 w 1 R2 I2 J2 F2 w2) : BS I F R2 I2 F2 := ⟨h2.1, fun Q hQ => (h2.2.1 Q (by omega)).1.trans (h.2.1 Q hQ), fun Q hQ => (h2.2.1 Q (by omega)).2.trans (h.2.2 Q hQ)⟩
theorem bs_u {I F : TI} {R2 : Nat → Nat} {P : Nat} {x : Nat → Int32} (hP : 1 ≤ P ∧ P ≤ 20) (h : Ch (va_up I P x) F 1 R2) : BS I F R2 (va_up I P x) F := ⟨h, fun Q hQ => up_n _ _ (by omega), fun _ _ => rfl⟩
theorem in09 {y : Int32} (h : inB y (nI 0) (nI 9) = true) (h0 : ¬ y = nI 0) (h1 : ¬ y = nI 1) (h2 : ¬ y = nI 2) (h3 : ¬ y = nI 3) (h4 : ¬ y = nI 4) (h5 : ¬ y = nI 5) (h6 : ¬ y = nI 6) (h7 : ¬ y = nI 7) (h8 : ¬ y = nI 8) (h9 : ¬ y = nI 9) : False := by
  obtain ⟨j, -, hj, rfl⟩ := inB_r (by decide) (by decide) h
  rcases (show j = 0 ∨ j = 1 ∨ j = 2 ∨ j = 3 ∨ j = 4 ∨ j = 5 ∨ j = 6 ∨ j = 7 ∨ j = 8 ∨ j = 9 by omega) with rfl | rfl | rfl | rfl | rfl | rfl | rfl | rfl | rfl | rfl
  · exact h0 rfl
  · exact h1 rfl
  · exact h2 rfl
  · exact h3 rfl
  · exact h4 rfl
  · exact h5 rfl
  · exact h6 rfl
  · exact h7 rfl
  · exact h8 rfl
  · exact h9 rfl
theorem who_add {R : Nat → Nat} {k x v d s : Nat} : who (addN R k x v d) s (R 1 + 1) = if x = s then some (R 1) else who R s (R 1) := by
  have e : ∀ m, m < R 1 → addN R k x v d (2 + 6 * m + 1) = R (2 + 6 * m + 1) := fun m hm => by
    unfold addN
    rw [up_n _ _ (by omega), up_n _ _ (by omega), up_n _ _ (by omega), up_n _ _ (by omega), up_n _ _ (by omega), up_n _ _ (by omega), up_n _ _ (by omega)]
  have e2 : addN R k x v d (2 + 6 * R 1 + 1) = x := by
    unfold addN
    rw [up_n _ _ (by omega), up_n _ _ (by omega), up_n _ _ (by omega), up_n _ _ (by omega), up_n _ _ (by omega), up_s]
  rw [who, e2, who_cong e]
theorem add_1 (R : Nat → Nat) (k x v d : Nat) : addN R k x v d 1 = R 1 + 1 := up_s _ _ _
theorem add_old {R : Nat → Nat} {k x v d m j : Nat} (hm : m < R 1) (hj : j < 6) : addN R k x v d (2 + 6 * m + j) = R (2 + 6 * m + j) := by
  unfold addN
  rw [up_n _ _ (by omega), up_n _ _ (by omega), up_n _ _ (by omega), up_n _ _ (by omega), up_n _ _ (by omega), up_n _ _ (by omega), up_n _ _ (by omega)]
theorem add_new (R : Nat → Nat) (k x v d : Nat) : addN R k x v d (2 + 6 * R 1 + 0) = k ∧ addN R k x v d (2 + 6 * R 1 + 1) = x ∧ addN R k x v d (2 + 6 * R 1 + 2) = v ∧ addN R k x v d (2 + 6 * R 1 + 3) = d ∧ addN R k x v d (2 + 6 * R 1 + 4) = 0 ∧ addN R k x v d (2 + 6 * R 1 + 5) = 0 := by
  unfold addN
  refine ⟨?_, ?_, ?_, ?_, ?_, ?_⟩
  · rw [up_n _ _ (by omega), up_n _ _ (by omega), up_n _ _ (by omega), up_n _ _ (by omega), up_n _ _ (by omega), up_n _ _ (by omega), up_s]
  · rw [up_n _ _ (by omega), up_n _ _ (by omega), up_n _ _ (by omega), up_n _ _ (by omega), up_n _ _ (by omega), up_s]
  · rw [up_n _ _ (by omega), up_n _ _ (by omega), up_n _ _ (by omega), up_n _ _ (by omega), up_s]
  · rw [up_n _ _ (by omega), up_n _ _ (by omega), up_n _ _ (by omega), up_s]
  · rw [up_n _ _ (by omega), up_n _ _ (by omega), up_s]
  · rw [up_n _ _ (by omega), up_s]
theorem ch_add {I F : TI} {b k x v d : Nat} {R : Nat → Nat} (ok : okR R) (h : Ch I F b R) (h9 : R 1 < 10) (hx : x < 12) (hw : who R x (R 1) = none) : Ch (va_up (va_up (va_up (va_up (va_up (va_up (va_up I (b + 1) (upd (I (b + 1)) (R 1) (nI k))) (b + 2) (upd (I (b + 2)) (R 1) (nI x))) (b + 3) (upd (I (b + 3)) (R 1) (nI v))) (b + 4) (upd (I (b + 4)) (R 1) (nI d))) (b + 5) (upd (I (b + 5)) (R 1) (nI 0))) (b + 6) (upd (I (b + 6)) (R 1) (nI 0))) (b + 7) (upd (I (b + 7)) x (nI (R 1)))) (va_up F b (va_up (F b) 1 (nI (R 1 + 1)))) b (addN R k x v d) := by
  obtain ⟨h1, h2, h3, h4⟩ := h
  have e0 : addN R k x v d 0 = R 0 := by
    unfold addN
    rw [up_n _ _ (by omega), up_n _ _ (by omega), up_n _ _ (by omega), up_n _ _ (by omega), up_n _ _ (by omega), up_n _ _ (by omega), up_n _ _ (by omega)]
  refine ⟨by rw [up_s, up_n _ _ (by decide), e0]; exact h1, by rw [up_s, up_s, add_1], fun m hm => ?_, fun s hs => ?_⟩
  · rw [add_1] at hm
    rw [up_n _ _ (show b + 1 ≠ b + 7 by omega), up_n _ _ (show b + 1 ≠ b + 6 by omega), up_n _ _ (show b + 1 ≠ b + 5 by omega), up_n _ _ (show b + 1 ≠ b + 4 by omega), up_n _ _ (show b + 1 ≠ b + 3 by omega), up_n _ _ (show b + 1 ≠ b + 2 by omega), up_s,
      up_n _ _ (show b + 2 ≠ b + 7 by omega), up_n _ _ (show b + 2 ≠ b + 6 by omega), up_n _ _ (show b + 2 ≠ b + 5 by omega), up_n _ _ (show b + 2 ≠ b + 4 by omega), up_n _ _ (show b + 2 ≠ b + 3 by omega), up_s,
      up_n _ _ (show b + 3 ≠ b + 7 by omega), up_n _ _ (show b + 3 ≠ b + 6 by omega), up_n _ _ (show b + 3 ≠ b + 5 by omega), up_n _ _ (show b + 3 ≠ b + 4 by omega), up_s,
      up_n _ _ (show b + 4 ≠ b + 7 by omega), up_n _ _ (show b + 4 ≠ b + 6 by omega), up_n _ _ (show b + 4 ≠ b + 5 by omega), up_s,
      up_n _ _ (show b + 5 ≠ b + 7 by omega), up_n _ _ (show b + 5 ≠ b + 6 by omega), up_s, up_n _ _ (show b + 6 ≠ b + 7 by omega), up_s]
    by_cases hm2 : m = R 1
    · subst hm2
      obtain ⟨n0, n1, n2, n3, n4, n5⟩ := add_new R k x v d
      rw [pk_us, pk_us, pk_us, pk_us, pk_us, pk_us, n0, n1, n2, n3, n4, n5]
      exact ⟨rfl, rfl, rfl, rfl, rfl, rfl⟩
    · rw [pk_un hm2, pk_un hm2, pk_un hm2, pk_un hm2, pk_un hm2, pk_un hm2, add_old (by omega) (by omega), add_old (by omega) (by omega), add_old (by omega) (by omega), add_old (by omega) (by omega), add_old (by omega) (by omega), add_old (by omega) (by omega)]
      exact h3 m (by omega)
  · rw [up_s, add_1, who_add]
    by_cases hsx : x = s
    · subst hsx; rw [pk_us, if_pos rfl]; rfl
    · rw [pk_un (fun z => hsx z.symm), if_neg hsx]; exact h4 s hs
