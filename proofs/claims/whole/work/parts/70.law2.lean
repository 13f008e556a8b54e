/-! every answer leaves a sound row -/
theorem fir_1 (R : Nat → Nat) (o : Option Nat) : (firSP R o).1 = R := by cases o <;> rfl
theorem o1_seat (R : Nat → Nat) (x : Int32) : (sp_seat R x).1 = R := by
  unfold sp_seat
  repeat' split
  all_goals first | rfl | exact fir_1 _ _
theorem o1_now (R : Nat → Nat) (x : Int32) : (sp_now R x).1 = R := by
  unfold sp_now
  repeat' split
  all_goals first | rfl | exact fir_1 _ _
theorem o1_verse (R : Nat → Nat) (x : Int32) : (sp_verse R x).1 = R := by
  unfold sp_verse
  repeat' split
  all_goals first | rfl | exact fir_1 _ _
theorem o1_of (R : Nat → Nat) (x y : Int32) : (sp_of R x y).1 = R := by
  unfold sp_of
  repeat' split
  all_goals first | rfl | exact fir_1 _ _
theorem o1_as (R : Nat → Nat) (x y : Int32) : (sp_as R x y).1 = R := by
  unfold sp_as
  repeat' split
  all_goals first | rfl | exact fir_1 _ _
theorem o1_on (R : Nat → Nat) (x y z : Int32) : (sp_on R x y z).1 = R := by
  unfold sp_on
  repeat' split
  all_goals first | rfl | exact fir_1 _ _
theorem o1_learns (R : Nat → Nat) (x y : Int32) : (sp_learns R x y).1 = R := by
  unfold sp_learns
  repeat' split
  all_goals first | rfl | exact fir_1 _ _
theorem o1_spreads (R : Nat → Nat) (x : Int32) : (sp_spreads R x).1 = R := by
  unfold sp_spreads
  repeat' split
  all_goals first | rfl | exact fir_1 _ _
theorem o1_heresy (R : Nat → Nat) : (sp_heresy R ).1 = R := by
  unfold sp_heresy
  repeat' split
  all_goals first | rfl | exact fir_1 _ _
theorem o1_best (R : Nat → Nat) (x y : Int32) : (sp_best R x y).1 = R := by
  unfold sp_best
  repeat' split
  all_goals first | rfl | exact fir_1 _ _
theorem o1_kind (R : Nat → Nat) (x y : Int32) : (sp_kind R x y).1 = R := by
  unfold sp_kind
  repeat' split
  all_goals first | rfl | exact fir_1 _ _
theorem o1_deep (R : Nat → Nat) (x y z : Int32) : (sp_deep R x y z).1 = R := by
  unfold sp_deep
  repeat' split
  all_goals first | rfl | exact fir_1 _ _
theorem o1_shift (R : Nat → Nat) (x : Int32) : (sp_shift R x).1 = R := by
  unfold sp_shift
  repeat' split
  all_goals first | rfl | exact fir_1 _ _
theorem o1_bears (R : Nat → Nat) (x y z : Int32) : (sp_bears R x y z).1 = R := by
  unfold sp_bears
  repeat' split
  all_goals first | rfl | exact fir_1 _ _
theorem o1_wisest (R : Nat → Nat) (x : Int32) : (sp_wisest R x).1 = R := by
  unfold sp_wisest
  repeat' split
  all_goals first | rfl | exact fir_1 _ _
theorem o1_count (R : Nat → Nat) (t x : Int32) : (sp_count R t x).1 = R := by
  unfold sp_count
  repeat' split
  all_goals rfl
theorem o1_status (R : Nat → Nat) (f : Nat → Int32) (x : Int32) : (sp_status R f x).1 = R := by
  unfold sp_status
  repeat' split
  all_goals rfl
theorem ok_sp {sp : SP} {R : Nat → Nat} (h : sp.1 = R) (ok : okR R ∧ R 0 ≤ 99999) : okR sp.1 ∧ sp.1 0 ≤ 99999 := by rw [h]; exact ok
theorem om_member {R : Nat → Nat} {k x v : Int32} (h : okR R ∧ R 0 ≤ 99999) : okR (sp_member R k x v).1 ∧ (sp_member R k x v).1 0 ≤ 99999 := by
  unfold sp_member
  split
  · rename_i hc
    obtain ⟨h1, h2, h3⟩ := hc
    obtain ⟨a, ha, rfl⟩ := inB_t (by decide) h1
    obtain ⟨b, hb, rfl⟩ := inB_t (by decide) h2
    obtain ⟨c, hc, rfl⟩ := inB_t (by decide) h3
    rw [cl_n (n := a) (by omega), cl_n (n := b) (by omega), cl_n (n := c) (by omega)]
    split
    · exact h
    · split
      · rename_i q1 q2
        have hn := h.1.1
        exact ⟨ok_add h.1 (by omega) (by omega) (by omega) (by omega) (by omega) q2, by show addN R a b c 5 0 ≤ 99999; rw [add_0]; exact h.2⟩
      · exact h
  · exact h
theorem om_set {R : Nat → Nat} {x y v : Int32} (h : okR R ∧ R 0 ≤ 99999) : okR (sp_set R x y v).1 ∧ (sp_set R x y v).1 0 ≤ 99999 := by
  unfold sp_set
  split
  · rename_i hc
    have hn := h.1.1
    obtain ⟨a, ha, rfl⟩ := isM_t (by omega) hc.1
    obtain ⟨j, u, rfl, rfl, p1, p2, p3, p4, p5, p6⟩ := isPart_t hc.2
    rw [cl_n (n := a) (by omega), cl_n (n := j) (by omega), cl_n (n := u) (by omega)]
    exact ⟨ok_put h.1 ha (by omega) (by omega) (by omega) (fun q => by have := p4 q; omega) p5 (fun q => by omega) (fun q => by have := p6 q; omega), by show va_up R _ _ 0 ≤ 99999; rw [up_n _ _ (by omega)]; exact h.2⟩
  · exact h
theorem om_move {R : Nat → Nat} {x y : Int32} (h : okR R ∧ R 0 ≤ 99999) : okR (sp_move R x y).1 ∧ (sp_move R x y).1 0 ≤ 99999 := by
  unfold sp_move
  split
  · rename_i hc
    have hn := h.1.1
    obtain ⟨a, ha, rfl⟩ := isM_t (by omega) hc.1
    obtain ⟨b, hb, rfl⟩ := inB_t (by decide) hc.2
    rw [cl_n (n := a) (by omega), cl_n (n := b) (by omega)]
    split
    · rename_i hw
      exact ⟨ok_seat h.1 ha (by omega) hw, by show va_up R (2 + 6 * a + 1) b 0 ≤ 99999; rw [up_n _ _ (by omega)]; exact h.2⟩
    · exact h
  · exact h
theorem om_turn {R : Nat → Nat} {x y : Int32} (h : okR R ∧ R 0 ≤ 99999) : okR (sp_turn R x y).1 ∧ (sp_turn R x y).1 0 ≤ 99999 := by
  unfold sp_turn
  split
  · rename_i hc
    have hn := h.1.1
    obtain ⟨a, ha, rfl⟩ := isM_t (by omega) hc.1
    obtain ⟨b, hb, rfl⟩ := inB_t (by decide) hc.2
    rw [cl_n (n := a) (by omega), cl_n (n := b) (by omega)]
    exact ⟨ok_put h.1 ha (by decide) (by omega) (by decide) (by omega) (by omega) (by omega) (by omega), by show va_up R _ _ 0 ≤ 99999; rw [up_n _ _ (by omega)]; exact h.2⟩
  · exact h
theorem om_nights {R : Nat → Nat} {x : Int32} (h : okR R ∧ R 0 ≤ 99999) : okR (sp_nights R x).1 ∧ (sp_nights R x).1 0 ≤ 99999 := by
  unfold sp_nights
  split
  · split
    · rename_i hq
      exact ⟨okR_pas h.1 _, by show pasN R _ 0 ≤ 99999; rw [pas_0]; exact hq⟩
    · exact h
  · exact h
theorem om_undo {R Rk : Nat → Nat} {x : Int32} (h : okR R ∧ R 0 ≤ 99999) (hk : okR Rk ∧ Rk 0 ≤ 99999) : okR (sp_undo R Rk x).1 ∧ (sp_undo R Rk x).1 0 ≤ 99999 := by
  unfold sp_undo
  split
  · exact h
  · exact hk
/-! the sheets -/
theorem lay_0 (R : Nat → Nat) (f : Nat → Int64) : ∀ k, (layN R f k).1 0 = R 0
  | 0 => rfl
  | k + 1 => by
    rw [layN]
    split
    · show va_up (layN R f k).1 (2 + 6 * k + 4) (cl (f k).toInt32) 0 = R 0
      rw [up_n _ _ (by omega)]; exact lay_0 R f k
    · exact lay_0 R f k
theorem lay_ok {R : Nat → Nat} {f : Nat → Int64} (ok : okR R) : ∀ k, k ≤ R 1 → okR (layN R f k).1
  | 0, _ => ok
  | k + 1, hk => by
    have ih := lay_ok (f := f) ok k (by omega)
    rw [layN]
    split
    · rename_i hl
      obtain ⟨q, q1, -, q3⟩ := lay_q hl
      show okR (va_up (layN R f k).1 (2 + 6 * k + 4) (cl (f k).toInt32))
      rw [q3, cl_n (by omega)]
      exact ok_put ih (by rw [lay_1]; omega) (by decide) (by omega) (by decide) (by omega) (by omega) (fun _ => q1) (by omega)
    · exact ih
theorem lay_congr {R : Nat → Nat} {f f2 : Nat → Int64} : ∀ k, (∀ i, i < k → f i = f2 i) → layN R f k = layN R f2 k
  | 0, _ => rfl
  | k + 1, h => by rw [layN, layN, lay_congr k (fun i hi => h i (by omega)), h k (by omega)]
theorem all_congr {p q : Nat → Bool} : ∀ n, (∀ i, i < n → p i = q i) → allB p n = allB q n
  | 0, _ => rfl
  | n + 1, h => by rw [allB, allB, all_congr n (fun i hi => h i (by omega)), h n (by omega)]
theorem rd_congr {R : Nat → Nat} {m o z : Nat} {f f2 : Nat → Int64} (h : ∀ i, i < z → f i = f2 i) : ∀ c, rdC R m o f z c = rdC R m o f2 z c
  | 0 => rfl
  | c + 1 => by
    have e : allB (soF (va_up (va_up R (2 + 6 * m + 0) (c / 6)) (2 + 6 * o + 0) (c % 6)) m f) z = allB (soF (va_up (va_up R (2 + 6 * m + 0) (c / 6)) (2 + 6 * o + 0) (c % 6)) m f2) z := all_congr z (fun i hi => by unfold soF; rw [h i hi])
    rw [rdC, rdC, rd_congr h c, e]
theorem cl_3 {x : Int32} (h : inB x (nI 0) (nI 3) = true) : cl x < 4 ∧ x = nI (cl x) := by
  obtain ⟨a, ha, rfl⟩ := inB_t (by decide) h
  rw [cl_n (by omega)]
  exact ⟨by omega, rfl⟩
section SHEETS
variable {I I1 I2 F F1 F2 : TI} {J J1 J2 : TJ} {w w1 w2 : Int64} {R Rk B : Nat → Nat} {t : Nat} {Z : Nat → Nat}
theorem bd_cl {x : Int32} (h : bdO I x = none) : cl x < 4 := by
  unfold bdO at h
  split at h
  · rename_i q
    exact (cl_3 q).1
  · cases h
theorem step_sheet {x b n : Int32} {v v2 : Value} (hA : LwA I F R) (hK : LwK I F Rk) (h42 : I 42 = I 45) (hT : LwT I F B t) (hS : LwS I F J Z) (hp1 : ShC I J F w x b n v I1 J1 F1 w1) (hp2 : ShM I1 J1 F1 w1 x b n v2 I2 J2 F2 w2) : v = v2 ∧ LwI I2 J2 F2 := by
  obtain ⟨a1, a2, -⟩ := hp1
  obtain ⟨b1, b2, b3, -⟩ := hp2
  cases ho : shO x b n with
  | some k =>
    obtain ⟨c1, c2, c3, c4⟩ := a2 k ho
    obtain ⟨d1, d2, d3⟩ := b2 k ho
    exact ⟨c1.trans d1.symm, step_find hA hK h42 hT hS c2 d2 (b3.trans c4) (d3.trans c3)⟩
  | none =>
    obtain ⟨c1, c2, c3, c4⟩ := a1 ho
    obtain ⟨d1, d2, d3⟩ := b1 ho
    obtain ⟨ha, n0, hn0, hn⟩ : cl x < 4 ∧ ∃ n0 : Nat, n0 ≤ 40 ∧ n = nI n0 := by
      unfold shO at ho
      split at ho
      · rename_i q
        split at ho
        · cases ho
        · rename_i q2
          split at ho
          · rename_i q3
            obtain ⟨j, hj, e⟩ := nI_of2 (M := nI 40) (n := 40) (by decide +kernel) q2 q3
            exact ⟨(cl_3 q.1).1, j, hj, e⟩
          · cases ho
      · cases ho
    generalize cl x = a at *
    subst c2 c3 c4 b3
    have hz : (if b = 0 then nI 0 else n) = nI (if b = 0 then 0 else n0) := by split <;> simp [hn]
    have hi : ∀ Q, Q ≠ 51 → Q ≠ 52 → I2 Q = I1 Q := fun Q p q => by rw [d2, up_n _ _ q, up_n _ _ p]
    refine ⟨c1.trans d1.symm, R, Rk, B, t, va_up Z a (if b = 0 then 0 else n0), la_k hA (fun Q p q => ⟨hi Q (by omega) (by omega), up_n _ _ (by omega)⟩) (hi 44 (by decide) (by decide)), by rw [hi 42 (by decide) (by decide), hi 45 (by decide) (by decide)]; exact h42, lk_k hK (fun Q p q => ⟨hi Q (by omega) (by omega), up_n _ _ (by omega)⟩) (hi 55 (by decide) (by decide)) (by rw [up_n _ _ (by omega)]) (by rw [up_n _ _ (by omega)]), lt_k hT (hi 50 (by decide) (by decide)) (hi 32 (by decide) (by decide)) (by rw [up_n _ _ (by omega)]) (by rw [up_n _ _ (by omega)]), ?_, ?_, ?_⟩
    · intro i hi4
      rw [d2, up_s, hz]
      by_cases hia : i = a
      · subst hia
        simp only [upd, va_up, if_true]
        exact ⟨trivial, by split <;> omega⟩
      · simp only [upd, va_up, hia, if_false]
        exact hS.1 i hi4
    · intro i hi4
      rw [show I2 51 = upd (I1 51) a b by rw [d2, up_n _ _ (by decide), up_s], show I2 52 = upd (I1 52) a (if b = 0 then nI 0 else n) by rw [d2, up_s]]
      by_cases hia : i = a
      · subst hia
        rw [up_s, up_s, up_n _ _ (by decide), up_s]
        simp only [upd, if_true]
        exact ⟨trivial, trivial⟩
      · rw [up_n _ _ (by omega)]
        simp only [upd, hia, if_false]
        exact hS.2.1 i hi4
    · intro i hi4 j hj
      rw [d3, up_n _ _ (by omega), up_s]
      by_cases hia : i = a
      · subst hia
        rw [up_s]
        simp only [zrF]
        rw [if_pos hj, if_pos (by omega)]
      · rw [up_n _ _ (by omega), if_neg (by omega), up_n _ _ (by omega)]
        exact hS.2.2 i hi4 j hj
theorem wr_none {x y : Int32} (hS : LwS I F J Z) (ho : wrO I x y = none) : cl x < 4 ∧ cl y < 40 := by
  unfold wrO at ho
  split at ho
  · rename_i q
    split at ho
    · cases ho
    · split at ho
      · rename_i q3
        have ha := (cl_3 q).1
        rw [(hS.1 _ ha).1] at q3
        have hz := (hS.1 _ ha).2
        obtain ⟨j, hj, e⟩ := isM_t (n := Z (cl x)) (by omega) q3
        rw [e, cl_n (by omega)]
        exact ⟨ha, by omega⟩
      · cases ho
  · cases ho
theorem step_write {x y : Int32} {u : Int64} {v v2 : Value} (hA : LwA I F R) (hK : LwK I F Rk) (h42 : I 42 = I 45) (hT : LwT I F B t) (hS : LwS I F J Z) (hp1 : WrC I J F w x y u v I1 J1 F1 w1) (hp2 : WrM I1 J1 F1 w1 x y u v2 I2 J2 F2 w2) : v = v2 ∧ LwI I2 J2 F2 := by
  obtain ⟨a1, a2, a3, -⟩ := hp1
  obtain ⟨b1, b2, b3, -⟩ := hp2
  cases ho : wrO I x y with
  | some k =>
    obtain ⟨c1, c2, c3⟩ := a2 k ho
    have e51 : I1 51 = I 51 := by rw [c2, fnd, up_n _ _ (by decide)]
    have e52 : I1 52 = I 52 := by rw [c2, fnd, up_n _ _ (by decide)]
    obtain ⟨d1, d2, d3⟩ := b2 k (by unfold wrO at ho ⊢; rw [e51, e52]; exact ho)
    exact ⟨c1.trans d1.symm, step_find hA hK h42 hT hS c2 d2 (b3.trans a3) (d3.trans c3)⟩
  | none =>
    obtain ⟨c1, c2, c3⟩ := a1 ho
    obtain ⟨ha, hy⟩ := wr_none hS ho
    subst c2 c3 a3 b3
    obtain ⟨d1, d2, d3⟩ := b1 ho
    subst d2
    generalize cl x = a at *
    generalize cl y = b at *
    refine ⟨?_, R, Rk, B, t, Z, hA, h42, hK, hT, hS.1, hS.2.1, ?_⟩
    · rw [c1, d1, up_n _ _ (by omega), hS.2.2 a ha b hy]
    · intro i hi4 j hj
      rw [d3, up_n _ _ (by omega), up_s, up_n (k := 35 + 2 * a) (j := 53) _ _ (by omega)]
      by_cases hia : i = a
      · subst hia
        rw [up_s]
        by_cases hjb : j = b
        · subst hjb
          simp [vp_updL]
        · simp only [vp_updL]
          rw [if_neg hjb, if_neg (by omega)]
          exact hS.2.2 i hi4 j hj
      · rw [up_n _ _ (by omega)]
        simp only [vp_updL]
        rw [if_neg (by omega)]
        exact hS.2.2 i hi4 j hj
theorem cp_none {x f y u n : Int32} (hS : LwS I F J Z) (ho : cpO I x f y u n = none) : cl x < 4 ∧ cl y < 4 ∧ cl f + cl n ≤ 40 ∧ cl u + cl n ≤ 40 := by
  unfold cpO at ho
  split at ho
  · rename_i q
    split at ho
    · cases ho
    · split at ho
      · split at ho
        · rename_i q3
          have ha := (cl_3 q.1).1
          have hb := (cl_3 q.2).1
          obtain ⟨p1, p2⟩ := q3
          rw [(hS.1 _ ha).1] at p1
          rw [(hS.1 _ hb).1] at p2
          have h1 := (hS.1 _ ha).2
          have h2 := (hS.1 _ hb).2
          obtain ⟨i1, n1, rfl, rfl, e1⟩ := par_t h1 p1
          obtain ⟨i2, n2, rfl, en, e2⟩ := par_t h2 p2
          have : n1 = n2 := (nI_eq (by omega) (by omega)).mp en
          rw [cl_n (n := i1) (by omega), cl_n (n := i2) (by omega), cl_n (n := n1) (by omega)]
          exact ⟨ha, hb, by omega, by omega⟩
        · cases ho
      · cases ho
  · cases ho
theorem step_copy {x f y u n : Int32} {v v2 : Value} (hA : LwA I F R) (hK : LwK I F Rk) (h42 : I 42 = I 45) (hT : LwT I F B t) (hS : LwS I F J Z) (hp1 : CpC I J F w x f y u n v I1 J1 F1 w1) (hp2 : CpM I1 J1 F1 w1 x f y u n v2 I2 J2 F2 w2) : v = v2 ∧ LwI I2 J2 F2 := by
  obtain ⟨a1, a2, a3, -⟩ := hp1
  obtain ⟨b1, b2, b3, -⟩ := hp2
  cases ho : cpO I x f y u n with
  | some k =>
    obtain ⟨c1, c2, c3⟩ := a2 k ho
    have e51 : I1 51 = I 51 := by rw [c2, fnd, up_n _ _ (by decide)]
    have e52 : I1 52 = I 52 := by rw [c2, fnd, up_n _ _ (by decide)]
    obtain ⟨d1, d2, d3⟩ := b2 k (by unfold cpO at ho ⊢; rw [e51, e52]; exact ho)
    exact ⟨c1.trans d1.symm, step_find hA hK h42 hT hS c2 d2 (b3.trans a3) (d3.trans c3)⟩
  | none =>
    obtain ⟨c1, c2, c3⟩ := a1 ho
    obtain ⟨ha, hb, hf, hu⟩ := cp_none hS ho
    subst c2 c3 a3 b3
    obtain ⟨d1, d2, d3, d4⟩ := b1 ho
    subst d2
    generalize cl x = a at *
    generalize cl y = b at *
    generalize cl f = f0 at *
    generalize cl u = u0 at *
    generalize cl n = n0 at *
    refine ⟨c1.trans d1.symm, R, Rk, B, t, Z, hA, h42, hK, hT, hS.1, hS.2.1, ?_⟩
    intro i hi4 j hj
    rw [d4 _ (by omega) (by omega), d3, up_n (k := 35 + 2 * b) (j := 53) _ _ (by omega)]
    by_cases hib : i = b
    · subst hib
      rw [up_s]
      simp only [va_cpy]
      by_cases hju : u0 ≤ j ∧ j < u0 + n0
      · rw [if_pos hju, if_pos (by omega), hS.2.2 a ha _ (by omega)]
        congr 1
        omega
      · rw [if_neg hju, if_neg (by omega)]
        exact hS.2.2 i hi4 j hj
    · rw [up_n _ _ (by omega)]
      simp only [va_cpy]
      rw [if_neg (by omega)]
      exact hS.2.2 i hi4 j hj
theorem step_lays {x : Int32} {v v2 : Value} (hA : LwA I F R) (hK : LwK I F Rk) (h42 : I 42 = I 45) (hT : LwT I F B t) (hS : LwS I F J Z) (hp1 : LaC I J F w R x Z v I1 J1 F1 w1) (hp2 : LaM I1 J1 F1 w1 R x (Z (cl x)) v2 I2 J2 F2 w2) : v = v2 ∧ LwI I2 J2 F2 := by
  obtain ⟨a1, a2, a3, a4, -⟩ := hp1
  obtain ⟨b1, b2, b3, b4, -⟩ := hp2
  cases ho : bdO I x with
  | some k =>
    obtain ⟨c1, c2⟩ := a2 k ho
    have e51 : I1 51 = I 51 := by rw [c2, fnd, up_n _ _ (by decide)]
    obtain ⟨d1, d2⟩ := b2 k (by unfold bdO at ho ⊢; rw [e51]; exact ho)
    exact ⟨c1.trans d1.symm, step_find hA hK h42 hT hS c2 d2 (b4.trans a4) (b3.trans a3)⟩
  | none =>
    obtain ⟨c1, c2⟩ := a1 ho
    have ha := bd_cl ho
    have hz := (hS.1 _ ha).2
    have e51 : I1 51 = I 51 := c2.2.1 51 (by decide)
    obtain ⟨d1, d2⟩ := b1 (by unfold bdO at ho ⊢; rw [e51]; exact ho)
    subst a3 a4 b3 b4
    generalize cl x = a at *
    have ec : layN R (J2 (35 + 2 * a)) (min (Z a) (R 1)) = layN R (fun i => J2 53 (40 * a + i)) (min (Z a) (R 1)) := lay_congr _ (fun i hi => hS.2.2 a ha i (by omega))
    rw [ec] at c1 c2
    have hi : ∀ Q, ¬ (1 ≤ Q ∧ Q ≤ 20) → Q ≠ 44 → I2 Q = I Q := fun Q p q => by rw [d2, up_n _ _ q]; exact c2.2.1 Q p
    exact ⟨c1.trans d1.symm, _, Rk, B, t, Z, ⟨⟨lay_ok hA.1.1 _ (by omega), by rw [lay_0]; exact hA.1.2⟩, by rw [d2, up_s], ch_eq c2.1 (fun Q p q => ⟨by rw [d2, up_n _ _ (by omega)], rfl⟩)⟩, by rw [hi 42 (by decide) (by decide), hi 45 (by decide) (by decide)]; exact h42, lk_k hK (fun Q p q => ⟨hi Q (by omega) (by omega), rfl⟩) (hi 55 (by decide) (by decide)) rfl rfl, lt_k hT (hi 50 (by decide) (by decide)) (hi 32 (by decide) (by decide)) rfl rfl, ls_k hS (hi 51 (by decide) (by decide)) (hi 52 (by decide) (by decide)) (fun _ _ _ => rfl) rfl⟩
theorem step_bs {P1 : Prop} (hA : LwA I F R) (hK : LwK I F Rk) (h42 : I 42 = I 45) (hT : LwT I F B t) (c2 : BS I F R I1 F1) (d2 : AhS I1 R I2) (e3 : F2 = F1) (hS : LwS I F J Z → LwS I F J2 Z) (h0 : LwS I F J Z) : LwI I2 J2 F2 := by
  subst e3
  have hi : ∀ Q, ¬ (1 ≤ Q ∧ Q ≤ 20) → ¬ (44 ≤ Q ∧ Q ≤ 49) → I2 Q = I Q := fun Q p q => (d2.2 Q (by omega) (by omega) (by omega) (by omega) (by omega)).trans (c2.2.1 Q p)
  have h45 : I2 45 = I 45 := (d2.2 45 (by decide) (by decide) (by decide) (by decide) (by decide)).trans (c2.2.1 45 (by decide))
  exact ⟨R, Rk, B, t, Z, ⟨hA.1, d2.1, ch_eq c2.1 (fun Q p q => ⟨d2.2 Q (by omega) (by omega) (by omega) (by omega) (by omega), rfl⟩)⟩, by rw [hi 42 (by decide) (by decide), h45]; exact h42, lk_k hK (fun Q p q => ⟨hi Q (by omega) (by omega), c2.2.2 Q (by omega)⟩) (hi 55 (by decide) (by decide)) (by rw [c2.2.2 0 (by decide)]) (by rw [c2.2.2 43 (by decide)]), lt_k hT (hi 50 (by decide) (by decide)) (hi 32 (by decide) (by decide)) (by rw [c2.2.2 43 (by decide)]) (by rw [c2.2.2 31 (by decide)]), ls_k (hS h0) (hi 51 (by decide) (by decide)) (hi 52 (by decide) (by decide)) (fun Q p q => c2.2.2 Q (by omega)) rfl⟩
theorem bk_cl {n : Nat} {x y : Int32} (h : bkO I n x y = none) : cl x < 4 := by
  unfold bkO at h
  cases hb : bdO I x with
  | none => exact bd_cl hb
  | some k => rw [hb] at h; cases h
theorem step_book {x y : Int32} {v v2 : Value} (hA : LwA I F R) (hK : LwK I F Rk) (h42 : I 42 = I 45) (hT : LwT I F B t) (hS : LwS I F J Z) (hp1 : BkC I J F w R x y Z v I1 J1 F1 w1) (hp2 : BkM I1 J1 F1 w1 R x y Z v2 I2 J2 F2 w2) : v = v2 ∧ LwI I2 J2 F2 := by
  obtain ⟨a1, a2, -⟩ := hp1
  obtain ⟨b1, b2, b3, -⟩ := hp2
  cases ho : bkO I (R 1) x y with
  | some k =>
    obtain ⟨c1, c2, c3, c4⟩ := a2 k ho
    have e51 : I1 51 = I 51 := by rw [c2, fnd, up_n _ _ (by decide)]
    obtain ⟨d1, d2, d3⟩ := b2 k (by unfold bkO bdO at ho ⊢; rw [e51]; exact ho)
    exact ⟨c1.trans d1.symm, step_find hA hK h42 hT hS c2 d2 (b3.trans c4) (d3.trans c3)⟩
  | none =>
    obtain ⟨c1, c2, c3⟩ := a1 ho
    have ha := bk_cl ho
    have hz := (hS.1 _ ha).2
    have e51 : I1 51 = I 51 := c2.2.1 51 (by decide)
    obtain ⟨d1, d2, d3⟩ := b1 (by unfold bkO bdO at ho ⊢; rw [e51]; exact ho)
    rw [e51] at d3
    generalize cl x = a at *
    refine ⟨c1.trans d1.symm, step_bs (P1 := True) hA hK h42 hT c2 d2 b3 (fun _ => ⟨hS.1, hS.2.1, ?_⟩) hS⟩
    intro i hi4 j hj
    rw [d3, up_n _ _ (by omega), up_s, c3, up_n (k := 35 + 2 * a) (j := 53) _ _ (by omega)]
    by_cases hia : i = a
    · subst hia
      rw [up_s]
      simp only [bkC, bkF]
      by_cases hjz : j < Z i
      · rw [if_pos hjz, if_pos (by omega), show 40 * i + j - 40 * i = j by omega]
      · rw [if_neg hjz, if_neg (by omega)]
        exact hS.2.2 i hi4 j hj
    · rw [up_n _ _ (by omega)]
      simp only [bkF]
      rw [if_neg (by omega)]
      exact hS.2.2 i hi4 j hj
theorem step_read {x y z : Int32} {v v2 : Value} (hA : LwA I F R) (hK : LwK I F Rk) (h42 : I 42 = I 45) (hT : LwT I F B t) (hS : LwS I F J Z) (hp1 : RdC I J F w R x y z Z v I1 J1 F1 w1) (hp2 : RdM I1 J1 F1 w1 R x y z Z v2 I2 J2 F2 w2) : v = v2 ∧ LwI I2 J2 F2 := by
  obtain ⟨a1, a2, a3, -⟩ := hp1
  obtain ⟨b1, b2, b3, b4, -⟩ := hp2
  cases ho : rdO I (R 1) x y z with
  | some k =>
    obtain ⟨c1, c2, c4⟩ := a2 k ho
    have e51 : I1 51 = I 51 := by rw [c2, fnd, up_n _ _ (by decide)]
    obtain ⟨d1, d2⟩ := b2 k (by unfold rdO bdO at ho ⊢; rw [e51]; exact ho)
    exact ⟨c1.trans d1.symm, step_find hA hK h42 hT hS c2 d2 (b4.trans c4) (b3.trans a3)⟩
  | none =>
    obtain ⟨c1, c2⟩ := a1 ho
    have ha : cl x < 4 := (by
      unfold rdO at ho
      cases hb : bdO I x with
      | none => exact bd_cl hb
      | some k => rw [hb] at ho; cases ho)
    have hz := (hS.1 _ ha).2
    have e51 : I1 51 = I 51 := c2.2.1 51 (by decide)
    obtain ⟨d1, d2⟩ := b1 (by unfold rdO bdO at ho ⊢; rw [e51]; exact ho)
    subst a3 b3
    refine ⟨?_, step_bs (P1 := True) hA hK h42 hT c2 d2 b4 (fun q => q) hS⟩
    rw [c1, d1, rd_congr (fun i hi => hS.2.2 (cl x) ha i (by omega))]
end SHEETS
theorem tp_k {I I1 F F1 : TI} {B : Nat → Nat} {t : Nat} (h : TpM I F B t) (e : I1 50 = I 50) (e0 : F1 43 7 = F 43 7) : TpM I1 F1 B t := ⟨e0.trans h.1, h.2.1, fun k hk => by rw [e]; exact h.2.2 k hk⟩
