set_option maxRecDepth 100000 in
set_option maxHeartbeats 4000000 in
theorem c_X0_has {l : Launch} {g : GG} {I : TI} {J : TJ} {F : TI} {w : Int64} {b : Nat} (hb : isB b) {R : Nat → Nat} (ok : okR R) (hC : Ch I F b R) {x : Int32} : UR l g mX0_has [.ref (ga g b), .int x] I J F w (.int (bI (isM (R 1) x))) I J F w := by
  have hn10 := ok.1
  obtain ⟨c0, c1, cm, cs⟩ := hC
  refine ct_start (M := mX0_has) (by decide +kernel) (Nat.le_of_ble_eq_true rfl) ?_
  intro p e s m args below meth c A X hA
  have X : AX p s m args meth c g A cX0_has 2 RX0 (Cond.code yX0_has cX0_has 2 (some .boolean)) (some .boolean) := X
  show AW p l e (rmM 0 0) s m args below meth c g A 2 0 0 (MQ below (CQ g (hp g I J F w) s.heap.size (fun vv0 hh0 => vv0 = some (.int (bI (isM (R 1) x))) ∧ hh0 = hp g I J F w)) args s 0 0 A) 0 [some (.ref (ga g b)), some (.int x)] [] (hp g I J F w)
  refine a_iload_n X dX0_has_0 (i := 1) rfl rfl ?_
  refine a_if_lt X dX0_has_1 (tgt := 16) (by decide) (fun hc1 => ?_) (fun hc1 => ?_)
  · skip
    refine a_iconst X dX0_has_16 (v := nI 0) (by decide +kernel) ?_
    refine a_zret X hA dX0_has_17 (by first | exact nar_bI _ | decide +kernel) ⟨?_, ?_⟩
    · congr 2; first | exact bf0 (isM_neg hc1) | exact bf0 (isM_ge (by omega) hc9) | exact bt1 (isM_lt (by omega) hc1 hc9)
    · rfl
  · skip
    refine a_iload_n X dX0_has_4 (i := 1) rfl rfl ?_
    refine a_aload_n X dX0_has_5 (i := 0) rfl rfl ?_
    refine s_geti X dX0_has_6 fl_X0_15 (ko_b hb) rfl ?_
    rw [c1]
    refine a_icmp_ge X dX0_has_9 (tgt := 16) (by decide) (fun hc9 => ?_) (fun hc9 => ?_)
    · skip
      refine a_iconst X dX0_has_16 (v := nI 0) (by decide +kernel) ?_
      refine a_zret X hA dX0_has_17 (by first | exact nar_bI _ | decide +kernel) ⟨?_, ?_⟩
      · congr 2; first | exact bf0 (isM_neg hc1) | exact bf0 (isM_ge (by omega) hc9) | exact bt1 (isM_lt (by omega) hc1 hc9)
      · rfl
    · skip
      refine a_iconst X dX0_has_12 (v := nI 1) (by decide +kernel) ?_
      refine a_goto X dX0_has_13 (tgt := 17) (by decide) ?_
      refine a_zret X hA dX0_has_17 (by first | exact nar_bI _ | decide +kernel) ⟨?_, ?_⟩
      · congr 2; first | exact bf0 (isM_neg hc1) | exact bf0 (isM_ge (by omega) hc9) | exact bt1 (isM_lt (by omega) hc1 hc9)
      · rfl
set_option maxRecDepth 100000 in
set_option maxHeartbeats 4000000 in
theorem c_X0_isFull {l : Launch} {g : GG} {I : TI} {J : TJ} {F : TI} {w : Int64} {b : Nat} (hb : isB b) {R : Nat → Nat} (ok : okR R) (hC : Ch I F b R) : UR l g mX0_isFull [.ref (ga g b)] I J F w (.int (bI (decide (R 1 = 10)))) I J F w := by
  have hn10 := ok.1
  obtain ⟨c0, c1, cm, cs⟩ := hC
  refine ct_start (M := mX0_isFull) (by decide +kernel) (Nat.le_of_ble_eq_true rfl) ?_
  intro p e s m args below meth c A X hA
  have X : AX p s m args meth c g A cX0_isFull 1 RX0 (Cond.code yX0_isFull cX0_isFull 1 (some .boolean)) (some .boolean) := X
  show AW p l e (rmM 0 0) s m args below meth c g A 1 0 0 (MQ below (CQ g (hp g I J F w) s.heap.size (fun vv0 hh0 => vv0 = some (.int (bI (decide (R 1 = 10)))) ∧ hh0 = hp g I J F w)) args s 0 0 A) 0 [some (.ref (ga g b))] [] (hp g I J F w)
  refine a_aload_n X dX0_isFull_0 (i := 0) rfl rfl ?_
  refine s_geti X dX0_isFull_1 fl_X0_15 (ko_b hb) rfl ?_
  rw [c1]
  refine a_bipush X dX0_isFull_4 (v := nI 10) (by decide +kernel) ?_
  refine s_icmp_ltN X dX0_isFull_6 (tgt := 13) (by decide) (by omega) (by omega) (fun hc6 => ?_) (fun hc6 => ?_)
  · skip
    refine a_iconst X dX0_isFull_13 (v := nI 0) (by decide +kernel) ?_
    refine a_zret X hA dX0_isFull_14 (by first | exact nar_bI _ | decide +kernel) ⟨?_, ?_⟩
    · congr 2; first | exact b1 (by omega) | exact b0 (by omega)
    · rfl
  · skip
    refine a_iconst X dX0_isFull_9 (v := nI 1) (by decide +kernel) ?_
    refine a_goto X dX0_isFull_10 (tgt := 14) (by decide) ?_
    refine a_zret X hA dX0_isFull_14 (by first | exact nar_bI _ | decide +kernel) ⟨?_, ?_⟩
    · congr 2; first | exact b1 (by omega) | exact b0 (by omega)
    · rfl
set_option maxRecDepth 100000 in
set_option maxHeartbeats 4000000 in
theorem c_X0_sitter {l : Launch} {g : GG} {I : TI} {J : TJ} {F : TI} {w : Int64} {b : Nat} (hb : isB b) {R : Nat → Nat} (ok : okR R) (hC : Ch I F b R) {a : Nat} (ha : a < 2 ^ 31) : UR l g mX0_sitter [.ref (ga g b), .int (nI a)] I J F w (.int (wI (who R a (R 1)))) I J F w := by
  have hn10 := ok.1
  obtain ⟨c0, c1, cm, cs⟩ := hC
  refine ct_start (M := mX0_sitter) (by decide +kernel) (Nat.le_of_ble_eq_true rfl) ?_
  intro p e s m args below meth c A X hA
  have X : AX p s m args meth c g A cX0_sitter 2 RX0 (Cond.code yX0_sitter cX0_sitter 2 (some .int)) (some .int) := X
  show AW p l e (rmM 1 22) s m args below meth c g A 2 0 0 (MQ below (CQ g (hp g I J F w) s.heap.size (fun vv0 hh0 => vv0 = some (.int (wI (who R a (R 1)))) ∧ hh0 = hp g I J F w)) args s 0 0 A) 0 [some (.ref (ga g b)), some (.int (nI a))] [] (hp g I J F w)
  refine a_iload_n X dX0_sitter_0 (i := 1) rfl rfl ?_
  refine a_iconst X dX0_sitter_1 (v := nI 0) (by decide +kernel) ?_
  refine a_bipush X dX0_sitter_2 (v := nI 11) (by decide +kernel) ?_
  refine s_callN_R X dX0_sitter_4 lk_X0_58 X.2.2.1.1 c_X4_within ⟨Nat.le_of_ble_eq_true rfl, Nat.le_of_ble_eq_true rfl⟩ rfl rfl (Nat.le_of_ble_eq_true rfl) ⟨Nat.le_of_ble_eq_true rfl, Nat.le_of_ble_eq_true rfl⟩ ?_
  refine a_if_eq X dX0_sitter_7 (tgt := 19) (by decide) (fun hc7 => ?_) (fun hc7 => ?_)
  · skip
    try simp only [bI_0, Bool.not_eq_false] at hc7
    rw [inB_N ha (by decide) (by decide)] at hc7
    have ha12 : 12 ≤ a := by simp at hc7; omega
    refine a_iconst X dX0_sitter_19 (v := (-1)) (by decide +kernel) ?_
    refine a_iret X hA dX0_sitter_20 ⟨?_, ?_⟩
    · first | rfl | (rw [who_big ok ha12]; rfl)
    · rfl
  · skip
    try simp only [bI_0, Bool.not_eq_false] at hc7
    rw [inB_N ha (by decide) (by decide)] at hc7
    have ha12 : a < 12 := by simp at hc7; omega
    refine a_aload_n X dX0_sitter_10 (i := 0) rfl rfl ?_
    refine s_getr X dX0_sitter_11 fl_X0_37 (ko_b hb) rfl ?_
    refine a_iload_n X dX0_sitter_14 (i := 1) rfl rfl ?_
    refine s_ild X dX0_sitter_15 (ki_b7 hb) (by omega) (by decide) ?_
    rw [cs a ha12]
    refine a_goto X dX0_sitter_16 (tgt := 20) (by decide) ?_
    refine a_iret X hA dX0_sitter_20 ⟨?_, ?_⟩
    · first | rfl | (rw [who_big ok ha12]; rfl)
    · rfl
set_option maxRecDepth 100000 in
set_option maxHeartbeats 4000000 in
theorem c_X0_maySit {l : Launch} {g : GG} {I : TI} {J : TJ} {F : TI} {w : Int64} {b : Nat} (hb : isB b) {R : Nat → Nat} (ok : okR R) (hC : Ch I F b R) {a x : Nat} (ha : a < R 1) (hx : x < 12) : UR l g mX0_maySit [.ref (ga g b), .int (nI a), .int (nI x)] I J F w (.int (bI (decide (who R x (R 1) = none ∨ who R x (R 1) = some a)))) I J F w := by
  have hn10 := ok.1
  obtain ⟨c0, c1, cm, cs⟩ := hC
  refine ct_start (M := mX0_maySit) (by decide +kernel) (Nat.le_of_ble_eq_true rfl) ?_
  intro p e s m args below meth c A X hA
  have X : AX p s m args meth c g A cX0_maySit 4 RX0 (Cond.code yX0_maySit cX0_maySit 4 (some .boolean)) (some .boolean) := X
  show AW p l e (rmM 2 43) s m args below meth c g A 4 0 0 (MQ below (CQ g (hp g I J F w) s.heap.size (fun vv0 hh0 => vv0 = some (.int (bI (decide (who R x (R 1) = none ∨ who R x (R 1) = some a)))) ∧ hh0 = hp g I J F w)) args s 0 0 A) 0 [some (.ref (ga g b)), some (.int (nI a)), some (.int (nI x)), none] [] (hp g I J F w)
  refine a_aload_n X dX0_maySit_0 (i := 0) rfl rfl ?_
  refine a_iload_n X dX0_maySit_1 (i := 2) rfl rfl ?_
  refine s_callV_R X dX0_maySit_2 lk_X0_62 (ko_b hb) rfl rfl (c_X0_sitter hb ok ⟨c0, c1, cm, cs⟩ (by omega)) ⟨Nat.le_of_ble_eq_true rfl, Nat.le_of_ble_eq_true rfl⟩ rfl rfl (Nat.le_of_ble_eq_true rfl) ⟨Nat.le_of_ble_eq_true rfl, Nat.le_of_ble_eq_true rfl⟩ ?_
  refine a_istore_n X dX0_maySit_5 (i := 3) rfl (by decide) rfl ?_
  refine a_iload_n X dX0_maySit_6 (i := 3) rfl rfl ?_
  refine a_iconst X dX0_maySit_7 (v := (-1)) (by decide +kernel) ?_
  refine a_icmp_eq X dX0_maySit_8 (tgt := 16) (by decide) (fun hc8 => ?_) (fun hc8 => ?_)
  · skip
    have hw := (wI_eq (who_b hn10)).mp hc8
    refine a_iconst X dX0_maySit_16 (v := nI 1) (by decide +kernel) ?_
    refine a_goto X dX0_maySit_17 (tgt := 21) (by decide) ?_
    refine a_zret X hA dX0_maySit_21 (by first | exact nar_bI _ | decide +kernel) ⟨?_, ?_⟩
    · congr 2; first | exact b1 (Or.inl hw) | exact b1 (Or.inr (by rw [hc13])) | exact b0 (by simp; omega)
    · rfl
  · skip
    obtain ⟨q, hw⟩ : ∃ q, who R x (R 1) = some q := by
      cases h : who R x (R 1) with
      | none => exact absurd (by rw [h]; rfl) hc8
      | some q => exact ⟨q, rfl⟩
    have hq := (who_lt hw).1
    rw [hw, wI_s]
    refine a_iload_n X dX0_maySit_11 (i := 3) rfl rfl ?_
    refine a_iload_n X dX0_maySit_12 (i := 1) rfl rfl ?_
    refine s_icmp_neN X dX0_maySit_13 (tgt := 20) (by decide) (by omega) (by omega) (fun hc13 => ?_) (fun hc13 => ?_)
    · skip
      refine a_iconst X dX0_maySit_20 (v := nI 0) (by decide +kernel) ?_
      refine a_zret X hA dX0_maySit_21 (by first | exact nar_bI _ | decide +kernel) ⟨?_, ?_⟩
      · congr 2; first | exact b1 (Or.inl hw) | exact b1 (Or.inr (by rw [hc13])) | exact b0 (by simp; omega)
      · rfl
    · skip
      refine a_iconst X dX0_maySit_16 (v := nI 1) (by decide +kernel) ?_
      refine a_goto X dX0_maySit_17 (tgt := 21) (by decide) ?_
      refine a_zret X hA dX0_maySit_21 (by first | exact nar_bI _ | decide +kernel) ⟨?_, ?_⟩
      · congr 2; first | exact b1 (Or.inl hw) | exact b1 (Or.inr (by rw [hc13])) | exact b0 (by simp; omega)
      · rfl
set_option maxRecDepth 100000 in
set_option maxHeartbeats 4000000 in
theorem c_X0_leastEmptySeat {l : Launch} {g : GG} {I : TI} {J : TJ} {F : TI} {w : Int64} {b : Nat} (hb : isB b) {R : Nat → Nat} (ok : okR R) (hC : Ch I F b R) : UR l g mX0_leastEmptySeat [.ref (ga g b)] I J F w (.int (nI (emp R (R 1) 12 0))) I J F w := by
  have hn10 := ok.1
  obtain ⟨c0, c1, cm, cs⟩ := hC
  refine ct_start (M := mX0_leastEmptySeat) (by decide +kernel) (Nat.le_of_ble_eq_true rfl) ?_
  intro p e s m args below meth c A X hA
  have X : AX p s m args meth c g A cX0_leastEmptySeat 2 RX0 (Cond.code yX0_leastEmptySeat cX0_leastEmptySeat 2 (some .int)) (some .int) := X
  show AW p l e (rmM 0 0) s m args below meth c g A 2 0 0 (MQ below (CQ g (hp g I J F w) s.heap.size (fun vv0 hh0 => vv0 = some (.int (nI (emp R (R 1) 12 0))) ∧ hh0 = hp g I J F w)) args s 0 0 A) 0 [some (.ref (ga g b)), none] [] (hp g I J F w)
  have L2 : ∀ (fu : Nat) (k : Nat), 12 - k < fu → (k ≤ 12) → (emp R (R 1) (12 - k) k = emp R (R 1) 12 0) → AW p l e (rmM 0 0) s m args below meth c g A 2 0 0 (MQ below (CQ g (hp g I J F w) s.heap.size (fun vv0 hh0 => vv0 = some (.int (nI (emp R (R 1) 12 0))) ∧ hh0 = hp g I J F w)) args s 0 0 A) 2 [some (.ref (ga g b)), some (.int (nI k))] [] (hp g I J F w) := by
    intro fu
    induction fu with
    | zero => intro k hfu; exact absurd hfu (by omega)
    | succ fu ih =>
      intro k hfu hk he
      refine a_iload_n X dX0_leastEmptySeat_2 (i := 1) rfl rfl ?_
      refine a_bipush X dX0_leastEmptySeat_3 (v := nI 12) (by decide +kernel) ?_
      refine s_icmp_geN X dX0_leastEmptySeat_5 (tgt := 24) (by decide) (by omega) (by omega) (fun hc5 => ?_) (fun hc5 => ?_)
      · skip
        refine a_iload_n X dX0_leastEmptySeat_24 (i := 1) rfl rfl ?_
        refine a_iret X hA dX0_leastEmptySeat_25 ⟨?_, ?_⟩
        · congr 2; congr 1; rw [← he]; first | (rw [show k = 12 by omega]; rfl) | rw [emp_hit ((wI_eq (who_b hn10)).mp hc15)]
        · rfl
      · skip
        have hk12 : k < 12 := by omega
        refine a_aload_n X dX0_leastEmptySeat_8 (i := 0) rfl rfl ?_
        refine s_getr X dX0_leastEmptySeat_9 fl_X0_37 (ko_b hb) rfl ?_
        refine a_iload_n X dX0_leastEmptySeat_12 (i := 1) rfl rfl ?_
        refine s_ild X dX0_leastEmptySeat_13 (ki_b7 hb) (by omega) (by decide) ?_
        rw [cs k hk12]
        refine a_iconst X dX0_leastEmptySeat_14 (v := (-1)) (by decide +kernel) ?_
        refine a_icmp_eq X dX0_leastEmptySeat_15 (tgt := 24) (by decide) (fun hc15 => ?_) (fun hc15 => ?_)
        · skip
          refine a_iload_n X dX0_leastEmptySeat_24 (i := 1) rfl rfl ?_
          refine a_iret X hA dX0_leastEmptySeat_25 ⟨?_, ?_⟩
          · congr 2; congr 1; rw [← he]; first | (rw [show k = 12 by omega]; rfl) | rw [emp_hit ((wI_eq (who_b hn10)).mp hc15)]
          · rfl
        · skip
          refine a_iinc X dX0_leastEmptySeat_18 rfl (v := nI (_ + 1)) (iincN _ 1) (by decide) rfl ?_
          refine a_goto X dX0_leastEmptySeat_21 (tgt := 2) (by decide) ?_
          exact ih (k + 1) (by omega) (by omega) ((emp_go hk12 (fun z => hc15 (by rw [z]; rfl))).symm.trans he)
  refine a_iconst X dX0_leastEmptySeat_0 (v := nI 0) (by decide +kernel) ?_
  refine a_istore_n X dX0_leastEmptySeat_1 (i := 1) rfl (by decide) rfl ?_
  exact L2 13 0 (by omega) (by omega) rfl
set_option maxRecDepth 100000 in
set_option maxHeartbeats 4000000 in
theorem c_X0_sitterInOrder {l : Launch} {g : GG} {I : TI} {J : TJ} {F : TI} {w : Int64} {b : Nat} (hb : isB b) {R : Nat → Nat} (ok : okR R) (hC : Ch I F b R) {j : Nat} (hj : j < 2 ^ 31) : UR l g mX0_sitterInOrder [.ref (ga g b), .int (nI j)] I J F w (.int (wI (ordS R (R 1) 12 0 j))) I J F w := by
  have hn10 := ok.1
  obtain ⟨c0, c1, cm, cs⟩ := hC
  refine ct_start (M := mX0_sitterInOrder) (by decide +kernel) (Nat.le_of_ble_eq_true rfl) ?_
  intro p e s m args below meth c A X hA
  have X : AX p s m args meth c g A cX0_sitterInOrder 4 RX0 (Cond.code yX0_sitterInOrder cX0_sitterInOrder 4 (some .int)) (some .int) := X
  show AW p l e (rmM 0 0) s m args below meth c g A 4 0 0 (MQ below (CQ g (hp g I J F w) s.heap.size (fun vv0 hh0 => vv0 = some (.int (wI (ordS R (R 1) 12 0 j))) ∧ hh0 = hp g I J F w)) args s 0 0 A) 0 [some (.ref (ga g b)), some (.int (nI j)), none, none] [] (hp g I J F w)
  have L4 : ∀ (fu : Nat) (i : Nat) (k : Nat), 12 - k < fu → (k ≤ 12) → (i ≤ k ∧ i ≤ j) → (ordS R (R 1) (12 - k) k (j - i) = ordS R (R 1) 12 0 j) → AW p l e (rmM 0 0) s m args below meth c g A 4 0 0 (MQ below (CQ g (hp g I J F w) s.heap.size (fun vv0 hh0 => vv0 = some (.int (wI (ordS R (R 1) 12 0 j))) ∧ hh0 = hp g I J F w)) args s 0 0 A) 4 [some (.ref (ga g b)), some (.int (nI j)), some (.int (nI i)), some (.int (nI k))] [] (hp g I J F w) := by
    intro fu
    induction fu with
    | zero => intro i k hfu; exact absurd hfu (by omega)
    | succ fu ih =>
      intro i k hfu hk hi he
      refine a_iload_n X dX0_sitterInOrder_4 (i := 3) rfl rfl ?_
      refine a_bipush X dX0_sitterInOrder_5 (v := nI 12) (by decide +kernel) ?_
      refine s_icmp_geN X dX0_sitterInOrder_7 (tgt := 41) (by decide) (by omega) (by omega) (fun hc7 => ?_) (fun hc7 => ?_)
      · skip
        refine a_iconst X dX0_sitterInOrder_41 (v := (-1)) (by decide +kernel) ?_
        refine a_iret X hA dX0_sitterInOrder_42 ⟨?_, ?_⟩
        · congr 2; rw [← he, show k = 12 by omega]; rfl
        · rfl
      · skip
        have hk12 : k < 12 := by omega
        refine a_aload_n X dX0_sitterInOrder_10 (i := 0) rfl rfl ?_
        refine s_getr X dX0_sitterInOrder_11 fl_X0_37 (ko_b hb) rfl ?_
        refine a_iload_n X dX0_sitterInOrder_14 (i := 3) rfl rfl ?_
        refine s_ild X dX0_sitterInOrder_15 (ki_b7 hb) (by omega) (by decide) ?_
        rw [cs k hk12]
        refine a_iconst X dX0_sitterInOrder_16 (v := (-1)) (by decide +kernel) ?_
        refine a_icmp_eq X dX0_sitterInOrder_17 (tgt := 35) (by decide) (fun hc17 => ?_) (fun hc17 => ?_)
        · skip
          have hw := (wI_eq (who_b hn10)).mp hc17
          refine a_iinc X dX0_sitterInOrder_35 rfl (v := nI (_ + 1)) (iincN _ 1) (by decide) rfl ?_
          refine a_goto X dX0_sitterInOrder_38 (tgt := 4) (by decide) ?_
          first
            | exact ih i (k + 1) (by omega) (by omega) (by omega) ((ord_stepN hk12 hw).symm.trans he)
            | exact ih (i + 1) (k + 1) (by omega) (by omega) (by omega) (by rw [show j - (i + 1) = j - i - 1 by omega]; exact (ord_stepS hk12 hw (by omega)).symm.trans he)
        · skip
          obtain ⟨q, hw⟩ : ∃ q, who R k (R 1) = some q := by
            cases h : who R k (R 1) with
            | none => exact absurd (by rw [h]; rfl) hc17
            | some q => exact ⟨q, rfl⟩
          refine a_iload_n X dX0_sitterInOrder_20 (i := 2) rfl rfl ?_
          refine a_iload_n X dX0_sitterInOrder_21 (i := 1) rfl rfl ?_
          refine s_icmp_neN X dX0_sitterInOrder_22 (tgt := 32) (by decide) (by omega) (by omega) (fun hc22 => ?_) (fun hc22 => ?_)
          · skip
            refine a_iinc X dX0_sitterInOrder_32 rfl (v := nI (_ + 1)) (iincN _ 1) (by decide) rfl ?_
            refine a_iinc X dX0_sitterInOrder_35 rfl (v := nI (_ + 1)) (iincN _ 1) (by decide) rfl ?_
            refine a_goto X dX0_sitterInOrder_38 (tgt := 4) (by decide) ?_
            first
              | exact ih i (k + 1) (by omega) (by omega) (by omega) ((ord_stepN hk12 hw).symm.trans he)
              | exact ih (i + 1) (k + 1) (by omega) (by omega) (by omega) (by rw [show j - (i + 1) = j - i - 1 by omega]; exact (ord_stepS hk12 hw (by omega)).symm.trans he)
          · skip
            refine a_aload_n X dX0_sitterInOrder_25 (i := 0) rfl rfl ?_
            refine s_getr X dX0_sitterInOrder_26 fl_X0_37 (ko_b hb) rfl ?_
            refine a_iload_n X dX0_sitterInOrder_29 (i := 3) rfl rfl ?_
            refine s_ild X dX0_sitterInOrder_30 (ki_b7 hb) (by omega) (by decide) ?_
            rw [cs k hk12]
            refine a_iret X hA dX0_sitterInOrder_31 ⟨?_, ?_⟩
            · congr 2; rw [← he, show j - i = 0 by omega, ord_hit hk12 hw, hw]
            · rfl
  refine a_iconst X dX0_sitterInOrder_0 (v := nI 0) (by decide +kernel) ?_
  refine a_istore_n X dX0_sitterInOrder_1 (i := 2) rfl (by decide) rfl ?_
  refine a_iconst X dX0_sitterInOrder_2 (v := nI 0) (by decide +kernel) ?_
  refine a_istore_n X dX0_sitterInOrder_3 (i := 3) rfl (by decide) rfl ?_
  exact L4 13 0 0 (by omega) (by omega) (by omega) rfl
set_option maxRecDepth 100000 in
set_option maxHeartbeats 4000000 in
theorem c_X0_versesBorne {l : Launch} {g : GG} {I : TI} {J : TJ} {F : TI} {w : Int64} {b : Nat} (hb : isB b) {R : Nat → Nat} (ok : okR R) (hC : Ch I F b R) : UR l g mX0_versesBorne [.ref (ga g b)] I J F w (.int (orF (fun m => nI 1 <<< (nI (R (2 + 6 * m + 2)) &&& 31)) (R 1))) I J F w := by
  have hn10 := ok.1
  obtain ⟨c0, c1, cm, cs⟩ := hC
  refine ct_start (M := mX0_versesBorne) (by decide +kernel) (Nat.le_of_ble_eq_true rfl) ?_
  intro p e s m args below meth c A X hA
  have X : AX p s m args meth c g A cX0_versesBorne 3 RX0 (Cond.code yX0_versesBorne cX0_versesBorne 3 (some .int)) (some .int) := X
  show AW p l e (rmM 0 0) s m args below meth c g A 3 0 0 (MQ below (CQ g (hp g I J F w) s.heap.size (fun vv0 hh0 => vv0 = some (.int (orF (fun m => nI 1 <<< (nI (R (2 + 6 * m + 2)) &&& 31)) (R 1))) ∧ hh0 = hp g I J F w)) args s 0 0 A) 0 [some (.ref (ga g b)), none, none] [] (hp g I J F w)
  have L4 : ∀ (fu : Nat) (k : Nat), R 1 - k < fu → (k ≤ R 1) → AW p l e (rmM 0 0) s m args below meth c g A 3 0 0 (MQ below (CQ g (hp g I J F w) s.heap.size (fun vv0 hh0 => vv0 = some (.int (orF (fun m => nI 1 <<< (nI (R (2 + 6 * m + 2)) &&& 31)) (R 1))) ∧ hh0 = hp g I J F w)) args s 0 0 A) 4 [some (.ref (ga g b)), some (.int (orF (fun m => nI 1 <<< (nI (R (2 + 6 * m + 2)) &&& 31)) k)), some (.int (nI k))] [] (hp g I J F w) := by
    intro fu
    induction fu with
    | zero => intro k hfu; exact absurd hfu (by omega)
    | succ fu ih =>
      intro k hfu hk
      refine a_iload_n X dX0_versesBorne_4 (i := 2) rfl rfl ?_
      refine a_aload_n X dX0_versesBorne_5 (i := 0) rfl rfl ?_
      refine s_geti X dX0_versesBorne_6 fl_X0_15 (ko_b hb) rfl ?_
      rw [c1]
      refine s_icmp_geN X dX0_versesBorne_9 (tgt := 29) (by decide) (by omega) (by omega) (fun hc9 => ?_) (fun hc9 => ?_)
      · skip
        have hk2 : k = R 1 := by omega
        subst hk2
        refine a_iload_n X dX0_versesBorne_29 (i := 1) rfl rfl ?_
        exact a_iret X hA dX0_versesBorne_30 ⟨rfl, rfl⟩
      · skip
        have hlt : k < R 1 := by omega
        obtain ⟨m0, m1, m2, m3, m4, m5⟩ := cm k hlt
        refine a_iload_n X dX0_versesBorne_12 (i := 1) rfl rfl ?_
        refine a_iconst X dX0_versesBorne_13 (v := nI 1) (by decide +kernel) ?_
        refine a_aload_n X dX0_versesBorne_14 (i := 0) rfl rfl ?_
        refine s_getr X dX0_versesBorne_15 fl_X0_25 (ko_b hb) rfl ?_
        refine a_iload_n X dX0_versesBorne_18 (i := 2) rfl rfl ?_
        refine s_ild X dX0_versesBorne_19 (ki_b3 hb) (by omega) (by decide) ?_
        rw [m2]
        refine a_ishl X dX0_versesBorne_20 ?_
        refine a_ior X dX0_versesBorne_21 ?_
        refine a_istore_n X dX0_versesBorne_22 (i := 1) rfl (by decide) rfl ?_
        refine a_iinc X dX0_versesBorne_23 rfl (v := nI (_ + 1)) (iincN _ 1) (by decide) rfl ?_
        refine a_goto X dX0_versesBorne_26 (tgt := 4) (by decide) ?_
        exact ih (k + 1) (by omega) (by omega)
  refine a_iconst X dX0_versesBorne_0 (v := nI 0) (by decide +kernel) ?_
  refine a_istore_n X dX0_versesBorne_1 (i := 1) rfl (by decide) rfl ?_
  refine a_iconst X dX0_versesBorne_2 (v := nI 0) (by decide +kernel) ?_
  refine a_istore_n X dX0_versesBorne_3 (i := 2) rfl (by decide) rfl ?_
  exact L4 (R 1 + 1) 0 (by omega) (by omega)
set_option maxRecDepth 100000 in
set_option maxHeartbeats 4000000 in
theorem c_X0_versesKnown {l : Launch} {g : GG} {I : TI} {J : TJ} {F : TI} {w : Int64} {b : Nat} (hb : isB b) {R : Nat → Nat} (ok : okR R) (hC : Ch I F b R) : UR l g mX0_versesKnown [.ref (ga g b)] I J F w (.int (orF (fun m => nI (R (2 + 6 * m + 4))) (R 1))) I J F w := by
  have hn10 := ok.1
  obtain ⟨c0, c1, cm, cs⟩ := hC
  refine ct_start (M := mX0_versesKnown) (by decide +kernel) (Nat.le_of_ble_eq_true rfl) ?_
  intro p e s m args below meth c A X hA
  have X : AX p s m args meth c g A cX0_versesKnown 3 RX0 (Cond.code yX0_versesKnown cX0_versesKnown 3 (some .int)) (some .int) := X
  show AW p l e (rmM 0 0) s m args below meth c g A 3 0 0 (MQ below (CQ g (hp g I J F w) s.heap.size (fun vv0 hh0 => vv0 = some (.int (orF (fun m => nI (R (2 + 6 * m + 4))) (R 1))) ∧ hh0 = hp g I J F w)) args s 0 0 A) 0 [some (.ref (ga g b)), none, none] [] (hp g I J F w)
  have L4 : ∀ (fu : Nat) (k : Nat), R 1 - k < fu → (k ≤ R 1) → AW p l e (rmM 0 0) s m args below meth c g A 3 0 0 (MQ below (CQ g (hp g I J F w) s.heap.size (fun vv0 hh0 => vv0 = some (.int (orF (fun m => nI (R (2 + 6 * m + 4))) (R 1))) ∧ hh0 = hp g I J F w)) args s 0 0 A) 4 [some (.ref (ga g b)), some (.int (orF (fun m => nI (R (2 + 6 * m + 4))) k)), some (.int (nI k))] [] (hp g I J F w) := by
    intro fu
    induction fu with
    | zero => intro k hfu; exact absurd hfu (by omega)
    | succ fu ih =>
      intro k hfu hk
      refine a_iload_n X dX0_versesKnown_4 (i := 2) rfl rfl ?_
      refine a_aload_n X dX0_versesKnown_5 (i := 0) rfl rfl ?_
      refine s_geti X dX0_versesKnown_6 fl_X0_15 (ko_b hb) rfl ?_
      rw [c1]
      refine s_icmp_geN X dX0_versesKnown_9 (tgt := 27) (by decide) (by omega) (by omega) (fun hc9 => ?_) (fun hc9 => ?_)
      · skip
        have hk2 : k = R 1 := by omega
        subst hk2
        refine a_iload_n X dX0_versesKnown_27 (i := 1) rfl rfl ?_
        exact a_iret X hA dX0_versesKnown_28 ⟨rfl, rfl⟩
      · skip
        have hlt : k < R 1 := by omega
        obtain ⟨m0, m1, m2, m3, m4, m5⟩ := cm k hlt
        refine a_iload_n X dX0_versesKnown_12 (i := 1) rfl rfl ?_
        refine a_aload_n X dX0_versesKnown_13 (i := 0) rfl rfl ?_
        refine s_getr X dX0_versesKnown_14 fl_X0_31 (ko_b hb) rfl ?_
        refine a_iload_n X dX0_versesKnown_17 (i := 2) rfl rfl ?_
        refine s_ild X dX0_versesKnown_18 (ki_b5 hb) (by omega) (by decide) ?_
        rw [m4]
        refine a_ior X dX0_versesKnown_19 ?_
        refine a_istore_n X dX0_versesKnown_20 (i := 1) rfl (by decide) rfl ?_
        refine a_iinc X dX0_versesKnown_21 rfl (v := nI (_ + 1)) (iincN _ 1) (by decide) rfl ?_
        refine a_goto X dX0_versesKnown_24 (tgt := 4) (by decide) ?_
        exact ih (k + 1) (by omega) (by omega)
  refine a_iconst X dX0_versesKnown_0 (v := nI 0) (by decide +kernel) ?_
  refine a_istore_n X dX0_versesKnown_1 (i := 1) rfl (by decide) rfl ?_
  refine a_iconst X dX0_versesKnown_2 (v := nI 0) (by decide +kernel) ?_
  refine a_istore_n X dX0_versesKnown_3 (i := 2) rfl (by decide) rfl ?_
  exact L4 (R 1 + 1) 0 (by omega) (by omega)
set_option maxRecDepth 100000 in
set_option maxHeartbeats 4000000 in
theorem c_X0_knownBy {l : Launch} {g : GG} {I : TI} {J : TJ} {F : TI} {w : Int64} {b : Nat} (hb : isB b) {R : Nat → Nat} (ok : okR R) (hC : Ch I F b R) {a : Nat} (ha : a < R 1) : UR l g mX0_knownBy [.ref (ga g b), .int (nI a)] I J F w (.int (nI (pcn (R (2 + 6 * a + 4))))) I J F w := by
  have hn10 := ok.1
  obtain ⟨c0, c1, cm, cs⟩ := hC
  obtain ⟨m0, m1, m2, m3, m4, m5⟩ := cm a ha
  obtain ⟨g0, g1, g2, g3, g4, g5⟩ := ok.2.1 a ha
  refine ct_start (M := mX0_knownBy) (by decide +kernel) (Nat.le_of_ble_eq_true rfl) ?_
  intro p e s m args below meth c A X hA
  have X : AX p s m args meth c g A cX0_knownBy 2 RX0 (Cond.code yX0_knownBy cX0_knownBy 2 (some .int)) (some .int) := X
  show AW p l e (rmM 1 20) s m args below meth c g A 2 0 0 (MQ below (CQ g (hp g I J F w) s.heap.size (fun vv0 hh0 => vv0 = some (.int (nI (pcn (R (2 + 6 * a + 4))))) ∧ hh0 = hp g I J F w)) args s 0 0 A) 0 [some (.ref (ga g b)), some (.int (nI a))] [] (hp g I J F w)
  refine a_aload_n X dX0_knownBy_0 (i := 0) rfl rfl ?_
  refine s_getr X dX0_knownBy_1 fl_X0_31 (ko_b hb) rfl ?_
  refine a_iload_n X dX0_knownBy_4 (i := 1) rfl rfl ?_
  refine s_ild X dX0_knownBy_5 (ki_b5 hb) (by omega) (by decide) ?_
  rw [m4]
  refine s_callS_R X dX0_knownBy_6 lk_X0_69 (c_J6_bitCount (by omega)) ⟨Nat.le_of_ble_eq_true rfl, Nat.le_of_ble_eq_true rfl⟩ rfl rfl (Nat.le_of_ble_eq_true rfl) ⟨Nat.le_of_ble_eq_true rfl, Nat.le_of_ble_eq_true rfl⟩ ?_
  exact a_iret X hA dX0_knownBy_9 ⟨rfl, rfl⟩
set_option maxRecDepth 100000 in
set_option maxHeartbeats 4000000 in
theorem c_X0_knownTogether {l : Launch} {g : GG} {I : TI} {J : TJ} {F : TI} {w : Int64} {b : Nat} (hb : isB b) {R : Nat → Nat} (ok : okR R) (hC : Ch I F b R) : UR l g mX0_knownTogether [.ref (ga g b)] I J F w (.int (sumF (fun m => nI (pcn (R (2 + 6 * m + 4)))) (R 1))) I J F w := by
  have hn10 := ok.1
  obtain ⟨c0, c1, cm, cs⟩ := hC
  refine ct_start (M := mX0_knownTogether) (by decide +kernel) (Nat.le_of_ble_eq_true rfl) ?_
  intro p e s m args below meth c A X hA
  have X : AX p s m args meth c g A cX0_knownTogether 3 RX0 (Cond.code yX0_knownTogether cX0_knownTogether 3 (some .int)) (some .int) := X
  show AW p l e (rmM 2 41) s m args below meth c g A 3 0 0 (MQ below (CQ g (hp g I J F w) s.heap.size (fun vv0 hh0 => vv0 = some (.int (sumF (fun m => nI (pcn (R (2 + 6 * m + 4)))) (R 1))) ∧ hh0 = hp g I J F w)) args s 0 0 A) 0 [some (.ref (ga g b)), none, none] [] (hp g I J F w)
  have L4 : ∀ (fu : Nat) (k : Nat), R 1 - k < fu → (k ≤ R 1) → AW p l e (rmM 2 41) s m args below meth c g A 3 0 0 (MQ below (CQ g (hp g I J F w) s.heap.size (fun vv0 hh0 => vv0 = some (.int (sumF (fun m => nI (pcn (R (2 + 6 * m + 4)))) (R 1))) ∧ hh0 = hp g I J F w)) args s 0 0 A) 4 [some (.ref (ga g b)), some (.int (sumF (fun m => nI (pcn (R (2 + 6 * m + 4)))) k)), some (.int (nI k))] [] (hp g I J F w) := by
    intro fu
    induction fu with
    | zero => intro k hfu; exact absurd hfu (by omega)
    | succ fu ih =>
      intro k hfu hk
      refine a_iload_n X dX0_knownTogether_4 (i := 2) rfl rfl ?_
      refine a_aload_n X dX0_knownTogether_5 (i := 0) rfl rfl ?_
      refine s_geti X dX0_knownTogether_6 fl_X0_15 (ko_b hb) rfl ?_
      rw [c1]
      refine s_icmp_geN X dX0_knownTogether_9 (tgt := 26) (by decide) (by omega) (by omega) (fun hc9 => ?_) (fun hc9 => ?_)
      · skip
        have hk2 : k = R 1 := by omega
        subst hk2
        refine a_iload_n X dX0_knownTogether_26 (i := 1) rfl rfl ?_
        exact a_iret X hA dX0_knownTogether_27 ⟨rfl, rfl⟩
      · skip
        have hlt : k < R 1 := by omega
        obtain ⟨m0, m1, m2, m3, m4, m5⟩ := cm k hlt
        refine a_iload_n X dX0_knownTogether_12 (i := 1) rfl rfl ?_
        refine a_aload_n X dX0_knownTogether_13 (i := 0) rfl rfl ?_
        refine a_iload_n X dX0_knownTogether_14 (i := 2) rfl rfl ?_
        refine s_callV_R X dX0_knownTogether_15 lk_X0_66 (ko_b hb) rfl rfl (c_X0_knownBy hb ok ⟨c0, c1, cm, cs⟩ hlt) ⟨Nat.le_of_ble_eq_true rfl, Nat.le_of_ble_eq_true rfl⟩ rfl rfl (Nat.le_of_ble_eq_true rfl) ⟨Nat.le_of_ble_eq_true rfl, Nat.le_of_ble_eq_true rfl⟩ ?_
        refine a_iadd X dX0_knownTogether_18 ?_
        refine a_istore_n X dX0_knownTogether_19 (i := 1) rfl (by decide) rfl ?_
        refine a_iinc X dX0_knownTogether_20 rfl (v := nI (_ + 1)) (iincN _ 1) (by decide) rfl ?_
        refine a_goto X dX0_knownTogether_23 (tgt := 4) (by decide) ?_
        exact ih (k + 1) (by omega) (by omega)
  refine a_iconst X dX0_knownTogether_0 (v := nI 0) (by decide +kernel) ?_
  refine a_istore_n X dX0_knownTogether_1 (i := 1) rfl (by decide) rfl ?_
  refine a_iconst X dX0_knownTogether_2 (v := nI 0) (by decide +kernel) ?_
  refine a_istore_n X dX0_knownTogether_3 (i := 2) rfl (by decide) rfl ?_
  exact L4 (R 1 + 1) 0 (by omega) (by omega)
set_option maxRecDepth 100000 in
set_option maxHeartbeats 4000000 in
theorem c_X0_doesKnow {l : Launch} {g : GG} {I : TI} {J : TJ} {F : TI} {w : Int64} {b : Nat} (hb : isB b) {R : Nat → Nat} (ok : okR R) (hC : Ch I F b R) {a v : Nat} (ha : a < R 1) (hv : v < 10) : UR l g mX0_doesKnow [.ref (ga g b), .int (nI a), .int (nI v)] I J F w (.int (bI ((R (2 + 6 * a + 4)).testBit v))) I J F w := by
  have hn10 := ok.1
  obtain ⟨c0, c1, cm, cs⟩ := hC
  obtain ⟨m0, m1, m2, m3, m4, m5⟩ := cm a ha
  obtain ⟨g0, g1, g2, g3, g4, g5⟩ := ok.2.1 a ha
  refine ct_start (M := mX0_doesKnow) (by decide +kernel) (Nat.le_of_ble_eq_true rfl) ?_
  intro p e s m args below meth c A X hA
  have X : AX p s m args meth c g A cX0_doesKnow 3 RX0 (Cond.code yX0_doesKnow cX0_doesKnow 3 (some .boolean)) (some .boolean) := X
  show AW p l e (rmM 0 0) s m args below meth c g A 3 0 0 (MQ below (CQ g (hp g I J F w) s.heap.size (fun vv0 hh0 => vv0 = some (.int (bI ((R (2 + 6 * a + 4)).testBit v))) ∧ hh0 = hp g I J F w)) args s 0 0 A) 0 [some (.ref (ga g b)), some (.int (nI a)), some (.int (nI v))] [] (hp g I J F w)
  refine a_aload_n X dX0_doesKnow_0 (i := 0) rfl rfl ?_
  refine s_getr X dX0_doesKnow_1 fl_X0_31 (ko_b hb) rfl ?_
  refine a_iload_n X dX0_doesKnow_4 (i := 1) rfl rfl ?_
  refine s_ild X dX0_doesKnow_5 (ki_b5 hb) (by omega) (by decide) ?_
  rw [m4]
  refine a_iconst X dX0_doesKnow_6 (v := nI 1) (by decide +kernel) ?_
  refine a_iload_n X dX0_doesKnow_7 (i := 2) rfl rfl ?_
  refine a_ishl X dX0_doesKnow_8 ?_
  refine a_iand X dX0_doesKnow_9 ?_
  refine a_if_eq X dX0_doesKnow_10 (tgt := 17) (by decide) (fun hc10 => ?_) (fun hc10 => ?_)
  · skip
    refine a_iconst X dX0_doesKnow_17 (v := nI 0) (by decide +kernel) ?_
    refine a_zret X hA dX0_doesKnow_18 (by first | exact nar_bI _ | decide +kernel) ⟨?_, ?_⟩
    · congr 2; first | exact bf0 ((set_bit2 v hv _ g4).mp hc10) | exact bt1 (by cases hz : (R (2 + 6 * a + 4)).testBit v with
          | true => rfl
          | false => exact absurd ((set_bit2 v hv _ g4).mpr hz) hc10)
    · rfl
  · skip
    refine a_iconst X dX0_doesKnow_13 (v := nI 1) (by decide +kernel) ?_
    refine a_goto X dX0_doesKnow_14 (tgt := 18) (by decide) ?_
    refine a_zret X hA dX0_doesKnow_18 (by first | exact nar_bI _ | decide +kernel) ⟨?_, ?_⟩
    · congr 2; first | exact bf0 ((set_bit2 v hv _ g4).mp hc10) | exact bt1 (by cases hz : (R (2 + 6 * a + 4)).testBit v with
          | true => rfl
          | false => exact absurd ((set_bit2 v hv _ g4).mpr hz) hc10)
    · rfl
set_option maxRecDepth 100000 in
set_option maxHeartbeats 4000000 in
theorem c_X0_isSpread {l : Launch} {g : GG} {I : TI} {J : TJ} {F : TI} {w : Int64} {b : Nat} (hb : isB b) {R : Nat → Nat} (ok : okR R) (hC : Ch I F b R) {v : Nat} (hv : v < 10) : UR l g mX0_isSpread [.ref (ga g b), .int (nI v)] I J F w (.int (bI (allB (sprF R v) (R 1)))) I J F w := by
  have hn10 := ok.1
  obtain ⟨c0, c1, cm, cs⟩ := hC
  refine ct_start (M := mX0_isSpread) (by decide +kernel) (Nat.le_of_ble_eq_true rfl) ?_
  intro p e s m args below meth c A X hA
  have X : AX p s m args meth c g A cX0_isSpread 4 RX0 (Cond.code yX0_isSpread cX0_isSpread 4 (some .boolean)) (some .boolean) := X
  show AW p l e (rmM 1 22) s m args below meth c g A 4 0 0 (MQ below (CQ g (hp g I J F w) s.heap.size (fun vv0 hh0 => vv0 = some (.int (bI (allB (sprF R v) (R 1)))) ∧ hh0 = hp g I J F w)) args s 0 0 A) 0 [some (.ref (ga g b)), some (.int (nI v)), none, none] [] (hp g I J F w)
  have L2 : ∀ (fu : Nat) (k : Nat), R 1 - k < fu → (k ≤ R 1) → (allB (sprF R v) k = true) → AW p l e (rmM 1 22) s m args below meth c g A 4 0 0 (MQ below (CQ g (hp g I J F w) s.heap.size (fun vv0 hh0 => vv0 = some (.int (bI (allB (sprF R v) (R 1)))) ∧ hh0 = hp g I J F w)) args s 0 0 A) 2 [some (.ref (ga g b)), some (.int (nI v)), some (.int (nI k)), none] [] (hp g I J F w) := by
    intro fu
    induction fu with
    | zero => intro k hfu; exact absurd hfu (by omega)
    | succ fu ih =>
      intro k hfu hk hal
      refine a_iload_n X dX0_isSpread_2 (i := 2) rfl rfl ?_
      refine a_aload_n X dX0_isSpread_3 (i := 0) rfl rfl ?_
      refine s_geti X dX0_isSpread_4 fl_X0_15 (ko_b hb) rfl ?_
      rw [c1]
      refine s_icmp_geN X dX0_isSpread_7 (tgt := 57) (by decide) (by omega) (by omega) (fun hc7 => ?_) (fun hc7 => ?_)
      · skip
        have hk2 : k = R 1 := by omega
        subst hk2
        refine a_iconst X dX0_isSpread_57 (v := nI 1) (by decide +kernel) ?_
        refine a_zret X hA dX0_isSpread_58 (by first | exact nar_bI _ | decide +kernel) ⟨?_, ?_⟩
        · congr 2; exact bt1 hal
        · rfl
      · skip
        have hlt : k < R 1 := by omega
        obtain ⟨m0, m1, m2, m3, m4, m5⟩ := cm k hlt
        obtain ⟨g0, g1, g2, g3, g4, g5⟩ := ok.2.1 k hlt
        refine a_aload_n X dX0_isSpread_10 (i := 0) rfl rfl ?_
        refine s_getr X dX0_isSpread_11 fl_X0_18 (ko_b hb) rfl ?_
        refine a_iload_n X dX0_isSpread_14 (i := 2) rfl rfl ?_
        refine s_ild X dX0_isSpread_15 (ki_b1 hb) (by omega) (by decide) ?_
        rw [m0]
        refine a_iconst X dX0_isSpread_16 (v := nI 3) (by decide +kernel) ?_
        refine s_icmp_eqN X dX0_isSpread_17 (tgt := 34) (by decide) (by omega) (by omega) (fun hc17 => ?_) (fun hc17 => ?_)
        · skip
          refine a_iconst X dX0_isSpread_34 (v := nI 0) (by decide +kernel) ?_
          refine a_istore_n X dX0_isSpread_35 (i := 3) rfl (by decide) rfl ?_
          refine a_iload_n X dX0_isSpread_36 (i := 3) rfl rfl ?_
          refine a_if_eq X dX0_isSpread_37 (tgt := 51) (by decide) (fun hc37 => ?_) (fun hc37 => ?_)
          · skip
            refine a_iinc X dX0_isSpread_51 rfl (v := nI (_ + 1)) (iincN _ 1) (by decide) rfl ?_
            refine a_goto X dX0_isSpread_54 (tgt := 2) (by decide) ?_
            exact (by first | exact absurd hc37 (by decide +kernel) | exact absurd (by decide +kernel) hc37 | exact s_dropAt 3 (ih (k + 1) (by omega) (by omega) (by simp [allB, sprF, -Nat.add_zero, *])))
          · skip
            refine a_aload_n X dX0_isSpread_40 (i := 0) rfl rfl ?_
            refine a_iload_n X dX0_isSpread_41 (i := 2) rfl rfl ?_
            refine a_iload_n X dX0_isSpread_42 (i := 1) rfl rfl ?_
            refine s_callV_R X dX0_isSpread_43 lk_X0_76 (ko_b hb) rfl rfl (c_X0_doesKnow hb ok ⟨c0, c1, cm, cs⟩ hlt hv) ⟨Nat.le_of_ble_eq_true rfl, Nat.le_of_ble_eq_true rfl⟩ rfl rfl (Nat.le_of_ble_eq_true rfl) ⟨Nat.le_of_ble_eq_true rfl, Nat.le_of_ble_eq_true rfl⟩ ?_
            refine a_if_ne X dX0_isSpread_46 (tgt := 51) (by decide) (fun hc46 => ?_) (fun hc46 => ?_)
            · skip
              try simp only [bI_0, Bool.not_eq_false] at hc46
              refine a_iinc X dX0_isSpread_51 rfl (v := nI (_ + 1)) (iincN _ 1) (by decide) rfl ?_
              refine a_goto X dX0_isSpread_54 (tgt := 2) (by decide) ?_
              exact (by first | exact absurd hc37 (by decide +kernel) | exact absurd (by decide +kernel) hc37 | exact s_dropAt 3 (ih (k + 1) (by omega) (by omega) (by simp [allB, sprF, -Nat.add_zero, *])))
            · skip
              try simp only [bI_0, Bool.not_eq_false] at hc46
              refine a_iconst X dX0_isSpread_49 (v := nI 0) (by decide +kernel) ?_
              refine a_zret X hA dX0_isSpread_50 (by first | exact nar_bI _ | decide +kernel) ⟨?_, ?_⟩
              · congr 2; first | exact absurd (by decide +kernel) hc37 | exact bf0 (all_f (k := k + 1) (by simp [allB, sprF, -Nat.add_zero, *]) _ (by omega))
              · rfl
        · skip
          refine a_aload_n X dX0_isSpread_20 (i := 0) rfl rfl ?_
          refine s_getr X dX0_isSpread_21 fl_X0_25 (ko_b hb) rfl ?_
          refine a_iload_n X dX0_isSpread_24 (i := 2) rfl rfl ?_
          refine s_ild X dX0_isSpread_25 (ki_b3 hb) (by omega) (by decide) ?_
          rw [m2]
          refine a_iload_n X dX0_isSpread_26 (i := 1) rfl rfl ?_
          refine s_icmp_eqN X dX0_isSpread_27 (tgt := 34) (by decide) (by omega) (by omega) (fun hc27 => ?_) (fun hc27 => ?_)
          · skip
            refine a_iconst X dX0_isSpread_34 (v := nI 0) (by decide +kernel) ?_
            refine a_istore_n X dX0_isSpread_35 (i := 3) rfl (by decide) rfl ?_
            refine a_iload_n X dX0_isSpread_36 (i := 3) rfl rfl ?_
            refine a_if_eq X dX0_isSpread_37 (tgt := 51) (by decide) (fun hc37 => ?_) (fun hc37 => ?_)
            · skip
              refine a_iinc X dX0_isSpread_51 rfl (v := nI (_ + 1)) (iincN _ 1) (by decide) rfl ?_
              refine a_goto X dX0_isSpread_54 (tgt := 2) (by decide) ?_
              exact (by first | exact absurd hc37 (by decide +kernel) | exact absurd (by decide +kernel) hc37 | exact s_dropAt 3 (ih (k + 1) (by omega) (by omega) (by simp [allB, sprF, -Nat.add_zero, *])))
            · skip
              refine a_aload_n X dX0_isSpread_40 (i := 0) rfl rfl ?_
              refine a_iload_n X dX0_isSpread_41 (i := 2) rfl rfl ?_
              refine a_iload_n X dX0_isSpread_42 (i := 1) rfl rfl ?_
              refine s_callV_R X dX0_isSpread_43 lk_X0_76 (ko_b hb) rfl rfl (c_X0_doesKnow hb ok ⟨c0, c1, cm, cs⟩ hlt hv) ⟨Nat.le_of_ble_eq_true rfl, Nat.le_of_ble_eq_true rfl⟩ rfl rfl (Nat.le_of_ble_eq_true rfl) ⟨Nat.le_of_ble_eq_true rfl, Nat.le_of_ble_eq_true rfl⟩ ?_
              refine a_if_ne X dX0_isSpread_46 (tgt := 51) (by decide) (fun hc46 => ?_) (fun hc46 => ?_)
              · skip
                try simp only [bI_0, Bool.not_eq_false] at hc46
                refine a_iinc X dX0_isSpread_51 rfl (v := nI (_ + 1)) (iincN _ 1) (by decide) rfl ?_
                refine a_goto X dX0_isSpread_54 (tgt := 2) (by decide) ?_
                exact (by first | exact absurd hc37 (by decide +kernel) | exact absurd (by decide +kernel) hc37 | exact s_dropAt 3 (ih (k + 1) (by omega) (by omega) (by simp [allB, sprF, -Nat.add_zero, *])))
              · skip
                try simp only [bI_0, Bool.not_eq_false] at hc46
                refine a_iconst X dX0_isSpread_49 (v := nI 0) (by decide +kernel) ?_
                refine a_zret X hA dX0_isSpread_50 (by first | exact nar_bI _ | decide +kernel) ⟨?_, ?_⟩
                · congr 2; first | exact absurd (by decide +kernel) hc37 | exact bf0 (all_f (k := k + 1) (by simp [allB, sprF, -Nat.add_zero, *]) _ (by omega))
                · rfl
          · skip
            refine a_iconst X dX0_isSpread_30 (v := nI 1) (by decide +kernel) ?_
            refine a_goto X dX0_isSpread_31 (tgt := 35) (by decide) ?_
            refine a_istore_n X dX0_isSpread_35 (i := 3) rfl (by decide) rfl ?_
            refine a_iload_n X dX0_isSpread_36 (i := 3) rfl rfl ?_
            refine a_if_eq X dX0_isSpread_37 (tgt := 51) (by decide) (fun hc37 => ?_) (fun hc37 => ?_)
            · skip
              refine a_iinc X dX0_isSpread_51 rfl (v := nI (_ + 1)) (iincN _ 1) (by decide) rfl ?_
              refine a_goto X dX0_isSpread_54 (tgt := 2) (by decide) ?_
              exact (by first | exact absurd hc37 (by decide +kernel) | exact absurd (by decide +kernel) hc37 | exact s_dropAt 3 (ih (k + 1) (by omega) (by omega) (by simp [allB, sprF, -Nat.add_zero, *])))
            · skip
              refine a_aload_n X dX0_isSpread_40 (i := 0) rfl rfl ?_
              refine a_iload_n X dX0_isSpread_41 (i := 2) rfl rfl ?_
              refine a_iload_n X dX0_isSpread_42 (i := 1) rfl rfl ?_
              refine s_callV_R X dX0_isSpread_43 lk_X0_76 (ko_b hb) rfl rfl (c_X0_doesKnow hb ok ⟨c0, c1, cm, cs⟩ hlt hv) ⟨Nat.le_of_ble_eq_true rfl, Nat.le_of_ble_eq_true rfl⟩ rfl rfl (Nat.le_of_ble_eq_true rfl) ⟨Nat.le_of_ble_eq_true rfl, Nat.le_of_ble_eq_true rfl⟩ ?_
              refine a_if_ne X dX0_isSpread_46 (tgt := 51) (by decide) (fun hc46 => ?_) (fun hc46 => ?_)
              · skip
                try simp only [bI_0, Bool.not_eq_false] at hc46
                refine a_iinc X dX0_isSpread_51 rfl (v := nI (_ + 1)) (iincN _ 1) (by decide) rfl ?_
                refine a_goto X dX0_isSpread_54 (tgt := 2) (by decide) ?_
                exact (by first | exact absurd hc37 (by decide +kernel) | exact absurd (by decide +kernel) hc37 | exact s_dropAt 3 (ih (k + 1) (by omega) (by omega) (by simp [allB, sprF, -Nat.add_zero, *])))
              · skip
                try simp only [bI_0, Bool.not_eq_false] at hc46
                refine a_iconst X dX0_isSpread_49 (v := nI 0) (by decide +kernel) ?_
                refine a_zret X hA dX0_isSpread_50 (by first | exact nar_bI _ | decide +kernel) ⟨?_, ?_⟩
                · congr 2; first | exact absurd (by decide +kernel) hc37 | exact bf0 (all_f (k := k + 1) (by simp [allB, sprF, -Nat.add_zero, *]) _ (by omega))
                · rfl
  refine a_iconst X dX0_isSpread_0 (v := nI 0) (by decide +kernel) ?_
  refine a_istore_n X dX0_isSpread_1 (i := 2) rfl (by decide) rfl ?_
  exact L2 (R 1 + 1) 0 (by omega) (by omega) rfl
set_option maxRecDepth 100000 in
set_option maxHeartbeats 4000000 in
theorem c_X0_isHeretical {l : Launch} {g : GG} {I : TI} {J : TJ} {F : TI} {w : Int64} {b : Nat} (hb : isB b) {R : Nat → Nat} (ok : okR R) (hC : Ch I F b R) : UR l g mX0_isHeretical [.ref (ga g b)] I J F w (.int (bI (anyB (herF R) (R 1)))) I J F w := by
  have hn10 := ok.1
  obtain ⟨c0, c1, cm, cs⟩ := hC
  refine ct_start (M := mX0_isHeretical) (by decide +kernel) (Nat.le_of_ble_eq_true rfl) ?_
  intro p e s m args below meth c A X hA
  have X : AX p s m args meth c g A cX0_isHeretical 2 RX0 (Cond.code yX0_isHeretical cX0_isHeretical 2 (some .boolean)) (some .boolean) := X
  show AW p l e (rmM 1 22) s m args below meth c g A 2 0 0 (MQ below (CQ g (hp g I J F w) s.heap.size (fun vv0 hh0 => vv0 = some (.int (bI (anyB (herF R) (R 1)))) ∧ hh0 = hp g I J F w)) args s 0 0 A) 0 [some (.ref (ga g b)), none] [] (hp g I J F w)
  have L2 : ∀ (fu : Nat) (k : Nat), R 1 - k < fu → (k ≤ R 1) → (anyB (herF R) k = false) → AW p l e (rmM 1 22) s m args below meth c g A 2 0 0 (MQ below (CQ g (hp g I J F w) s.heap.size (fun vv0 hh0 => vv0 = some (.int (bI (anyB (herF R) (R 1)))) ∧ hh0 = hp g I J F w)) args s 0 0 A) 2 [some (.ref (ga g b)), some (.int (nI k))] [] (hp g I J F w) := by
    intro fu
    induction fu with
    | zero => intro k hfu; exact absurd hfu (by omega)
    | succ fu ih =>
      intro k hfu hk hal
      refine a_iload_n X dX0_isHeretical_2 (i := 1) rfl rfl ?_
      refine a_aload_n X dX0_isHeretical_3 (i := 0) rfl rfl ?_
      refine s_geti X dX0_isHeretical_4 fl_X0_15 (ko_b hb) rfl ?_
      rw [c1]
      refine s_icmp_geN X dX0_isHeretical_7 (tgt := 32) (by decide) (by omega) (by omega) (fun hc7 => ?_) (fun hc7 => ?_)
      · skip
        have hk2 : k = R 1 := by omega
        subst hk2
        refine a_iconst X dX0_isHeretical_32 (v := nI 0) (by decide +kernel) ?_
        refine a_zret X hA dX0_isHeretical_33 (by first | exact nar_bI _ | decide +kernel) ⟨?_, ?_⟩
        · congr 2; exact bf0 hal
        · rfl
      · skip
        have hlt : k < R 1 := by omega
        obtain ⟨m0, m1, m2, m3, m4, m5⟩ := cm k hlt
        obtain ⟨g0, g1, g2, g3, g4, g5⟩ := ok.2.1 k hlt
        refine a_aload_n X dX0_isHeretical_10 (i := 0) rfl rfl ?_
        refine a_iload_n X dX0_isHeretical_11 (i := 1) rfl rfl ?_
        refine a_aload_n X dX0_isHeretical_12 (i := 0) rfl rfl ?_
        refine s_getr X dX0_isHeretical_13 fl_X0_25 (ko_b hb) rfl ?_
        refine a_iload_n X dX0_isHeretical_16 (i := 1) rfl rfl ?_
        refine s_ild X dX0_isHeretical_17 (ki_b3 hb) (by omega) (by decide) ?_
        rw [m2]
        refine s_callV_R X dX0_isHeretical_18 lk_X0_76 (ko_b hb) rfl rfl (c_X0_doesKnow hb ok ⟨c0, c1, cm, cs⟩ hlt g2) ⟨Nat.le_of_ble_eq_true rfl, Nat.le_of_ble_eq_true rfl⟩ rfl rfl (Nat.le_of_ble_eq_true rfl) ⟨Nat.le_of_ble_eq_true rfl, Nat.le_of_ble_eq_true rfl⟩ ?_
        refine a_if_eq X dX0_isHeretical_21 (tgt := 26) (by decide) (fun hc21 => ?_) (fun hc21 => ?_)
        · skip
          try simp only [bI_0, Bool.not_eq_false] at hc21
          refine a_iinc X dX0_isHeretical_26 rfl (v := nI (_ + 1)) (iincN _ 1) (by decide) rfl ?_
          refine a_goto X dX0_isHeretical_29 (tgt := 2) (by decide) ?_
          exact ih (k + 1) (by omega) (by omega) (by rw [anyB, hal]; exact hc21)
        · skip
          try simp only [bI_0, Bool.not_eq_false] at hc21
          refine a_iconst X dX0_isHeretical_24 (v := nI 1) (by decide +kernel) ?_
          refine a_zret X hA dX0_isHeretical_25 (by first | exact nar_bI _ | decide +kernel) ⟨?_, ?_⟩
          · congr 2; exact bt1 (any_t (k := k) hlt hc21)
          · rfl
  refine a_iconst X dX0_isHeretical_0 (v := nI 0) (by decide +kernel) ?_
  refine a_istore_n X dX0_isHeretical_1 (i := 1) rfl (by decide) rfl ?_
  exact L2 (R 1 + 1) 0 (by omega) (by omega) rfl
set_option maxRecDepth 100000 in
set_option maxHeartbeats 4000000 in
theorem c_X0_sum {l : Launch} {g : GG} {I : TI} {J : TJ} {F : TI} {w : Int64} {b : Nat} (hb : isB b) {R : Nat → Nat} (ok : okR R) (hC : Ch I F b R) {P : Nat} (hP : KI P 10) : UR l g mX0_sum [.ref (ga g b), .ref (ga g P)] I J F w (.int (sumF (I P) (R 1))) I J F w := by
  have hn10 := ok.1
  obtain ⟨c0, c1, cm, cs⟩ := hC
  refine ct_start (M := mX0_sum) (by decide +kernel) (Nat.le_of_ble_eq_true rfl) ?_
  intro p e s m args below meth c A X hA
  have X : AX p s m args meth c g A cX0_sum 4 RX0 (Cond.code yX0_sum cX0_sum 4 (some .int)) (some .int) := X
  show AW p l e (rmM 0 0) s m args below meth c g A 4 0 0 (MQ below (CQ g (hp g I J F w) s.heap.size (fun vv0 hh0 => vv0 = some (.int (sumF (I P) (R 1))) ∧ hh0 = hp g I J F w)) args s 0 0 A) 0 [some (.ref (ga g b)), some (.ref (ga g P)), none, none] [] (hp g I J F w)
  have L4 : ∀ (fu : Nat) (k : Nat), R 1 - k < fu → (k ≤ R 1) → AW p l e (rmM 0 0) s m args below meth c g A 4 0 0 (MQ below (CQ g (hp g I J F w) s.heap.size (fun vv0 hh0 => vv0 = some (.int (sumF (I P) (R 1))) ∧ hh0 = hp g I J F w)) args s 0 0 A) 4 [some (.ref (ga g b)), some (.ref (ga g P)), some (.int (sumF (I P) k)), some (.int (nI k))] [] (hp g I J F w) := by
    intro fu
    induction fu with
    | zero => intro k hfu; exact absurd hfu (by omega)
    | succ fu ih =>
      intro k hfu hk
      refine a_iload_n X dX0_sum_4 (i := 3) rfl rfl ?_
      refine a_aload_n X dX0_sum_5 (i := 0) rfl rfl ?_
      refine s_geti X dX0_sum_6 fl_X0_15 (ko_b hb) rfl ?_
      rw [c1]
      refine s_icmp_geN X dX0_sum_9 (tgt := 30) (by decide) (by omega) (by omega) (fun hc9 => ?_) (fun hc9 => ?_)
      · skip
        have hk2 : k = R 1 := by omega
        subst hk2
        refine a_iload_n X dX0_sum_30 (i := 2) rfl rfl ?_
        exact a_iret X hA dX0_sum_31 ⟨rfl, rfl⟩
      · skip
        have hlt : k < R 1 := by omega
        refine a_iload_n X dX0_sum_12 (i := 3) rfl rfl ?_
        refine a_aload_n X dX0_sum_13 (i := 1) rfl rfl ?_
        refine s_alenI X dX0_sum_14 hP ?_
        refine s_icmp_geN X dX0_sum_15 (tgt := 30) (by decide) (by omega) (by omega) (fun hc15 => ?_) (fun hc15 => ?_)
        · skip
          exact absurd hc15 (by omega)
        · skip
          refine a_iload_n X dX0_sum_18 (i := 2) rfl rfl ?_
          refine a_aload_n X dX0_sum_19 (i := 1) rfl rfl ?_
          refine a_iload_n X dX0_sum_20 (i := 3) rfl rfl ?_
          refine s_ild X dX0_sum_21 hP (by omega) (by decide) ?_
          refine a_iadd X dX0_sum_22 ?_
          refine a_istore_n X dX0_sum_23 (i := 2) rfl (by decide) rfl ?_
          refine a_iinc X dX0_sum_24 rfl (v := nI (_ + 1)) (iincN _ 1) (by decide) rfl ?_
          refine a_goto X dX0_sum_27 (tgt := 4) (by decide) ?_
          exact ih (k + 1) (by omega) (by omega)
  refine a_iconst X dX0_sum_0 (v := nI 0) (by decide +kernel) ?_
  refine a_istore_n X dX0_sum_1 (i := 2) rfl (by decide) rfl ?_
  refine a_iconst X dX0_sum_2 (v := nI 0) (by decide +kernel) ?_
  refine a_istore_n X dX0_sum_3 (i := 3) rfl (by decide) rfl ?_
  exact L4 (R 1 + 1) 0 (by omega) (by omega)
set_option maxRecDepth 100000 in
set_option maxHeartbeats 4000000 in
theorem c_X0_felt {l : Launch} {g : GG} {I : TI} {J : TJ} {F : TI} {w : Int64} {b : Nat} (hb : isB b) {R : Nat → Nat} (ok : okR R) (hC : Ch I F b R) {a : Nat} (ha : a < R 1) : UR l g mX0_felt [.ref (ga g b), .int (nI a)] I J F w (.int (wI (felN R (R 1) a))) I J F w := by
  have hn10 := ok.1
  obtain ⟨c0, c1, cm, cs⟩ := hC
  obtain ⟨m0, m1, m2, m3, m4, m5⟩ := cm a ha
  obtain ⟨g0, g1, g2, g3, g4, g5⟩ := ok.2.1 a ha
  have hfe := fe_2 (R (2 + 6 * a + 0)) (R (2 + 6 * a + 5))
  refine ct_start (M := mX0_felt) (by decide +kernel) (Nat.le_of_ble_eq_true rfl) ?_
  intro p e s m args below meth c A X hA
  have X : AX p s m args meth c g A cX0_felt 5 RX0 (Cond.code yX0_felt cX0_felt 5 (some .int)) (some .int) := X
  show AW p l e (rmM 2 43) s m args below meth c g A 5 0 0 (MQ below (CQ g (hp g I J F w) s.heap.size (fun vv0 hh0 => vv0 = some (.int (wI (felN R (R 1) a))) ∧ hh0 = hp g I J F w)) args s 0 0 A) 0 [some (.ref (ga g b)), some (.int (nI a)), none, none, none] [] (hp g I J F w)
  have L18 : ∀ (fu : Nat) (k : Nat), 3 - k < fu → (1 ≤ k ∧ k ≤ 3) → (1 < k → who R (R (2 + 6 * a + 1) + 1) (R 1) = none) → (2 < k → who R (R (2 + 6 * a + 1) + 2) (R 1) = none) → AW p l e (rmM 2 43) s m args below meth c g A 5 0 0 (MQ below (CQ g (hp g I J F w) s.heap.size (fun vv0 hh0 => vv0 = some (.int (wI (felN R (R 1) a))) ∧ hh0 = hp g I J F w)) args s 0 0 A) 18 [some (.ref (ga g b)), some (.int (nI a)), some (.int (nI (fe (R (2 + 6 * a + 0)) (R (2 + 6 * a + 5))))), some (.int (nI k)), none] [] (hp g I J F w) := by
    intro fu
    induction fu with
    | zero => intro k hfu; exact absurd hfu (by omega)
    | succ fu ih =>
      intro k hfu hk hw1 hw2
      refine a_iload_n X dX0_felt_18 (i := 3) rfl rfl ?_
      refine a_iload_n X dX0_felt_19 (i := 2) rfl rfl ?_
      refine s_icmp_gtN X dX0_felt_20 (tgt := 52) (by decide) (by omega) (by omega) (fun hc20 => ?_) (fun hc20 => ?_)
      · skip
        refine a_iconst X dX0_felt_52 (v := (-1)) (by decide +kernel) ?_
        refine a_iret X hA dX0_felt_53 ⟨?_, ?_⟩
        · congr 2; exact (fel_miss (k := k) hw1 hw2 (by omega)).symm
        · rfl
      · skip
        refine a_aload_n X dX0_felt_23 (i := 0) rfl rfl ?_
        refine a_aload_n X dX0_felt_24 (i := 0) rfl rfl ?_
        refine s_getr X dX0_felt_25 fl_X0_22 (ko_b hb) rfl ?_
        refine a_iload_n X dX0_felt_28 (i := 1) rfl rfl ?_
        refine s_ild X dX0_felt_29 (ki_b2 hb) (by omega) (by decide) ?_
        rw [m1]
        refine a_iload_n X dX0_felt_30 (i := 3) rfl rfl ?_
        refine s_iaddN X dX0_felt_31 ?_
        refine s_callV_R X dX0_felt_32 lk_X0_62 (ko_b hb) rfl rfl (c_X0_sitter hb ok ⟨c0, c1, cm, cs⟩ (by omega)) ⟨Nat.le_of_ble_eq_true rfl, Nat.le_of_ble_eq_true rfl⟩ rfl rfl (Nat.le_of_ble_eq_true rfl) ⟨Nat.le_of_ble_eq_true rfl, Nat.le_of_ble_eq_true rfl⟩ ?_
        refine a_istore X dX0_felt_35 (by decide) rfl ?_
        refine a_iload X dX0_felt_37 rfl ?_
        refine a_iconst X dX0_felt_39 (v := (-1)) (by decide +kernel) ?_
        refine a_icmp_eq X dX0_felt_40 (tgt := 46) (by decide) (fun hc40 => ?_) (fun hc40 => ?_)
        · skip
          refine a_iinc X dX0_felt_46 rfl (v := nI (_ + 1)) (iincN _ 1) (by decide) rfl ?_
          refine a_goto X dX0_felt_49 (tgt := 18) (by decide) ?_
          have hw := (wI_eq (who_b hn10)).mp hc40
          refine s_dropAt 4 (ih (k + 1) (by omega) (by omega) (fun _ => ?_) (fun _ => ?_))
          · rcases (show k = 1 ∨ k = 2 by omega) with z | z
            · rw [z] at hw; exact hw
            · exact hw1 (by omega)
          · rw [show k = 2 by omega] at hw; exact hw
        · skip
          refine a_iload X dX0_felt_43 rfl ?_
          refine a_iret X hA dX0_felt_45 ⟨?_, ?_⟩
          · congr 2; exact fel_hit (k := k) (by omega) (by omega) hw1 (fun z => hc40 (by rw [z]; rfl))
          · rfl
  refine a_aload_n X dX0_felt_0 (i := 0) rfl rfl ?_
  refine s_getr X dX0_felt_1 fl_X0_18 (ko_b hb) rfl ?_
  refine a_iload_n X dX0_felt_4 (i := 1) rfl rfl ?_
  refine s_ild X dX0_felt_5 (ki_b1 hb) (by omega) (by decide) ?_
  rw [m0]
  refine a_aload_n X dX0_felt_6 (i := 0) rfl rfl ?_
  refine s_getr X dX0_felt_7 fl_X0_34 (ko_b hb) rfl ?_
  refine a_iload_n X dX0_felt_10 (i := 1) rfl rfl ?_
  refine s_ild X dX0_felt_11 (ki_b6 hb) (by omega) (by decide) ?_
  rw [m5]
  refine s_callS_R X dX0_felt_12 lk_X0_80 (c_X1_reach g0 g5) ⟨Nat.le_of_ble_eq_true rfl, Nat.le_of_ble_eq_true rfl⟩ rfl rfl (Nat.le_of_ble_eq_true rfl) ⟨Nat.le_of_ble_eq_true rfl, Nat.le_of_ble_eq_true rfl⟩ ?_
  refine a_istore_n X dX0_felt_15 (i := 2) rfl (by decide) rfl ?_
  refine a_iconst X dX0_felt_16 (v := nI 1) (by decide +kernel) ?_
  refine a_istore_n X dX0_felt_17 (i := 3) rfl (by decide) rfl ?_
  exact L18 3 1 (by omega) (by omega) (fun z => by omega) (fun z => by omega)
set_option maxRecDepth 100000 in
set_option maxHeartbeats 4000000 in
theorem c_X0_getsFrom {l : Launch} {g : GG} {I : TI} {J : TJ} {F : TI} {w : Int64} {b : Nat} (hb : isB b) {R : Nat → Nat} (ok : okR R) (hC : Ch I F b R) {a : Nat} (ha : a < R 1) {o : Option Nat} (ho : ∀ q, o = some q → q < R 1) (hN : R 0 < 2 ^ 31) : UR l g mX0_getsFrom [.ref (ga g b), .int (nI a), .int (wI o)] I J F w (.int (bI (o.any (fun q => getK (R (2 + 6 * a + 0)) (R (2 + 6 * a + 5)) (R (2 + 6 * q + 3)) (R 0))))) I J F w := by
  have hn10 := ok.1
  obtain ⟨c0, c1, cm, cs⟩ := hC
  obtain ⟨m0, m1, m2, m3, m4, m5⟩ := cm a ha
  obtain ⟨g0, g1, g2, g3, g4, g5⟩ := ok.2.1 a ha
  refine ct_start (M := mX0_getsFrom) (by decide +kernel) (Nat.le_of_ble_eq_true rfl) ?_
  intro p e s m args below meth c A X hA
  have X : AX p s m args meth c g A cX0_getsFrom 3 RX0 (Cond.code yX0_getsFrom cX0_getsFrom 3 (some .boolean)) (some .boolean) := X
  show AW p l e (rmM 1 23) s m args below meth c g A 3 0 0 (MQ below (CQ g (hp g I J F w) s.heap.size (fun vv0 hh0 => vv0 = some (.int (bI (o.any (fun q => getK (R (2 + 6 * a + 0)) (R (2 + 6 * a + 5)) (R (2 + 6 * q + 3)) (R 0))))) ∧ hh0 = hp g I J F w)) args s 0 0 A) 0 [some (.ref (ga g b)), some (.int (nI a)), some (.int (wI o))] [] (hp g I J F w)
  refine a_iload_n X dX0_getsFrom_0 (i := 2) rfl rfl ?_
  refine a_iconst X dX0_getsFrom_1 (v := (-1)) (by decide +kernel) ?_
  refine a_icmp_eq X dX0_getsFrom_2 (tgt := 37) (by decide) (fun hc2 => ?_) (fun hc2 => ?_)
  · skip
    have hw := (wI_eq (fun q z => by have := ho q z; omega)).mp hc2
    refine a_iconst X dX0_getsFrom_37 (v := nI 0) (by decide +kernel) ?_
    refine a_zret X hA dX0_getsFrom_38 (by first | exact nar_bI _ | decide +kernel) ⟨?_, ?_⟩
    · congr 2; first | (rw [hw]; rfl) | exact bt1 hc30 | exact bf0 hc30
    · rfl
  · skip
    obtain ⟨q, hw⟩ : ∃ q, o = some q := by
      cases h : o with
      | none => exact absurd (by rw [h]; rfl) hc2
      | some q => exact ⟨q, rfl⟩
    have hq := ho q hw
    obtain ⟨n0, n1, n2, n3, n4, n5⟩ := cm q hq
    obtain ⟨f0, f1, f2, f3, f4, f5⟩ := ok.2.1 q hq
    subst hw
    rw [wI_s]
    refine a_aload_n X dX0_getsFrom_5 (i := 0) rfl rfl ?_
    refine s_getr X dX0_getsFrom_6 fl_X0_18 (ko_b hb) rfl ?_
    refine a_iload_n X dX0_getsFrom_9 (i := 1) rfl rfl ?_
    refine s_ild X dX0_getsFrom_10 (ki_b1 hb) (by omega) (by decide) ?_
    rw [m0]
    refine a_aload_n X dX0_getsFrom_11 (i := 0) rfl rfl ?_
    refine s_getr X dX0_getsFrom_12 fl_X0_34 (ko_b hb) rfl ?_
    refine a_iload_n X dX0_getsFrom_15 (i := 1) rfl rfl ?_
    refine s_ild X dX0_getsFrom_16 (ki_b6 hb) (by omega) (by decide) ?_
    rw [m5]
    refine a_aload_n X dX0_getsFrom_17 (i := 0) rfl rfl ?_
    refine s_getr X dX0_getsFrom_18 fl_X0_28 (ko_b hb) rfl ?_
    refine a_iload_n X dX0_getsFrom_21 (i := 2) rfl rfl ?_
    refine s_ild X dX0_getsFrom_22 (ki_b4 hb) (by omega) (by decide) ?_
    rw [n3]
    refine a_aload_n X dX0_getsFrom_23 (i := 0) rfl rfl ?_
    refine s_geti X dX0_getsFrom_24 fl_X0_9 (ko_b hb) rfl ?_
    rw [c0]
    refine s_callS_R X dX0_getsFrom_27 lk_X0_84 (c_X1_gets g0 g5 (by have := f3.2; omega) hN) ⟨Nat.le_of_ble_eq_true rfl, Nat.le_of_ble_eq_true rfl⟩ rfl rfl (Nat.le_of_ble_eq_true rfl) ⟨Nat.le_of_ble_eq_true rfl, Nat.le_of_ble_eq_true rfl⟩ ?_
    refine a_if_eq X dX0_getsFrom_30 (tgt := 37) (by decide) (fun hc30 => ?_) (fun hc30 => ?_)
    · skip
      try simp only [bI_0, Bool.not_eq_false] at hc30
      refine a_iconst X dX0_getsFrom_37 (v := nI 0) (by decide +kernel) ?_
      refine a_zret X hA dX0_getsFrom_38 (by first | exact nar_bI _ | decide +kernel) ⟨?_, ?_⟩
      · congr 2; first | (rw [hw]; rfl) | exact bt1 hc30 | exact bf0 hc30
      · rfl
    · skip
      try simp only [bI_0, Bool.not_eq_false] at hc30
      refine a_iconst X dX0_getsFrom_33 (v := nI 1) (by decide +kernel) ?_
      refine a_goto X dX0_getsFrom_34 (tgt := 38) (by decide) ?_
      refine a_zret X hA dX0_getsFrom_38 (by first | exact nar_bI _ | decide +kernel) ⟨?_, ?_⟩
      · congr 2; first | (rw [hw]; rfl) | exact bt1 hc30 | exact bf0 hc30
      · rfl
set_option maxRecDepth 100000 in
set_option maxHeartbeats 4000000 in
theorem c_X0_told {l : Launch} {g : GG} {I : TI} {J : TJ} {F : TI} {w : Int64} {b : Nat} (hb : isB b) {R : Nat → Nat} (ok : okR R) (hC : Ch I F b R) {a : Nat} (ha : a < R 1) : UR l g mX0_told [.ref (ga g b), .int (nI a)] I J F w (.int (nI (tel (R (2 + 6 * a + 0)) (R (2 + 6 * a + 4))))) I J F w := by
  have hn10 := ok.1
  obtain ⟨c0, c1, cm, cs⟩ := hC
  obtain ⟨m0, m1, m2, m3, m4, m5⟩ := cm a ha
  obtain ⟨g0, g1, g2, g3, g4, g5⟩ := ok.2.1 a ha
  refine ct_start (M := mX0_told) (by decide +kernel) (Nat.le_of_ble_eq_true rfl) ?_
  intro p e s m args below meth c A X hA
  have X : AX p s m args meth c g A cX0_told 2 RX0 (Cond.code yX0_told cX0_told 2 (some .int)) (some .int) := X
  show AW p l e (rmM 2 43) s m args below meth c g A 2 0 0 (MQ below (CQ g (hp g I J F w) s.heap.size (fun vv0 hh0 => vv0 = some (.int (nI (tel (R (2 + 6 * a + 0)) (R (2 + 6 * a + 4))))) ∧ hh0 = hp g I J F w)) args s 0 0 A) 0 [some (.ref (ga g b)), some (.int (nI a))] [] (hp g I J F w)
  refine a_aload_n X dX0_told_0 (i := 0) rfl rfl ?_
  refine s_getr X dX0_told_1 fl_X0_18 (ko_b hb) rfl ?_
  refine a_iload_n X dX0_told_4 (i := 1) rfl rfl ?_
  refine s_ild X dX0_told_5 (ki_b1 hb) (by omega) (by decide) ?_
  rw [m0]
  refine a_aload_n X dX0_told_6 (i := 0) rfl rfl ?_
  refine s_getr X dX0_told_7 fl_X0_31 (ko_b hb) rfl ?_
  refine a_iload_n X dX0_told_10 (i := 1) rfl rfl ?_
  refine s_ild X dX0_told_11 (ki_b5 hb) (by omega) (by decide) ?_
  rw [m4]
  refine s_callS_R X dX0_told_12 lk_X0_88 (c_X1_tells g0 g4) ⟨Nat.le_of_ble_eq_true rfl, Nat.le_of_ble_eq_true rfl⟩ rfl rfl (Nat.le_of_ble_eq_true rfl) ⟨Nat.le_of_ble_eq_true rfl, Nat.le_of_ble_eq_true rfl⟩ ?_
  exact a_iret X hA dX0_told_15 ⟨rfl, rfl⟩
