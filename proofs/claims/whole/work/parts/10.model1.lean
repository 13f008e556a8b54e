set_option maxRecDepth 100000 in
set_option maxHeartbeats 4000000 in
theorem c_X5_in {l : Launch} {g : GG} {I : TI} {J : TJ} {F : TI} {w : Int64} {v lo hi : Int32} : UR l g mX5_in [.int v, .int lo, .int hi] I J F w (.int (bI (inB v lo hi))) I J F w := by
  refine ct_start (M := mX5_in) (by decide +kernel) (Nat.le_of_ble_eq_true rfl) ?_
  intro p e s m args below meth c A X hA
  have X : AX p s m args meth c g A cX5_in 3 RX5 (Cond.code yX5_in cX5_in 3 (some .boolean)) (some .boolean) := X
  show AW p l e (rmM 0 0) s m args below meth c g A 3 0 0 (MQ below (CQ g (hp g I J F w) s.heap.size (fun vv0 hh0 => vv0 = some (.int (bI (inB v lo hi))) ∧ hh0 = hp g I J F w)) args s 0 0 A) 0 [some (.int v), some (.int lo), some (.int hi)] [] (hp g I J F w)
  refine a_iload_n X dX5_in_0 (i := 0) rfl rfl ?_
  refine a_iload_n X dX5_in_1 (i := 1) rfl rfl ?_
  refine a_icmp_lt X dX5_in_2 (tgt := 14) (by decide) (fun hc2 => ?_) (fun hc2 => ?_)
  · skip
    refine a_iconst X dX5_in_14 (v := nI 0) (by decide +kernel) ?_
    refine a_zret X hA dX5_in_15 (by decide +kernel) ⟨?_, ?_⟩
    · first | (rw [inB_lt hc2]; rfl) | (rw [inB_gt hc7]; rfl) | (rw [inB_ok hc2 hc7]; rfl)
    · rfl
  · skip
    refine a_iload_n X dX5_in_5 (i := 0) rfl rfl ?_
    refine a_iload_n X dX5_in_6 (i := 2) rfl rfl ?_
    refine a_icmp_gt X dX5_in_7 (tgt := 14) (by decide) (fun hc7 => ?_) (fun hc7 => ?_)
    · skip
      refine a_iconst X dX5_in_14 (v := nI 0) (by decide +kernel) ?_
      refine a_zret X hA dX5_in_15 (by decide +kernel) ⟨?_, ?_⟩
      · first | (rw [inB_lt hc2]; rfl) | (rw [inB_gt hc7]; rfl) | (rw [inB_ok hc2 hc7]; rfl)
      · rfl
    · skip
      refine a_iconst X dX5_in_10 (v := nI 1) (by decide +kernel) ?_
      refine a_goto X dX5_in_11 (tgt := 15) (by decide) ?_
      refine a_zret X hA dX5_in_15 (by decide +kernel) ⟨?_, ?_⟩
      · first | (rw [inB_lt hc2]; rfl) | (rw [inB_gt hc7]; rfl) | (rw [inB_ok hc2 hc7]; rfl)
      · rfl
set_option maxRecDepth 100000 in
set_option maxHeartbeats 4000000 in
theorem c_X5_held {l : Launch} {g : GG} {I : TI} {J : TJ} {F : TI} {w : Int64} {v lo hi : Int32} : UR l g mX5_held [.int v, .int lo, .int hi] I J F w (.int (heldI v lo hi)) I J F w := by
  refine ct_start (M := mX5_held) (by decide +kernel) (Nat.le_of_ble_eq_true rfl) ?_
  intro p e s m args below meth c A X hA
  have X : AX p s m args meth c g A cX5_held 3 RX5 (Cond.code yX5_held cX5_held 3 (some .int)) (some .int) := X
  show AW p l e (rmM 0 0) s m args below meth c g A 3 0 0 (MQ below (CQ g (hp g I J F w) s.heap.size (fun vv0 hh0 => vv0 = some (.int (heldI v lo hi)) ∧ hh0 = hp g I J F w)) args s 0 0 A) 0 [some (.int v), some (.int lo), some (.int hi)] [] (hp g I J F w)
  refine a_iload_n X dX5_held_0 (i := 0) rfl rfl ?_
  refine a_iload_n X dX5_held_1 (i := 1) rfl rfl ?_
  refine a_icmp_ge X dX5_held_2 (tgt := 9) (by decide) (fun hc2 => ?_) (fun hc2 => ?_)
  · skip
    refine a_iload_n X dX5_held_9 (i := 0) rfl rfl ?_
    refine a_iload_n X dX5_held_10 (i := 2) rfl rfl ?_
    refine a_icmp_le X dX5_held_11 (tgt := 18) (by decide) (fun hc11 => ?_) (fun hc11 => ?_)
    · skip
      refine a_iload_n X dX5_held_18 (i := 0) rfl rfl ?_
      refine a_iret X hA dX5_held_19 ⟨?_, ?_⟩
      · congr 2; unfold heldI; first | rw [if_pos (Int32.not_le.mp hc2)] | rw [if_neg (Int32.not_lt.mpr hc2), if_neg (Int32.not_lt.mpr hc11)] | rw [if_neg (Int32.not_lt.mpr hc2), if_pos (Int32.not_le.mp hc11)]
      · rfl
    · skip
      refine a_iload_n X dX5_held_14 (i := 2) rfl rfl ?_
      refine a_goto X dX5_held_15 (tgt := 19) (by decide) ?_
      refine a_iret X hA dX5_held_19 ⟨?_, ?_⟩
      · congr 2; unfold heldI; first | rw [if_pos (Int32.not_le.mp hc2)] | rw [if_neg (Int32.not_lt.mpr hc2), if_neg (Int32.not_lt.mpr hc11)] | rw [if_neg (Int32.not_lt.mpr hc2), if_pos (Int32.not_le.mp hc11)]
      · rfl
  · skip
    refine a_iload_n X dX5_held_5 (i := 1) rfl rfl ?_
    refine a_goto X dX5_held_6 (tgt := 19) (by decide) ?_
    refine a_iret X hA dX5_held_19 ⟨?_, ?_⟩
    · congr 2; unfold heldI; first | rw [if_pos (Int32.not_le.mp hc2)] | rw [if_neg (Int32.not_lt.mpr hc2), if_neg (Int32.not_lt.mpr hc11)] | rw [if_neg (Int32.not_lt.mpr hc2), if_pos (Int32.not_le.mp hc11)]
    · rfl
set_option maxRecDepth 100000 in
set_option maxHeartbeats 4000000 in
theorem c_X5_finds {l : Launch} {g : GG} {I : TI} {J : TJ} {F : TI} {w : Int64} {x : Int32} {k : Nat} (hk : k < 7) (hx : (-1000000001) - x = nI k) : UR l g mX5_finds [.ref (ga g 43), .int x] I J F w (.int x) (fnd I 45 k) J F w := by
  refine ct_start (M := mX5_finds) (by decide +kernel) (Nat.le_of_ble_eq_true rfl) ?_
  intro p e s m args below meth c A X hA
  have X : AX p s m args meth c g A cX5_finds 2 RX5 (Cond.code yX5_finds cX5_finds 2 (some .int)) (some .int) := X
  show AW p l e (rmM 0 0) s m args below meth c g A 2 0 0 (MQ below (CQ g (hp g I J F w) s.heap.size (fun vv0 hh0 => vv0 = some (.int x) ∧ hh0 = hp g (fnd I 45 k) J F w)) args s 0 0 A) 0 [some (.ref (ga g 43)), some (.int x)] [] (hp g I J F w)
  refine a_aload_n X dX5_finds_0 (i := 0) rfl rfl ?_
  refine s_getr X dX5_finds_1 fl_X5_13 ko_43 rfl ?_
  refine a_ldc X dX5_finds_4 kc_X5_50 ?_
  refine a_iload_n X dX5_finds_6 (i := 1) rfl rfl ?_
  refine a_isub X dX5_finds_7 ?_
  rw [hx]
  refine a_dup2 X dX5_finds_8 rfl rfl ?_
  refine s_ild X dX5_finds_9 ki_45 (by omega) (by decide) ?_
  refine a_iconst X dX5_finds_10 (v := nI 1) (by decide +kernel) ?_
  refine a_iadd X dX5_finds_11 ?_
  refine s_ist X dX5_finds_12 ki_45 (by omega) (by decide) ?_
  refine a_iload_n X dX5_finds_13 (i := 1) rfl rfl ?_
  refine a_iret X hA dX5_finds_14 ⟨?_, ?_⟩
  · rfl
  · rfl
set_option maxRecDepth 100000 in
set_option maxHeartbeats 4000000 in
theorem c_X5_its {l : Launch} {g : GG} {I : TI} {J : TJ} {F : TI} {w : Int64} {R : Nat → Nat} (hR : I 44 = nr R) {a b : Nat} (hab : 2 + 6 * a + b < 62) : UR l g mX5_its [.ref (ga g 43), .int (nI a), .int (nI b)] I J F w (.int (nI (R (2 + 6 * a + b)))) I J F w := by
  refine ct_start (M := mX5_its) (by decide +kernel) (Nat.le_of_ble_eq_true rfl) ?_
  intro p e s m args below meth c A X hA
  have X : AX p s m args meth c g A cX5_its 3 RX5 (Cond.code yX5_its cX5_its 3 (some .int)) (some .int) := X
  show AW p l e (rmM 0 0) s m args below meth c g A 3 0 0 (MQ below (CQ g (hp g I J F w) s.heap.size (fun vv0 hh0 => vv0 = some (.int (nI (R (2 + 6 * a + b)))) ∧ hh0 = hp g I J F w)) args s 0 0 A) 0 [some (.ref (ga g 43)), some (.int (nI a)), some (.int (nI b))] [] (hp g I J F w)
  refine a_aload_n X dX5_its_0 (i := 0) rfl rfl ?_
  refine s_getr X dX5_its_1 fl_X5_7 ko_43 rfl ?_
  refine a_iconst X dX5_its_4 (v := nI 2) (by decide +kernel) ?_
  refine a_bipush X dX5_its_5 (v := nI 6) (by decide +kernel) ?_
  refine a_iload_n X dX5_its_7 (i := 1) rfl rfl ?_
  refine s_imulN X dX5_its_8 ?_
  refine s_iaddN X dX5_its_9 ?_
  refine a_iload_n X dX5_its_10 (i := 2) rfl rfl ?_
  refine s_iaddN X dX5_its_11 ?_
  refine s_ild X dX5_its_12 ki_44 (by omega) (by decide) ?_
  refine a_iret X hA dX5_its_13 ⟨?_, ?_⟩
  · rw [hR]; rfl
  · rfl
set_option maxRecDepth 100000 in
set_option maxHeartbeats 4000000 in
theorem c_X5_puts {l : Launch} {g : GG} {I : TI} {J : TJ} {F : TI} {w : Int64} {R : Nat → Nat} (hR : I 44 = nr R) {a b v : Nat} (hab : 2 + 6 * a + b < 62) : UV l g mX5_puts [.ref (ga g 43), .int (nI a), .int (nI b), .int (nI v)] I J F w (va_up I 44 (nr (va_up R (2 + 6 * a + b) v))) J F w := by
  refine ct_start (M := mX5_puts) (by decide +kernel) (Nat.le_of_ble_eq_true rfl) ?_
  intro p e s m args below meth c A X hA
  have X : AX p s m args meth c g A cX5_puts 4 RX5 (Cond.code yX5_puts cX5_puts 4 none) none := X
  show AW p l e (rmM 0 0) s m args below meth c g A 4 0 0 (MQ below (CQ g (hp g I J F w) s.heap.size (fun vv0 hh0 => vv0 = none ∧ hh0 = hp g (va_up I 44 (nr (va_up R (2 + 6 * a + b) v))) J F w)) args s 0 0 A) 0 [some (.ref (ga g 43)), some (.int (nI a)), some (.int (nI b)), some (.int (nI v))] [] (hp g I J F w)
  refine a_aload_n X dX5_puts_0 (i := 0) rfl rfl ?_
  refine s_getr X dX5_puts_1 fl_X5_7 ko_43 rfl ?_
  refine a_iconst X dX5_puts_4 (v := nI 2) (by decide +kernel) ?_
  refine a_bipush X dX5_puts_5 (v := nI 6) (by decide +kernel) ?_
  refine a_iload_n X dX5_puts_7 (i := 1) rfl rfl ?_
  refine s_imulN X dX5_puts_8 ?_
  refine s_iaddN X dX5_puts_9 ?_
  refine a_iload_n X dX5_puts_10 (i := 2) rfl rfl ?_
  refine s_iaddN X dX5_puts_11 ?_
  refine a_iload_n X dX5_puts_12 (i := 3) rfl rfl ?_
  refine s_ist X dX5_puts_13 ki_44 (by omega) (by decide) ?_
  refine a_vret X hA dX5_puts_14 ⟨?_, ?_⟩
  · rfl
  · rw [hR, nr_up]
set_option maxRecDepth 100000 in
set_option maxHeartbeats 4000000 in
theorem c_X5_becomes {l : Launch} {g : GG} {I : TI} {J : TJ} {F : TI} {w : Int64} {R : Nat → Nat} (hR : I 44 = nr R) {a v : Nat} (ha : a < 62) : UR l g mX5_becomes [.ref (ga g 43), .int (nI a), .int (nI v)] I J F w (.int (nI (R a))) (va_up I 44 (nr (va_up R a v))) J F w := by
  refine ct_start (M := mX5_becomes) (by decide +kernel) (Nat.le_of_ble_eq_true rfl) ?_
  intro p e s m args below meth c A X hA
  have X : AX p s m args meth c g A cX5_becomes 4 RX5 (Cond.code yX5_becomes cX5_becomes 4 (some .int)) (some .int) := X
  show AW p l e (rmM 0 0) s m args below meth c g A 4 0 0 (MQ below (CQ g (hp g I J F w) s.heap.size (fun vv0 hh0 => vv0 = some (.int (nI (R a))) ∧ hh0 = hp g (va_up I 44 (nr (va_up R a v))) J F w)) args s 0 0 A) 0 [some (.ref (ga g 43)), some (.int (nI a)), some (.int (nI v)), none] [] (hp g I J F w)
  refine a_aload_n X dX5_becomes_0 (i := 0) rfl rfl ?_
  refine s_getr X dX5_becomes_1 fl_X5_7 ko_43 rfl ?_
  refine a_iload_n X dX5_becomes_4 (i := 1) rfl rfl ?_
  refine s_ild X dX5_becomes_5 ki_44 (by omega) (by decide) ?_
  refine a_istore_n X dX5_becomes_6 (i := 3) rfl (by decide) rfl ?_
  refine a_aload_n X dX5_becomes_7 (i := 0) rfl rfl ?_
  refine s_getr X dX5_becomes_8 fl_X5_7 ko_43 rfl ?_
  refine a_iload_n X dX5_becomes_11 (i := 1) rfl rfl ?_
  refine a_iload_n X dX5_becomes_12 (i := 2) rfl rfl ?_
  refine s_ist X dX5_becomes_13 ki_44 (by omega) (by decide) ?_
  refine a_iload_n X dX5_becomes_14 (i := 3) rfl rfl ?_
  refine a_iret X hA dX5_becomes_15 ⟨?_, ?_⟩
  · rw [hR]; rfl
  · rw [hR, nr_up]
set_option maxRecDepth 100000 in
set_option maxHeartbeats 4000000 in
theorem c_X5_isOne {l : Launch} {g : GG} {I : TI} {J : TJ} {F : TI} {w : Int64} {R : Nat → Nat} (hR : I 44 = nr R) {x : Int32} : UR l g mX5_isOne [.ref (ga g 43), .int x] I J F w (.int (bI (isM (R 1) x))) I J F w := by
  refine ct_start (M := mX5_isOne) (by decide +kernel) (Nat.le_of_ble_eq_true rfl) ?_
  intro p e s m args below meth c A X hA
  have X : AX p s m args meth c g A cX5_isOne 2 RX5 (Cond.code yX5_isOne cX5_isOne 2 (some .boolean)) (some .boolean) := X
  show AW p l e (rmM 1 22) s m args below meth c g A 2 0 0 (MQ below (CQ g (hp g I J F w) s.heap.size (fun vv0 hh0 => vv0 = some (.int (bI (isM (R 1) x))) ∧ hh0 = hp g I J F w)) args s 0 0 A) 0 [some (.ref (ga g 43)), some (.int x)] [] (hp g I J F w)
  refine a_iload_n X dX5_isOne_0 (i := 1) rfl rfl ?_
  refine a_iconst X dX5_isOne_1 (v := nI 0) (by decide +kernel) ?_
  refine a_aload_n X dX5_isOne_2 (i := 0) rfl rfl ?_
  refine s_getr X dX5_isOne_3 fl_X5_7 ko_43 rfl ?_
  refine a_iconst X dX5_isOne_6 (v := nI 1) (by decide +kernel) ?_
  refine s_ild X dX5_isOne_7 ki_44 (by omega) (by decide) ?_
  rw [hR]
  refine a_iconst X dX5_isOne_8 (v := nI 1) (by decide +kernel) ?_
  refine a_isub X dX5_isOne_9 ?_
  refine s_callS_R X dX5_isOne_10 lk_X5_51 c_X5_in ⟨Nat.le_of_ble_eq_true rfl, Nat.le_of_ble_eq_true rfl⟩ rfl rfl (Nat.le_of_ble_eq_true rfl) ⟨Nat.le_of_ble_eq_true rfl, Nat.le_of_ble_eq_true rfl⟩ ?_
  exact a_zret X hA dX5_isOne_13 (by first | exact nar_bI _ | decide +kernel) ⟨rfl, rfl⟩
set_option maxRecDepth 100000 in
set_option maxHeartbeats 4000000 in
theorem c_X5_isKind {l : Launch} {g : GG} {I : TI} {J : TJ} {F : TI} {w : Int64} {v : Int32} : UR l g mX5_isKind [.int v] I J F w (.int (bI (inB v (nI 0) (nI 5)))) I J F w := by
  refine ct_start (M := mX5_isKind) (by decide +kernel) (Nat.le_of_ble_eq_true rfl) ?_
  intro p e s m args below meth c A X hA
  have X : AX p s m args meth c g A cX5_isKind 1 RX5 (Cond.code yX5_isKind cX5_isKind 1 (some .boolean)) (some .boolean) := X
  show AW p l e (rmM 1 22) s m args below meth c g A 1 0 0 (MQ below (CQ g (hp g I J F w) s.heap.size (fun vv0 hh0 => vv0 = some (.int (bI (inB v (nI 0) (nI 5)))) ∧ hh0 = hp g I J F w)) args s 0 0 A) 0 [some (.int v)] [] (hp g I J F w)
  refine a_iload_n X dX5_isKind_0 (i := 0) rfl rfl ?_
  refine a_iconst X dX5_isKind_1 (v := nI 0) (by decide +kernel) ?_
  refine a_iconst X dX5_isKind_2 (v := nI 5) (by decide +kernel) ?_
  refine s_callS_R X dX5_isKind_3 lk_X5_51 c_X5_in ⟨Nat.le_of_ble_eq_true rfl, Nat.le_of_ble_eq_true rfl⟩ rfl rfl (Nat.le_of_ble_eq_true rfl) ⟨Nat.le_of_ble_eq_true rfl, Nat.le_of_ble_eq_true rfl⟩ ?_
  exact a_zret X hA dX5_isKind_6 (by first | exact nar_bI _ | decide +kernel) ⟨rfl, rfl⟩
set_option maxRecDepth 100000 in
set_option maxHeartbeats 4000000 in
theorem c_X5_isSeat {l : Launch} {g : GG} {I : TI} {J : TJ} {F : TI} {w : Int64} {v : Int32} : UR l g mX5_isSeat [.int v] I J F w (.int (bI (inB v (nI 0) (nI 11)))) I J F w := by
  refine ct_start (M := mX5_isSeat) (by decide +kernel) (Nat.le_of_ble_eq_true rfl) ?_
  intro p e s m args below meth c A X hA
  have X : AX p s m args meth c g A cX5_isSeat 1 RX5 (Cond.code yX5_isSeat cX5_isSeat 1 (some .boolean)) (some .boolean) := X
  show AW p l e (rmM 1 22) s m args below meth c g A 1 0 0 (MQ below (CQ g (hp g I J F w) s.heap.size (fun vv0 hh0 => vv0 = some (.int (bI (inB v (nI 0) (nI 11)))) ∧ hh0 = hp g I J F w)) args s 0 0 A) 0 [some (.int v)] [] (hp g I J F w)
  refine a_iload_n X dX5_isSeat_0 (i := 0) rfl rfl ?_
  refine a_iconst X dX5_isSeat_1 (v := nI 0) (by decide +kernel) ?_
  refine a_bipush X dX5_isSeat_2 (v := nI 11) (by decide +kernel) ?_
  refine s_callS_R X dX5_isSeat_4 lk_X5_51 c_X5_in ⟨Nat.le_of_ble_eq_true rfl, Nat.le_of_ble_eq_true rfl⟩ rfl rfl (Nat.le_of_ble_eq_true rfl) ⟨Nat.le_of_ble_eq_true rfl, Nat.le_of_ble_eq_true rfl⟩ ?_
  exact a_zret X hA dX5_isSeat_7 (by first | exact nar_bI _ | decide +kernel) ⟨rfl, rfl⟩
set_option maxRecDepth 100000 in
set_option maxHeartbeats 4000000 in
theorem c_X5_isVerse {l : Launch} {g : GG} {I : TI} {J : TJ} {F : TI} {w : Int64} {v : Int32} : UR l g mX5_isVerse [.int v] I J F w (.int (bI (inB v (nI 0) (nI 9)))) I J F w := by
  refine ct_start (M := mX5_isVerse) (by decide +kernel) (Nat.le_of_ble_eq_true rfl) ?_
  intro p e s m args below meth c A X hA
  have X : AX p s m args meth c g A cX5_isVerse 1 RX5 (Cond.code yX5_isVerse cX5_isVerse 1 (some .boolean)) (some .boolean) := X
  show AW p l e (rmM 1 22) s m args below meth c g A 1 0 0 (MQ below (CQ g (hp g I J F w) s.heap.size (fun vv0 hh0 => vv0 = some (.int (bI (inB v (nI 0) (nI 9)))) ∧ hh0 = hp g I J F w)) args s 0 0 A) 0 [some (.int v)] [] (hp g I J F w)
  refine a_iload_n X dX5_isVerse_0 (i := 0) rfl rfl ?_
  refine a_iconst X dX5_isVerse_1 (v := nI 0) (by decide +kernel) ?_
  refine a_bipush X dX5_isVerse_2 (v := nI 9) (by decide +kernel) ?_
  refine s_callS_R X dX5_isVerse_4 lk_X5_51 c_X5_in ⟨Nat.le_of_ble_eq_true rfl, Nat.le_of_ble_eq_true rfl⟩ rfl rfl (Nat.le_of_ble_eq_true rfl) ⟨Nat.le_of_ble_eq_true rfl, Nat.le_of_ble_eq_true rfl⟩ ?_
  exact a_zret X hA dX5_isVerse_7 (by first | exact nar_bI _ | decide +kernel) ⟨rfl, rfl⟩
set_option maxRecDepth 100000 in
set_option maxHeartbeats 4000000 in
theorem c_X5_isSheet {l : Launch} {g : GG} {I : TI} {J : TJ} {F : TI} {w : Int64} {v : Int32} : UR l g mX5_isSheet [.int v] I J F w (.int (bI (inB v (nI 0) (nI 3)))) I J F w := by
  refine ct_start (M := mX5_isSheet) (by decide +kernel) (Nat.le_of_ble_eq_true rfl) ?_
  intro p e s m args below meth c A X hA
  have X : AX p s m args meth c g A cX5_isSheet 1 RX5 (Cond.code yX5_isSheet cX5_isSheet 1 (some .boolean)) (some .boolean) := X
  show AW p l e (rmM 1 22) s m args below meth c g A 1 0 0 (MQ below (CQ g (hp g I J F w) s.heap.size (fun vv0 hh0 => vv0 = some (.int (bI (inB v (nI 0) (nI 3)))) ∧ hh0 = hp g I J F w)) args s 0 0 A) 0 [some (.int v)] [] (hp g I J F w)
  refine a_iload_n X dX5_isSheet_0 (i := 0) rfl rfl ?_
  refine a_iconst X dX5_isSheet_1 (v := nI 0) (by decide +kernel) ?_
  refine a_iconst X dX5_isSheet_2 (v := nI 3) (by decide +kernel) ?_
  refine s_callS_R X dX5_isSheet_3 lk_X5_51 c_X5_in ⟨Nat.le_of_ble_eq_true rfl, Nat.le_of_ble_eq_true rfl⟩ rfl rfl (Nat.le_of_ble_eq_true rfl) ⟨Nat.le_of_ble_eq_true rfl, Nat.le_of_ble_eq_true rfl⟩ ?_
  exact a_zret X hA dX5_isSheet_6 (by first | exact nar_bI _ | decide +kernel) ⟨rfl, rfl⟩
set_option maxRecDepth 100000 in
set_option maxHeartbeats 4000000 in
theorem c_X5_isLetter {l : Launch} {g : GG} {I : TI} {J : TJ} {F : TI} {w : Int64} {v : Int32} : UR l g mX5_isLetter [.int v] I J F w (.int (bI (inB v (nI 97) (nI 122)))) I J F w := by
  refine ct_start (M := mX5_isLetter) (by decide +kernel) (Nat.le_of_ble_eq_true rfl) ?_
  intro p e s m args below meth c A X hA
  have X : AX p s m args meth c g A cX5_isLetter 1 RX5 (Cond.code yX5_isLetter cX5_isLetter 1 (some .boolean)) (some .boolean) := X
  show AW p l e (rmM 1 22) s m args below meth c g A 1 0 0 (MQ below (CQ g (hp g I J F w) s.heap.size (fun vv0 hh0 => vv0 = some (.int (bI (inB v (nI 97) (nI 122)))) ∧ hh0 = hp g I J F w)) args s 0 0 A) 0 [some (.int v)] [] (hp g I J F w)
  refine a_iload_n X dX5_isLetter_0 (i := 0) rfl rfl ?_
  refine a_bipush X dX5_isLetter_1 (v := nI 97) (by decide +kernel) ?_
  refine a_bipush X dX5_isLetter_3 (v := nI 122) (by decide +kernel) ?_
  refine s_callS_R X dX5_isLetter_5 lk_X5_51 c_X5_in ⟨Nat.le_of_ble_eq_true rfl, Nat.le_of_ble_eq_true rfl⟩ rfl rfl (Nat.le_of_ble_eq_true rfl) ⟨Nat.le_of_ble_eq_true rfl, Nat.le_of_ble_eq_true rfl⟩ ?_
  exact a_zret X hA dX5_isLetter_8 (by first | exact nar_bI _ | decide +kernel) ⟨rfl, rfl⟩
set_option maxRecDepth 100000 in
set_option maxHeartbeats 4000000 in
theorem c_X5_isDigit {l : Launch} {g : GG} {I : TI} {J : TJ} {F : TI} {w : Int64} {v : Int32} : UR l g mX5_isDigit [.int v] I J F w (.int (bI (inB v (nI 48) (nI 57)))) I J F w := by
  refine ct_start (M := mX5_isDigit) (by decide +kernel) (Nat.le_of_ble_eq_true rfl) ?_
  intro p e s m args below meth c A X hA
  have X : AX p s m args meth c g A cX5_isDigit 1 RX5 (Cond.code yX5_isDigit cX5_isDigit 1 (some .boolean)) (some .boolean) := X
  show AW p l e (rmM 1 22) s m args below meth c g A 1 0 0 (MQ below (CQ g (hp g I J F w) s.heap.size (fun vv0 hh0 => vv0 = some (.int (bI (inB v (nI 48) (nI 57)))) ∧ hh0 = hp g I J F w)) args s 0 0 A) 0 [some (.int v)] [] (hp g I J F w)
  refine a_iload_n X dX5_isDigit_0 (i := 0) rfl rfl ?_
  refine a_bipush X dX5_isDigit_1 (v := nI 48) (by decide +kernel) ?_
  refine a_bipush X dX5_isDigit_3 (v := nI 57) (by decide +kernel) ?_
  refine s_callS_R X dX5_isDigit_5 lk_X5_51 c_X5_in ⟨Nat.le_of_ble_eq_true rfl, Nat.le_of_ble_eq_true rfl⟩ rfl rfl (Nat.le_of_ble_eq_true rfl) ⟨Nat.le_of_ble_eq_true rfl, Nat.le_of_ble_eq_true rfl⟩ ?_
  exact a_zret X hA dX5_isDigit_8 (by first | exact nar_bI _ | decide +kernel) ⟨rfl, rfl⟩
set_option maxRecDepth 100000 in
set_option maxHeartbeats 4000000 in
theorem c_X5_bits {l : Launch} {g : GG} {I : TI} {J : TJ} {F : TI} {w : Int64} {a : Nat} (ha : a < 1024) : UR l g mX5_bits [.int (nI a)] I J F w (.int (nI (pcn a))) I J F w := by
  refine ct_start (M := mX5_bits) (by decide +kernel) (Nat.le_of_ble_eq_true rfl) ?_
  intro p e s m args below meth c A X hA
  have X : AX p s m args meth c g A cX5_bits 3 RX5 (Cond.code yX5_bits cX5_bits 3 (some .int)) (some .int) := X
  show AW p l e (rmM 0 0) s m args below meth c g A 3 0 0 (MQ below (CQ g (hp g I J F w) s.heap.size (fun vv0 hh0 => vv0 = some (.int (nI (pcn a))) ∧ hh0 = hp g I J F w)) args s 0 0 A) 0 [some (.int (nI a)), none, none] [] (hp g I J F w)
  have L4 : ∀ (fu : Nat) (k : Nat) (q : Nat), q < fu → (q < 1024) → (k + pcn q = pcn a) → AW p l e (rmM 0 0) s m args below meth c g A 3 0 0 (MQ below (CQ g (hp g I J F w) s.heap.size (fun vv0 hh0 => vv0 = some (.int (nI (pcn a))) ∧ hh0 = hp g I J F w)) args s 0 0 A) 4 [some (.int (nI a)), some (.int (nI k)), some (.int (nI q))] [] (hp g I J F w) := by
    intro fu
    induction fu with
    | zero => intro k q hfu; exact absurd hfu (by omega)
    | succ fu ih =>
      intro k q hfu hq hk
      refine a_iload_n X dX5_bits_4 (i := 2) rfl rfl ?_
      refine a_if_eq X dX5_bits_5 (tgt := 20) (by decide) (fun hc5 => ?_) (fun hc5 => ?_)
      · skip
        have hq0 : q = 0 := (nI_eq (by omega) (by decide)).mp (hc5.trans nI_0.symm)
        subst hq0
        refine a_iload_n X dX5_bits_20 (i := 1) rfl rfl ?_
        refine a_iret X hA dX5_bits_21 ⟨?_, ?_⟩
        · congr 2; rw [← hk]; rfl
        · rfl
      · skip
        have hq0 : q ≠ 0 := fun z => hc5 (by rw [z]; exact nI_0)
        obtain ⟨e1, e2, e3, -⟩ := set_step q hq hq0
        refine a_iinc X dX5_bits_8 rfl (v := nI (_ + 1)) (iincN _ 1) (by decide) rfl ?_
        refine a_iload_n X dX5_bits_11 (i := 2) rfl rfl ?_
        refine a_iload_n X dX5_bits_12 (i := 2) rfl rfl ?_
        refine a_iconst X dX5_bits_13 (v := nI 1) (by decide +kernel) ?_
        refine a_isub X dX5_bits_14 ?_
        refine a_iand X dX5_bits_15 ?_
        rw [e1]
        refine a_istore_n X dX5_bits_16 (i := 2) rfl (by decide) rfl ?_
        refine a_goto X dX5_bits_17 (tgt := 4) (by decide) ?_
        exact ih (k + 1) (q &&& (q - 1)) (by omega) (by omega) (by omega)
  refine a_iconst X dX5_bits_0 (v := nI 0) (by decide +kernel) ?_
  refine a_istore_n X dX5_bits_1 (i := 1) rfl (by decide) rfl ?_
  refine a_iload_n X dX5_bits_2 (i := 0) rfl rfl ?_
  refine a_istore_n X dX5_bits_3 (i := 2) rfl (by decide) rfl ?_
  exact L4 (a + 1) 0 a (by omega) ha (by omega)
set_option maxRecDepth 100000 in
set_option maxHeartbeats 4000000 in
theorem c_X5_greatestOf {l : Launch} {g : GG} {I : TI} {J : TJ} {F : TI} {w : Int64} {a : Nat} (ha : a < 1024) : UR l g mX5_greatestOf [.int (nI a)] I J F w (.int (nI (grn a))) I J F w := by
  refine ct_start (M := mX5_greatestOf) (by decide +kernel) (Nat.le_of_ble_eq_true rfl) ?_
  intro p e s m args below meth c A X hA
  have X : AX p s m args meth c g A cX5_greatestOf 2 RX5 (Cond.code yX5_greatestOf cX5_greatestOf 2 (some .int)) (some .int) := X
  show AW p l e (rmM 0 0) s m args below meth c g A 2 0 0 (MQ below (CQ g (hp g I J F w) s.heap.size (fun vv0 hh0 => vv0 = some (.int (nI (grn a))) ∧ hh0 = hp g I J F w)) args s 0 0 A) 0 [some (.int (nI a)), none] [] (hp g I J F w)
  have L2 : ∀ (fu : Nat) (q : Nat), q < fu → (q < 1024) → (grn q = grn a) → AW p l e (rmM 0 0) s m args below meth c g A 2 0 0 (MQ below (CQ g (hp g I J F w) s.heap.size (fun vv0 hh0 => vv0 = some (.int (nI (grn a))) ∧ hh0 = hp g I J F w)) args s 0 0 A) 2 [some (.int (nI a)), some (.int (nI q))] [] (hp g I J F w) := by
    intro fu
    induction fu with
    | zero => intro q hfu; exact absurd hfu (by omega)
    | succ fu ih =>
      intro q hfu hq hk
      by_cases hq0 : q = 0
      · subst hq0
        have e0 : nI 0 &&& (nI 0 - nI 1) = 0 := by decide +kernel
        refine a_iload_n X dX5_greatestOf_2 (i := 1) rfl rfl ?_
        refine a_iload_n X dX5_greatestOf_3 (i := 1) rfl rfl ?_
        refine a_iconst X dX5_greatestOf_4 (v := nI 1) (by decide +kernel) ?_
        refine a_isub X dX5_greatestOf_5 ?_
        refine a_iand X dX5_greatestOf_6 ?_
        refine a_if_eq X dX5_greatestOf_7 (tgt := 19) (by decide) (fun _ => ?_) (fun z => absurd e0 z)
        refine a_iload_n X dX5_greatestOf_19 (i := 1) rfl rfl ?_
        exact a_iret X hA dX5_greatestOf_20 ⟨by rw [← hk]; rfl, rfl⟩
      obtain ⟨e1, e2, e3, e4, e5⟩ := set_step q hq hq0
      refine a_iload_n X dX5_greatestOf_2 (i := 1) rfl rfl ?_
      refine a_iload_n X dX5_greatestOf_3 (i := 1) rfl rfl ?_
      refine a_iconst X dX5_greatestOf_4 (v := nI 1) (by decide +kernel) ?_
      refine a_isub X dX5_greatestOf_5 ?_
      refine a_iand X dX5_greatestOf_6 ?_
      rw [e1]
      refine a_if_eq X dX5_greatestOf_7 (tgt := 19) (by decide) (fun hc7 => ?_) (fun hc7 => ?_)
      · skip
        have hz : q &&& (q - 1) = 0 := (nI_eq (by omega) (by decide)).mp (hc7.trans nI_0.symm)
        refine a_iload_n X dX5_greatestOf_19 (i := 1) rfl rfl ?_
        refine a_iret X hA dX5_greatestOf_20 ⟨?_, ?_⟩
        · congr 2; rw [← hk, e5 hz]
        · rfl
      · skip
        refine a_iload_n X dX5_greatestOf_10 (i := 1) rfl rfl ?_
        refine a_iload_n X dX5_greatestOf_11 (i := 1) rfl rfl ?_
        refine a_iconst X dX5_greatestOf_12 (v := nI 1) (by decide +kernel) ?_
        refine a_isub X dX5_greatestOf_13 ?_
        refine a_iand X dX5_greatestOf_14 ?_
        rw [e1]
        refine a_istore_n X dX5_greatestOf_15 (i := 1) rfl (by decide) rfl ?_
        refine a_goto X dX5_greatestOf_16 (tgt := 2) (by decide) ?_
        exact ih (q &&& (q - 1)) (by omega) (by omega) ((e4 (fun z => hc7 (by rw [z]; exact nI_0))).trans hk)
  refine a_iload_n X dX5_greatestOf_0 (i := 0) rfl rfl ?_
  refine a_istore_n X dX5_greatestOf_1 (i := 1) rfl (by decide) rfl ?_
  exact L2 (a + 1) a (by omega) ha rfl
set_option maxRecDepth 100000 in
set_option maxHeartbeats 4000000 in
theorem c_X5_leastOf {l : Launch} {g : GG} {I : TI} {J : TJ} {F : TI} {w : Int64} {a : Nat} (ha : a < 1024) : UR l g mX5_leastOf [.int (nI a)] I J F w (.int (nI (lsn a))) I J F w := by
  refine ct_start (M := mX5_leastOf) (by decide +kernel) (Nat.le_of_ble_eq_true rfl) ?_
  intro p e s m args below meth c A X hA
  have X : AX p s m args meth c g A cX5_leastOf 1 RX5 (Cond.code yX5_leastOf cX5_leastOf 1 (some .int)) (some .int) := X
  show AW p l e (rmM 0 0) s m args below meth c g A 1 0 0 (MQ below (CQ g (hp g I J F w) s.heap.size (fun vv0 hh0 => vv0 = some (.int (nI (lsn a))) ∧ hh0 = hp g I J F w)) args s 0 0 A) 0 [some (.int (nI a))] [] (hp g I J F w)
  refine a_iload_n X dX5_leastOf_0 (i := 0) rfl rfl ?_
  refine a_iload_n X dX5_leastOf_1 (i := 0) rfl rfl ?_
  refine a_ineg X dX5_leastOf_2 ?_
  refine a_iand X dX5_leastOf_3 ?_
  refine a_iret X hA dX5_leastOf_4 ⟨?_, ?_⟩
  · rw [(set_ls a ha).1]
  · rfl
set_option maxRecDepth 100000 in
set_option maxHeartbeats 4000000 in
theorem c_X5_whoIn {l : Launch} {g : GG} {I : TI} {J : TJ} {F : TI} {w : Int64} {R : Nat → Nat} (hR : I 44 = nr R) {a : Nat} (hn : R 1 ≤ 10) (ha : a < 2 ^ 31) (hs : ∀ m, m < R 1 → R (2 + 6 * m + 1) < 2 ^ 31) : UR l g mX5_whoIn [.ref (ga g 43), .int (nI a)] I J F w (.int (wI (who R a (R 1)))) I J F w := by
  have h1 : I 44 1 = nI (R 1) := by rw [hR]; rfl
  refine ct_start (M := mX5_whoIn) (by decide +kernel) (Nat.le_of_ble_eq_true rfl) ?_
  intro p e s m args below meth c A X hA
  have X : AX p s m args meth c g A cX5_whoIn 4 RX5 (Cond.code yX5_whoIn cX5_whoIn 4 (some .int)) (some .int) := X
  show AW p l e (rmM 1 22) s m args below meth c g A 4 0 0 (MQ below (CQ g (hp g I J F w) s.heap.size (fun vv0 hh0 => vv0 = some (.int (wI (who R a (R 1)))) ∧ hh0 = hp g I J F w)) args s 0 0 A) 0 [some (.ref (ga g 43)), some (.int (nI a)), none, none] [] (hp g I J F w)
  have L4 : ∀ (fu : Nat) (k : Nat), R 1 - k < fu → (k ≤ R 1) → AW p l e (rmM 1 22) s m args below meth c g A 4 0 0 (MQ below (CQ g (hp g I J F w) s.heap.size (fun vv0 hh0 => vv0 = some (.int (wI (who R a (R 1)))) ∧ hh0 = hp g I J F w)) args s 0 0 A) 4 [some (.ref (ga g 43)), some (.int (nI a)), some (.int (wI (who R a k))), some (.int (nI k))] [] (hp g I J F w) := by
    intro fu
    induction fu with
    | zero => intro k hfu; exact absurd hfu (by omega)
    | succ fu ih =>
      intro k hfu hk
      refine a_iload_n X dX5_whoIn_4 (i := 3) rfl rfl ?_
      refine a_aload_n X dX5_whoIn_5 (i := 0) rfl rfl ?_
      refine s_getr X dX5_whoIn_6 fl_X5_7 ko_43 rfl ?_
      refine a_iconst X dX5_whoIn_9 (v := nI 1) (by decide +kernel) ?_
      refine s_ild X dX5_whoIn_10 ki_44 (by omega) (by decide) ?_
      rw [h1]
      refine s_icmp_geN X dX5_whoIn_11 (tgt := 36) (by decide) (by omega) (by omega) (fun hc11 => ?_) (fun hc11 => ?_)
      · skip
        have hk2 : k = R 1 := by omega
        subst hk2
        refine a_iload_n X dX5_whoIn_36 (i := 2) rfl rfl ?_
        exact a_iret X hA dX5_whoIn_37 ⟨rfl, rfl⟩
      · skip
        refine a_aload_n X dX5_whoIn_14 (i := 0) rfl rfl ?_
        refine a_iload_n X dX5_whoIn_15 (i := 3) rfl rfl ?_
        refine a_iconst X dX5_whoIn_16 (v := nI 1) (by decide +kernel) ?_
        refine s_callV_R X dX5_whoIn_17 lk_X5_55 ko_43 rfl rfl (c_X5_its hR (by omega)) ⟨Nat.le_of_ble_eq_true rfl, Nat.le_of_ble_eq_true rfl⟩ rfl rfl (Nat.le_of_ble_eq_true rfl) ⟨Nat.le_of_ble_eq_true rfl, Nat.le_of_ble_eq_true rfl⟩ ?_
        refine a_iload_n X dX5_whoIn_20 (i := 1) rfl rfl ?_
        refine s_icmp_neN X dX5_whoIn_21 (tgt := 28) (by decide) (hs k (by omega)) ha (fun hc21 => ?_) (fun hc21 => ?_)
        · skip
          refine a_iload_n X dX5_whoIn_28 (i := 2) rfl rfl ?_
          refine a_istore_n X dX5_whoIn_29 (i := 2) rfl (by decide) rfl ?_
          refine a_iinc X dX5_whoIn_30 rfl (v := nI (_ + 1)) (iincN _ 1) (by decide) rfl ?_
          refine a_goto X dX5_whoIn_33 (tgt := 4) (by decide) ?_
          exact (by have := ih (k + 1) (by omega) (by omega); simpa [who, wI, *] using this)
        · skip
          refine a_iload_n X dX5_whoIn_24 (i := 3) rfl rfl ?_
          refine a_goto X dX5_whoIn_25 (tgt := 29) (by decide) ?_
          refine a_istore_n X dX5_whoIn_29 (i := 2) rfl (by decide) rfl ?_
          refine a_iinc X dX5_whoIn_30 rfl (v := nI (_ + 1)) (iincN _ 1) (by decide) rfl ?_
          refine a_goto X dX5_whoIn_33 (tgt := 4) (by decide) ?_
          exact (by have := ih (k + 1) (by omega) (by omega); simpa [who, wI, *] using this)
  refine a_iconst X dX5_whoIn_0 (v := (-1)) (by decide +kernel) ?_
  refine a_istore_n X dX5_whoIn_1 (i := 2) rfl (by decide) rfl ?_
  refine a_iconst X dX5_whoIn_2 (v := nI 0) (by decide +kernel) ?_
  refine a_istore_n X dX5_whoIn_3 (i := 3) rfl (by decide) rfl ?_
  exact L4 (R 1 + 1) 0 (by omega) (by omega)
set_option maxRecDepth 100000 in
set_option maxHeartbeats 4000000 in
theorem c_X5_seatsTaken {l : Launch} {g : GG} {I : TI} {J : TJ} {F : TI} {w : Int64} {R : Nat → Nat} (hR : I 44 = nr R) (hn : R 1 ≤ 10) : UR l g mX5_seatsTaken [.ref (ga g 43)] I J F w (.int (orF (fun m => nI 1 <<< (nI (R (2 + 6 * m + 1)) &&& 31)) (R 1))) I J F w := by
  have h1 : I 44 1 = nI (R 1) := by rw [hR]; rfl
  refine ct_start (M := mX5_seatsTaken) (by decide +kernel) (Nat.le_of_ble_eq_true rfl) ?_
  intro p e s m args below meth c A X hA
  have X : AX p s m args meth c g A cX5_seatsTaken 3 RX5 (Cond.code yX5_seatsTaken cX5_seatsTaken 3 (some .int)) (some .int) := X
  show AW p l e (rmM 1 22) s m args below meth c g A 3 0 0 (MQ below (CQ g (hp g I J F w) s.heap.size (fun vv0 hh0 => vv0 = some (.int (orF (fun m => nI 1 <<< (nI (R (2 + 6 * m + 1)) &&& 31)) (R 1))) ∧ hh0 = hp g I J F w)) args s 0 0 A) 0 [some (.ref (ga g 43)), none, none] [] (hp g I J F w)
  have L4 : ∀ (fu : Nat) (k : Nat), R 1 - k < fu → (k ≤ R 1) → AW p l e (rmM 1 22) s m args below meth c g A 3 0 0 (MQ below (CQ g (hp g I J F w) s.heap.size (fun vv0 hh0 => vv0 = some (.int (orF (fun m => nI 1 <<< (nI (R (2 + 6 * m + 1)) &&& 31)) (R 1))) ∧ hh0 = hp g I J F w)) args s 0 0 A) 4 [some (.ref (ga g 43)), some (.int (orF (fun m => nI 1 <<< (nI (R (2 + 6 * m + 1)) &&& 31)) k)), some (.int (nI k))] [] (hp g I J F w) := by
    intro fu
    induction fu with
    | zero => intro k hfu; exact absurd hfu (by omega)
    | succ fu ih =>
      intro k hfu hk
      refine a_iload_n X dX5_seatsTaken_4 (i := 2) rfl rfl ?_
      refine a_aload_n X dX5_seatsTaken_5 (i := 0) rfl rfl ?_
      refine s_getr X dX5_seatsTaken_6 fl_X5_7 ko_43 rfl ?_
      refine a_iconst X dX5_seatsTaken_9 (v := nI 1) (by decide +kernel) ?_
      refine s_ild X dX5_seatsTaken_10 ki_44 (by omega) (by decide) ?_
      rw [h1]
      refine s_icmp_geN X dX5_seatsTaken_11 (tgt := 31) (by decide) (by omega) (by omega) (fun hc11 => ?_) (fun hc11 => ?_)
      · skip
        have hk2 : k = R 1 := by omega
        subst hk2
        refine a_iload_n X dX5_seatsTaken_31 (i := 1) rfl rfl ?_
        exact a_iret X hA dX5_seatsTaken_32 ⟨rfl, rfl⟩
      · skip
        refine a_iload_n X dX5_seatsTaken_14 (i := 1) rfl rfl ?_
        refine a_iconst X dX5_seatsTaken_15 (v := nI 1) (by decide +kernel) ?_
        refine a_aload_n X dX5_seatsTaken_16 (i := 0) rfl rfl ?_
        refine a_iload_n X dX5_seatsTaken_17 (i := 2) rfl rfl ?_
        refine a_iconst X dX5_seatsTaken_18 (v := nI 1) (by decide +kernel) ?_
        refine s_callV_R X dX5_seatsTaken_19 lk_X5_55 ko_43 rfl rfl (c_X5_its hR (by omega)) ⟨Nat.le_of_ble_eq_true rfl, Nat.le_of_ble_eq_true rfl⟩ rfl rfl (Nat.le_of_ble_eq_true rfl) ⟨Nat.le_of_ble_eq_true rfl, Nat.le_of_ble_eq_true rfl⟩ ?_
        refine a_ishl X dX5_seatsTaken_22 ?_
        refine a_ior X dX5_seatsTaken_23 ?_
        refine a_istore_n X dX5_seatsTaken_24 (i := 1) rfl (by decide) rfl ?_
        refine a_iinc X dX5_seatsTaken_25 rfl (v := nI (_ + 1)) (iincN _ 1) (by decide) rfl ?_
        refine a_goto X dX5_seatsTaken_28 (tgt := 4) (by decide) ?_
        exact ih (k + 1) (by omega) (by omega)
  refine a_iconst X dX5_seatsTaken_0 (v := nI 0) (by decide +kernel) ?_
  refine a_istore_n X dX5_seatsTaken_1 (i := 1) rfl (by decide) rfl ?_
  refine a_iconst X dX5_seatsTaken_2 (v := nI 0) (by decide +kernel) ?_
  refine a_istore_n X dX5_seatsTaken_3 (i := 2) rfl (by decide) rfl ?_
  exact L4 (R 1 + 1) 0 (by omega) (by omega)
set_option maxRecDepth 100000 in
set_option maxHeartbeats 4000000 in
theorem c_X5_standing {l : Launch} {g : GG} {I : TI} {J : TJ} {F : TI} {w : Int64} {R : Nat → Nat} (hR : I 44 = nr R) (hn : R 1 ≤ 10) : UR l g mX5_standing [.ref (ga g 43)] I J F w (.int (orF (fun m => nI 1 <<< (nI (R (2 + 6 * m + 2)) &&& 31)) (R 1))) I J F w := by
  have h1 : I 44 1 = nI (R 1) := by rw [hR]; rfl
  refine ct_start (M := mX5_standing) (by decide +kernel) (Nat.le_of_ble_eq_true rfl) ?_
  intro p e s m args below meth c A X hA
  have X : AX p s m args meth c g A cX5_standing 3 RX5 (Cond.code yX5_standing cX5_standing 3 (some .int)) (some .int) := X
  show AW p l e (rmM 1 22) s m args below meth c g A 3 0 0 (MQ below (CQ g (hp g I J F w) s.heap.size (fun vv0 hh0 => vv0 = some (.int (orF (fun m => nI 1 <<< (nI (R (2 + 6 * m + 2)) &&& 31)) (R 1))) ∧ hh0 = hp g I J F w)) args s 0 0 A) 0 [some (.ref (ga g 43)), none, none] [] (hp g I J F w)
  have L4 : ∀ (fu : Nat) (k : Nat), R 1 - k < fu → (k ≤ R 1) → AW p l e (rmM 1 22) s m args below meth c g A 3 0 0 (MQ below (CQ g (hp g I J F w) s.heap.size (fun vv0 hh0 => vv0 = some (.int (orF (fun m => nI 1 <<< (nI (R (2 + 6 * m + 2)) &&& 31)) (R 1))) ∧ hh0 = hp g I J F w)) args s 0 0 A) 4 [some (.ref (ga g 43)), some (.int (orF (fun m => nI 1 <<< (nI (R (2 + 6 * m + 2)) &&& 31)) k)), some (.int (nI k))] [] (hp g I J F w) := by
    intro fu
    induction fu with
    | zero => intro k hfu; exact absurd hfu (by omega)
    | succ fu ih =>
      intro k hfu hk
      refine a_iload_n X dX5_standing_4 (i := 2) rfl rfl ?_
      refine a_aload_n X dX5_standing_5 (i := 0) rfl rfl ?_
      refine s_getr X dX5_standing_6 fl_X5_7 ko_43 rfl ?_
      refine a_iconst X dX5_standing_9 (v := nI 1) (by decide +kernel) ?_
      refine s_ild X dX5_standing_10 ki_44 (by omega) (by decide) ?_
      rw [h1]
      refine s_icmp_geN X dX5_standing_11 (tgt := 31) (by decide) (by omega) (by omega) (fun hc11 => ?_) (fun hc11 => ?_)
      · skip
        have hk2 : k = R 1 := by omega
        subst hk2
        refine a_iload_n X dX5_standing_31 (i := 1) rfl rfl ?_
        exact a_iret X hA dX5_standing_32 ⟨rfl, rfl⟩
      · skip
        refine a_iload_n X dX5_standing_14 (i := 1) rfl rfl ?_
        refine a_iconst X dX5_standing_15 (v := nI 1) (by decide +kernel) ?_
        refine a_aload_n X dX5_standing_16 (i := 0) rfl rfl ?_
        refine a_iload_n X dX5_standing_17 (i := 2) rfl rfl ?_
        refine a_iconst X dX5_standing_18 (v := nI 2) (by decide +kernel) ?_
        refine s_callV_R X dX5_standing_19 lk_X5_55 ko_43 rfl rfl (c_X5_its hR (by omega)) ⟨Nat.le_of_ble_eq_true rfl, Nat.le_of_ble_eq_true rfl⟩ rfl rfl (Nat.le_of_ble_eq_true rfl) ⟨Nat.le_of_ble_eq_true rfl, Nat.le_of_ble_eq_true rfl⟩ ?_
        refine a_ishl X dX5_standing_22 ?_
        refine a_ior X dX5_standing_23 ?_
        refine a_istore_n X dX5_standing_24 (i := 1) rfl (by decide) rfl ?_
        refine a_iinc X dX5_standing_25 rfl (v := nI (_ + 1)) (iincN _ 1) (by decide) rfl ?_
        refine a_goto X dX5_standing_28 (tgt := 4) (by decide) ?_
        exact ih (k + 1) (by omega) (by omega)
  refine a_iconst X dX5_standing_0 (v := nI 0) (by decide +kernel) ?_
  refine a_istore_n X dX5_standing_1 (i := 1) rfl (by decide) rfl ?_
  refine a_iconst X dX5_standing_2 (v := nI 0) (by decide +kernel) ?_
  refine a_istore_n X dX5_standing_3 (i := 2) rfl (by decide) rfl ?_
  exact L4 (R 1 + 1) 0 (by omega) (by omega)
set_option maxRecDepth 100000 in
set_option maxHeartbeats 4000000 in
theorem c_X5_known {l : Launch} {g : GG} {I : TI} {J : TJ} {F : TI} {w : Int64} {R : Nat → Nat} (hR : I 44 = nr R) (hn : R 1 ≤ 10) : UR l g mX5_known [.ref (ga g 43)] I J F w (.int (orF (fun m => nI (R (2 + 6 * m + 4))) (R 1))) I J F w := by
  have h1 : I 44 1 = nI (R 1) := by rw [hR]; rfl
  refine ct_start (M := mX5_known) (by decide +kernel) (Nat.le_of_ble_eq_true rfl) ?_
  intro p e s m args below meth c A X hA
  have X : AX p s m args meth c g A cX5_known 3 RX5 (Cond.code yX5_known cX5_known 3 (some .int)) (some .int) := X
  show AW p l e (rmM 1 22) s m args below meth c g A 3 0 0 (MQ below (CQ g (hp g I J F w) s.heap.size (fun vv0 hh0 => vv0 = some (.int (orF (fun m => nI (R (2 + 6 * m + 4))) (R 1))) ∧ hh0 = hp g I J F w)) args s 0 0 A) 0 [some (.ref (ga g 43)), none, none] [] (hp g I J F w)
  have L4 : ∀ (fu : Nat) (k : Nat), R 1 - k < fu → (k ≤ R 1) → AW p l e (rmM 1 22) s m args below meth c g A 3 0 0 (MQ below (CQ g (hp g I J F w) s.heap.size (fun vv0 hh0 => vv0 = some (.int (orF (fun m => nI (R (2 + 6 * m + 4))) (R 1))) ∧ hh0 = hp g I J F w)) args s 0 0 A) 4 [some (.ref (ga g 43)), some (.int (orF (fun m => nI (R (2 + 6 * m + 4))) k)), some (.int (nI k))] [] (hp g I J F w) := by
    intro fu
    induction fu with
    | zero => intro k hfu; exact absurd hfu (by omega)
    | succ fu ih =>
      intro k hfu hk
      refine a_iload_n X dX5_known_4 (i := 2) rfl rfl ?_
      refine a_aload_n X dX5_known_5 (i := 0) rfl rfl ?_
      refine s_getr X dX5_known_6 fl_X5_7 ko_43 rfl ?_
      refine a_iconst X dX5_known_9 (v := nI 1) (by decide +kernel) ?_
      refine s_ild X dX5_known_10 ki_44 (by omega) (by decide) ?_
      rw [h1]
      refine s_icmp_geN X dX5_known_11 (tgt := 29) (by decide) (by omega) (by omega) (fun hc11 => ?_) (fun hc11 => ?_)
      · skip
        have hk2 : k = R 1 := by omega
        subst hk2
        refine a_iload_n X dX5_known_29 (i := 1) rfl rfl ?_
        exact a_iret X hA dX5_known_30 ⟨rfl, rfl⟩
      · skip
        refine a_iload_n X dX5_known_14 (i := 1) rfl rfl ?_
        refine a_aload_n X dX5_known_15 (i := 0) rfl rfl ?_
        refine a_iload_n X dX5_known_16 (i := 2) rfl rfl ?_
        refine a_iconst X dX5_known_17 (v := nI 4) (by decide +kernel) ?_
        refine s_callV_R X dX5_known_18 lk_X5_55 ko_43 rfl rfl (c_X5_its hR (by omega)) ⟨Nat.le_of_ble_eq_true rfl, Nat.le_of_ble_eq_true rfl⟩ rfl rfl (Nat.le_of_ble_eq_true rfl) ⟨Nat.le_of_ble_eq_true rfl, Nat.le_of_ble_eq_true rfl⟩ ?_
        refine a_ior X dX5_known_21 ?_
        refine a_istore_n X dX5_known_22 (i := 1) rfl (by decide) rfl ?_
        refine a_iinc X dX5_known_23 rfl (v := nI (_ + 1)) (iincN _ 1) (by decide) rfl ?_
        refine a_goto X dX5_known_26 (tgt := 4) (by decide) ?_
        exact ih (k + 1) (by omega) (by omega)
  refine a_iconst X dX5_known_0 (v := nI 0) (by decide +kernel) ?_
  refine a_istore_n X dX5_known_1 (i := 1) rfl (by decide) rfl ?_
  refine a_iconst X dX5_known_2 (v := nI 0) (by decide +kernel) ?_
  refine a_istore_n X dX5_known_3 (i := 2) rfl (by decide) rfl ?_
  exact L4 (R 1 + 1) 0 (by omega) (by omega)
set_option maxRecDepth 100000 in
set_option maxHeartbeats 4000000 in
theorem c_X5_knownOfAll {l : Launch} {g : GG} {I : TI} {J : TJ} {F : TI} {w : Int64} {R : Nat → Nat} (hR : I 44 = nr R) (hq : ∀ m, m < R 1 → R (2 + 6 * m + 4) < 1024) (hn : R 1 ≤ 10) : UR l g mX5_knownOfAll [.ref (ga g 43)] I J F w (.int (sumF (fun m => nI (pcn (R (2 + 6 * m + 4)))) (R 1))) I J F w := by
  have h1 : I 44 1 = nI (R 1) := by rw [hR]; rfl
  refine ct_start (M := mX5_knownOfAll) (by decide +kernel) (Nat.le_of_ble_eq_true rfl) ?_
  intro p e s m args below meth c A X hA
  have X : AX p s m args meth c g A cX5_knownOfAll 3 RX5 (Cond.code yX5_knownOfAll cX5_knownOfAll 3 (some .int)) (some .int) := X
  show AW p l e (rmM 1 22) s m args below meth c g A 3 0 0 (MQ below (CQ g (hp g I J F w) s.heap.size (fun vv0 hh0 => vv0 = some (.int (sumF (fun m => nI (pcn (R (2 + 6 * m + 4)))) (R 1))) ∧ hh0 = hp g I J F w)) args s 0 0 A) 0 [some (.ref (ga g 43)), none, none] [] (hp g I J F w)
  have L4 : ∀ (fu : Nat) (k : Nat), R 1 - k < fu → (k ≤ R 1) → AW p l e (rmM 1 22) s m args below meth c g A 3 0 0 (MQ below (CQ g (hp g I J F w) s.heap.size (fun vv0 hh0 => vv0 = some (.int (sumF (fun m => nI (pcn (R (2 + 6 * m + 4)))) (R 1))) ∧ hh0 = hp g I J F w)) args s 0 0 A) 4 [some (.ref (ga g 43)), some (.int (sumF (fun m => nI (pcn (R (2 + 6 * m + 4)))) k)), some (.int (nI k))] [] (hp g I J F w) := by
    intro fu
    induction fu with
    | zero => intro k hfu; exact absurd hfu (by omega)
    | succ fu ih =>
      intro k hfu hk
      refine a_iload_n X dX5_knownOfAll_4 (i := 2) rfl rfl ?_
      refine a_aload_n X dX5_knownOfAll_5 (i := 0) rfl rfl ?_
      refine s_getr X dX5_knownOfAll_6 fl_X5_7 ko_43 rfl ?_
      refine a_iconst X dX5_knownOfAll_9 (v := nI 1) (by decide +kernel) ?_
      refine s_ild X dX5_knownOfAll_10 ki_44 (by omega) (by decide) ?_
      rw [h1]
      refine s_icmp_geN X dX5_knownOfAll_11 (tgt := 32) (by decide) (by omega) (by omega) (fun hc11 => ?_) (fun hc11 => ?_)
      · skip
        have hk2 : k = R 1 := by omega
        subst hk2
        refine a_iload_n X dX5_knownOfAll_32 (i := 1) rfl rfl ?_
        exact a_iret X hA dX5_knownOfAll_33 ⟨rfl, rfl⟩
      · skip
        refine a_iload_n X dX5_knownOfAll_14 (i := 1) rfl rfl ?_
        refine a_aload_n X dX5_knownOfAll_15 (i := 0) rfl rfl ?_
        refine a_iload_n X dX5_knownOfAll_16 (i := 2) rfl rfl ?_
        refine a_iconst X dX5_knownOfAll_17 (v := nI 4) (by decide +kernel) ?_
        refine s_callV_R X dX5_knownOfAll_18 lk_X5_55 ko_43 rfl rfl (c_X5_its hR (by omega)) ⟨Nat.le_of_ble_eq_true rfl, Nat.le_of_ble_eq_true rfl⟩ rfl rfl (Nat.le_of_ble_eq_true rfl) ⟨Nat.le_of_ble_eq_true rfl, Nat.le_of_ble_eq_true rfl⟩ ?_
        refine s_callS_R X dX5_knownOfAll_21 lk_X5_74 (c_X5_bits (hq k (by omega))) ⟨Nat.le_of_ble_eq_true rfl, Nat.le_of_ble_eq_true rfl⟩ rfl rfl (Nat.le_of_ble_eq_true rfl) ⟨Nat.le_of_ble_eq_true rfl, Nat.le_of_ble_eq_true rfl⟩ ?_
        refine a_iadd X dX5_knownOfAll_24 ?_
        refine a_istore_n X dX5_knownOfAll_25 (i := 1) rfl (by decide) rfl ?_
        refine a_iinc X dX5_knownOfAll_26 rfl (v := nI (_ + 1)) (iincN _ 1) (by decide) rfl ?_
        refine a_goto X dX5_knownOfAll_29 (tgt := 4) (by decide) ?_
        exact ih (k + 1) (by omega) (by omega)
  refine a_iconst X dX5_knownOfAll_0 (v := nI 0) (by decide +kernel) ?_
  refine a_istore_n X dX5_knownOfAll_1 (i := 1) rfl (by decide) rfl ?_
  refine a_iconst X dX5_knownOfAll_2 (v := nI 0) (by decide +kernel) ?_
  refine a_istore_n X dX5_knownOfAll_3 (i := 2) rfl (by decide) rfl ?_
  exact L4 (R 1 + 1) 0 (by omega) (by omega)
set_option maxRecDepth 100000 in
set_option maxHeartbeats 4000000 in
theorem c_X5_sumOf {l : Launch} {g : GG} {I : TI} {J : TJ} {F : TI} {w : Int64} {R : Nat → Nat} (hR : I 44 = nr R) {j : Nat} (hj : j < 6) (hn : R 1 ≤ 10) : UR l g mX5_sumOf [.ref (ga g 43), .int (nI j)] I J F w (.int (sumF (fun m => nI (R (2 + 6 * m + j))) (R 1))) I J F w := by
  have h1 : I 44 1 = nI (R 1) := by rw [hR]; rfl
  refine ct_start (M := mX5_sumOf) (by decide +kernel) (Nat.le_of_ble_eq_true rfl) ?_
  intro p e s m args below meth c A X hA
  have X : AX p s m args meth c g A cX5_sumOf 4 RX5 (Cond.code yX5_sumOf cX5_sumOf 4 (some .int)) (some .int) := X
  show AW p l e (rmM 1 22) s m args below meth c g A 4 0 0 (MQ below (CQ g (hp g I J F w) s.heap.size (fun vv0 hh0 => vv0 = some (.int (sumF (fun m => nI (R (2 + 6 * m + j))) (R 1))) ∧ hh0 = hp g I J F w)) args s 0 0 A) 0 [some (.ref (ga g 43)), some (.int (nI j)), none, none] [] (hp g I J F w)
  have L4 : ∀ (fu : Nat) (k : Nat), R 1 - k < fu → (k ≤ R 1) → AW p l e (rmM 1 22) s m args below meth c g A 4 0 0 (MQ below (CQ g (hp g I J F w) s.heap.size (fun vv0 hh0 => vv0 = some (.int (sumF (fun m => nI (R (2 + 6 * m + j))) (R 1))) ∧ hh0 = hp g I J F w)) args s 0 0 A) 4 [some (.ref (ga g 43)), some (.int (nI j)), some (.int (sumF (fun m => nI (R (2 + 6 * m + j))) k)), some (.int (nI k))] [] (hp g I J F w) := by
    intro fu
    induction fu with
    | zero => intro k hfu; exact absurd hfu (by omega)
    | succ fu ih =>
      intro k hfu hk
      refine a_iload_n X dX5_sumOf_4 (i := 3) rfl rfl ?_
      refine a_aload_n X dX5_sumOf_5 (i := 0) rfl rfl ?_
      refine s_getr X dX5_sumOf_6 fl_X5_7 ko_43 rfl ?_
      refine a_iconst X dX5_sumOf_9 (v := nI 1) (by decide +kernel) ?_
      refine s_ild X dX5_sumOf_10 ki_44 (by omega) (by decide) ?_
      rw [h1]
      refine s_icmp_geN X dX5_sumOf_11 (tgt := 29) (by decide) (by omega) (by omega) (fun hc11 => ?_) (fun hc11 => ?_)
      · skip
        have hk2 : k = R 1 := by omega
        subst hk2
        refine a_iload_n X dX5_sumOf_29 (i := 2) rfl rfl ?_
        exact a_iret X hA dX5_sumOf_30 ⟨rfl, rfl⟩
      · skip
        refine a_iload_n X dX5_sumOf_14 (i := 2) rfl rfl ?_
        refine a_aload_n X dX5_sumOf_15 (i := 0) rfl rfl ?_
        refine a_iload_n X dX5_sumOf_16 (i := 3) rfl rfl ?_
        refine a_iload_n X dX5_sumOf_17 (i := 1) rfl rfl ?_
        refine s_callV_R X dX5_sumOf_18 lk_X5_55 ko_43 rfl rfl (c_X5_its hR (by omega)) ⟨Nat.le_of_ble_eq_true rfl, Nat.le_of_ble_eq_true rfl⟩ rfl rfl (Nat.le_of_ble_eq_true rfl) ⟨Nat.le_of_ble_eq_true rfl, Nat.le_of_ble_eq_true rfl⟩ ?_
        refine a_iadd X dX5_sumOf_21 ?_
        refine a_istore_n X dX5_sumOf_22 (i := 2) rfl (by decide) rfl ?_
        refine a_iinc X dX5_sumOf_23 rfl (v := nI (_ + 1)) (iincN _ 1) (by decide) rfl ?_
        refine a_goto X dX5_sumOf_26 (tgt := 4) (by decide) ?_
        exact ih (k + 1) (by omega) (by omega)
  refine a_iconst X dX5_sumOf_0 (v := nI 0) (by decide +kernel) ?_
  refine a_istore_n X dX5_sumOf_1 (i := 2) rfl (by decide) rfl ?_
  refine a_iconst X dX5_sumOf_2 (v := nI 0) (by decide +kernel) ?_
  refine a_istore_n X dX5_sumOf_3 (i := 3) rfl (by decide) rfl ?_
  exact L4 (R 1 + 1) 0 (by omega) (by omega)
set_option maxRecDepth 100000 in
set_option maxHeartbeats 4000000 in
theorem c_X5_gaps {l : Launch} {g : GG} {I : TI} {J : TJ} {F : TI} {w : Int64} {R : Nat → Nat} (hR : I 44 = nr R) (hn : R 1 ≤ 10) : UR l g mX5_gaps [.ref (ga g 43)] I J F w (.int (gapF (orF (fun m => nI 1 <<< (nI (R (2 + 6 * m + 1)) &&& 31)) (R 1)) 12)) I J F w := by
  refine ct_start (M := mX5_gaps) (by decide +kernel) (Nat.le_of_ble_eq_true rfl) ?_
  intro p e s m args below meth c A X hA
  have X : AX p s m args meth c g A cX5_gaps 6 RX5 (Cond.code yX5_gaps cX5_gaps 6 (some .int)) (some .int) := X
  show AW p l e (rmM 2 44) s m args below meth c g A 6 0 0 (MQ below (CQ g (hp g I J F w) s.heap.size (fun vv0 hh0 => vv0 = some (.int (gapF (orF (fun m => nI 1 <<< (nI (R (2 + 6 * m + 1)) &&& 31)) (R 1)) 12)) ∧ hh0 = hp g I J F w)) args s 0 0 A) 0 [some (.ref (ga g 43)), none, none, none, none, none] [] (hp g I J F w)
  have L47 : ∀ (t : Int32) (k : Nat) (x4 : Int32) (x5 : Int32), (k < 12) → (AW p l e (rmM 2 44) s m args below meth c g A 6 0 0 (MQ below (CQ g (hp g I J F w) s.heap.size (fun vv0 hh0 => vv0 = some (.int (gapF (orF (fun m => nI 1 <<< (nI (R (2 + 6 * m + 1)) &&& 31)) (R 1)) 12)) ∧ hh0 = hp g I J F w)) args s 0 0 A) 9 [some (.ref (ga g 43)), some (.int t), some (.int (gapF t k ||| (if (t >>> (nI k &&& 31)) &&& nI 1 = 0 ∧ ¬ x4 = 0 ∧ ¬ x5 = 0 then nI 1 <<< (nI k &&& 31) else nI 0))), some (.int (nI (k + 1))), some (.int x4), some (.int x5)] [] (hp g I J F w)) → AW p l e (rmM 2 44) s m args below meth c g A 6 0 0 (MQ below (CQ g (hp g I J F w) s.heap.size (fun vv0 hh0 => vv0 = some (.int (gapF (orF (fun m => nI 1 <<< (nI (R (2 + 6 * m + 1)) &&& 31)) (R 1)) 12)) ∧ hh0 = hp g I J F w)) args s 0 0 A) 47 [some (.ref (ga g 43)), some (.int t), some (.int (gapF t k)), some (.int (nI k)), some (.int x4), some (.int x5)] [] (hp g I J F w) := by
    intro t k x4 x5 hk hnx
    refine a_iload_n X dX5_gaps_47 (i := 2) rfl rfl ?_
    refine a_iload_n X dX5_gaps_48 (i := 1) rfl rfl ?_
    refine a_iload_n X dX5_gaps_49 (i := 3) rfl rfl ?_
    refine a_ishr X dX5_gaps_50 ?_
    refine a_iconst X dX5_gaps_51 (v := nI 1) (by decide +kernel) ?_
    refine a_iand X dX5_gaps_52 ?_
    refine a_if_ne X dX5_gaps_53 (tgt := 72) (by decide) (fun hc53 => ?_) (fun hc53 => ?_)
    · skip
      refine a_iconst X dX5_gaps_72 (v := nI 0) (by decide +kernel) ?_
      refine a_ior X dX5_gaps_73 ?_
      refine a_istore_n X dX5_gaps_74 (i := 2) rfl (by decide) rfl ?_
      refine a_iinc X dX5_gaps_75 rfl (v := nI (_ + 1)) (iincN _ 1) (by decide) rfl ?_
      refine a_goto X dX5_gaps_78 (tgt := 9) (by decide) ?_
      exact (by first | (simpa [hc53] using hnx) | (simpa [hc53, hc58] using hnx) | (simpa [hc53, hc58, hc63] using hnx))
    · skip
      refine a_iload X dX5_gaps_56 rfl ?_
      refine a_if_eq X dX5_gaps_58 (tgt := 72) (by decide) (fun hc58 => ?_) (fun hc58 => ?_)
      · skip
        refine a_iconst X dX5_gaps_72 (v := nI 0) (by decide +kernel) ?_
        refine a_ior X dX5_gaps_73 ?_
        refine a_istore_n X dX5_gaps_74 (i := 2) rfl (by decide) rfl ?_
        refine a_iinc X dX5_gaps_75 rfl (v := nI (_ + 1)) (iincN _ 1) (by decide) rfl ?_
        refine a_goto X dX5_gaps_78 (tgt := 9) (by decide) ?_
        exact (by first | (simpa [hc53] using hnx) | (simpa [hc53, hc58] using hnx) | (simpa [hc53, hc58, hc63] using hnx))
      · skip
        refine a_iload X dX5_gaps_61 rfl ?_
        refine a_if_eq X dX5_gaps_63 (tgt := 72) (by decide) (fun hc63 => ?_) (fun hc63 => ?_)
        · skip
          refine a_iconst X dX5_gaps_72 (v := nI 0) (by decide +kernel) ?_
          refine a_ior X dX5_gaps_73 ?_
          refine a_istore_n X dX5_gaps_74 (i := 2) rfl (by decide) rfl ?_
          refine a_iinc X dX5_gaps_75 rfl (v := nI (_ + 1)) (iincN _ 1) (by decide) rfl ?_
          refine a_goto X dX5_gaps_78 (tgt := 9) (by decide) ?_
          exact (by first | (simpa [hc53] using hnx) | (simpa [hc53, hc58] using hnx) | (simpa [hc53, hc58, hc63] using hnx))
        · skip
          refine a_iconst X dX5_gaps_66 (v := nI 1) (by decide +kernel) ?_
          refine a_iload_n X dX5_gaps_67 (i := 3) rfl rfl ?_
          refine a_ishl X dX5_gaps_68 ?_
          refine a_goto X dX5_gaps_69 (tgt := 73) (by decide) ?_
          refine a_ior X dX5_gaps_73 ?_
          refine a_istore_n X dX5_gaps_74 (i := 2) rfl (by decide) rfl ?_
          refine a_iinc X dX5_gaps_75 rfl (v := nI (_ + 1)) (iincN _ 1) (by decide) rfl ?_
          refine a_goto X dX5_gaps_78 (tgt := 9) (by decide) ?_
          exact (by first | (simpa [hc53] using hnx) | (simpa [hc53, hc58] using hnx) | (simpa [hc53, hc58, hc63] using hnx))
  have L9 : ∀ (fu : Nat) (t : Int32) (k : Nat), 12 - k < fu → (t = orF (fun m => nI 1 <<< (nI (R (2 + 6 * m + 1)) &&& 31)) (R 1)) → (k ≤ 12) → AW p l e (rmM 2 44) s m args below meth c g A 6 0 0 (MQ below (CQ g (hp g I J F w) s.heap.size (fun vv0 hh0 => vv0 = some (.int (gapF (orF (fun m => nI 1 <<< (nI (R (2 + 6 * m + 1)) &&& 31)) (R 1)) 12)) ∧ hh0 = hp g I J F w)) args s 0 0 A) 9 [some (.ref (ga g 43)), some (.int t), some (.int (gapF t k)), some (.int (nI k)), none, none] [] (hp g I J F w) := by
    intro fu
    induction fu with
    | zero => intro t k hfu; exact absurd hfu (by omega)
    | succ fu ih =>
      intro t k hfu ht hk
      refine a_iload_n X dX5_gaps_9 (i := 3) rfl rfl ?_
      refine a_bipush X dX5_gaps_10 (v := nI 12) (by decide +kernel) ?_
      refine s_icmp_geN X dX5_gaps_12 (tgt := 81) (by decide) (by omega) (by omega) (fun hc12 => ?_) (fun hc12 => ?_)
      · skip
        have hk2 : k = 12 := by omega
        subst hk2
        refine a_iload_n X dX5_gaps_81 (i := 2) rfl rfl ?_
        refine a_iret X hA dX5_gaps_82 ⟨?_, ?_⟩
        · rw [ht]
        · rfl
      · skip
        refine a_iload_n X dX5_gaps_15 (i := 1) rfl rfl ?_
        refine a_iconst X dX5_gaps_16 (v := nI 1) (by decide +kernel) ?_
        refine a_iload_n X dX5_gaps_17 (i := 3) rfl rfl ?_
        refine a_ishl X dX5_gaps_18 ?_
        refine a_iconst X dX5_gaps_19 (v := nI 1) (by decide +kernel) ?_
        refine a_isub X dX5_gaps_20 ?_
        refine a_iand X dX5_gaps_21 ?_
        refine a_if_eq X dX5_gaps_22 (tgt := 29) (by decide) (fun hc22 => ?_) (fun hc22 => ?_)
        · skip
          refine a_iconst X dX5_gaps_29 (v := nI 0) (by decide +kernel) ?_
          refine a_istore X dX5_gaps_30 (by decide) rfl ?_
          refine a_iload_n X dX5_gaps_32 (i := 1) rfl rfl ?_
          refine a_iload_n X dX5_gaps_33 (i := 3) rfl rfl ?_
          refine a_iconst X dX5_gaps_34 (v := nI 1) (by decide +kernel) ?_
          refine s_iaddN X dX5_gaps_35 ?_
          refine a_ishr X dX5_gaps_36 ?_
          refine a_if_eq X dX5_gaps_37 (tgt := 44) (by decide) (fun hc37 => ?_) (fun hc37 => ?_)
          · skip
            refine a_iconst X dX5_gaps_44 (v := nI 0) (by decide +kernel) ?_
            refine a_istore X dX5_gaps_45 (by decide) rfl ?_
            exact L47 t k _ _ (by omega) (by
        rw [← gap_step (by first | exact fl1 hc22 | exact fl0 hc22) (by first | exact fl1 hc37 | exact fl0 hc37)]
        exact s_dropAt 4 (s_dropAt 5 (ih t (k + 1) (by omega) ht (by omega))))
          · skip
            refine a_iconst X dX5_gaps_40 (v := nI 1) (by decide +kernel) ?_
            refine a_goto X dX5_gaps_41 (tgt := 45) (by decide) ?_
            refine a_istore X dX5_gaps_45 (by decide) rfl ?_
            exact L47 t k _ _ (by omega) (by
        rw [← gap_step (by first | exact fl1 hc22 | exact fl0 hc22) (by first | exact fl1 hc37 | exact fl0 hc37)]
        exact s_dropAt 4 (s_dropAt 5 (ih t (k + 1) (by omega) ht (by omega))))
        · skip
          refine a_iconst X dX5_gaps_25 (v := nI 1) (by decide +kernel) ?_
          refine a_goto X dX5_gaps_26 (tgt := 30) (by decide) ?_
          refine a_istore X dX5_gaps_30 (by decide) rfl ?_
          refine a_iload_n X dX5_gaps_32 (i := 1) rfl rfl ?_
          refine a_iload_n X dX5_gaps_33 (i := 3) rfl rfl ?_
          refine a_iconst X dX5_gaps_34 (v := nI 1) (by decide +kernel) ?_
          refine s_iaddN X dX5_gaps_35 ?_
          refine a_ishr X dX5_gaps_36 ?_
          refine a_if_eq X dX5_gaps_37 (tgt := 44) (by decide) (fun hc37 => ?_) (fun hc37 => ?_)
          · skip
            refine a_iconst X dX5_gaps_44 (v := nI 0) (by decide +kernel) ?_
            refine a_istore X dX5_gaps_45 (by decide) rfl ?_
            exact L47 t k _ _ (by omega) (by
        rw [← gap_step (by first | exact fl1 hc22 | exact fl0 hc22) (by first | exact fl1 hc37 | exact fl0 hc37)]
        exact s_dropAt 4 (s_dropAt 5 (ih t (k + 1) (by omega) ht (by omega))))
          · skip
            refine a_iconst X dX5_gaps_40 (v := nI 1) (by decide +kernel) ?_
            refine a_goto X dX5_gaps_41 (tgt := 45) (by decide) ?_
            refine a_istore X dX5_gaps_45 (by decide) rfl ?_
            exact L47 t k _ _ (by omega) (by
        rw [← gap_step (by first | exact fl1 hc22 | exact fl0 hc22) (by first | exact fl1 hc37 | exact fl0 hc37)]
        exact s_dropAt 4 (s_dropAt 5 (ih t (k + 1) (by omega) ht (by omega))))
  refine a_aload_n X dX5_gaps_0 (i := 0) rfl rfl ?_
  refine s_callV_R X dX5_gaps_1 lk_X5_70 ko_43 rfl rfl (c_X5_seatsTaken hR hn) ⟨Nat.le_of_ble_eq_true rfl, Nat.le_of_ble_eq_true rfl⟩ rfl rfl (Nat.le_of_ble_eq_true rfl) ⟨Nat.le_of_ble_eq_true rfl, Nat.le_of_ble_eq_true rfl⟩ ?_
  refine a_istore_n X dX5_gaps_4 (i := 1) rfl (by decide) rfl ?_
  refine a_iconst X dX5_gaps_5 (v := nI 0) (by decide +kernel) ?_
  refine a_istore_n X dX5_gaps_6 (i := 2) rfl (by decide) rfl ?_
  refine a_iconst X dX5_gaps_7 (v := nI 0) (by decide +kernel) ?_
  refine a_istore_n X dX5_gaps_8 (i := 3) rfl (by decide) rfl ?_
  exact L9 13 _ 0 (by omega) rfl (by omega)
