set_option maxRecDepth 100000 in
set_option maxHeartbeats 4000000 in
theorem c_X4_within {l : Launch} {g : GG} {I : TI} {J : TJ} {F : TI} {w : Int64} {v lo hi : Int32} : UR l g mX4_within [.int v, .int lo, .int hi] I J F w (.int (bI (inB v lo hi))) I J F w := by
  refine ct_start (M := mX4_within) (by decide +kernel) (Nat.le_of_ble_eq_true rfl) ?_
  intro p e s m args below meth c A X hA
  have X : AX p s m args meth c g A cX4_within 3 RX4 (Cond.code yX4_within cX4_within 3 (some .boolean)) (some .boolean) := X
  show AW p l e (rmM 0 0) s m args below meth c g A 3 0 0 (MQ below (CQ g (hp g I J F w) s.heap.size (fun vv0 hh0 => vv0 = some (.int (bI (inB v lo hi))) ∧ hh0 = hp g I J F w)) args s 0 0 A) 0 [some (.int v), some (.int lo), some (.int hi)] [] (hp g I J F w)
  refine a_iload_n X dX4_within_0 (i := 0) rfl rfl ?_
  refine a_iload_n X dX4_within_1 (i := 1) rfl rfl ?_
  refine a_icmp_lt X dX4_within_2 (tgt := 14) (by decide) (fun hc2 => ?_) (fun hc2 => ?_)
  · skip
    refine a_iconst X dX4_within_14 (v := nI 0) (by decide +kernel) ?_
    refine a_zret X hA dX4_within_15 (by decide +kernel) ⟨?_, ?_⟩
    · first | (rw [inB_lt hc2]; rfl) | (rw [inB_gt hc7]; rfl) | (rw [inB_ok hc2 hc7]; rfl)
    · rfl
  · skip
    refine a_iload_n X dX4_within_5 (i := 0) rfl rfl ?_
    refine a_iload_n X dX4_within_6 (i := 2) rfl rfl ?_
    refine a_icmp_gt X dX4_within_7 (tgt := 14) (by decide) (fun hc7 => ?_) (fun hc7 => ?_)
    · skip
      refine a_iconst X dX4_within_14 (v := nI 0) (by decide +kernel) ?_
      refine a_zret X hA dX4_within_15 (by decide +kernel) ⟨?_, ?_⟩
      · first | (rw [inB_lt hc2]; rfl) | (rw [inB_gt hc7]; rfl) | (rw [inB_ok hc2 hc7]; rfl)
      · rfl
    · skip
      refine a_iconst X dX4_within_10 (v := nI 1) (by decide +kernel) ?_
      refine a_goto X dX4_within_11 (tgt := 15) (by decide) ?_
      refine a_zret X hA dX4_within_15 (by decide +kernel) ⟨?_, ?_⟩
      · first | (rw [inB_lt hc2]; rfl) | (rw [inB_gt hc7]; rfl) | (rw [inB_ok hc2 hc7]; rfl)
      · rfl
set_option maxRecDepth 100000 in
set_option maxHeartbeats 4000000 in
theorem c_X4_found {l : Launch} {g : GG} {I : TI} {J : TJ} {F : TI} {w : Int64} {x : Int32} {k : Nat} (hk : k < 7) (hx : (-1000000001) - x = nI k) : UR l g mX4_found [.ref (ga g 0), .int x] I J F w (.int x) (fnd I 42 k) J F w := by
  refine ct_start (M := mX4_found) (by decide +kernel) (Nat.le_of_ble_eq_true rfl) ?_
  intro p e s m args below meth c A X hA
  have X : AX p s m args meth c g A cX4_found 3 RX4 (Cond.code yX4_found cX4_found 3 (some .int)) (some .int) := X
  show AW p l e (rmM 1 22) s m args below meth c g A 3 0 0 (MQ below (CQ g (hp g I J F w) s.heap.size (fun vv0 hh0 => vv0 = some (.int x) ∧ hh0 = hp g (fnd I 42 k) J F w)) args s 0 0 A) 0 [some (.ref (ga g 0)), some (.int x), none] [] (hp g I J F w)
  refine a_ldc X dX4_found_0 kc_X4_48 ?_
  refine a_iload_n X dX4_found_2 (i := 1) rfl rfl ?_
  refine a_isub X dX4_found_3 ?_
  rw [hx]
  refine a_istore_n X dX4_found_4 (i := 2) rfl (by decide) rfl ?_
  refine a_iload_n X dX4_found_5 (i := 2) rfl rfl ?_
  refine a_iconst X dX4_found_6 (v := nI 0) (by decide +kernel) ?_
  refine a_bipush X dX4_found_7 (v := nI 6) (by decide +kernel) ?_
  refine s_callS_R X dX4_found_9 lk_X4_44 c_X4_within ⟨Nat.le_of_ble_eq_true rfl, Nat.le_of_ble_eq_true rfl⟩ rfl rfl (Nat.le_of_ble_eq_true rfl) ⟨Nat.le_of_ble_eq_true rfl, Nat.le_of_ble_eq_true rfl⟩ ?_
  refine a_if_eq X dX4_found_12 (tgt := 25) (by decide) (fun hc12 => ?_) (fun hc12 => ?_)
  · skip
    try simp only [bI_0, Bool.not_eq_false] at hc12
    exact absurd hc12 (by rw [inB_N (by omega) (by decide) (by decide)]; simp; omega)
  · skip
    try simp only [bI_0, Bool.not_eq_false] at hc12
    refine a_aload_n X dX4_found_15 (i := 0) rfl rfl ?_
    refine s_getr X dX4_found_16 fl_X4_39 ko_0 rfl ?_
    refine a_iload_n X dX4_found_19 (i := 2) rfl rfl ?_
    refine a_dup2 X dX4_found_20 rfl rfl ?_
    refine s_ild X dX4_found_21 ki_42 (by omega) (by decide) ?_
    refine a_iconst X dX4_found_22 (v := nI 1) (by decide +kernel) ?_
    refine a_iadd X dX4_found_23 ?_
    refine s_ist X dX4_found_24 ki_42 (by omega) (by decide) ?_
    refine a_iload_n X dX4_found_25 (i := 1) rfl rfl ?_
    refine a_iret X hA dX4_found_26 ⟨?_, ?_⟩
    · rfl
    · rfl
set_option maxRecDepth 100000 in
set_option maxHeartbeats 4000000 in
theorem c_X1_isKind {l : Launch} {g : GG} {I : TI} {J : TJ} {F : TI} {w : Int64} {v : Int32} : UR l g mX1_isKind [.int v] I J F w (.int (bI (inB v (nI 0) (nI 5)))) I J F w := by
  refine ct_start (M := mX1_isKind) (by decide +kernel) (Nat.le_of_ble_eq_true rfl) ?_
  intro p e s m args below meth c A X hA
  have X : AX p s m args meth c g A cX1_isKind 1 RX1 (Cond.code yX1_isKind cX1_isKind 1 (some .boolean)) (some .boolean) := X
  show AW p l e (rmM 0 0) s m args below meth c g A 1 0 0 (MQ below (CQ g (hp g I J F w) s.heap.size (fun vv0 hh0 => vv0 = some (.int (bI (inB v (nI 0) (nI 5)))) ∧ hh0 = hp g I J F w)) args s 0 0 A) 0 [some (.int v)] [] (hp g I J F w)
  refine a_iload_n X dX1_isKind_0 (i := 0) rfl rfl ?_
  refine a_if_lt X dX1_isKind_1 (tgt := 14) (by decide) (fun hc1 => ?_) (fun hc1 => ?_)
  · skip
    refine a_iconst X dX1_isKind_14 (v := nI 0) (by decide +kernel) ?_
    refine a_zret X hA dX1_isKind_15 (by first | exact nar_bI _ | decide +kernel) ⟨?_, ?_⟩
    · first | (rw [inB_lt (by rw [nI_0]; exact hc1)]; rfl) | (rw [inB_gt (i6_gt hc7)]; rfl) | (rw [inB_ok (by rw [nI_0]; exact hc1) (i6_le hc7)]; rfl)
    · rfl
  · skip
    refine a_iload_n X dX1_isKind_4 (i := 0) rfl rfl ?_
    refine a_bipush X dX1_isKind_5 (v := nI 6) (by decide +kernel) ?_
    refine a_icmp_ge X dX1_isKind_7 (tgt := 14) (by decide) (fun hc7 => ?_) (fun hc7 => ?_)
    · skip
      refine a_iconst X dX1_isKind_14 (v := nI 0) (by decide +kernel) ?_
      refine a_zret X hA dX1_isKind_15 (by first | exact nar_bI _ | decide +kernel) ⟨?_, ?_⟩
      · first | (rw [inB_lt (by rw [nI_0]; exact hc1)]; rfl) | (rw [inB_gt (i6_gt hc7)]; rfl) | (rw [inB_ok (by rw [nI_0]; exact hc1) (i6_le hc7)]; rfl)
      · rfl
    · skip
      refine a_iconst X dX1_isKind_10 (v := nI 1) (by decide +kernel) ?_
      refine a_goto X dX1_isKind_11 (tgt := 15) (by decide) ?_
      refine a_zret X hA dX1_isKind_15 (by first | exact nar_bI _ | decide +kernel) ⟨?_, ?_⟩
      · first | (rw [inB_lt (by rw [nI_0]; exact hc1)]; rfl) | (rw [inB_gt (i6_gt hc7)]; rfl) | (rw [inB_ok (by rw [nI_0]; exact hc1) (i6_le hc7)]; rfl)
      · rfl
set_option maxRecDepth 100000 in
set_option maxHeartbeats 4000000 in
theorem c_J6_bitCount {l : Launch} {g : GG} {I : TI} {J : TJ} {F : TI} {w : Int64} {a : Nat} (ha : a < 1024) : UR l g mJ6_bitCount_0f7a4 [.int (nI a)] I J F w (.int (nI (pcn a))) I J F w := by
  refine ct_start (M := mJ6_bitCount_0f7a4) (by decide +kernel) (Nat.le_of_ble_eq_true rfl) ?_
  intro p e s m args below meth c A X hA
  have X : AX p s m args meth c g A cJ6_bitCount_0f7a4 1 RJ6 (Cond.code yJ6_bitCount_0f7a4 cJ6_bitCount_0f7a4 1 (some .int)) (some .int) := X
  show AW p l e (rmM 0 0) s m args below meth c g A 1 0 0 (MQ below (CQ g (hp g I J F w) s.heap.size (fun vv0 hh0 => vv0 = some (.int (nI (pcn a))) ∧ hh0 = hp g I J F w)) args s 0 0 A) 0 [some (.int (nI a))] [] (hp g I J F w)
  refine a_iload_n X dJ6_bitCount_0f7a4_0 (i := 0) rfl rfl ?_
  refine a_iload_n X dJ6_bitCount_0f7a4_1 (i := 0) rfl rfl ?_
  refine a_iconst X dJ6_bitCount_0f7a4_2 (v := nI 1) (by decide +kernel) ?_
  refine a_iushr X dJ6_bitCount_0f7a4_3 rfl ?_
  refine a_ldcw X dJ6_bitCount_0f7a4_4 kc_J6_265 ?_
  refine a_iand X dJ6_bitCount_0f7a4_7 ?_
  refine a_isub X dJ6_bitCount_0f7a4_8 ?_
  refine a_istore_n X dJ6_bitCount_0f7a4_9 (i := 0) rfl (by decide) rfl ?_
  refine a_iload_n X dJ6_bitCount_0f7a4_10 (i := 0) rfl rfl ?_
  refine a_ldcw X dJ6_bitCount_0f7a4_11 kc_J6_266 ?_
  refine a_iand X dJ6_bitCount_0f7a4_14 ?_
  refine a_iload_n X dJ6_bitCount_0f7a4_15 (i := 0) rfl rfl ?_
  refine a_iconst X dJ6_bitCount_0f7a4_16 (v := nI 2) (by decide +kernel) ?_
  refine a_iushr X dJ6_bitCount_0f7a4_17 rfl ?_
  refine a_ldcw X dJ6_bitCount_0f7a4_18 kc_J6_266 ?_
  refine a_iand X dJ6_bitCount_0f7a4_21 ?_
  refine a_iadd X dJ6_bitCount_0f7a4_22 ?_
  refine a_istore_n X dJ6_bitCount_0f7a4_23 (i := 0) rfl (by decide) rfl ?_
  refine a_iload_n X dJ6_bitCount_0f7a4_24 (i := 0) rfl rfl ?_
  refine a_iload_n X dJ6_bitCount_0f7a4_25 (i := 0) rfl rfl ?_
  refine a_iconst X dJ6_bitCount_0f7a4_26 (v := nI 4) (by decide +kernel) ?_
  refine a_iushr X dJ6_bitCount_0f7a4_27 rfl ?_
  refine a_iadd X dJ6_bitCount_0f7a4_28 ?_
  refine a_ldcw X dJ6_bitCount_0f7a4_29 kc_J6_267 ?_
  refine a_iand X dJ6_bitCount_0f7a4_32 ?_
  refine a_istore_n X dJ6_bitCount_0f7a4_33 (i := 0) rfl (by decide) rfl ?_
  refine a_iload_n X dJ6_bitCount_0f7a4_34 (i := 0) rfl rfl ?_
  refine a_iload_n X dJ6_bitCount_0f7a4_35 (i := 0) rfl rfl ?_
  refine a_bipush X dJ6_bitCount_0f7a4_36 (v := nI 8) (by decide +kernel) ?_
  refine a_iushr X dJ6_bitCount_0f7a4_38 rfl ?_
  refine a_iadd X dJ6_bitCount_0f7a4_39 ?_
  refine a_istore_n X dJ6_bitCount_0f7a4_40 (i := 0) rfl (by decide) rfl ?_
  refine a_iload_n X dJ6_bitCount_0f7a4_41 (i := 0) rfl rfl ?_
  refine a_iload_n X dJ6_bitCount_0f7a4_42 (i := 0) rfl rfl ?_
  refine a_bipush X dJ6_bitCount_0f7a4_43 (v := nI 16) (by decide +kernel) ?_
  refine a_iushr X dJ6_bitCount_0f7a4_45 rfl ?_
  refine a_iadd X dJ6_bitCount_0f7a4_46 ?_
  refine a_istore_n X dJ6_bitCount_0f7a4_47 (i := 0) rfl (by decide) rfl ?_
  refine a_iload_n X dJ6_bitCount_0f7a4_48 (i := 0) rfl rfl ?_
  refine a_bipush X dJ6_bitCount_0f7a4_49 (v := nI 63) (by decide +kernel) ?_
  refine a_iand X dJ6_bitCount_0f7a4_51 ?_
  refine a_iret X hA dJ6_bitCount_0f7a4_52 ⟨?_, ?_⟩
  · congr 2
    clear X
    revert a
    decide +kernel
  · rfl
set_option maxRecDepth 100000 in
set_option maxHeartbeats 4000000 in
theorem c_X1_least {l : Launch} {g : GG} {I : TI} {J : TJ} {F : TI} {w : Int64} {a : Nat} (ha : a < 1024) : UR l g mX1_least [.int (nI a)] I J F w (.int (nI (lsn a))) I J F w := by
  refine ct_start (M := mX1_least) (by decide +kernel) (Nat.le_of_ble_eq_true rfl) ?_
  intro p e s m args below meth c A X hA
  have X : AX p s m args meth c g A cX1_least 1 RX1 (Cond.code yX1_least cX1_least 1 (some .int)) (some .int) := X
  show AW p l e (rmM 0 0) s m args below meth c g A 1 0 0 (MQ below (CQ g (hp g I J F w) s.heap.size (fun vv0 hh0 => vv0 = some (.int (nI (lsn a))) ∧ hh0 = hp g I J F w)) args s 0 0 A) 0 [some (.int (nI a))] [] (hp g I J F w)
  refine a_iload_n X dX1_least_0 (i := 0) rfl rfl ?_
  refine a_iload_n X dX1_least_1 (i := 0) rfl rfl ?_
  refine a_ineg X dX1_least_2 ?_
  refine a_iand X dX1_least_3 ?_
  refine a_iret X hA dX1_least_4 ⟨?_, ?_⟩
  · rw [(set_ls a ha).1]
  · rfl
set_option maxRecDepth 100000 in
set_option maxHeartbeats 4000000 in
theorem c_X1_greatest {l : Launch} {g : GG} {I : TI} {J : TJ} {F : TI} {w : Int64} {a : Nat} (ha : a < 1024) : UR l g mX1_greatest [.int (nI a)] I J F w (.int (nI (grn a))) I J F w := by
  refine ct_start (M := mX1_greatest) (by decide +kernel) (Nat.le_of_ble_eq_true rfl) ?_
  intro p e s m args below meth c A X hA
  have X : AX p s m args meth c g A cX1_greatest 3 RX1 (Cond.code yX1_greatest cX1_greatest 3 (some .int)) (some .int) := X
  show AW p l e (rmM 0 0) s m args below meth c g A 3 0 0 (MQ below (CQ g (hp g I J F w) s.heap.size (fun vv0 hh0 => vv0 = some (.int (nI (grn a))) ∧ hh0 = hp g I J F w)) args s 0 0 A) 0 [some (.int (nI a)), none, none] [] (hp g I J F w)
  have L3 : ∀ (fu : Nat) (k : Nat), k < fu → (k ≤ 10) → (grD a k = grn a) → AW p l e (rmM 0 0) s m args below meth c g A 3 0 0 (MQ below (CQ g (hp g I J F w) s.heap.size (fun vv0 hh0 => vv0 = some (.int (nI (grn a))) ∧ hh0 = hp g I J F w)) args s 0 0 A) 3 [some (.int (nI a)), some (.int (nI k - nI 1)), none] [] (hp g I J F w) := by
    intro fu
    induction fu with
    | zero => intro k hfu; exact absurd hfu (by omega)
    | succ fu ih =>
      intro k hfu hk hg
      refine a_iload_n X dX1_greatest_3 (i := 1) rfl rfl ?_
      refine a_if_lt X dX1_greatest_4 (tgt := 25) (by decide) (fun hc4 => ?_) (fun hc4 => ?_)
      · skip
        have hk0 := k_zero (by omega) hc4
        refine a_iconst X dX1_greatest_25 (v := nI 0) (by decide +kernel) ?_
        refine a_iret X hA dX1_greatest_26 ⟨?_, ?_⟩
        · congr 2; rw [← hg, hk0]; rfl
        · rfl
      · skip
        have hk1 := k_pos hc4
        rw [pk_sub hk1]
        refine a_iconst X dX1_greatest_7 (v := nI 1) (by decide +kernel) ?_
        refine a_iload_n X dX1_greatest_8 (i := 1) rfl rfl ?_
        refine a_ishl X dX1_greatest_9 ?_
        rw [(shl_v (k - 1) (by omega)).1]
        refine a_istore_n X dX1_greatest_10 (i := 2) rfl (by decide) rfl ?_
        refine a_iload_n X dX1_greatest_11 (i := 0) rfl rfl ?_
        refine a_iload_n X dX1_greatest_12 (i := 2) rfl rfl ?_
        refine a_iand X dX1_greatest_13 ?_
        refine a_if_eq X dX1_greatest_14 (tgt := 19) (by decide) (fun hc14 => ?_) (fun hc14 => ?_)
        · skip
          have hc14b : a.testBit (k - 1) = false := by rw [← (shl_v (k - 1) (by omega)).1] at hc14; exact (set_bit2 _ (by omega) a ha).mp hc14
          refine a_iinc X dX1_greatest_19 rfl (v := _ - nI 1) (iincM _) (by decide) rfl ?_
          refine a_goto X dX1_greatest_22 (tgt := 3) (by decide) ?_
          exact (by have := ih (k - 1) (by omega) (by omega) ((grD_go hk1 hc14b).trans hg); exact s_dropAt 2 this)
        · skip
          have hc14b : a.testBit (k - 1) = true := by rw [← (shl_v (k - 1) (by omega)).1] at hc14; cases hz : a.testBit (k - 1) with
            | true => rfl
            | false => exact absurd ((set_bit2 _ (by omega) a ha).mpr hz) hc14
          refine a_iload_n X dX1_greatest_17 (i := 2) rfl rfl ?_
          refine a_iret X hA dX1_greatest_18 ⟨?_, ?_⟩
          · congr 2; rw [← hg, grD_hit hk1 hc14b]
          · rfl
  refine a_bipush X dX1_greatest_0 (v := nI 9) (by decide +kernel) ?_
  refine a_istore_n X dX1_greatest_2 (i := 1) rfl (by decide) rfl ?_
  exact L3 11 10 (by omega) (by omega) (grD_10 a ha)
set_option maxRecDepth 100000 in
set_option maxHeartbeats 4000000 in
theorem c_X1_reach {l : Launch} {g : GG} {I : TI} {J : TJ} {F : TI} {w : Int64} {a t : Nat} (ha : a < 6) (ht : t < 100) : UR l g mX1_reach [.int (nI a), .int (nI t)] I J F w (.int (nI (fe a t))) I J F w := by
  refine ct_start (M := mX1_reach) (by decide +kernel) (Nat.le_of_ble_eq_true rfl) ?_
  intro p e s m args below meth c A X hA
  have X : AX p s m args meth c g A cX1_reach 2 RX1 (Cond.code yX1_reach cX1_reach 2 (some .int)) (some .int) := X
  show AW p l e (rmM 0 0) s m args below meth c g A 2 0 0 (MQ below (CQ g (hp g I J F w) s.heap.size (fun vv0 hh0 => vv0 = some (.int (nI (fe a t))) ∧ hh0 = hp g I J F w)) args s 0 0 A) 0 [some (.int (nI a)), some (.int (nI t))] [] (hp g I J F w)
  refine a_iload_n X dX1_reach_0 (i := 0) rfl rfl ?_
  rcases lt6 ha with hsw | hsw | hsw | hsw | hsw | hsw
  · rw [hsw]
    refine a_tsOut X dX1_reach_1 (by decide +kernel) (tgt := 52) (by decide) ?_
    refine a_iconst X dX1_reach_52 (v := nI 1) (by decide +kernel) ?_
    refine a_iret X hA dX1_reach_53 ⟨?_, ?_⟩
    · first | rfl | (show some (Value.int (nI _)) = some (Value.int (nI (if t < 10 then 2 else 1))); first | rw [if_pos (by omega)] | rw [if_neg (by omega)])
    · rfl
  · rw [hsw]
    refine a_tsIn X dX1_reach_1 (by decide +kernel) (by decide +kernel) (off := 35) (by decide +kernel) (tgt := 36) (by decide) ?_
    refine a_iconst X dX1_reach_36 (v := nI 2) (by decide +kernel) ?_
    refine a_iret X hA dX1_reach_37 ⟨?_, ?_⟩
    · first | rfl | (show some (Value.int (nI _)) = some (Value.int (nI (if t < 10 then 2 else 1))); first | rw [if_pos (by omega)] | rw [if_neg (by omega)])
    · rfl
  · rw [hsw]
    refine a_tsIn X dX1_reach_1 (by decide +kernel) (by decide +kernel) (off := 51) (by decide +kernel) (tgt := 52) (by decide) ?_
    refine a_iconst X dX1_reach_52 (v := nI 1) (by decide +kernel) ?_
    refine a_iret X hA dX1_reach_53 ⟨?_, ?_⟩
    · first | rfl | (show some (Value.int (nI _)) = some (Value.int (nI (if t < 10 then 2 else 1))); first | rw [if_pos (by omega)] | rw [if_neg (by omega)])
    · rfl
  · rw [hsw]
    refine a_tsIn X dX1_reach_1 (by decide +kernel) (by decide +kernel) (off := 37) (by decide +kernel) (tgt := 38) (by decide) ?_
    refine a_iconst X dX1_reach_38 (v := nI 0) (by decide +kernel) ?_
    refine a_iret X hA dX1_reach_39 ⟨?_, ?_⟩
    · first | rfl | (show some (Value.int (nI _)) = some (Value.int (nI (if t < 10 then 2 else 1))); first | rw [if_pos (by omega)] | rw [if_neg (by omega)])
    · rfl
  · rw [hsw]
    refine a_tsIn X dX1_reach_1 (by decide +kernel) (by decide +kernel) (off := 35) (by decide +kernel) (tgt := 36) (by decide) ?_
    refine a_iconst X dX1_reach_36 (v := nI 2) (by decide +kernel) ?_
    refine a_iret X hA dX1_reach_37 ⟨?_, ?_⟩
    · first | rfl | (show some (Value.int (nI _)) = some (Value.int (nI (if t < 10 then 2 else 1))); first | rw [if_pos (by omega)] | rw [if_neg (by omega)])
    · rfl
  · rw [hsw]
    refine a_tsIn X dX1_reach_1 (by decide +kernel) (by decide +kernel) (off := 39) (by decide +kernel) (tgt := 40) (by decide) ?_
    refine a_iload_n X dX1_reach_40 (i := 1) rfl rfl ?_
    refine a_bipush X dX1_reach_41 (v := nI 10) (by decide +kernel) ?_
    refine s_icmp_geN X dX1_reach_43 (tgt := 50) (by decide) (by omega) (by omega) (fun hc43 => ?_) (fun hc43 => ?_)
    · skip
      refine a_iconst X dX1_reach_50 (v := nI 1) (by decide +kernel) ?_
      refine a_iret X hA dX1_reach_51 ⟨?_, ?_⟩
      · first | rfl | (show some (Value.int (nI _)) = some (Value.int (nI (if t < 10 then 2 else 1))); first | rw [if_pos (by omega)] | rw [if_neg (by omega)])
      · rfl
    · skip
      refine a_iconst X dX1_reach_46 (v := nI 2) (by decide +kernel) ?_
      refine a_goto X dX1_reach_47 (tgt := 51) (by decide) ?_
      refine a_iret X hA dX1_reach_51 ⟨?_, ?_⟩
      · first | rfl | (show some (Value.int (nI _)) = some (Value.int (nI (if t < 10 then 2 else 1))); first | rw [if_pos (by omega)] | rw [if_neg (by omega)])
      · rfl
set_option maxRecDepth 100000 in
set_option maxHeartbeats 4000000 in
theorem c_X1_gets {l : Launch} {g : GG} {I : TI} {J : TJ} {F : TI} {w : Int64} {a t d n : Nat} (ha : a < 6) (ht : t < 100) (hd0 : d < 10) (hn : n < 2 ^ 31) : UR l g mX1_gets [.int (nI a), .int (nI t), .int (nI d), .int (nI n)] I J F w (.int (bI (getK a t d n))) I J F w := by
  refine ct_start (M := mX1_gets) (by decide +kernel) (Nat.le_of_ble_eq_true rfl) ?_
  intro p e s m args below meth c A X hA
  have X : AX p s m args meth c g A cX1_gets 4 RX1 (Cond.code yX1_gets cX1_gets 4 (some .boolean)) (some .boolean) := X
  show AW p l e (rmM 0 0) s m args below meth c g A 4 0 0 (MQ below (CQ g (hp g I J F w) s.heap.size (fun vv0 hh0 => vv0 = some (.int (bI (getK a t d n))) ∧ hh0 = hp g I J F w)) args s 0 0 A) 0 [some (.int (nI a)), some (.int (nI t)), some (.int (nI d)), some (.int (nI n))] [] (hp g I J F w)
  refine a_iload_n X dX1_gets_0 (i := 1) rfl rfl ?_
  refine a_bipush X dX1_gets_1 (v := nI 60) (by decide +kernel) ?_
  refine s_icmp_ltN X dX1_gets_3 (tgt := 8) (by decide) (by omega) (by omega) (fun hc3 => ?_) (fun hc3 => ?_)
  · skip
    refine a_iload_n X dX1_gets_8 (i := 0) rfl rfl ?_
    rcases lt6 ha with hsw | hsw | hsw | hsw | hsw | hsw
    · rw [hsw]
      refine a_tsOut X dX1_gets_9 (by decide +kernel) (tgt := 73) (by decide) ?_
      refine a_iload_n X dX1_gets_73 (i := 2) rfl rfl ?_
      refine a_iconst X dX1_gets_74 (v := nI 5) (by decide +kernel) ?_
      refine s_icmp_ltN X dX1_gets_75 (tgt := 82) (by decide) (by omega) (by omega) (fun hc75 => ?_) (fun hc75 => ?_)
      · skip
        refine a_iconst X dX1_gets_82 (v := nI 0) (by decide +kernel) ?_
        refine a_zret X hA dX1_gets_83 (by first | exact nar_bI _ | decide +kernel) ⟨?_, ?_⟩
        · unfold getK; rw [if_neg (by omega)]; first | rfl | (congr 2; first | exact b1 (by omega) | exact b0 (by omega) | (refine bt1 ?_; simp only [boyB]; simp; omega) | (refine bf0 ?_; simp only [boyB]; simp; omega))
        · rfl
      · skip
        refine a_iconst X dX1_gets_78 (v := nI 1) (by decide +kernel) ?_
        refine a_goto X dX1_gets_79 (tgt := 83) (by decide) ?_
        refine a_zret X hA dX1_gets_83 (by first | exact nar_bI _ | decide +kernel) ⟨?_, ?_⟩
        · unfold getK; rw [if_neg (by omega)]; first | rfl | (congr 2; first | exact b1 (by omega) | exact b0 (by omega) | (refine bt1 ?_; simp only [boyB]; simp; omega) | (refine bf0 ?_; simp only [boyB]; simp; omega))
        · rfl
    · rw [hsw]
      refine a_tsIn X dX1_gets_9 (by decide +kernel) (by decide +kernel) (off := 35) (by decide +kernel) (tgt := 44) (by decide) ?_
      refine a_iload_n X dX1_gets_44 (i := 2) rfl rfl ?_
      refine a_iconst X dX1_gets_45 (v := nI 3) (by decide +kernel) ?_
      refine s_icmp_ltN X dX1_gets_46 (tgt := 53) (by decide) (by omega) (by omega) (fun hc46 => ?_) (fun hc46 => ?_)
      · skip
        refine a_iconst X dX1_gets_53 (v := nI 0) (by decide +kernel) ?_
        refine a_zret X hA dX1_gets_54 (by first | exact nar_bI _ | decide +kernel) ⟨?_, ?_⟩
        · unfold getK; rw [if_neg (by omega)]; first | rfl | (congr 2; first | exact b1 (by omega) | exact b0 (by omega) | (refine bt1 ?_; simp only [boyB]; simp; omega) | (refine bf0 ?_; simp only [boyB]; simp; omega))
        · rfl
      · skip
        refine a_iconst X dX1_gets_49 (v := nI 1) (by decide +kernel) ?_
        refine a_goto X dX1_gets_50 (tgt := 54) (by decide) ?_
        refine a_zret X hA dX1_gets_54 (by first | exact nar_bI _ | decide +kernel) ⟨?_, ?_⟩
        · unfold getK; rw [if_neg (by omega)]; first | rfl | (congr 2; first | exact b1 (by omega) | exact b0 (by omega) | (refine bt1 ?_; simp only [boyB]; simp; omega) | (refine bf0 ?_; simp only [boyB]; simp; omega))
        · rfl
    · rw [hsw]
      refine a_tsIn X dX1_gets_9 (by decide +kernel) (by decide +kernel) (off := 46) (by decide +kernel) (tgt := 55) (by decide) ?_
      refine a_iload_n X dX1_gets_55 (i := 2) rfl rfl ?_
      refine a_iload_n X dX1_gets_56 (i := 3) rfl rfl ?_
      refine a_iconst X dX1_gets_57 (v := nI 4) (by decide +kernel) ?_
      refine a_irem X dX1_gets_58 (by decide +kernel) ?_
      rw [pk_rem hn (by decide) (by decide)]
      refine s_iaddN X dX1_gets_59 ?_
      refine a_bipush X dX1_gets_60 (v := nI 7) (by decide +kernel) ?_
      refine s_icmp_ltN X dX1_gets_62 (tgt := 69) (by decide) (by omega) (by omega) (fun hc62 => ?_) (fun hc62 => ?_)
      · skip
        refine a_iconst X dX1_gets_69 (v := nI 0) (by decide +kernel) ?_
        refine a_zret X hA dX1_gets_70 (by first | exact nar_bI _ | decide +kernel) ⟨?_, ?_⟩
        · unfold getK; rw [if_neg (by omega)]; first | rfl | (congr 2; first | exact b1 (by omega) | exact b0 (by omega) | (refine bt1 ?_; simp only [boyB]; simp; omega) | (refine bf0 ?_; simp only [boyB]; simp; omega))
        · rfl
      · skip
        refine a_iconst X dX1_gets_65 (v := nI 1) (by decide +kernel) ?_
        refine a_goto X dX1_gets_66 (tgt := 70) (by decide) ?_
        refine a_zret X hA dX1_gets_70 (by first | exact nar_bI _ | decide +kernel) ⟨?_, ?_⟩
        · unfold getK; rw [if_neg (by omega)]; first | rfl | (congr 2; first | exact b1 (by omega) | exact b0 (by omega) | (refine bt1 ?_; simp only [boyB]; simp; omega) | (refine bf0 ?_; simp only [boyB]; simp; omega))
        · rfl
    · rw [hsw]
      refine a_tsIn X dX1_gets_9 (by decide +kernel) (by decide +kernel) (off := 62) (by decide +kernel) (tgt := 71) (by decide) ?_
      refine a_iconst X dX1_gets_71 (v := nI 1) (by decide +kernel) ?_
      refine a_zret X hA dX1_gets_72 (by first | exact nar_bI _ | decide +kernel) ⟨?_, ?_⟩
      · unfold getK; rw [if_neg (by omega)]; first | rfl | (congr 2; first | exact b1 (by omega) | exact b0 (by omega) | (refine bt1 ?_; simp only [boyB]; simp; omega) | (refine bf0 ?_; simp only [boyB]; simp; omega))
      · rfl
    · rw [hsw]
      refine a_tsIn X dX1_gets_9 (by decide +kernel) (by decide +kernel) (off := 35) (by decide +kernel) (tgt := 44) (by decide) ?_
      refine a_iload_n X dX1_gets_44 (i := 2) rfl rfl ?_
      refine a_iconst X dX1_gets_45 (v := nI 3) (by decide +kernel) ?_
      refine s_icmp_ltN X dX1_gets_46 (tgt := 53) (by decide) (by omega) (by omega) (fun hc46 => ?_) (fun hc46 => ?_)
      · skip
        refine a_iconst X dX1_gets_53 (v := nI 0) (by decide +kernel) ?_
        refine a_zret X hA dX1_gets_54 (by first | exact nar_bI _ | decide +kernel) ⟨?_, ?_⟩
        · unfold getK; rw [if_neg (by omega)]; first | rfl | (congr 2; first | exact b1 (by omega) | exact b0 (by omega) | (refine bt1 ?_; simp only [boyB]; simp; omega) | (refine bf0 ?_; simp only [boyB]; simp; omega))
        · rfl
      · skip
        refine a_iconst X dX1_gets_49 (v := nI 1) (by decide +kernel) ?_
        refine a_goto X dX1_gets_50 (tgt := 54) (by decide) ?_
        refine a_zret X hA dX1_gets_54 (by first | exact nar_bI _ | decide +kernel) ⟨?_, ?_⟩
        · unfold getK; rw [if_neg (by omega)]; first | rfl | (congr 2; first | exact b1 (by omega) | exact b0 (by omega) | (refine bt1 ?_; simp only [boyB]; simp; omega) | (refine bf0 ?_; simp only [boyB]; simp; omega))
        · rfl
    · rw [hsw]
      refine a_tsIn X dX1_gets_9 (by decide +kernel) (by decide +kernel) (off := 46) (by decide +kernel) (tgt := 55) (by decide) ?_
      refine a_iload_n X dX1_gets_55 (i := 2) rfl rfl ?_
      refine a_iload_n X dX1_gets_56 (i := 3) rfl rfl ?_
      refine a_iconst X dX1_gets_57 (v := nI 4) (by decide +kernel) ?_
      refine a_irem X dX1_gets_58 (by decide +kernel) ?_
      rw [pk_rem hn (by decide) (by decide)]
      refine s_iaddN X dX1_gets_59 ?_
      refine a_bipush X dX1_gets_60 (v := nI 7) (by decide +kernel) ?_
      refine s_icmp_ltN X dX1_gets_62 (tgt := 69) (by decide) (by omega) (by omega) (fun hc62 => ?_) (fun hc62 => ?_)
      · skip
        refine a_iconst X dX1_gets_69 (v := nI 0) (by decide +kernel) ?_
        refine a_zret X hA dX1_gets_70 (by first | exact nar_bI _ | decide +kernel) ⟨?_, ?_⟩
        · unfold getK; rw [if_neg (by omega)]; first | rfl | (congr 2; first | exact b1 (by omega) | exact b0 (by omega) | (refine bt1 ?_; simp only [boyB]; simp; omega) | (refine bf0 ?_; simp only [boyB]; simp; omega))
        · rfl
      · skip
        refine a_iconst X dX1_gets_65 (v := nI 1) (by decide +kernel) ?_
        refine a_goto X dX1_gets_66 (tgt := 70) (by decide) ?_
        refine a_zret X hA dX1_gets_70 (by first | exact nar_bI _ | decide +kernel) ⟨?_, ?_⟩
        · unfold getK; rw [if_neg (by omega)]; first | rfl | (congr 2; first | exact b1 (by omega) | exact b0 (by omega) | (refine bt1 ?_; simp only [boyB]; simp; omega) | (refine bf0 ?_; simp only [boyB]; simp; omega))
        · rfl
  · skip
    refine a_iconst X dX1_gets_6 (v := nI 0) (by decide +kernel) ?_
    refine a_zret X hA dX1_gets_7 (by first | exact nar_bI _ | decide +kernel) ⟨?_, ?_⟩
    · unfold getK; rw [if_pos (by omega)]; rfl
    · rfl
set_option maxRecDepth 100000 in
set_option maxHeartbeats 4000000 in
theorem c_X1_tells {l : Launch} {g : GG} {I : TI} {J : TJ} {F : TI} {w : Int64} {a q : Nat} (ha : a < 6) (hq : q < 1024) : UR l g mX1_tells [.int (nI a), .int (nI q)] I J F w (.int (nI (tel a q))) I J F w := by
  have hpc := pcn_le q
  refine ct_start (M := mX1_tells) (by decide +kernel) (Nat.le_of_ble_eq_true rfl) ?_
  intro p e s m args below meth c A X hA
  have X : AX p s m args meth c g A cX1_tells 2 RX1 (Cond.code yX1_tells cX1_tells 2 (some .int)) (some .int) := X
  show AW p l e (rmM 1 22) s m args below meth c g A 2 0 0 (MQ below (CQ g (hp g I J F w) s.heap.size (fun vv0 hh0 => vv0 = some (.int (nI (tel a q))) ∧ hh0 = hp g I J F w)) args s 0 0 A) 0 [some (.int (nI a)), some (.int (nI q))] [] (hp g I J F w)
  refine a_iload_n X dX1_tells_0 (i := 0) rfl rfl ?_
  rcases lt6 ha with hsw | hsw | hsw | hsw | hsw | hsw
  · rw [hsw]
    refine a_tsOut X dX1_tells_1 (by decide +kernel) (tgt := 72) (by decide) ?_
    refine a_iconst X dX1_tells_72 (v := nI 0) (by decide +kernel) ?_
    refine a_iret X hA dX1_tells_73 ⟨?_, ?_⟩
    · first | rfl | (show some (Value.int (nI _)) = some (Value.int (nI (if 4 ≤ pcn q then grn q else lsn q))); first | rw [if_pos (by omega)] | rw [if_neg (by omega)])
    · rfl
  · rw [hsw]
    refine a_tsIn X dX1_tells_1 (by decide +kernel) (by decide +kernel) (off := 35) (by decide +kernel) (tgt := 36) (by decide) ?_
    refine a_iload_n X dX1_tells_36 (i := 1) rfl rfl ?_
    refine s_callS_R X dX1_tells_37 lk_X1_19 (c_X1_least (by omega)) ⟨Nat.le_of_ble_eq_true rfl, Nat.le_of_ble_eq_true rfl⟩ rfl rfl (Nat.le_of_ble_eq_true rfl) ⟨Nat.le_of_ble_eq_true rfl, Nat.le_of_ble_eq_true rfl⟩ ?_
    refine a_iret X hA dX1_tells_40 ⟨?_, ?_⟩
    · first | rfl | (show some (Value.int (nI _)) = some (Value.int (nI (if 4 ≤ pcn q then grn q else lsn q))); first | rw [if_pos (by omega)] | rw [if_neg (by omega)])
    · rfl
  · rw [hsw]
    refine a_tsIn X dX1_tells_1 (by decide +kernel) (by decide +kernel) (off := 40) (by decide +kernel) (tgt := 41) (by decide) ?_
    refine a_iload_n X dX1_tells_41 (i := 1) rfl rfl ?_
    refine a_iload_n X dX1_tells_42 (i := 1) rfl rfl ?_
    refine s_callS_R X dX1_tells_43 lk_X1_23 (c_X1_greatest (by omega)) ⟨Nat.le_of_ble_eq_true rfl, Nat.le_of_ble_eq_true rfl⟩ rfl rfl (Nat.le_of_ble_eq_true rfl) ⟨Nat.le_of_ble_eq_true rfl, Nat.le_of_ble_eq_true rfl⟩ ?_
    refine a_iconst X dX1_tells_46 (v := (-1)) (by decide +kernel) ?_
    refine a_ixor X dX1_tells_47 ?_
    refine a_iand X dX1_tells_48 ?_
    refine a_iret X hA dX1_tells_49 ⟨?_, ?_⟩
    · rw [(set_gr _ hq).1]; rfl
    · rfl
  · rw [hsw]
    refine a_tsIn X dX1_tells_1 (by decide +kernel) (by decide +kernel) (off := 49) (by decide +kernel) (tgt := 50) (by decide) ?_
    refine a_iload_n X dX1_tells_50 (i := 1) rfl rfl ?_
    refine a_iret X hA dX1_tells_51 ⟨?_, ?_⟩
    · first | rfl | (show some (Value.int (nI _)) = some (Value.int (nI (if 4 ≤ pcn q then grn q else lsn q))); first | rw [if_pos (by omega)] | rw [if_neg (by omega)])
    · rfl
  · rw [hsw]
    refine a_tsIn X dX1_tells_1 (by decide +kernel) (by decide +kernel) (off := 51) (by decide +kernel) (tgt := 52) (by decide) ?_
    refine a_iload_n X dX1_tells_52 (i := 1) rfl rfl ?_
    refine s_callS_R X dX1_tells_53 lk_X1_26 (c_J6_bitCount (by omega)) ⟨Nat.le_of_ble_eq_true rfl, Nat.le_of_ble_eq_true rfl⟩ rfl rfl (Nat.le_of_ble_eq_true rfl) ⟨Nat.le_of_ble_eq_true rfl, Nat.le_of_ble_eq_true rfl⟩ ?_
    refine a_iconst X dX1_tells_56 (v := nI 4) (by decide +kernel) ?_
    refine s_icmp_ltN X dX1_tells_57 (tgt := 67) (by decide) (by omega) (by omega) (fun hc57 => ?_) (fun hc57 => ?_)
    · skip
      refine a_iload_n X dX1_tells_67 (i := 1) rfl rfl ?_
      refine s_callS_R X dX1_tells_68 lk_X1_19 (c_X1_least (by omega)) ⟨Nat.le_of_ble_eq_true rfl, Nat.le_of_ble_eq_true rfl⟩ rfl rfl (Nat.le_of_ble_eq_true rfl) ⟨Nat.le_of_ble_eq_true rfl, Nat.le_of_ble_eq_true rfl⟩ ?_
      refine a_iret X hA dX1_tells_71 ⟨?_, ?_⟩
      · first | rfl | (show some (Value.int (nI _)) = some (Value.int (nI (if 4 ≤ pcn q then grn q else lsn q))); first | rw [if_pos (by omega)] | rw [if_neg (by omega)])
      · rfl
    · skip
      refine a_iload_n X dX1_tells_60 (i := 1) rfl rfl ?_
      refine s_callS_R X dX1_tells_61 lk_X1_23 (c_X1_greatest (by omega)) ⟨Nat.le_of_ble_eq_true rfl, Nat.le_of_ble_eq_true rfl⟩ rfl rfl (Nat.le_of_ble_eq_true rfl) ⟨Nat.le_of_ble_eq_true rfl, Nat.le_of_ble_eq_true rfl⟩ ?_
      refine a_goto X dX1_tells_64 (tgt := 71) (by decide) ?_
      refine a_iret X hA dX1_tells_71 ⟨?_, ?_⟩
      · first | rfl | (show some (Value.int (nI _)) = some (Value.int (nI (if 4 ≤ pcn q then grn q else lsn q))); first | rw [if_pos (by omega)] | rw [if_neg (by omega)])
      · rfl
  · rw [hsw]
    refine a_tsIn X dX1_tells_1 (by decide +kernel) (by decide +kernel) (off := 40) (by decide +kernel) (tgt := 41) (by decide) ?_
    refine a_iload_n X dX1_tells_41 (i := 1) rfl rfl ?_
    refine a_iload_n X dX1_tells_42 (i := 1) rfl rfl ?_
    refine s_callS_R X dX1_tells_43 lk_X1_23 (c_X1_greatest (by omega)) ⟨Nat.le_of_ble_eq_true rfl, Nat.le_of_ble_eq_true rfl⟩ rfl rfl (Nat.le_of_ble_eq_true rfl) ⟨Nat.le_of_ble_eq_true rfl, Nat.le_of_ble_eq_true rfl⟩ ?_
    refine a_iconst X dX1_tells_46 (v := (-1)) (by decide +kernel) ?_
    refine a_ixor X dX1_tells_47 ?_
    refine a_iand X dX1_tells_48 ?_
    refine a_iret X hA dX1_tells_49 ⟨?_, ?_⟩
    · rw [(set_gr _ hq).1]; rfl
    · rfl
set_option maxRecDepth 100000 in
set_option maxHeartbeats 4000000 in
theorem c_X1_tires {l : Launch} {g : GG} {I : TI} {J : TJ} {F : TI} {w : Int64} {a : Nat} {rd : Bool} (ha : a < 6) : UR l g mX1_tires [.int (nI a), .int (bI rd)] I J F w (.int (tirI a rd)) I J F w := by
  refine ct_start (M := mX1_tires) (by decide +kernel) (Nat.le_of_ble_eq_true rfl) ?_
  intro p e s m args below meth c A X hA
  have X : AX p s m args meth c g A cX1_tires 3 RX1 (Cond.code yX1_tires cX1_tires 3 (some .int)) (some .int) := X
  show AW p l e (rmM 0 0) s m args below meth c g A 3 0 0 (MQ below (CQ g (hp g I J F w) s.heap.size (fun vv0 hh0 => vv0 = some (.int (tirI a rd)) ∧ hh0 = hp g I J F w)) args s 0 0 A) 0 [some (.int (nI a)), some (.int (bI rd)), none] [] (hp g I J F w)
  refine a_iload_n X dX1_tires_0 (i := 1) rfl rfl ?_
  refine a_if_eq X dX1_tires_1 (tgt := 8) (by decide) (fun hc1 => ?_) (fun hc1 => ?_)
  · skip
    try simp only [bI_0, Bool.not_eq_false] at hc1
    refine a_bipush X dX1_tires_8 (v := (-5)) (by decide +kernel) ?_
    refine a_istore_n X dX1_tires_10 (i := 2) rfl (by decide) rfl ?_
    refine a_iload_n X dX1_tires_11 (i := 0) rfl rfl ?_
    rcases lt6 ha with hsw | hsw | hsw | hsw | hsw | hsw
    · rw [hsw]
      refine a_tsOut X dX1_tires_12 (by decide +kernel) (tgt := 64) (by decide) ?_
      refine a_iload_n X dX1_tires_64 (i := 2) rfl rfl ?_
      refine a_iret X hA dX1_tires_65 ⟨?_, ?_⟩
      · rw [hc1]; first | rfl | (congr 2; decide +kernel)
      · rfl
    · rw [hsw]
      refine a_tsIn X dX1_tires_12 (by decide +kernel) (by decide +kernel) (off := 36) (by decide +kernel) (tgt := 48) (by decide) ?_
      refine a_iload_n X dX1_tires_48 (i := 2) rfl rfl ?_
      refine a_iconst X dX1_tires_49 (v := nI 2) (by decide +kernel) ?_
      refine a_iadd X dX1_tires_50 ?_
      refine a_iret X hA dX1_tires_51 ⟨?_, ?_⟩
      · rw [hc1]; first | rfl | (congr 2; decide +kernel)
      · rfl
    · rw [hsw]
      refine a_tsIn X dX1_tires_12 (by decide +kernel) (by decide +kernel) (off := 40) (by decide +kernel) (tgt := 52) (by decide) ?_
      refine a_iconst X dX1_tires_52 (v := nI 2) (by decide +kernel) ?_
      refine a_iload_n X dX1_tires_53 (i := 2) rfl rfl ?_
      refine a_imul X dX1_tires_54 ?_
      refine a_iret X hA dX1_tires_55 ⟨?_, ?_⟩
      · rw [hc1]; first | rfl | (congr 2; decide +kernel)
      · rfl
    · rw [hsw]
      refine a_tsIn X dX1_tires_12 (by decide +kernel) (by decide +kernel) (off := 44) (by decide +kernel) (tgt := 56) (by decide) ?_
      refine a_iconst X dX1_tires_56 (v := nI 0) (by decide +kernel) ?_
      refine a_iret X hA dX1_tires_57 ⟨?_, ?_⟩
      · rw [hc1]; first | rfl | (congr 2; decide +kernel)
      · rfl
    · rw [hsw]
      refine a_tsIn X dX1_tires_12 (by decide +kernel) (by decide +kernel) (off := 46) (by decide +kernel) (tgt := 58) (by decide) ?_
      refine a_iload_n X dX1_tires_58 (i := 2) rfl rfl ?_
      refine a_iconst X dX1_tires_59 (v := nI 2) (by decide +kernel) ?_
      refine a_iadd X dX1_tires_60 ?_
      refine a_iconst X dX1_tires_61 (v := nI 3) (by decide +kernel) ?_
      refine a_iadd X dX1_tires_62 ?_
      refine a_iret X hA dX1_tires_63 ⟨?_, ?_⟩
      · rw [hc1]; first | rfl | (congr 2; decide +kernel)
      · rfl
    · rw [hsw]
      refine a_tsIn X dX1_tires_12 (by decide +kernel) (by decide +kernel) (off := 40) (by decide +kernel) (tgt := 52) (by decide) ?_
      refine a_iconst X dX1_tires_52 (v := nI 2) (by decide +kernel) ?_
      refine a_iload_n X dX1_tires_53 (i := 2) rfl rfl ?_
      refine a_imul X dX1_tires_54 ?_
      refine a_iret X hA dX1_tires_55 ⟨?_, ?_⟩
      · rw [hc1]; first | rfl | (congr 2; decide +kernel)
      · rfl
  · skip
    try simp only [bI_0, Bool.not_eq_false] at hc1
    refine a_iconst X dX1_tires_4 (v := nI 3) (by decide +kernel) ?_
    refine a_goto X dX1_tires_5 (tgt := 10) (by decide) ?_
    refine a_istore_n X dX1_tires_10 (i := 2) rfl (by decide) rfl ?_
    refine a_iload_n X dX1_tires_11 (i := 0) rfl rfl ?_
    rcases lt6 ha with hsw | hsw | hsw | hsw | hsw | hsw
    · rw [hsw]
      refine a_tsOut X dX1_tires_12 (by decide +kernel) (tgt := 64) (by decide) ?_
      refine a_iload_n X dX1_tires_64 (i := 2) rfl rfl ?_
      refine a_iret X hA dX1_tires_65 ⟨?_, ?_⟩
      · rw [hc1]; first | rfl | (congr 2; decide +kernel)
      · rfl
    · rw [hsw]
      refine a_tsIn X dX1_tires_12 (by decide +kernel) (by decide +kernel) (off := 36) (by decide +kernel) (tgt := 48) (by decide) ?_
      refine a_iload_n X dX1_tires_48 (i := 2) rfl rfl ?_
      refine a_iconst X dX1_tires_49 (v := nI 2) (by decide +kernel) ?_
      refine s_iaddN X dX1_tires_50 ?_
      refine a_iret X hA dX1_tires_51 ⟨?_, ?_⟩
      · rw [hc1]; first | rfl | (congr 2; decide +kernel)
      · rfl
    · rw [hsw]
      refine a_tsIn X dX1_tires_12 (by decide +kernel) (by decide +kernel) (off := 40) (by decide +kernel) (tgt := 52) (by decide) ?_
      refine a_iconst X dX1_tires_52 (v := nI 2) (by decide +kernel) ?_
      refine a_iload_n X dX1_tires_53 (i := 2) rfl rfl ?_
      refine s_imulN X dX1_tires_54 ?_
      refine a_iret X hA dX1_tires_55 ⟨?_, ?_⟩
      · rw [hc1]; first | rfl | (congr 2; decide +kernel)
      · rfl
    · rw [hsw]
      refine a_tsIn X dX1_tires_12 (by decide +kernel) (by decide +kernel) (off := 44) (by decide +kernel) (tgt := 56) (by decide) ?_
      refine a_iconst X dX1_tires_56 (v := nI 0) (by decide +kernel) ?_
      refine a_iret X hA dX1_tires_57 ⟨?_, ?_⟩
      · rw [hc1]; first | rfl | (congr 2; decide +kernel)
      · rfl
    · rw [hsw]
      refine a_tsIn X dX1_tires_12 (by decide +kernel) (by decide +kernel) (off := 46) (by decide +kernel) (tgt := 58) (by decide) ?_
      refine a_iload_n X dX1_tires_58 (i := 2) rfl rfl ?_
      refine a_iconst X dX1_tires_59 (v := nI 2) (by decide +kernel) ?_
      refine s_iaddN X dX1_tires_60 ?_
      refine a_iconst X dX1_tires_61 (v := nI 3) (by decide +kernel) ?_
      refine s_iaddN X dX1_tires_62 ?_
      refine a_iret X hA dX1_tires_63 ⟨?_, ?_⟩
      · rw [hc1]; first | rfl | (congr 2; decide +kernel)
      · rfl
    · rw [hsw]
      refine a_tsIn X dX1_tires_12 (by decide +kernel) (by decide +kernel) (off := 40) (by decide +kernel) (tgt := 52) (by decide) ?_
      refine a_iconst X dX1_tires_52 (v := nI 2) (by decide +kernel) ?_
      refine a_iload_n X dX1_tires_53 (i := 2) rfl rfl ?_
      refine s_imulN X dX1_tires_54 ?_
      refine a_iret X hA dX1_tires_55 ⟨?_, ?_⟩
      · rw [hc1]; first | rfl | (congr 2; decide +kernel)
      · rfl
