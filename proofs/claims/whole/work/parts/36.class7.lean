set_option maxRecDepth 100000 in
set_option maxHeartbeats 4000000 in
theorem c_X4_rowOf {l : Launch} {g : GG} {I : TI} {J : TJ} {F : TI} {w : Int64} {y : Int32} : UR l g mX4_rowOf [.ref (ga g 0), .int y] I J F w (.ref (ga g (rowP y))) I J F w := by
  refine ct_start (M := mX4_rowOf) (by decide +kernel) (Nat.le_of_ble_eq_true rfl) ?_
  intro p e s m args below meth c A X hA
  have X : AX p s m args meth c g A cX4_rowOf 2 RX4 (Cond.code yX4_rowOf cX4_rowOf 2 (some (.array .int))) (some (.array .int)) := X
  show AW p l e (rmM 0 0) s m args below meth c g A 2 0 0 (MQ below (CQ g (hp g I J F w) s.heap.size (fun vv0 hh0 => vv0 = some (.ref (ga g (rowP y))) ∧ hh0 = hp g I J F w)) args s 0 0 A) 0 [some (.ref (ga g 0)), some (.int y)] [] (hp g I J F w)
  refine a_iload_n X dX4_rowOf_0 (i := 1) rfl rfl ?_
  by_cases hs1_2 : y = nI 2
  · skip
    refine a_tsIn X dX4_rowOf_1 (by rw [hs1_2]; decide +kernel) (by rw [hs1_2]; decide +kernel) (off := 27) (by rw [hs1_2]; decide +kernel) (tgt := 28) (by decide) ?_
    refine a_aload_n X dX4_rowOf_28 (i := 0) rfl rfl ?_
    refine s_getr X dX4_rowOf_29 fl_X4_10 ko_0 rfl ?_
    refine s_getr X dX4_rowOf_32 fl_X4_84 ko_1 rfl ?_
    refine a_aret X hA dX4_rowOf_35 (by first | exact Or.inl ⟨_, rfl⟩ | exact Or.inr ⟨_, rfl⟩) ⟨?_, ?_⟩
    · rw [rowP, if_pos hs1_2]
    · rfl
  · skip
    by_cases hs1_3 : y = nI 3
    · skip
      refine a_tsIn X dX4_rowOf_1 (by rw [hs1_3]; decide +kernel) (by rw [hs1_3]; decide +kernel) (off := 35) (by rw [hs1_3]; decide +kernel) (tgt := 36) (by decide) ?_
      refine a_aload_n X dX4_rowOf_36 (i := 0) rfl rfl ?_
      refine s_getr X dX4_rowOf_37 fl_X4_10 ko_0 rfl ?_
      refine s_getr X dX4_rowOf_40 fl_X4_112 ko_1 rfl ?_
      refine a_aret X hA dX4_rowOf_43 (by first | exact Or.inl ⟨_, rfl⟩ | exact Or.inr ⟨_, rfl⟩) ⟨?_, ?_⟩
      · rw [rowP, if_neg hs1_2, if_pos hs1_3]
      · rfl
    · skip
      by_cases hs1_4 : y = nI 4
      · skip
        refine a_tsIn X dX4_rowOf_1 (by rw [hs1_4]; decide +kernel) (by rw [hs1_4]; decide +kernel) (off := 43) (by rw [hs1_4]; decide +kernel) (tgt := 44) (by decide) ?_
        refine a_aload_n X dX4_rowOf_44 (i := 0) rfl rfl ?_
        refine s_getr X dX4_rowOf_45 fl_X4_10 ko_0 rfl ?_
        refine s_getr X dX4_rowOf_48 fl_X4_115 ko_1 rfl ?_
        refine a_aret X hA dX4_rowOf_51 (by first | exact Or.inl ⟨_, rfl⟩ | exact Or.inr ⟨_, rfl⟩) ⟨?_, ?_⟩
        · rw [rowP, if_neg hs1_2, if_neg hs1_3, if_pos hs1_4]
        · rfl
      · skip
        refine a_tsOut X dX4_rowOf_1 (by have z0 := lv_neT hs1_2 (a := 2) (by decide +kernel); have z1 := lv_neT hs1_3 (a := 3) (by decide +kernel); have z2 := lv_neT hs1_4 (a := 4) (by decide +kernel); omega) (tgt := 52) (by decide) ?_
        refine a_aload_n X dX4_rowOf_52 (i := 0) rfl rfl ?_
        refine s_getr X dX4_rowOf_53 fl_X4_10 ko_0 rfl ?_
        refine s_getr X dX4_rowOf_56 fl_X4_73 ko_1 rfl ?_
        refine a_aret X hA dX4_rowOf_59 (by first | exact Or.inl ⟨_, rfl⟩ | exact Or.inr ⟨_, rfl⟩) ⟨?_, ?_⟩
        · rw [rowP, if_neg hs1_2, if_neg hs1_3, if_neg hs1_4]
        · rfl
set_option maxRecDepth 100000 in
set_option maxHeartbeats 4000000 in
theorem c_X4_set {l : Launch} {g : GG} {I : TI} {J : TJ} {F : TI} {w : Int64} {R : Nat → Nat} (ok : okR R) (hC : Ch I F 1 R) {x y v : Int32} : RV l g mX4_set [.ref (ga g 0), .int x, .int y, .int v] I J F w (BvR I J F w (sp_set R x y v)) := by
  have hn10 := ok.1
  obtain ⟨c0, c1, cm, cs⟩ := id hC
  have cm : ∀ m, m < R 1 → I 2 m = nI (R (2 + 6 * m + 0)) ∧ I 3 m = nI (R (2 + 6 * m + 1)) ∧ I 4 m = nI (R (2 + 6 * m + 2)) ∧ I 5 m = nI (R (2 + 6 * m + 3)) ∧ I 6 m = nI (R (2 + 6 * m + 4)) ∧ I 7 m = nI (R (2 + 6 * m + 5)) := cm
  refine ct_start (M := mX4_set) (by decide +kernel) (Nat.le_of_ble_eq_true rfl) ?_
  intro p e s m args below meth c A X hA
  have X : AX p s m args meth c g A cX4_set 6 RX4 (Cond.code yX4_set cX4_set 6 (some .int)) (some .int) := X
  show AW p l e (rmM 2 44) s m args below meth c g A 6 0 0 (MQ below (CQ g (hp g I J F w) s.heap.size (fun vv0 hh0 => ∃ xx0 II0 JJ0 FF0 ww0, vv0 = some xx0 ∧ hh0 = hp g II0 JJ0 FF0 ww0 ∧ (BvR I J F w (sp_set R x y v)) xx0 II0 JJ0 FF0 ww0)) args s 0 0 A) 0 [some (.ref (ga g 0)), some (.int x), some (.int y), some (.int v), none, none] [] (hp g I J F w)
  refine a_aload_n X dX4_set_0 (i := 0) rfl rfl ?_
  refine s_getr X dX4_set_1 fl_X4_10 ko_0 rfl ?_
  refine a_iload_n X dX4_set_4 (i := 1) rfl rfl ?_
  refine s_callV_R X dX4_set_5 lk_X4_103 ko_1 rfl rfl (c_X0_has (b := 1) (Or.inl rfl) ok hC) ⟨Nat.le_of_ble_eq_true rfl, Nat.le_of_ble_eq_true rfl⟩ rfl rfl (Nat.le_of_ble_eq_true rfl) ⟨Nat.le_of_ble_eq_true rfl, Nat.le_of_ble_eq_true rfl⟩ ?_
  refine a_if_eq X dX4_set_8 (tgt := 19) (by decide) (fun hc8 => ?_) (fun hc8 => ?_)
  · skip
    try simp only [bI_0, Bool.not_eq_false] at hc8
    refine a_aload_n X dX4_set_19 (i := 0) rfl rfl ?_
    refine a_ldc X dX4_set_20 kc_X4_48 ?_
    refine s_callV_R X dX4_set_22 lk_X4_49 ko_0 rfl rfl (c_X4_found (k := 0) (by decide) (by decide +kernel)) ⟨Nat.le_of_ble_eq_true rfl, Nat.le_of_ble_eq_true rfl⟩ rfl rfl (Nat.le_of_ble_eq_true rfl) ⟨Nat.le_of_ble_eq_true rfl, Nat.le_of_ble_eq_true rfl⟩ ?_
    refine a_iret X hA dX4_set_25 ?_
    exact ⟨_, _, _, _, _, rfl, rfl, bv_find (bs_0 hC) (k := 0) (by decide +kernel) (by rw [sp_set, if_neg (by simp [*])])⟩
  · skip
    try simp only [bI_0, Bool.not_eq_false] at hc8
    obtain ⟨a, ha, rfl⟩ := isM_t (by omega) hc8
    obtain ⟨g0, g1, g2, g3, g4, g5⟩ := ok.2.1 a ha
    obtain ⟨m0, m1, m2, m3, m4, m5⟩ := cm a ha
    refine a_iload_n X dX4_set_11 (i := 2) rfl rfl ?_
    refine a_iload_n X dX4_set_12 (i := 3) rfl rfl ?_
    refine s_callS_R X dX4_set_13 lk_X4_132 c_X4_maySet ⟨Nat.le_of_ble_eq_true rfl, Nat.le_of_ble_eq_true rfl⟩ rfl rfl (Nat.le_of_ble_eq_true rfl) ⟨Nat.le_of_ble_eq_true rfl, Nat.le_of_ble_eq_true rfl⟩ ?_
    refine a_if_ne X dX4_set_16 (tgt := 26) (by decide) (fun hc16 => ?_) (fun hc16 => ?_)
    · skip
      try simp only [bI_0, Bool.not_eq_false] at hc16
      obtain ⟨q, u, hq2, hq5, hu, rfl, rfl, hrp⟩ := part_ok hc16
      have hrow : I (rowP (nI q)) a = nI (R (2 + 6 * a + q)) := by
        rw [hrp]
        rcases (show q = 2 ∨ q = 3 ∨ q = 4 ∨ q = 5 by omega) with rfl | rfl | rfl | rfl
        · exact m2
        · exact m3
        · exact m4
        · exact m5
      refine a_aload_n X dX4_set_26 (i := 0) rfl rfl ?_
      refine a_iload_n X dX4_set_27 (i := 2) rfl rfl ?_
      refine s_callV_R X dX4_set_28 lk_X4_135 ko_0 rfl rfl c_X4_rowOf ⟨Nat.le_of_ble_eq_true rfl, Nat.le_of_ble_eq_true rfl⟩ rfl rfl (Nat.le_of_ble_eq_true rfl) ⟨Nat.le_of_ble_eq_true rfl, Nat.le_of_ble_eq_true rfl⟩ ?_
      refine a_astore X dX4_set_31 (by decide) rfl ?_
      refine a_aload X dX4_set_33 rfl ?_
      refine a_iload_n X dX4_set_35 (i := 1) rfl rfl ?_
      refine s_ild X dX4_set_36 (ki_row _) (by omega) (by decide) ?_
      rw [hrow]
      refine a_istore X dX4_set_37 (by decide) rfl ?_
      refine a_aload X dX4_set_39 rfl ?_
      refine a_iload_n X dX4_set_41 (i := 1) rfl rfl ?_
      refine a_iload_n X dX4_set_42 (i := 3) rfl rfl ?_
      refine s_ist X dX4_set_43 (ki_row _) (by omega) (by decide) ?_
      refine a_iload X dX4_set_44 rfl ?_
      refine a_iret X hA dX4_set_46 ?_
      exact ⟨_, _, _, _, _, rfl, rfl, bv_val (bs_u (by rw [hrp]; omega) (ch_put (j := q) hC ha (by omega) (by omega) (by rw [hrp]))) (by rw [sp_set, if_pos ⟨hc8, hc16⟩, cl_n (show a < 2 ^ 31 by omega), cl_n (by omega), cl_n hu])⟩
    · skip
      try simp only [bI_0, Bool.not_eq_false] at hc16
      refine a_aload_n X dX4_set_19 (i := 0) rfl rfl ?_
      refine a_ldc X dX4_set_20 kc_X4_48 ?_
      refine s_callV_R X dX4_set_22 lk_X4_49 ko_0 rfl rfl (c_X4_found (k := 0) (by decide) (by decide +kernel)) ⟨Nat.le_of_ble_eq_true rfl, Nat.le_of_ble_eq_true rfl⟩ rfl rfl (Nat.le_of_ble_eq_true rfl) ⟨Nat.le_of_ble_eq_true rfl, Nat.le_of_ble_eq_true rfl⟩ ?_
      refine a_iret X hA dX4_set_25 ?_
      exact ⟨_, _, _, _, _, rfl, rfl, bv_find (bs_0 hC) (k := 0) (by decide +kernel) (by rw [sp_set, if_neg (by simp [*])])⟩
set_option maxRecDepth 100000 in
set_option maxHeartbeats 4000000 in
theorem c_X4_status {l : Launch} {g : GG} {I : TI} {J : TJ} {F : TI} {w : Int64} {R : Nat → Nat} (ok : okR R) (hC : Ch I F 1 R) {x : Int32} : RV l g mX4_status [.ref (ga g 0), .int x] I J F w (BvR I J F w (sp_status R (I 42) x)) := by
  have hn10 := ok.1
  obtain ⟨c0, c1, cm, cs⟩ := id hC
  have cm : ∀ m, m < R 1 → I 2 m = nI (R (2 + 6 * m + 0)) ∧ I 3 m = nI (R (2 + 6 * m + 1)) ∧ I 4 m = nI (R (2 + 6 * m + 2)) ∧ I 5 m = nI (R (2 + 6 * m + 3)) ∧ I 6 m = nI (R (2 + 6 * m + 4)) ∧ I 7 m = nI (R (2 + 6 * m + 5)) := cm
  refine ct_start (M := mX4_status) (by decide +kernel) (Nat.le_of_ble_eq_true rfl) ?_
  intro p e s m args below meth c A X hA
  have X : AX p s m args meth c g A cX4_status 4 RX4 (Cond.code yX4_status cX4_status 4 (some .int)) (some .int) := X
  show AW p l e (rmM 2 44) s m args below meth c g A 4 0 0 (MQ below (CQ g (hp g I J F w) s.heap.size (fun vv0 hh0 => ∃ xx0 II0 JJ0 FF0 ww0, vv0 = some xx0 ∧ hh0 = hp g II0 JJ0 FF0 ww0 ∧ (BvR I J F w (sp_status R (I 42) x)) xx0 II0 JJ0 FF0 ww0)) args s 0 0 A) 0 [some (.ref (ga g 0)), some (.int x), none, none] [] (hp g I J F w)
  have L9 : ∀ (fu : Nat) (k : Nat), 7 - k < fu → (x = -1) → (k ≤ 7) → AW p l e (rmM 2 44) s m args below meth c g A 4 0 0 (MQ below (CQ g (hp g I J F w) s.heap.size (fun vv0 hh0 => ∃ xx0 II0 JJ0 FF0 ww0, vv0 = some xx0 ∧ hh0 = hp g II0 JJ0 FF0 ww0 ∧ (BvR I J F w (sp_status R (I 42) x)) xx0 II0 JJ0 FF0 ww0)) args s 0 0 A) 9 [some (.ref (ga g 0)), some (.int x), some (.int (sumF (I 42) k)), some (.int (nI k))] [] (hp g I J F w) := by
    intro fu
    induction fu with
    | zero => intro k hfu; exact absurd hfu (by omega)
    | succ fu ih =>
      intro k hfu hc2 hk
      refine a_iload_n X dX4_status_9 (i := 3) rfl rfl ?_
      refine a_bipush X dX4_status_10 (v := nI 7) (by decide +kernel) ?_
      refine s_icmp_geN X dX4_status_12 (tgt := 30) (by decide) (by omega) (by omega) (fun hc12 => ?_) (fun hc12 => ?_)
      · skip
        have hk2 : k = 7 := by omega
        subst hk2
        refine a_iload_n X dX4_status_30 (i := 2) rfl rfl ?_
        refine a_iret X hA dX4_status_31 ?_
        exact ⟨_, _, _, _, _, rfl, rfl, bv_val (bs_0 hC) (by rw [sp_status, hc2, if_pos (by decide +kernel), if_pos (by decide +kernel)])⟩
      · skip
        refine a_iload_n X dX4_status_15 (i := 2) rfl rfl ?_
        refine a_aload_n X dX4_status_16 (i := 0) rfl rfl ?_
        refine s_getr X dX4_status_17 fl_X4_39 ko_0 rfl ?_
        refine a_iload_n X dX4_status_20 (i := 3) rfl rfl ?_
        refine s_ild X dX4_status_21 ki_42 (by omega) (by decide) ?_
        refine a_iadd X dX4_status_22 ?_
        refine a_istore_n X dX4_status_23 (i := 2) rfl (by decide) rfl ?_
        refine a_iinc X dX4_status_24 rfl (v := nI (_ + 1)) (iincN _ 1) (by decide) rfl ?_
        refine a_goto X dX4_status_27 (tgt := 9) (by decide) ?_
        exact ih (k + 1) (by omega) hc2 (by omega)
  refine a_iload_n X dX4_status_0 (i := 1) rfl rfl ?_
  refine a_iconst X dX4_status_1 (v := (-1)) (by decide +kernel) ?_
  refine a_icmp_ne X dX4_status_2 (tgt := 32) (by decide) (fun hc2 => ?_) (fun hc2 => ?_)
  · skip
    refine a_iload_n X dX4_status_32 (i := 1) rfl rfl ?_
    refine a_iconst X dX4_status_33 (v := nI 0) (by decide +kernel) ?_
    refine a_bipush X dX4_status_34 (v := nI 6) (by decide +kernel) ?_
    refine s_callS_R X dX4_status_36 lk_X4_44 c_X4_within ⟨Nat.le_of_ble_eq_true rfl, Nat.le_of_ble_eq_true rfl⟩ rfl rfl (Nat.le_of_ble_eq_true rfl) ⟨Nat.le_of_ble_eq_true rfl, Nat.le_of_ble_eq_true rfl⟩ ?_
    refine a_if_eq X dX4_status_39 (tgt := 51) (by decide) (fun hc39 => ?_) (fun hc39 => ?_)
    · skip
      try simp only [bI_0, Bool.not_eq_false] at hc39
      refine a_aload_n X dX4_status_51 (i := 0) rfl rfl ?_
      refine a_ldc X dX4_status_52 kc_X4_48 ?_
      refine s_callV_R X dX4_status_54 lk_X4_49 ko_0 rfl rfl (c_X4_found (k := 0) (by decide) (by decide +kernel)) ⟨Nat.le_of_ble_eq_true rfl, Nat.le_of_ble_eq_true rfl⟩ rfl rfl (Nat.le_of_ble_eq_true rfl) ⟨Nat.le_of_ble_eq_true rfl, Nat.le_of_ble_eq_true rfl⟩ ?_
      refine a_iret X hA dX4_status_57 ?_
      first | exact ⟨_, _, _, _, _, rfl, rfl, bv_find (bs_0 hC) (k := 0) (by decide +kernel) (by rw [sp_status, if_neg (st_no hc2 hc39)])⟩ | exact ⟨_, _, _, _, _, rfl, rfl, bv_val (bs_0 hC) (by rw [sp_status, if_pos (st_up j (by omega)).1, if_neg (st_up j (by omega)).2, cl_n (show j < 2 ^ 31 by omega)])⟩
    · skip
      try simp only [bI_0, Bool.not_eq_false] at hc39
      obtain ⟨j, hj0, hj, rfl⟩ := inB_r (by decide) (by decide) hc39
      refine a_aload_n X dX4_status_42 (i := 0) rfl rfl ?_
      refine s_getr X dX4_status_43 fl_X4_39 ko_0 rfl ?_
      refine a_iload_n X dX4_status_46 (i := 1) rfl rfl ?_
      refine s_ild X dX4_status_47 ki_42 (by omega) (by decide) ?_
      refine a_goto X dX4_status_48 (tgt := 57) (by decide) ?_
      refine a_iret X hA dX4_status_57 ?_
      first | exact ⟨_, _, _, _, _, rfl, rfl, bv_find (bs_0 hC) (k := 0) (by decide +kernel) (by rw [sp_status, if_neg (st_no hc2 hc39)])⟩ | exact ⟨_, _, _, _, _, rfl, rfl, bv_val (bs_0 hC) (by rw [sp_status, if_pos (st_up j (by omega)).1, if_neg (st_up j (by omega)).2, cl_n (show j < 2 ^ 31 by omega)])⟩
  · skip
    refine a_iconst X dX4_status_5 (v := nI 0) (by decide +kernel) ?_
    refine a_istore_n X dX4_status_6 (i := 2) rfl (by decide) rfl ?_
    refine a_iconst X dX4_status_7 (v := nI 0) (by decide +kernel) ?_
    refine a_istore_n X dX4_status_8 (i := 3) rfl (by decide) rfl ?_
    exact L9 8 0 (by omega) hc2 (by omega)
set_option maxRecDepth 100000 in
set_option maxHeartbeats 4000000 in
theorem c_X4_image {l : Launch} {g : GG} {I : TI} {J : TJ} {F : TI} {w : Int64} {R : Nat → Nat} (ok : okR R) (hC : Ch I F 1 R) : RV l g mX4_image [.ref (ga g 0)] I J F w (ImC I J F w R) := by
  refine ct_start (M := mX4_image) (by decide +kernel) (Nat.le_of_ble_eq_true rfl) ?_
  intro p e s m args below meth c A X hA
  have X : AX p s m args meth c g A cX4_image 1 RX4 (Cond.code yX4_image cX4_image 1 (some .int)) (some .int) := X
  show AW p l e (rmM 2 47) s m args below meth c g A 1 0 0 (MQ below (CQ g (hp g I J F w) s.heap.size (fun vv0 hh0 => ∃ xx0 II0 JJ0 FF0 ww0, vv0 = some xx0 ∧ hh0 = hp g II0 JJ0 FF0 ww0 ∧ (ImC I J F w R) xx0 II0 JJ0 FF0 ww0)) args s 0 0 A) 0 [some (.ref (ga g 0))] [] (hp g I J F w)
  refine a_aload_n X dX4_image_0 (i := 0) rfl rfl ?_
  refine s_getr X dX4_image_1 fl_X4_19 ko_0 rfl ?_
  refine a_aload_n X dX4_image_4 (i := 0) rfl rfl ?_
  refine s_getr X dX4_image_5 fl_X4_10 ko_0 rfl ?_
  refine s_callV_Y X dX4_image_8 lk_X4_155 ko_21 rfl rfl (c_X0_become (b := 21) (b2 := 1) (Or.inr (Or.inr rfl)) (Or.inl rfl) (by decide) ok hC) ⟨Nat.le_of_ble_eq_true rfl, Nat.le_of_ble_eq_true rfl⟩ rfl rfl (Nat.le_of_ble_eq_true rfl) ⟨Nat.le_of_ble_eq_true rfl, Nat.le_of_ble_eq_true rfl⟩ (fun I2 J2 F2 w2 hpo => ?_)
  refine a_aload_n X dX4_image_11 (i := 0) rfl rfl ?_
  refine a_iconst X dX4_image_12 (v := nI 1) (by decide +kernel) ?_
  refine s_puti X dX4_image_13 fp_X4_22 ko_0 rfl (by decide +kernel) (by decide +kernel) ?_
  refine a_iconst X dX4_image_16 (v := nI 1) (by decide +kernel) ?_
  refine a_iret X hA dX4_image_17 ?_
  exact ⟨_, _, _, _, _, rfl, rfl, im_c hpo⟩
set_option maxRecDepth 100000 in
set_option maxHeartbeats 4000000 in
theorem c_X4_tear {l : Launch} {g : GG} {I : TI} {J : TJ} {F : TI} {w : Int64}  : UR l g mX4_tear [.ref (ga g 0)] I J F w (.int (if F 0 3 = 0 then nI 0 else nI 1)) I J (va_up F 0 (va_up (F 0) 3 (nI 0))) w := by
  refine ct_start (M := mX4_tear) (by decide +kernel) (Nat.le_of_ble_eq_true rfl) ?_
  intro p e s m args below meth c A X hA
  have X : AX p s m args meth c g A cX4_tear 2 RX4 (Cond.code yX4_tear cX4_tear 2 (some .int)) (some .int) := X
  show AW p l e (rmM 0 0) s m args below meth c g A 2 0 0 (MQ below (CQ g (hp g I J F w) s.heap.size (fun vv0 hh0 => vv0 = some (.int (if F 0 3 = 0 then nI 0 else nI 1)) ∧ hh0 = hp g I J (va_up F 0 (va_up (F 0) 3 (nI 0))) w)) args s 0 0 A) 0 [some (.ref (ga g 0)), none] [] (hp g I J F w)
  refine a_aload_n X dX4_tear_0 (i := 0) rfl rfl ?_
  refine s_geti X dX4_tear_1 fl_X4_22 ko_0 rfl ?_
  refine a_if_eq X dX4_tear_4 (tgt := 11) (by decide) (fun hc4 => ?_) (fun hc4 => ?_)
  · skip
    refine a_iconst X dX4_tear_11 (v := nI 0) (by decide +kernel) ?_
    refine a_istore_n X dX4_tear_12 (i := 1) rfl (by decide) rfl ?_
    refine a_aload_n X dX4_tear_13 (i := 0) rfl rfl ?_
    refine a_iconst X dX4_tear_14 (v := nI 0) (by decide +kernel) ?_
    refine s_puti X dX4_tear_15 fp_X4_22 ko_0 rfl (by decide +kernel) (by decide +kernel) ?_
    refine a_iload_n X dX4_tear_18 (i := 1) rfl rfl ?_
    refine a_iret X hA dX4_tear_19 ⟨?_, ?_⟩
    · first | rw [if_pos hc4] | rw [if_neg hc4]
    · rfl
  · skip
    refine a_iconst X dX4_tear_7 (v := nI 1) (by decide +kernel) ?_
    refine a_goto X dX4_tear_8 (tgt := 12) (by decide) ?_
    refine a_istore_n X dX4_tear_12 (i := 1) rfl (by decide) rfl ?_
    refine a_aload_n X dX4_tear_13 (i := 0) rfl rfl ?_
    refine a_iconst X dX4_tear_14 (v := nI 0) (by decide +kernel) ?_
    refine s_puti X dX4_tear_15 fp_X4_22 ko_0 rfl (by decide +kernel) (by decide +kernel) ?_
    refine a_iload_n X dX4_tear_18 (i := 1) rfl rfl ?_
    refine a_iret X hA dX4_tear_19 ⟨?_, ?_⟩
    · first | rw [if_pos hc4] | rw [if_neg hc4]
    · rfl
set_option maxRecDepth 100000 in
set_option maxHeartbeats 4000000 in
theorem c_X4_wipe {l : Launch} {g : GG} {I : TI} {J : TJ} {F : TI} {w : Int64}  : UR l g mX4_wipe [.ref (ga g 0)] I J F w (.int (F 31 0)) I J (va_up F 31 (va_up (F 31) 0 (nI 0))) w := by
  refine ct_start (M := mX4_wipe) (by decide +kernel) (Nat.le_of_ble_eq_true rfl) ?_
  intro p e s m args below meth c A X hA
  have X : AX p s m args meth c g A cX4_wipe 2 RX4 (Cond.code yX4_wipe cX4_wipe 2 (some .int)) (some .int) := X
  show AW p l e (rmM 0 0) s m args below meth c g A 2 0 0 (MQ below (CQ g (hp g I J F w) s.heap.size (fun vv0 hh0 => vv0 = some (.int (F 31 0)) ∧ hh0 = hp g I J (va_up F 31 (va_up (F 31) 0 (nI 0))) w)) args s 0 0 A) 0 [some (.ref (ga g 0)), none] [] (hp g I J F w)
  refine a_aload_n X dX4_wipe_0 (i := 0) rfl rfl ?_
  refine s_getr X dX4_wipe_1 fl_X4_29 ko_0 rfl ?_
  refine s_geti X dX4_wipe_4 fl_X4_180 ko_31 rfl ?_
  refine a_istore_n X dX4_wipe_7 (i := 1) rfl (by decide) rfl ?_
  refine a_aload_n X dX4_wipe_8 (i := 0) rfl rfl ?_
  refine s_getr X dX4_wipe_9 fl_X4_29 ko_0 rfl ?_
  refine a_iconst X dX4_wipe_12 (v := nI 0) (by decide +kernel) ?_
  refine s_puti X dX4_wipe_13 fp_X4_180 ko_31 rfl rfl rfl ?_
  refine a_iload_n X dX4_wipe_16 (i := 1) rfl rfl ?_
  exact a_iret X hA dX4_wipe_17 ⟨rfl, rfl⟩
set_option maxRecDepth 100000 in
set_option maxHeartbeats 4000000 in
theorem c_X4_undo {l : Launch} {g : GG} {I : TI} {J : TJ} {F : TI} {w : Int64} {R : Nat → Nat} (ok : okR R) (hC : Ch I F 1 R) {Rk : Nat → Nat} (hk : ¬ F 0 3 = 0 → okR Rk ∧ Ch I F 21 Rk) : RV l g mX4_undo [.ref (ga g 0)] I J F w (BvR I J F w (sp_undo R Rk (F 0 3))) := by
  refine ct_start (M := mX4_undo) (by decide +kernel) (Nat.le_of_ble_eq_true rfl) ?_
  intro p e s m args below meth c A X hA
  have X : AX p s m args meth c g A cX4_undo 1 RX4 (Cond.code yX4_undo cX4_undo 1 (some .int)) (some .int) := X
  show AW p l e (rmM 2 47) s m args below meth c g A 1 0 0 (MQ below (CQ g (hp g I J F w) s.heap.size (fun vv0 hh0 => ∃ xx0 II0 JJ0 FF0 ww0, vv0 = some xx0 ∧ hh0 = hp g II0 JJ0 FF0 ww0 ∧ (BvR I J F w (sp_undo R Rk (F 0 3))) xx0 II0 JJ0 FF0 ww0)) args s 0 0 A) 0 [some (.ref (ga g 0))] [] (hp g I J F w)
  refine a_aload_n X dX4_undo_0 (i := 0) rfl rfl ?_
  refine s_geti X dX4_undo_1 fl_X4_22 ko_0 rfl ?_
  refine a_if_ne X dX4_undo_4 (tgt := 14) (by decide) (fun hc4 => ?_) (fun hc4 => ?_)
  · skip
    refine a_aload_n X dX4_undo_14 (i := 0) rfl rfl ?_
    refine s_getr X dX4_undo_15 fl_X4_10 ko_0 rfl ?_
    refine a_aload_n X dX4_undo_18 (i := 0) rfl rfl ?_
    refine s_getr X dX4_undo_19 fl_X4_19 ko_0 rfl ?_
    refine s_callV_Y X dX4_undo_22 lk_X4_155 ko_1 rfl rfl (c_X0_become (b := 1) (b2 := 21) (Or.inl rfl) (Or.inr (Or.inr rfl)) (by decide) (hk hc4).1 (hk hc4).2) ⟨Nat.le_of_ble_eq_true rfl, Nat.le_of_ble_eq_true rfl⟩ rfl rfl (Nat.le_of_ble_eq_true rfl) ⟨Nat.le_of_ble_eq_true rfl, Nat.le_of_ble_eq_true rfl⟩ (fun I2 J2 F2 w2 hpo => ?_)
    have K := bs_p (bs_0 hC) hpo
    obtain ⟨-, -, eJ, ew⟩ := hpo
    have eJ := eJ.symm
    have ew := ew.symm
    subst eJ; subst ew
    refine a_aload_n X dX4_undo_25 (i := 0) rfl rfl ?_
    refine s_getr X dX4_undo_26 fl_X4_10 ko_0 rfl ?_
    refine s_geti X dX4_undo_29 fl_X4_177 ko_1 rfl ?_
    rw [K.1.2.1]
    refine a_iret X hA dX4_undo_32 ?_
    exact ⟨_, _, _, _, _, rfl, rfl, bv_val (K) (by rw [sp_undo, if_neg hc4])⟩
  · skip
    refine a_aload_n X dX4_undo_7 (i := 0) rfl rfl ?_
    refine a_ldc X dX4_undo_8 kc_X4_83 ?_
    refine s_callV_R X dX4_undo_10 lk_X4_49 ko_0 rfl rfl (c_X4_found (k := 3) (by decide) (by decide +kernel)) ⟨Nat.le_of_ble_eq_true rfl, Nat.le_of_ble_eq_true rfl⟩ rfl rfl (Nat.le_of_ble_eq_true rfl) ⟨Nat.le_of_ble_eq_true rfl, Nat.le_of_ble_eq_true rfl⟩ ?_
    refine a_iret X hA dX4_undo_13 ?_
    exact ⟨_, _, _, _, _, rfl, rfl, bv_find (bs_0 hC) (k := 3) (by decide +kernel) (by rw [sp_undo, if_pos hc4])⟩
set_option maxRecDepth 100000 in
set_option maxHeartbeats 4000000 in
theorem c_X4_shift {l : Launch} {g : GG} {I : TI} {J : TJ} {F : TI} {w : Int64} {R : Nat → Nat} (ok : okR R) (hC : Ch I F 1 R) {y : Int32} (hN : R 0 ≤ 99999) : RV l g mX4_shift [.ref (ga g 0), .int y] I J F w (BvR I J F w (sp_shift R y)) := by
  have hn10 := ok.1
  obtain ⟨c0, c1, cm, cs⟩ := id hC
  have cm : ∀ m, m < R 1 → I 2 m = nI (R (2 + 6 * m + 0)) ∧ I 3 m = nI (R (2 + 6 * m + 1)) ∧ I 4 m = nI (R (2 + 6 * m + 2)) ∧ I 5 m = nI (R (2 + 6 * m + 3)) ∧ I 6 m = nI (R (2 + 6 * m + 4)) ∧ I 7 m = nI (R (2 + 6 * m + 5)) := cm
  have he0 := emp_ok ok
  refine ct_start (M := mX4_shift) (by decide +kernel) (Nat.le_of_ble_eq_true rfl) ?_
  intro p e s m args below meth c A X hA
  have X : AX p s m args meth c g A cX4_shift 7 RX4 (Cond.code yX4_shift cX4_shift 7 (some .int)) (some .int) := X
  show AW p l e (rmM 6 135) s m args below meth c g A 7 0 0 (MQ below (CQ g (hp g I J F w) s.heap.size (fun vv0 hh0 => ∃ xx0 II0 JJ0 FF0 ww0, vv0 = some xx0 ∧ hh0 = hp g II0 JJ0 FF0 ww0 ∧ (BvR I J F w (sp_shift R y)) xx0 II0 JJ0 FF0 ww0)) args s 0 0 A) 0 [some (.ref (ga g 0)), some (.int y), none, none, none, none, none] [] (hp g I J F w)
  have L56 : ∀ (fu : Nat) (j : Nat) (k : Nat) (I1 : TI) (F1 : TI), R 1 - k < fu → (y = nI j) → (inB y (nI 1) (nI 40) = true) → (¬ R 1 = 0) → (j ≤ 40) → (k ≤ R 1) → (BS I F R I1 F1) → AW p l e (rmM 6 135) s m args below meth c g A 7 0 0 (MQ below (CQ g (hp g I J F w) s.heap.size (fun vv0 hh0 => ∃ xx0 II0 JJ0 FF0 ww0, vv0 = some xx0 ∧ hh0 = hp g II0 JJ0 FF0 ww0 ∧ (BvR I J F w (sp_shift R y)) xx0 II0 JJ0 FF0 ww0)) args s 0 0 A) 56 [some (.ref (ga g 0)), some (.int (nI j)), some (.int (nI (emp R (R 1) 12 0))), some (.int (nI (bstF 0 (bvH R (emp R (R 1) 12 0) j) k).1)), some (.int (moI (bstF 0 (bvH R (emp R (R 1) 12 0) j) k).2)), some (.int (nI k)), none] [] (hp g I1 J F1 w) := by
    intro fu
    induction fu with
    | zero => intro j k I1 F1 hfu; exact absurd hfu (by omega)
    | succ fu ih =>
      intro j k I1 F1 hfu hy hc7 hz0 hj hk K
      subst hy
      refine a_iload X dX4_shift_56 rfl ?_
      refine a_aload_n X dX4_shift_58 (i := 0) rfl rfl ?_
      refine s_getr X dX4_shift_59 fl_X4_10 ko_0 rfl ?_
      refine s_geti X dX4_shift_62 fl_X4_177 ko_1 rfl ?_
      rw [K.1.2.1]
      refine s_icmp_geN X dX4_shift_65 (tgt := 126) (by decide) (by omega) (by omega) (fun hc65 => ?_) (fun hc65 => ?_)
      · skip
        have hk2 : k = R 1 := by omega
        refine a_iload_n X dX4_shift_126 (i := 3) rfl rfl ?_
        refine a_iret X hA dX4_shift_127 ?_
        exact ⟨_, _, _, _, _, rfl, rfl, bv_val (K) (by rw [sp_shift, if_pos hc7, if_neg hz0, cl_n (show j < 2 ^ 31 by omega), hk2])⟩
      · skip
        have hlt : k < R 1 := by omega
        have okm := ok_seat (x := emp R (R 1) 12 0) ok hlt he0.1 (Or.inl he0.2)
        have hcs : bvH R (emp R (R 1) 12 0) j k = some (kaN (pasN (va_up R (2 + 6 * k + 1) (emp R (R 1) 12 0)) j) (R 1)) := rfl
        have hkl := ka_le (pasN (va_up R (2 + 6 * k + 1) (emp R (R 1) 12 0)) j) (R 1)
        have hmb := bst_b (b := 0) (bvH_b (R := R) (e0 := emp R (R 1) 12 0) (j := j) hn10) k
        refine a_aload_n X dX4_shift_68 (i := 0) rfl rfl ?_
        refine s_getr X dX4_shift_69 fl_X4_16 ko_0 rfl ?_
        refine a_aload_n X dX4_shift_72 (i := 0) rfl rfl ?_
        refine s_getr X dX4_shift_73 fl_X4_10 ko_0 rfl ?_
        refine s_callV_Y X dX4_shift_76 lk_X4_155 ko_11 rfl rfl (c_X0_become (b := 11) (b2 := 1) (Or.inr (Or.inl rfl)) (Or.inl rfl) (by decide) ok K.1) ⟨Nat.le_of_ble_eq_true rfl, Nat.le_of_ble_eq_true rfl⟩ rfl rfl (Nat.le_of_ble_eq_true rfl) ⟨Nat.le_of_ble_eq_true rfl, Nat.le_of_ble_eq_true rfl⟩ (fun I2 J2 F2 w2 hpo => ?_)
        have K0 := bt_t K hpo
        obtain ⟨-, -, eJ, ew⟩ := hpo
        have eJ := eJ.symm
        have ew := ew.symm
        subst eJ; subst ew
        refine a_aload_n X dX4_shift_79 (i := 0) rfl rfl ?_
        refine s_getr X dX4_shift_80 fl_X4_16 ko_0 rfl ?_
        refine a_iload X dX4_shift_83 rfl ?_
        refine a_iload_n X dX4_shift_85 (i := 2) rfl rfl ?_
        refine s_callV_V X dX4_shift_86 lk_X4_142 ko_11 rfl rfl (c_X0_reseat (b := 11) (Or.inr (Or.inl rfl)) ok K0.2 hlt he0.1) ⟨Nat.le_of_ble_eq_true rfl, Nat.le_of_ble_eq_true rfl⟩ rfl rfl (Nat.le_of_ble_eq_true rfl) ⟨Nat.le_of_ble_eq_true rfl, Nat.le_of_ble_eq_true rfl⟩ ?_
        refine a_aload_n X dX4_shift_89 (i := 0) rfl rfl ?_
        refine s_getr X dX4_shift_90 fl_X4_16 ko_0 rfl ?_
        refine a_iload_n X dX4_shift_93 (i := 1) rfl rfl ?_
        refine s_callV_Y X dX4_shift_94 lk_X4_151 ko_11 rfl rfl (c_X0_passNights (b := 11) (Or.inr (Or.inl rfl)) okm (bt_s ok K0 hlt he0.1 (Or.inl he0.2)).2 (by rw [up_n _ _ (by omega)]; omega)) ⟨Nat.le_of_ble_eq_true rfl, Nat.le_of_ble_eq_true rfl⟩ rfl rfl (Nat.le_of_ble_eq_true rfl) ⟨Nat.le_of_ble_eq_true rfl, Nat.le_of_ble_eq_true rfl⟩ (fun I2 J2 F2 w2 hpo => ?_)
        have K3 := bt_t (bt_s ok K0 hlt he0.1 (Or.inl he0.2)).1 hpo
        obtain ⟨-, -, eJ, ew⟩ := hpo
        have eJ := eJ.symm
        have ew := ew.symm
        subst eJ; subst ew
        refine a_aload_n X dX4_shift_97 (i := 0) rfl rfl ?_
        refine s_getr X dX4_shift_98 fl_X4_16 ko_0 rfl ?_
        refine s_callV_R X dX4_shift_101 lk_X4_70 ko_11 rfl rfl (c_X0_knownTogether (b := 11) (Or.inr (Or.inl rfl)) (okR_pas okm j) K3.2) ⟨Nat.le_of_ble_eq_true rfl, Nat.le_of_ble_eq_true rfl⟩ rfl rfl (Nat.le_of_ble_eq_true rfl) ⟨Nat.le_of_ble_eq_true rfl, Nat.le_of_ble_eq_true rfl⟩ ?_
        rw [ka_eq, pas_1, up_n _ _ (by omega)]
        refine a_istore X dX4_shift_104 (by decide) rfl ?_
        refine a_iload X dX4_shift_106 rfl ?_
        refine a_iload X dX4_shift_108 rfl ?_
        refine a_icmp_le X dX4_shift_110 (tgt := 120) (by decide) (fun hc110 => ?_) (fun hc110 => ?_)
        · skip
          refine a_iinc X dX4_shift_120 rfl (v := nI (_ + 1)) (iincN _ 1) (by decide) rfl ?_
          refine a_goto X dX4_shift_123 (tgt := 56) (by decide) ?_
          first
            | (have e := bst_le (b := 0) (k := k) hcs ((moI_le (by omega) (by omega)).mp hc110)
               have := ih j (k + 1) I2 F2 (by omega) rfl hc7 hz0 hj (by omega) K3.1
               rw [e] at this
               exact s_dropAt 6 this)
            | (have e := bst_gt (b := 0) (k := k) hcs (fun z => hc110 ((moI_le (by omega) (by omega)).mpr z))
               have := ih j (k + 1) I2 F2 (by omega) rfl hc7 hz0 hj (by omega) K3.1
               rw [e] at this
               exact s_dropAt 6 this)
        · skip
          refine a_iload X dX4_shift_113 rfl ?_
          refine a_istore X dX4_shift_115 (by decide) rfl ?_
          refine a_iload X dX4_shift_117 rfl ?_
          refine a_istore_n X dX4_shift_119 (i := 3) rfl (by decide) rfl ?_
          refine a_iinc X dX4_shift_120 rfl (v := nI (_ + 1)) (iincN _ 1) (by decide) rfl ?_
          refine a_goto X dX4_shift_123 (tgt := 56) (by decide) ?_
          first
            | (have e := bst_le (b := 0) (k := k) hcs ((moI_le (by omega) (by omega)).mp hc110)
               have := ih j (k + 1) I2 F2 (by omega) rfl hc7 hz0 hj (by omega) K3.1
               rw [e] at this
               exact s_dropAt 6 this)
            | (have e := bst_gt (b := 0) (k := k) hcs (fun z => hc110 ((moI_le (by omega) (by omega)).mpr z))
               have := ih j (k + 1) I2 F2 (by omega) rfl hc7 hz0 hj (by omega) K3.1
               rw [e] at this
               exact s_dropAt 6 this)
  refine a_iload_n X dX4_shift_0 (i := 1) rfl rfl ?_
  refine a_iconst X dX4_shift_1 (v := nI 1) (by decide +kernel) ?_
  refine a_bipush X dX4_shift_2 (v := nI 40) (by decide +kernel) ?_
  refine s_callS_R X dX4_shift_4 lk_X4_44 c_X4_within ⟨Nat.le_of_ble_eq_true rfl, Nat.le_of_ble_eq_true rfl⟩ rfl rfl (Nat.le_of_ble_eq_true rfl) ⟨Nat.le_of_ble_eq_true rfl, Nat.le_of_ble_eq_true rfl⟩ ?_
  refine a_if_ne X dX4_shift_7 (tgt := 17) (by decide) (fun hc7 => ?_) (fun hc7 => ?_)
  · skip
    try simp only [bI_0, Bool.not_eq_false] at hc7
    obtain ⟨j, hj0, hj, rfl⟩ := inB_r (by decide) (by decide) hc7
    refine a_aload_n X dX4_shift_17 (i := 0) rfl rfl ?_
    refine s_getr X dX4_shift_18 fl_X4_10 ko_0 rfl ?_
    refine s_callV_R X dX4_shift_21 lk_X4_174 ko_1 rfl rfl (c_X0_leastEmptySeat (b := 1) (Or.inl rfl) ok hC) ⟨Nat.le_of_ble_eq_true rfl, Nat.le_of_ble_eq_true rfl⟩ rfl rfl (Nat.le_of_ble_eq_true rfl) ⟨Nat.le_of_ble_eq_true rfl, Nat.le_of_ble_eq_true rfl⟩ ?_
    refine a_istore_n X dX4_shift_24 (i := 2) rfl (by decide) rfl ?_
    refine a_aload_n X dX4_shift_25 (i := 0) rfl rfl ?_
    refine s_getr X dX4_shift_26 fl_X4_10 ko_0 rfl ?_
    refine s_geti X dX4_shift_29 fl_X4_177 ko_1 rfl ?_
    rw [c1]
    refine a_if_eq X dX4_shift_32 (tgt := 41) (by decide) (fun hc32 => ?_) (fun hc32 => ?_)
    · skip
      rw [show (0 : Int32) = nI 0 from rfl, nI_eq (by omega) (by omega)] at hc32
      refine a_aload_n X dX4_shift_41 (i := 0) rfl rfl ?_
      refine a_ldc X dX4_shift_42 kc_X4_83 ?_
      refine s_callV_R X dX4_shift_44 lk_X4_49 ko_0 rfl rfl (c_X4_found (k := 3) (by decide) (by decide +kernel)) ⟨Nat.le_of_ble_eq_true rfl, Nat.le_of_ble_eq_true rfl⟩ rfl rfl (Nat.le_of_ble_eq_true rfl) ⟨Nat.le_of_ble_eq_true rfl, Nat.le_of_ble_eq_true rfl⟩ ?_
      refine a_iret X hA dX4_shift_47 ?_
      first | exact ⟨_, _, _, _, _, rfl, rfl, bv_find (bs_0 hC) (k := 3) (by decide +kernel) (by rw [sp_shift, if_pos hc7, if_pos hc32])⟩ | exact absurd hc38 (by omega)
    · skip
      rw [show (0 : Int32) = nI 0 from rfl, nI_eq (by omega) (by omega)] at hc32
      refine a_iload_n X dX4_shift_35 (i := 2) rfl rfl ?_
      refine a_bipush X dX4_shift_36 (v := nI 12) (by decide +kernel) ?_
      refine s_icmp_neN X dX4_shift_38 (tgt := 48) (by decide) (by omega) (by omega) (fun hc38 => ?_) (fun hc38 => ?_)
      · skip
        refine a_iconst X dX4_shift_48 (v := nI 0) (by decide +kernel) ?_
        refine a_istore_n X dX4_shift_49 (i := 3) rfl (by decide) rfl ?_
        refine a_iconst X dX4_shift_50 (v := (-1)) (by decide +kernel) ?_
        refine a_istore X dX4_shift_51 (by decide) rfl ?_
        refine a_iconst X dX4_shift_53 (v := nI 0) (by decide +kernel) ?_
        refine a_istore X dX4_shift_54 (by decide) rfl ?_
        exact L56 (R 1 + 1) j 0 _ _ (by omega) rfl hc7 hc32 (by omega) (by omega) (bs_0 hC)
      · skip
        refine a_aload_n X dX4_shift_41 (i := 0) rfl rfl ?_
        refine a_ldc X dX4_shift_42 kc_X4_83 ?_
        refine s_callV_R X dX4_shift_44 lk_X4_49 ko_0 rfl rfl (c_X4_found (k := 3) (by decide) (by decide +kernel)) ⟨Nat.le_of_ble_eq_true rfl, Nat.le_of_ble_eq_true rfl⟩ rfl rfl (Nat.le_of_ble_eq_true rfl) ⟨Nat.le_of_ble_eq_true rfl, Nat.le_of_ble_eq_true rfl⟩ ?_
        refine a_iret X hA dX4_shift_47 ?_
        first | exact ⟨_, _, _, _, _, rfl, rfl, bv_find (bs_0 hC) (k := 3) (by decide +kernel) (by rw [sp_shift, if_pos hc7, if_pos hc32])⟩ | exact absurd hc38 (by omega)
  · skip
    try simp only [bI_0, Bool.not_eq_false] at hc7
    refine a_aload_n X dX4_shift_10 (i := 0) rfl rfl ?_
    refine a_ldc X dX4_shift_11 kc_X4_48 ?_
    refine s_callV_R X dX4_shift_13 lk_X4_49 ko_0 rfl rfl (c_X4_found (k := 0) (by decide) (by decide +kernel)) ⟨Nat.le_of_ble_eq_true rfl, Nat.le_of_ble_eq_true rfl⟩ rfl rfl (Nat.le_of_ble_eq_true rfl) ⟨Nat.le_of_ble_eq_true rfl, Nat.le_of_ble_eq_true rfl⟩ ?_
    refine a_iret X hA dX4_shift_16 ?_
    exact ⟨_, _, _, _, _, rfl, rfl, bv_find (bs_0 hC) (k := 0) (by decide +kernel) (by rw [sp_shift, if_neg (by rw [hc7]; decide)])⟩
set_option maxRecDepth 100000 in
set_option maxHeartbeats 4000000 in
theorem c_X4_wisest {l : Launch} {g : GG} {I : TI} {J : TJ} {F : TI} {w : Int64} {R : Nat → Nat} (ok : okR R) (hC : Ch I F 1 R) {y : Int32} (hN : R 0 ≤ 99999) : RV l g mX4_wisest [.ref (ga g 0), .int y] I J F w (BvR I J F w (sp_wisest R y)) := by
  have hn10 := ok.1
  obtain ⟨c0, c1, cm, cs⟩ := id hC
  have cm : ∀ m, m < R 1 → I 2 m = nI (R (2 + 6 * m + 0)) ∧ I 3 m = nI (R (2 + 6 * m + 1)) ∧ I 4 m = nI (R (2 + 6 * m + 2)) ∧ I 5 m = nI (R (2 + 6 * m + 3)) ∧ I 6 m = nI (R (2 + 6 * m + 4)) ∧ I 7 m = nI (R (2 + 6 * m + 5)) := cm
  refine ct_start (M := mX4_wisest) (by decide +kernel) (Nat.le_of_ble_eq_true rfl) ?_
  intro p e s m args below meth c A X hA
  have X : AX p s m args meth c g A cX4_wisest 4 RX4 (Cond.code yX4_wisest cX4_wisest 4 (some .int)) (some .int) := X
  show AW p l e (rmM 6 135) s m args below meth c g A 4 0 0 (MQ below (CQ g (hp g I J F w) s.heap.size (fun vv0 hh0 => ∃ xx0 II0 JJ0 FF0 ww0, vv0 = some xx0 ∧ hh0 = hp g II0 JJ0 FF0 ww0 ∧ (BvR I J F w (sp_wisest R y)) xx0 II0 JJ0 FF0 ww0)) args s 0 0 A) 0 [some (.ref (ga g 0)), some (.int y), none, none] [] (hp g I J F w)
  have L57 : ∀ (fu : Nat) (j : Nat) (b : Nat) (k : Nat) (I1 : TI) (F1 : TI), R 1 - k < fu → (y = nI j) → (inB y (nI 0) (nI 100) = true) → (j ≤ 100) → (k ≤ R 1) → (wisF (fun m => pcn (pasN R j (2 + 6 * m + 4))) k = some b) → (BT I F R (pasN R j) I1 F1) → AW p l e (rmM 6 135) s m args below meth c g A 4 0 0 (MQ below (CQ g (hp g I J F w) s.heap.size (fun vv0 hh0 => ∃ xx0 II0 JJ0 FF0 ww0, vv0 = some xx0 ∧ hh0 = hp g II0 JJ0 FF0 ww0 ∧ (BvR I J F w (sp_wisest R y)) xx0 II0 JJ0 FF0 ww0)) args s 0 0 A) 57 [some (.ref (ga g 0)), some (.int (nI j)), some (.int (nI b)), some (.int (nI k))] [] (hp g I1 J F1 w) := by
    intro fu
    induction fu with
    | zero => intro j b k I1 F1 hfu; exact absurd hfu (by omega)
    | succ fu ih =>
      intro j b k I1 F1 hfu hy hc7 hj hk hw K
      subst hy
      have hb := wis_lt hw
      refine a_iload_n X dX4_wisest_57 (i := 3) rfl rfl ?_
      refine a_aload_n X dX4_wisest_58 (i := 0) rfl rfl ?_
      refine s_getr X dX4_wisest_59 fl_X4_16 ko_0 rfl ?_
      refine s_geti X dX4_wisest_62 fl_X4_177 ko_11 rfl ?_
      rw [K.2.2.1, pas_1]
      refine s_icmp_geN X dX4_wisest_65 (tgt := 95) (by decide) (by omega) (by omega) (fun hc65 => ?_) (fun hc65 => ?_)
      · skip
        have hk2 : k = R 1 := by omega
        refine a_iload_n X dX4_wisest_95 (i := 2) rfl rfl ?_
        refine a_iret X hA dX4_wisest_96 ?_
        exact ⟨_, _, _, _, _, rfl, rfl, bv_val (K.1) (by rw [sp_wisest, if_pos hc7, cl_n (show j < 2 ^ 31 by omega), ← hk2, hw]; rfl)⟩
      · skip
        have hlt : k < R 1 := by omega
        have hp1 := pcn_le (pasN R j (2 + 6 * k + 4))
        have hp2 := pcn_le (pasN R j (2 + 6 * b + 4))
        refine a_aload_n X dX4_wisest_68 (i := 0) rfl rfl ?_
        refine s_getr X dX4_wisest_69 fl_X4_16 ko_0 rfl ?_
        refine a_iload_n X dX4_wisest_72 (i := 3) rfl rfl ?_
        refine s_callV_R X dX4_wisest_73 lk_X4_171 ko_11 rfl rfl (c_X0_knownBy (b := 11) (Or.inr (Or.inl rfl)) (okR_pas ok j) K.2 (a := k) (by rw [pas_1]; exact hlt)) ⟨Nat.le_of_ble_eq_true rfl, Nat.le_of_ble_eq_true rfl⟩ rfl rfl (Nat.le_of_ble_eq_true rfl) ⟨Nat.le_of_ble_eq_true rfl, Nat.le_of_ble_eq_true rfl⟩ ?_
        refine a_aload_n X dX4_wisest_76 (i := 0) rfl rfl ?_
        refine s_getr X dX4_wisest_77 fl_X4_16 ko_0 rfl ?_
        refine a_iload_n X dX4_wisest_80 (i := 2) rfl rfl ?_
        refine s_callV_R X dX4_wisest_81 lk_X4_171 ko_11 rfl rfl (c_X0_knownBy (b := 11) (Or.inr (Or.inl rfl)) (okR_pas ok j) K.2 (a := b) (by rw [pas_1]; omega)) ⟨Nat.le_of_ble_eq_true rfl, Nat.le_of_ble_eq_true rfl⟩ rfl rfl (Nat.le_of_ble_eq_true rfl) ⟨Nat.le_of_ble_eq_true rfl, Nat.le_of_ble_eq_true rfl⟩ ?_
        refine s_icmp_leN X dX4_wisest_84 (tgt := 89) (by decide) (by omega) (by omega) (fun hc84 => ?_) (fun hc84 => ?_)
        · skip
          refine a_iinc X dX4_wisest_89 rfl (v := nI (_ + 1)) (iincN _ 1) (by decide) rfl ?_
          refine a_goto X dX4_wisest_92 (tgt := 57) (by decide) ?_
          first
            | exact ih j b (k + 1) I1 F1 (by omega) rfl hc7 hj (by omega) (by rw [wisF, hw]; show (if _ then _ else _) = _; rw [if_pos hc84]) K
            | exact ih j k (k + 1) I1 F1 (by omega) rfl hc7 hj (by omega) (by rw [wisF, hw]; show (if _ then _ else _) = _; rw [if_neg hc84]) K
        · skip
          refine a_iload_n X dX4_wisest_87 (i := 3) rfl rfl ?_
          refine a_istore_n X dX4_wisest_88 (i := 2) rfl (by decide) rfl ?_
          refine a_iinc X dX4_wisest_89 rfl (v := nI (_ + 1)) (iincN _ 1) (by decide) rfl ?_
          refine a_goto X dX4_wisest_92 (tgt := 57) (by decide) ?_
          first
            | exact ih j b (k + 1) I1 F1 (by omega) rfl hc7 hj (by omega) (by rw [wisF, hw]; show (if _ then _ else _) = _; rw [if_pos hc84]) K
            | exact ih j k (k + 1) I1 F1 (by omega) rfl hc7 hj (by omega) (by rw [wisF, hw]; show (if _ then _ else _) = _; rw [if_neg hc84]) K
  refine a_iload_n X dX4_wisest_0 (i := 1) rfl rfl ?_
  refine a_iconst X dX4_wisest_1 (v := nI 0) (by decide +kernel) ?_
  refine a_bipush X dX4_wisest_2 (v := nI 100) (by decide +kernel) ?_
  refine s_callS_R X dX4_wisest_4 lk_X4_44 c_X4_within ⟨Nat.le_of_ble_eq_true rfl, Nat.le_of_ble_eq_true rfl⟩ rfl rfl (Nat.le_of_ble_eq_true rfl) ⟨Nat.le_of_ble_eq_true rfl, Nat.le_of_ble_eq_true rfl⟩ ?_
  refine a_if_ne X dX4_wisest_7 (tgt := 17) (by decide) (fun hc7 => ?_) (fun hc7 => ?_)
  · skip
    try simp only [bI_0, Bool.not_eq_false] at hc7
    obtain ⟨j, hj0, hj, rfl⟩ := inB_r (by decide) (by decide) hc7
    refine a_aload_n X dX4_wisest_17 (i := 0) rfl rfl ?_
    refine s_getr X dX4_wisest_18 fl_X4_10 ko_0 rfl ?_
    refine s_geti X dX4_wisest_21 fl_X4_177 ko_1 rfl ?_
    rw [c1]
    refine a_if_ne X dX4_wisest_24 (tgt := 34) (by decide) (fun hc24 => ?_) (fun hc24 => ?_)
    · skip
      rw [show (0 : Int32) = nI 0 from rfl, nI_eq (by omega) (by omega)] at hc24
      refine a_aload_n X dX4_wisest_34 (i := 0) rfl rfl ?_
      refine s_getr X dX4_wisest_35 fl_X4_16 ko_0 rfl ?_
      refine a_aload_n X dX4_wisest_38 (i := 0) rfl rfl ?_
      refine s_getr X dX4_wisest_39 fl_X4_10 ko_0 rfl ?_
      refine s_callV_Y X dX4_wisest_42 lk_X4_155 ko_11 rfl rfl (c_X0_become (b := 11) (b2 := 1) (Or.inr (Or.inl rfl)) (Or.inl rfl) (by decide) ok hC) ⟨Nat.le_of_ble_eq_true rfl, Nat.le_of_ble_eq_true rfl⟩ rfl rfl (Nat.le_of_ble_eq_true rfl) ⟨Nat.le_of_ble_eq_true rfl, Nat.le_of_ble_eq_true rfl⟩ (fun I2 J2 F2 w2 hpo => ?_)
      have K0 := bt_t (bs_0 hC) hpo
      obtain ⟨-, -, eJ, ew⟩ := hpo
      have eJ := eJ.symm
      have ew := ew.symm
      subst eJ; subst ew
      refine a_aload_n X dX4_wisest_45 (i := 0) rfl rfl ?_
      refine s_getr X dX4_wisest_46 fl_X4_16 ko_0 rfl ?_
      refine a_iload_n X dX4_wisest_49 (i := 1) rfl rfl ?_
      refine s_callV_Y X dX4_wisest_50 lk_X4_151 ko_11 rfl rfl (c_X0_passNights (b := 11) (Or.inr (Or.inl rfl)) ok K0.2 (by omega)) ⟨Nat.le_of_ble_eq_true rfl, Nat.le_of_ble_eq_true rfl⟩ rfl rfl (Nat.le_of_ble_eq_true rfl) ⟨Nat.le_of_ble_eq_true rfl, Nat.le_of_ble_eq_true rfl⟩ (fun I2 J2 F2 w2 hpo => ?_)
      have K := bt_t K0.1 hpo
      obtain ⟨-, -, eJ, ew⟩ := hpo
      have eJ := eJ.symm
      have ew := ew.symm
      subst eJ; subst ew
      refine a_iconst X dX4_wisest_53 (v := nI 0) (by decide +kernel) ?_
      refine a_istore_n X dX4_wisest_54 (i := 2) rfl (by decide) rfl ?_
      refine a_iconst X dX4_wisest_55 (v := nI 1) (by decide +kernel) ?_
      refine a_istore_n X dX4_wisest_56 (i := 3) rfl (by decide) rfl ?_
      exact L57 (R 1 + 1) j 0 1 _ _ (by omega) rfl hc7 (by omega) (by omega) rfl K
    · skip
      rw [show (0 : Int32) = nI 0 from rfl, nI_eq (by omega) (by omega)] at hc24
      refine a_aload_n X dX4_wisest_27 (i := 0) rfl rfl ?_
      refine a_ldc X dX4_wisest_28 kc_X4_83 ?_
      refine s_callV_R X dX4_wisest_30 lk_X4_49 ko_0 rfl rfl (c_X4_found (k := 3) (by decide) (by decide +kernel)) ⟨Nat.le_of_ble_eq_true rfl, Nat.le_of_ble_eq_true rfl⟩ rfl rfl (Nat.le_of_ble_eq_true rfl) ⟨Nat.le_of_ble_eq_true rfl, Nat.le_of_ble_eq_true rfl⟩ ?_
      refine a_iret X hA dX4_wisest_33 ?_
      exact ⟨_, _, _, _, _, rfl, rfl, bv_find (bs_0 hC) (k := 3) (by decide +kernel) (by rw [sp_wisest, if_pos hc7, cl_n (show j < 2 ^ 31 by omega), hc24]; rfl)⟩
  · skip
    try simp only [bI_0, Bool.not_eq_false] at hc7
    refine a_aload_n X dX4_wisest_10 (i := 0) rfl rfl ?_
    refine a_ldc X dX4_wisest_11 kc_X4_48 ?_
    refine s_callV_R X dX4_wisest_13 lk_X4_49 ko_0 rfl rfl (c_X4_found (k := 0) (by decide) (by decide +kernel)) ⟨Nat.le_of_ble_eq_true rfl, Nat.le_of_ble_eq_true rfl⟩ rfl rfl (Nat.le_of_ble_eq_true rfl) ⟨Nat.le_of_ble_eq_true rfl, Nat.le_of_ble_eq_true rfl⟩ ?_
    refine a_iret X hA dX4_wisest_16 ?_
    exact ⟨_, _, _, _, _, rfl, rfl, bv_find (bs_0 hC) (k := 0) (by decide +kernel) (by rw [sp_wisest, if_neg (by rw [hc7]; decide)])⟩
