set_option maxRecDepth 100000 in
set_option maxHeartbeats 4000000 in
theorem c_X4_seat {l : Launch} {g : GG} {I : TI} {J : TJ} {F : TI} {w : Int64} {R : Nat → Nat} (ok : okR R) (hC : Ch I F 1 R) {x : Int32} : RV l g mX4_seat [.ref (ga g 0), .int x] I J F w (BvR I J F w (sp_seat R x)) := by
  have hn10 := ok.1
  obtain ⟨c0, c1, cm, cs⟩ := id hC
  have cm : ∀ m, m < R 1 → I 2 m = nI (R (2 + 6 * m + 0)) ∧ I 3 m = nI (R (2 + 6 * m + 1)) ∧ I 4 m = nI (R (2 + 6 * m + 2)) ∧ I 5 m = nI (R (2 + 6 * m + 3)) ∧ I 6 m = nI (R (2 + 6 * m + 4)) ∧ I 7 m = nI (R (2 + 6 * m + 5)) := cm
  refine ct_start (M := mX4_seat) (by decide +kernel) (Nat.le_of_ble_eq_true rfl) ?_
  intro p e s m args below meth c A X hA
  have X : AX p s m args meth c g A cX4_seat 2 RX4 (Cond.code yX4_seat cX4_seat 2 (some .int)) (some .int) := X
  show AW p l e (rmM 2 44) s m args below meth c g A 2 0 0 (MQ below (CQ g (hp g I J F w) s.heap.size (fun vv0 hh0 => ∃ xx0 II0 JJ0 FF0 ww0, vv0 = some xx0 ∧ hh0 = hp g II0 JJ0 FF0 ww0 ∧ (BvR I J F w (sp_seat R x)) xx0 II0 JJ0 FF0 ww0)) args s 0 0 A) 0 [some (.ref (ga g 0)), some (.int x)] [] (hp g I J F w)
  refine a_iload_n X dX4_seat_0 (i := 1) rfl rfl ?_
  refine a_iconst X dX4_seat_1 (v := nI 0) (by decide +kernel) ?_
  refine a_bipush X dX4_seat_2 (v := nI 11) (by decide +kernel) ?_
  refine s_callS_R X dX4_seat_4 lk_X4_44 c_X4_within ⟨Nat.le_of_ble_eq_true rfl, Nat.le_of_ble_eq_true rfl⟩ rfl rfl (Nat.le_of_ble_eq_true rfl) ⟨Nat.le_of_ble_eq_true rfl, Nat.le_of_ble_eq_true rfl⟩ ?_
  refine a_if_ne X dX4_seat_7 (tgt := 17) (by decide) (fun hc7 => ?_) (fun hc7 => ?_)
  · skip
    try simp only [bI_0, Bool.not_eq_false] at hc7
    obtain ⟨j, hj0, hj, rfl⟩ := inB_r (by decide) (by decide) hc7
    refine a_aload_n X dX4_seat_17 (i := 0) rfl rfl ?_
    refine s_getr X dX4_seat_18 fl_X4_10 ko_0 rfl ?_
    refine a_iload_n X dX4_seat_21 (i := 1) rfl rfl ?_
    refine s_callV_R X dX4_seat_22 lk_X4_53 ko_1 rfl rfl (c_X0_sitter (b := 1) (Or.inl rfl) ok hC (by omega)) ⟨Nat.le_of_ble_eq_true rfl, Nat.le_of_ble_eq_true rfl⟩ rfl rfl (Nat.le_of_ble_eq_true rfl) ⟨Nat.le_of_ble_eq_true rfl, Nat.le_of_ble_eq_true rfl⟩ ?_
    refine a_iret X hA dX4_seat_25 ?_
    exact ⟨_, _, _, _, _, rfl, rfl, bv_val (bs_0 hC) (by rw [sp_seat, if_pos hc7, cl_n (show j < 2 ^ 31 by omega)])⟩
  · skip
    try simp only [bI_0, Bool.not_eq_false] at hc7
    refine a_aload_n X dX4_seat_10 (i := 0) rfl rfl ?_
    refine a_ldc X dX4_seat_11 kc_X4_48 ?_
    refine s_callV_R X dX4_seat_13 lk_X4_49 ko_0 rfl rfl (c_X4_found (k := 0) (by decide) (by decide +kernel)) ⟨Nat.le_of_ble_eq_true rfl, Nat.le_of_ble_eq_true rfl⟩ rfl rfl (Nat.le_of_ble_eq_true rfl) ⟨Nat.le_of_ble_eq_true rfl, Nat.le_of_ble_eq_true rfl⟩ ?_
    refine a_iret X hA dX4_seat_16 ?_
    exact ⟨_, _, _, _, _, rfl, rfl, bv_find (bs_0 hC) (k := 0) (by decide +kernel) (by rw [sp_seat, if_neg (by rw [hc7]; decide)])⟩
set_option maxRecDepth 100000 in
set_option maxHeartbeats 4000000 in
theorem c_X4_verse {l : Launch} {g : GG} {I : TI} {J : TJ} {F : TI} {w : Int64} {R : Nat → Nat} (ok : okR R) (hC : Ch I F 1 R) {x : Int32} : RV l g mX4_verse [.ref (ga g 0), .int x] I J F w (BvR I J F w (sp_verse R x)) := by
  have hn10 := ok.1
  obtain ⟨c0, c1, cm, cs⟩ := id hC
  have cm : ∀ m, m < R 1 → I 2 m = nI (R (2 + 6 * m + 0)) ∧ I 3 m = nI (R (2 + 6 * m + 1)) ∧ I 4 m = nI (R (2 + 6 * m + 2)) ∧ I 5 m = nI (R (2 + 6 * m + 3)) ∧ I 6 m = nI (R (2 + 6 * m + 4)) ∧ I 7 m = nI (R (2 + 6 * m + 5)) := cm
  refine ct_start (M := mX4_verse) (by decide +kernel) (Nat.le_of_ble_eq_true rfl) ?_
  intro p e s m args below meth c A X hA
  have X : AX p s m args meth c g A cX4_verse 3 RX4 (Cond.code yX4_verse cX4_verse 3 (some .int)) (some .int) := X
  show AW p l e (rmM 2 44) s m args below meth c g A 3 0 0 (MQ below (CQ g (hp g I J F w) s.heap.size (fun vv0 hh0 => ∃ xx0 II0 JJ0 FF0 ww0, vv0 = some xx0 ∧ hh0 = hp g II0 JJ0 FF0 ww0 ∧ (BvR I J F w (sp_verse R x)) xx0 II0 JJ0 FF0 ww0)) args s 0 0 A) 0 [some (.ref (ga g 0)), some (.int x), none] [] (hp g I J F w)
  refine a_iload_n X dX4_verse_0 (i := 1) rfl rfl ?_
  refine a_if_ge X dX4_verse_1 (tgt := 11) (by decide) (fun hc1 => ?_) (fun hc1 => ?_)
  · skip
    have hc1 := Int32.not_lt.mpr hc1
    obtain ⟨j, hj31, rfl⟩ := nI_of hc1
    refine a_aload_n X dX4_verse_11 (i := 0) rfl rfl ?_
    refine s_getr X dX4_verse_12 fl_X4_10 ko_0 rfl ?_
    refine a_iload_n X dX4_verse_15 (i := 1) rfl rfl ?_
    refine s_callV_R X dX4_verse_16 lk_X4_80 ko_1 rfl rfl (c_X0_sitterInOrder (b := 1) (Or.inl rfl) ok hC hj31) ⟨Nat.le_of_ble_eq_true rfl, Nat.le_of_ble_eq_true rfl⟩ rfl rfl (Nat.le_of_ble_eq_true rfl) ⟨Nat.le_of_ble_eq_true rfl, Nat.le_of_ble_eq_true rfl⟩ ?_
    refine a_istore_n X dX4_verse_19 (i := 2) rfl (by decide) rfl ?_
    refine a_iload_n X dX4_verse_20 (i := 2) rfl rfl ?_
    refine a_iconst X dX4_verse_21 (v := (-1)) (by decide +kernel) ?_
    refine a_icmp_ne X dX4_verse_22 (tgt := 34) (by decide) (fun hc22 => ?_) (fun hc22 => ?_)
    · skip
      obtain ⟨q, hw⟩ : ∃ q, ordS R (R 1) 12 0 j = some q := by
        cases h : ordS R (R 1) 12 0 j with
        | none => exact absurd (by rw [h]; rfl) hc22
        | some q => exact ⟨q, rfl⟩
      have hjn : j < R 1 := by
        rcases Nat.lt_or_ge j (R 1) with z | z
        · exact z
        · rw [ord_none 12 0 j (by rw [cnt_ok ok]; exact z)] at hw; cases hw
      obtain ⟨q1, hw1, hq⟩ := ord_some (R := R) (n := R 1) 12 0 j (by rw [cnt_ok ok]; exact hjn)
      have hqq : q1 = q := by rw [hw] at hw1; cases hw1; rfl
      rw [hqq] at hq
      obtain ⟨m0, m1, m2, m3, m4, m5⟩ := cm q hq
      rw [hw, wI_s]
      refine a_aload_n X dX4_verse_34 (i := 0) rfl rfl ?_
      refine s_getr X dX4_verse_35 fl_X4_10 ko_0 rfl ?_
      refine s_getr X dX4_verse_38 fl_X4_84 ko_1 rfl ?_
      refine a_iload_n X dX4_verse_41 (i := 2) rfl rfl ?_
      refine s_ild X dX4_verse_42 ki_4 (by omega) (by decide) ?_
      rw [m2]
      refine a_iret X hA dX4_verse_43 ?_
      first | exact ⟨_, _, _, _, _, rfl, rfl, bv_find (bs_0 hC) (k := 3) (by decide +kernel) (by rw [sp_verse, if_neg hc1, if_pos ((nI_leI (by omega) hj31).mpr hjn)])⟩ | exact ⟨_, _, _, _, _, rfl, rfl, bv_val (bs_0 hC) (by rw [sp_verse, if_neg hc1, if_neg (fun z => absurd ((nI_leI (by omega) hj31).mp z) (by omega)), cl_n hj31, hw]; rfl)⟩
    · skip
      have hjn : R 1 ≤ j := by
        rcases Nat.lt_or_ge j (R 1) with z | z
        · obtain ⟨q1, hw1, hq⟩ := ord_some (R := R) (n := R 1) 12 0 j (by rw [cnt_ok ok]; exact z)
          rw [hw1] at hc22
          exact absurd ((wI_eq (o := some q1) (fun q zz => by cases zz; omega)).mp hc22) (by simp)
        · exact z
      refine a_aload_n X dX4_verse_25 (i := 0) rfl rfl ?_
      refine a_ldc X dX4_verse_26 kc_X4_83 ?_
      refine s_callV_R X dX4_verse_28 lk_X4_49 ko_0 rfl rfl (c_X4_found (k := 3) (by decide) (by decide +kernel)) ⟨Nat.le_of_ble_eq_true rfl, Nat.le_of_ble_eq_true rfl⟩ rfl rfl (Nat.le_of_ble_eq_true rfl) ⟨Nat.le_of_ble_eq_true rfl, Nat.le_of_ble_eq_true rfl⟩ ?_
      refine a_goto X dX4_verse_31 (tgt := 43) (by decide) ?_
      refine a_iret X hA dX4_verse_43 ?_
      first | exact ⟨_, _, _, _, _, rfl, rfl, bv_find (bs_0 hC) (k := 3) (by decide +kernel) (by rw [sp_verse, if_neg hc1, if_pos ((nI_leI (by omega) hj31).mpr hjn)])⟩ | exact ⟨_, _, _, _, _, rfl, rfl, bv_val (bs_0 hC) (by rw [sp_verse, if_neg hc1, if_neg (fun z => absurd ((nI_leI (by omega) hj31).mp z) (by omega)), cl_n hj31, hw]; rfl)⟩
  · skip
    refine a_aload_n X dX4_verse_4 (i := 0) rfl rfl ?_
    refine a_ldc X dX4_verse_5 kc_X4_48 ?_
    refine s_callV_R X dX4_verse_7 lk_X4_49 ko_0 rfl rfl (c_X4_found (k := 0) (by decide) (by decide +kernel)) ⟨Nat.le_of_ble_eq_true rfl, Nat.le_of_ble_eq_true rfl⟩ rfl rfl (Nat.le_of_ble_eq_true rfl) ⟨Nat.le_of_ble_eq_true rfl, Nat.le_of_ble_eq_true rfl⟩ ?_
    refine a_iret X hA dX4_verse_10 ?_
    exact ⟨_, _, _, _, _, rfl, rfl, bv_find (bs_0 hC) (k := 0) (by decide +kernel) (by rw [sp_verse, if_pos (Int32.not_le.mp hc1)])⟩
set_option maxRecDepth 100000 in
set_option maxHeartbeats 4000000 in
theorem c_X4_member {l : Launch} {g : GG} {I : TI} {J : TJ} {F : TI} {w : Int64} {R : Nat → Nat} (ok : okR R) (hC : Ch I F 1 R) {x y z : Int32} : RV l g mX4_member [.ref (ga g 0), .int x, .int y, .int z] I J F w (BvR I J F w (sp_member R x y z)) := by
  have hn10 := ok.1
  obtain ⟨c0, c1, cm, cs⟩ := id hC
  have cm : ∀ m, m < R 1 → I 2 m = nI (R (2 + 6 * m + 0)) ∧ I 3 m = nI (R (2 + 6 * m + 1)) ∧ I 4 m = nI (R (2 + 6 * m + 2)) ∧ I 5 m = nI (R (2 + 6 * m + 3)) ∧ I 6 m = nI (R (2 + 6 * m + 4)) ∧ I 7 m = nI (R (2 + 6 * m + 5)) := cm
  refine ct_start (M := mX4_member) (by decide +kernel) (Nat.le_of_ble_eq_true rfl) ?_
  intro p e s m args below meth c A X hA
  have X : AX p s m args meth c g A cX4_member 4 RX4 (Cond.code yX4_member cX4_member 4 (some .int)) (some .int) := X
  show AW p l e (rmM 2 44) s m args below meth c g A 4 0 0 (MQ below (CQ g (hp g I J F w) s.heap.size (fun vv0 hh0 => ∃ xx0 II0 JJ0 FF0 ww0, vv0 = some xx0 ∧ hh0 = hp g II0 JJ0 FF0 ww0 ∧ (BvR I J F w (sp_member R x y z)) xx0 II0 JJ0 FF0 ww0)) args s 0 0 A) 0 [some (.ref (ga g 0)), some (.int x), some (.int y), some (.int z)] [] (hp g I J F w)
  refine a_iload_n X dX4_member_0 (i := 1) rfl rfl ?_
  refine s_callS_R X dX4_member_1 lk_X4_87 c_X1_isKind ⟨Nat.le_of_ble_eq_true rfl, Nat.le_of_ble_eq_true rfl⟩ rfl rfl (Nat.le_of_ble_eq_true rfl) ⟨Nat.le_of_ble_eq_true rfl, Nat.le_of_ble_eq_true rfl⟩ ?_
  refine a_if_eq X dX4_member_4 (tgt := 27) (by decide) (fun hc4 => ?_) (fun hc4 => ?_)
  · skip
    try simp only [bI_0, Bool.not_eq_false] at hc4
    refine a_aload_n X dX4_member_27 (i := 0) rfl rfl ?_
    refine a_ldc X dX4_member_28 kc_X4_48 ?_
    refine s_callV_R X dX4_member_30 lk_X4_49 ko_0 rfl rfl (c_X4_found (k := 0) (by decide) (by decide +kernel)) ⟨Nat.le_of_ble_eq_true rfl, Nat.le_of_ble_eq_true rfl⟩ rfl rfl (Nat.le_of_ble_eq_true rfl) ⟨Nat.le_of_ble_eq_true rfl, Nat.le_of_ble_eq_true rfl⟩ ?_
    refine a_iret X hA dX4_member_33 ?_
    exact ⟨_, _, _, _, _, rfl, rfl, bv_find (bs_0 hC) (k := 0) (by decide +kernel) (by rw [sp_member, if_neg (by simp [*])])⟩
  · skip
    try simp only [bI_0, Bool.not_eq_false] at hc4
    refine a_iload_n X dX4_member_7 (i := 2) rfl rfl ?_
    refine a_iconst X dX4_member_8 (v := nI 0) (by decide +kernel) ?_
    refine a_bipush X dX4_member_9 (v := nI 11) (by decide +kernel) ?_
    refine s_callS_R X dX4_member_11 lk_X4_44 c_X4_within ⟨Nat.le_of_ble_eq_true rfl, Nat.le_of_ble_eq_true rfl⟩ rfl rfl (Nat.le_of_ble_eq_true rfl) ⟨Nat.le_of_ble_eq_true rfl, Nat.le_of_ble_eq_true rfl⟩ ?_
    refine a_if_eq X dX4_member_14 (tgt := 27) (by decide) (fun hc14 => ?_) (fun hc14 => ?_)
    · skip
      try simp only [bI_0, Bool.not_eq_false] at hc14
      refine a_aload_n X dX4_member_27 (i := 0) rfl rfl ?_
      refine a_ldc X dX4_member_28 kc_X4_48 ?_
      refine s_callV_R X dX4_member_30 lk_X4_49 ko_0 rfl rfl (c_X4_found (k := 0) (by decide) (by decide +kernel)) ⟨Nat.le_of_ble_eq_true rfl, Nat.le_of_ble_eq_true rfl⟩ rfl rfl (Nat.le_of_ble_eq_true rfl) ⟨Nat.le_of_ble_eq_true rfl, Nat.le_of_ble_eq_true rfl⟩ ?_
      refine a_iret X hA dX4_member_33 ?_
      exact ⟨_, _, _, _, _, rfl, rfl, bv_find (bs_0 hC) (k := 0) (by decide +kernel) (by rw [sp_member, if_neg (by simp [*])])⟩
    · skip
      try simp only [bI_0, Bool.not_eq_false] at hc14
      refine a_iload_n X dX4_member_17 (i := 3) rfl rfl ?_
      refine a_iconst X dX4_member_18 (v := nI 0) (by decide +kernel) ?_
      refine a_bipush X dX4_member_19 (v := nI 9) (by decide +kernel) ?_
      refine s_callS_R X dX4_member_21 lk_X4_44 c_X4_within ⟨Nat.le_of_ble_eq_true rfl, Nat.le_of_ble_eq_true rfl⟩ rfl rfl (Nat.le_of_ble_eq_true rfl) ⟨Nat.le_of_ble_eq_true rfl, Nat.le_of_ble_eq_true rfl⟩ ?_
      refine a_if_ne X dX4_member_24 (tgt := 34) (by decide) (fun hc24 => ?_) (fun hc24 => ?_)
      · skip
        try simp only [bI_0, Bool.not_eq_false] at hc24
        obtain ⟨k, hk0, hk, rfl⟩ := inB_r (by decide) (by decide) hc4
        obtain ⟨j, hj0, hj, rfl⟩ := inB_r (by decide) (by decide) hc14
        obtain ⟨v, hv0, hv, rfl⟩ := inB_r (by decide) (by decide) hc24
        refine a_aload_n X dX4_member_34 (i := 0) rfl rfl ?_
        refine s_getr X dX4_member_35 fl_X4_10 ko_0 rfl ?_
        refine s_callV_R X dX4_member_38 lk_X4_93 ko_1 rfl rfl (c_X0_isFull (b := 1) (Or.inl rfl) ok hC) ⟨Nat.le_of_ble_eq_true rfl, Nat.le_of_ble_eq_true rfl⟩ rfl rfl (Nat.le_of_ble_eq_true rfl) ⟨Nat.le_of_ble_eq_true rfl, Nat.le_of_ble_eq_true rfl⟩ ?_
        refine a_if_eq X dX4_member_41 (tgt := 51) (by decide) (fun hc41 => ?_) (fun hc41 => ?_)
        · skip
          try simp only [bI_0, Bool.not_eq_false, decide_eq_true_eq, decide_eq_false_iff_not, Classical.not_not] at hc41
          refine a_aload_n X dX4_member_51 (i := 0) rfl rfl ?_
          refine s_getr X dX4_member_52 fl_X4_10 ko_0 rfl ?_
          refine a_iload_n X dX4_member_55 (i := 2) rfl rfl ?_
          refine s_callV_R X dX4_member_56 lk_X4_53 ko_1 rfl rfl (c_X0_sitter (b := 1) (Or.inl rfl) ok hC (by omega)) ⟨Nat.le_of_ble_eq_true rfl, Nat.le_of_ble_eq_true rfl⟩ rfl rfl (Nat.le_of_ble_eq_true rfl) ⟨Nat.le_of_ble_eq_true rfl, Nat.le_of_ble_eq_true rfl⟩ ?_
          refine a_iconst X dX4_member_59 (v := (-1)) (by decide +kernel) ?_
          refine a_icmp_eq X dX4_member_60 (tgt := 70) (by decide) (fun hc60 => ?_) (fun hc60 => ?_)
          · skip
            refine a_aload_n X dX4_member_70 (i := 0) rfl rfl ?_
            refine s_getr X dX4_member_71 fl_X4_10 ko_0 rfl ?_
            refine a_iload_n X dX4_member_74 (i := 1) rfl rfl ?_
            refine a_iload_n X dX4_member_75 (i := 2) rfl rfl ?_
            refine a_iload_n X dX4_member_76 (i := 3) rfl rfl ?_
            refine a_iconst X dX4_member_77 (v := nI 5) (by decide +kernel) ?_
            refine s_callV_R X dX4_member_78 lk_X4_99 ko_1 rfl rfl (c_X0_add (b := 1) (Or.inl rfl) ok hC (by omega) (by omega)) ⟨Nat.le_of_ble_eq_true rfl, Nat.le_of_ble_eq_true rfl⟩ rfl rfl (Nat.le_of_ble_eq_true rfl) ⟨Nat.le_of_ble_eq_true rfl, Nat.le_of_ble_eq_true rfl⟩ ?_
            refine a_iret X hA dX4_member_81 ?_
            exact ⟨_, _, _, _, _, rfl, rfl, bv_val ⟨ch_add ok hC (by omega) (by omega) ((wI_eq (who_b hn10)).mp hc60), fun Q hQ => by rw [up_n _ _ (by omega), up_n _ _ (by omega), up_n _ _ (by omega), up_n _ _ (by omega), up_n _ _ (by omega), up_n _ _ (by omega), up_n _ _ (by omega)], fun Q hQ => up_n _ _ (by omega)⟩ (by rw [sp_member, if_pos ⟨hc4, hc14, hc24⟩, if_neg hc41, cl_n (show j < 2 ^ 31 by omega), if_pos ((wI_eq (who_b hn10)).mp hc60), cl_n (show k < 2 ^ 31 by omega), cl_n (show v < 2 ^ 31 by omega)])⟩
          · skip
            refine a_aload_n X dX4_member_63 (i := 0) rfl rfl ?_
            refine a_ldc X dX4_member_64 kc_X4_98 ?_
            refine s_callV_R X dX4_member_66 lk_X4_49 ko_0 rfl rfl (c_X4_found (k := 4) (by decide) (by decide +kernel)) ⟨Nat.le_of_ble_eq_true rfl, Nat.le_of_ble_eq_true rfl⟩ rfl rfl (Nat.le_of_ble_eq_true rfl) ⟨Nat.le_of_ble_eq_true rfl, Nat.le_of_ble_eq_true rfl⟩ ?_
            refine a_iret X hA dX4_member_69 ?_
            exact ⟨_, _, _, _, _, rfl, rfl, bv_find (bs_0 hC) (k := 4) (by decide +kernel) (by rw [sp_member, if_pos ⟨hc4, hc14, hc24⟩, if_neg hc41, cl_n (show j < 2 ^ 31 by omega), if_neg (fun z => hc60 (by rw [z]; rfl))])⟩
        · skip
          try simp only [bI_0, Bool.not_eq_false, decide_eq_true_eq, decide_eq_false_iff_not, Classical.not_not] at hc41
          refine a_aload_n X dX4_member_44 (i := 0) rfl rfl ?_
          refine a_ldc X dX4_member_45 kc_X4_97 ?_
          refine s_callV_R X dX4_member_47 lk_X4_49 ko_0 rfl rfl (c_X4_found (k := 1) (by decide) (by decide +kernel)) ⟨Nat.le_of_ble_eq_true rfl, Nat.le_of_ble_eq_true rfl⟩ rfl rfl (Nat.le_of_ble_eq_true rfl) ⟨Nat.le_of_ble_eq_true rfl, Nat.le_of_ble_eq_true rfl⟩ ?_
          refine a_iret X hA dX4_member_50 ?_
          exact ⟨_, _, _, _, _, rfl, rfl, bv_find (bs_0 hC) (k := 1) (by decide +kernel) (by rw [sp_member, if_pos ⟨hc4, hc14, hc24⟩, if_pos hc41])⟩
      · skip
        try simp only [bI_0, Bool.not_eq_false] at hc24
        refine a_aload_n X dX4_member_27 (i := 0) rfl rfl ?_
        refine a_ldc X dX4_member_28 kc_X4_48 ?_
        refine s_callV_R X dX4_member_30 lk_X4_49 ko_0 rfl rfl (c_X4_found (k := 0) (by decide) (by decide +kernel)) ⟨Nat.le_of_ble_eq_true rfl, Nat.le_of_ble_eq_true rfl⟩ rfl rfl (Nat.le_of_ble_eq_true rfl) ⟨Nat.le_of_ble_eq_true rfl, Nat.le_of_ble_eq_true rfl⟩ ?_
        refine a_iret X hA dX4_member_33 ?_
        exact ⟨_, _, _, _, _, rfl, rfl, bv_find (bs_0 hC) (k := 0) (by decide +kernel) (by rw [sp_member, if_neg (by simp [*])])⟩
set_option maxRecDepth 100000 in
set_option maxHeartbeats 4000000 in
theorem c_X4_of {l : Launch} {g : GG} {I : TI} {J : TJ} {F : TI} {w : Int64} {R : Nat → Nat} (ok : okR R) (hC : Ch I F 1 R) {x y : Int32} (hN : R 0 < 2 ^ 31) : RV l g mX4_of [.ref (ga g 0), .int x, .int y] I J F w (BvR I J F w (sp_of R x y)) := by
  have hn10 := ok.1
  obtain ⟨c0, c1, cm, cs⟩ := id hC
  have cm : ∀ m, m < R 1 → I 2 m = nI (R (2 + 6 * m + 0)) ∧ I 3 m = nI (R (2 + 6 * m + 1)) ∧ I 4 m = nI (R (2 + 6 * m + 2)) ∧ I 5 m = nI (R (2 + 6 * m + 3)) ∧ I 6 m = nI (R (2 + 6 * m + 4)) ∧ I 7 m = nI (R (2 + 6 * m + 5)) := cm
  refine ct_start (M := mX4_of) (by decide +kernel) (Nat.le_of_ble_eq_true rfl) ?_
  intro p e s m args below meth c A X hA
  have X : AX p s m args meth c g A cX4_of 3 RX4 (Cond.code yX4_of cX4_of 3 (some .int)) (some .int) := X
  show AW p l e (rmM 3 67) s m args below meth c g A 3 0 0 (MQ below (CQ g (hp g I J F w) s.heap.size (fun vv0 hh0 => ∃ xx0 II0 JJ0 FF0 ww0, vv0 = some xx0 ∧ hh0 = hp g II0 JJ0 FF0 ww0 ∧ (BvR I J F w (sp_of R x y)) xx0 II0 JJ0 FF0 ww0)) args s 0 0 A) 0 [some (.ref (ga g 0)), some (.int x), some (.int y)] [] (hp g I J F w)
  refine a_aload_n X dX4_of_0 (i := 0) rfl rfl ?_
  refine s_getr X dX4_of_1 fl_X4_10 ko_0 rfl ?_
  refine a_iload_n X dX4_of_4 (i := 1) rfl rfl ?_
  refine s_callV_R X dX4_of_5 lk_X4_103 ko_1 rfl rfl (c_X0_has (b := 1) (Or.inl rfl) ok hC) ⟨Nat.le_of_ble_eq_true rfl, Nat.le_of_ble_eq_true rfl⟩ rfl rfl (Nat.le_of_ble_eq_true rfl) ⟨Nat.le_of_ble_eq_true rfl, Nat.le_of_ble_eq_true rfl⟩ ?_
  refine a_if_ne X dX4_of_8 (tgt := 18) (by decide) (fun hc8 => ?_) (fun hc8 => ?_)
  · skip
    try simp only [bI_0, Bool.not_eq_false] at hc8
    obtain ⟨a, ha, rfl⟩ := isM_t (by omega) hc8
    obtain ⟨g0, g1, g2, g3, g4, g5⟩ := ok.2.1 a ha
    obtain ⟨m0, m1, m2, m3, m4, m5⟩ := cm a ha
    refine a_iload_n X dX4_of_18 (i := 2) rfl rfl ?_
    by_cases hs19_0 : y = nI 0
    · skip
      refine a_tsIn X dX4_of_19 (by rw [hs19_0]; decide +kernel) (by rw [hs19_0]; decide +kernel) (off := 53) (by rw [hs19_0]; decide +kernel) (tgt := 72) (by decide) ?_
      refine a_aload_n X dX4_of_72 (i := 0) rfl rfl ?_
      refine s_getr X dX4_of_73 fl_X4_10 ko_0 rfl ?_
      refine s_getr X dX4_of_76 fl_X4_106 ko_1 rfl ?_
      refine a_iload_n X dX4_of_79 (i := 1) rfl rfl ?_
      refine s_ild X dX4_of_80 ki_2 (by omega) (by decide) ?_
      rw [m0]
      refine a_iret X hA dX4_of_81 ?_
      exact ⟨_, _, _, _, _, rfl, rfl, bv_val (bs_0 hC) (by rw [sp_of, if_pos ⟨hc8, by rw [hs19_0]; decide +kernel⟩, cl_n (show a < 2 ^ 31 by omega), hs19_0, cl_n (by decide)]; rfl)⟩
    · skip
      by_cases hs19_1 : y = nI 1
      · skip
        refine a_tsIn X dX4_of_19 (by rw [hs19_1]; decide +kernel) (by rw [hs19_1]; decide +kernel) (off := 63) (by rw [hs19_1]; decide +kernel) (tgt := 82) (by decide) ?_
        refine a_aload_n X dX4_of_82 (i := 0) rfl rfl ?_
        refine s_getr X dX4_of_83 fl_X4_10 ko_0 rfl ?_
        refine s_getr X dX4_of_86 fl_X4_109 ko_1 rfl ?_
        refine a_iload_n X dX4_of_89 (i := 1) rfl rfl ?_
        refine s_ild X dX4_of_90 ki_3 (by omega) (by decide) ?_
        rw [m1]
        refine a_iret X hA dX4_of_91 ?_
        exact ⟨_, _, _, _, _, rfl, rfl, bv_val (bs_0 hC) (by rw [sp_of, if_pos ⟨hc8, by rw [hs19_1]; decide +kernel⟩, cl_n (show a < 2 ^ 31 by omega), hs19_1, cl_n (by decide)]; rfl)⟩
      · skip
        by_cases hs19_2 : y = nI 2
        · skip
          refine a_tsIn X dX4_of_19 (by rw [hs19_2]; decide +kernel) (by rw [hs19_2]; decide +kernel) (off := 73) (by rw [hs19_2]; decide +kernel) (tgt := 92) (by decide) ?_
          refine a_aload_n X dX4_of_92 (i := 0) rfl rfl ?_
          refine s_getr X dX4_of_93 fl_X4_10 ko_0 rfl ?_
          refine s_getr X dX4_of_96 fl_X4_84 ko_1 rfl ?_
          refine a_iload_n X dX4_of_99 (i := 1) rfl rfl ?_
          refine s_ild X dX4_of_100 ki_4 (by omega) (by decide) ?_
          rw [m2]
          refine a_iret X hA dX4_of_101 ?_
          exact ⟨_, _, _, _, _, rfl, rfl, bv_val (bs_0 hC) (by rw [sp_of, if_pos ⟨hc8, by rw [hs19_2]; decide +kernel⟩, cl_n (show a < 2 ^ 31 by omega), hs19_2, cl_n (by decide)]; rfl)⟩
        · skip
          by_cases hs19_3 : y = nI 3
          · skip
            refine a_tsIn X dX4_of_19 (by rw [hs19_3]; decide +kernel) (by rw [hs19_3]; decide +kernel) (off := 83) (by rw [hs19_3]; decide +kernel) (tgt := 102) (by decide) ?_
            refine a_aload_n X dX4_of_102 (i := 0) rfl rfl ?_
            refine s_getr X dX4_of_103 fl_X4_10 ko_0 rfl ?_
            refine s_getr X dX4_of_106 fl_X4_112 ko_1 rfl ?_
            refine a_iload_n X dX4_of_109 (i := 1) rfl rfl ?_
            refine s_ild X dX4_of_110 ki_5 (by omega) (by decide) ?_
            rw [m3]
            refine a_iret X hA dX4_of_111 ?_
            exact ⟨_, _, _, _, _, rfl, rfl, bv_val (bs_0 hC) (by rw [sp_of, if_pos ⟨hc8, by rw [hs19_3]; decide +kernel⟩, cl_n (show a < 2 ^ 31 by omega), hs19_3, cl_n (by decide)]; rfl)⟩
          · skip
            by_cases hs19_4 : y = nI 4
            · skip
              refine a_tsIn X dX4_of_19 (by rw [hs19_4]; decide +kernel) (by rw [hs19_4]; decide +kernel) (off := 93) (by rw [hs19_4]; decide +kernel) (tgt := 112) (by decide) ?_
              refine a_aload_n X dX4_of_112 (i := 0) rfl rfl ?_
              refine s_getr X dX4_of_113 fl_X4_10 ko_0 rfl ?_
              refine s_getr X dX4_of_116 fl_X4_115 ko_1 rfl ?_
              refine a_iload_n X dX4_of_119 (i := 1) rfl rfl ?_
              refine s_ild X dX4_of_120 ki_6 (by omega) (by decide) ?_
              rw [m4]
              refine a_iret X hA dX4_of_121 ?_
              exact ⟨_, _, _, _, _, rfl, rfl, bv_val (bs_0 hC) (by rw [sp_of, if_pos ⟨hc8, by rw [hs19_4]; decide +kernel⟩, cl_n (show a < 2 ^ 31 by omega), hs19_4, cl_n (by decide)]; rfl)⟩
            · skip
              by_cases hs19_5 : y = nI 5
              · skip
                refine a_tsIn X dX4_of_19 (by rw [hs19_5]; decide +kernel) (by rw [hs19_5]; decide +kernel) (off := 103) (by rw [hs19_5]; decide +kernel) (tgt := 122) (by decide) ?_
                refine a_aload_n X dX4_of_122 (i := 0) rfl rfl ?_
                refine s_getr X dX4_of_123 fl_X4_10 ko_0 rfl ?_
                refine s_getr X dX4_of_126 fl_X4_73 ko_1 rfl ?_
                refine a_iload_n X dX4_of_129 (i := 1) rfl rfl ?_
                refine s_ild X dX4_of_130 ki_7 (by omega) (by decide) ?_
                rw [m5]
                refine a_iret X hA dX4_of_131 ?_
                exact ⟨_, _, _, _, _, rfl, rfl, bv_val (bs_0 hC) (by rw [sp_of, if_pos ⟨hc8, by rw [hs19_5]; decide +kernel⟩, cl_n (show a < 2 ^ 31 by omega), hs19_5, cl_n (by decide)]; rfl)⟩
              · skip
                by_cases hs19_6 : y = nI 6
                · skip
                  refine a_tsIn X dX4_of_19 (by rw [hs19_6]; decide +kernel) (by rw [hs19_6]; decide +kernel) (off := 113) (by rw [hs19_6]; decide +kernel) (tgt := 132) (by decide) ?_
                  refine a_aload_n X dX4_of_132 (i := 0) rfl rfl ?_
                  refine s_getr X dX4_of_133 fl_X4_10 ko_0 rfl ?_
                  refine s_getr X dX4_of_136 fl_X4_106 ko_1 rfl ?_
                  refine a_iload_n X dX4_of_139 (i := 1) rfl rfl ?_
                  refine s_ild X dX4_of_140 ki_2 (by omega) (by decide) ?_
                  rw [m0]
                  refine a_aload_n X dX4_of_141 (i := 0) rfl rfl ?_
                  refine s_getr X dX4_of_142 fl_X4_10 ko_0 rfl ?_
                  refine s_getr X dX4_of_145 fl_X4_73 ko_1 rfl ?_
                  refine a_iload_n X dX4_of_148 (i := 1) rfl rfl ?_
                  refine s_ild X dX4_of_149 ki_7 (by omega) (by decide) ?_
                  rw [m5]
                  refine s_callS_R X dX4_of_150 lk_X4_118 (c_X1_reach g0 g5) ⟨Nat.le_of_ble_eq_true rfl, Nat.le_of_ble_eq_true rfl⟩ rfl rfl (Nat.le_of_ble_eq_true rfl) ⟨Nat.le_of_ble_eq_true rfl, Nat.le_of_ble_eq_true rfl⟩ ?_
                  refine a_iret X hA dX4_of_153 ?_
                  exact ⟨_, _, _, _, _, rfl, rfl, bv_val (bs_0 hC) (by rw [sp_of, if_pos ⟨hc8, by rw [hs19_6]; decide +kernel⟩, cl_n (show a < 2 ^ 31 by omega), hs19_6, cl_n (by decide)]; rfl)⟩
                · skip
                  by_cases hs19_7 : y = nI 7
                  · skip
                    refine a_tsIn X dX4_of_19 (by rw [hs19_7]; decide +kernel) (by rw [hs19_7]; decide +kernel) (off := 135) (by rw [hs19_7]; decide +kernel) (tgt := 154) (by decide) ?_
                    refine a_aload_n X dX4_of_154 (i := 0) rfl rfl ?_
                    refine s_getr X dX4_of_155 fl_X4_10 ko_0 rfl ?_
                    refine a_iload_n X dX4_of_158 (i := 1) rfl rfl ?_
                    refine s_callV_R X dX4_of_159 lk_X4_122 ko_1 rfl rfl (c_X0_felt (b := 1) (Or.inl rfl) ok hC ha) ⟨Nat.le_of_ble_eq_true rfl, Nat.le_of_ble_eq_true rfl⟩ rfl rfl (Nat.le_of_ble_eq_true rfl) ⟨Nat.le_of_ble_eq_true rfl, Nat.le_of_ble_eq_true rfl⟩ ?_
                    refine a_iret X hA dX4_of_162 ?_
                    exact ⟨_, _, _, _, _, rfl, rfl, bv_val (bs_0 hC) (by rw [sp_of, if_pos ⟨hc8, by rw [hs19_7]; decide +kernel⟩, cl_n (show a < 2 ^ 31 by omega), hs19_7, cl_n (by decide)]; rfl)⟩
                  · skip
                    by_cases hs19_8 : y = nI 8
                    · skip
                      refine a_tsIn X dX4_of_19 (by rw [hs19_8]; decide +kernel) (by rw [hs19_8]; decide +kernel) (off := 144) (by rw [hs19_8]; decide +kernel) (tgt := 163) (by decide) ?_
                      refine a_aload_n X dX4_of_163 (i := 0) rfl rfl ?_
                      refine s_getr X dX4_of_164 fl_X4_10 ko_0 rfl ?_
                      refine a_iload_n X dX4_of_167 (i := 1) rfl rfl ?_
                      refine a_aload_n X dX4_of_168 (i := 0) rfl rfl ?_
                      refine s_getr X dX4_of_169 fl_X4_10 ko_0 rfl ?_
                      refine a_iload_n X dX4_of_172 (i := 1) rfl rfl ?_
                      refine s_callV_R X dX4_of_173 lk_X4_122 ko_1 rfl rfl (c_X0_felt (b := 1) (Or.inl rfl) ok hC ha) ⟨Nat.le_of_ble_eq_true rfl, Nat.le_of_ble_eq_true rfl⟩ rfl rfl (Nat.le_of_ble_eq_true rfl) ⟨Nat.le_of_ble_eq_true rfl, Nat.le_of_ble_eq_true rfl⟩ ?_
                      refine s_callV_R X dX4_of_176 lk_X4_125 ko_1 rfl rfl (c_X0_getsFrom (b := 1) (Or.inl rfl) ok hC ha (fun q z => felN_lt z) hN) ⟨Nat.le_of_ble_eq_true rfl, Nat.le_of_ble_eq_true rfl⟩ rfl rfl (Nat.le_of_ble_eq_true rfl) ⟨Nat.le_of_ble_eq_true rfl, Nat.le_of_ble_eq_true rfl⟩ ?_
                      rw [← red_cls ok ha]
                      refine a_if_eq X dX4_of_179 (tgt := 186) (by decide) (fun hc179 => ?_) (fun hc179 => ?_)
                      · skip
                        try simp only [bI_0, Bool.not_eq_false] at hc179
                        refine a_iconst X dX4_of_186 (v := nI 0) (by decide +kernel) ?_
                        refine a_iret X hA dX4_of_187 ?_
                        exact ⟨_, _, _, _, _, rfl, rfl, bv_val (bs_0 hC) (by rw [sp_of, if_pos ⟨hc8, by rw [hs19_8]; decide +kernel⟩, cl_n (show a < 2 ^ 31 by omega), hs19_8, cl_n (by decide)]; show (R, none, bI (redN R (R 1) a)) = _; rw [hc179]; rfl)⟩
                      · skip
                        try simp only [bI_0, Bool.not_eq_false] at hc179
                        refine a_iconst X dX4_of_182 (v := nI 1) (by decide +kernel) ?_
                        refine a_goto X dX4_of_183 (tgt := 187) (by decide) ?_
                        refine a_iret X hA dX4_of_187 ?_
                        exact ⟨_, _, _, _, _, rfl, rfl, bv_val (bs_0 hC) (by rw [sp_of, if_pos ⟨hc8, by rw [hs19_8]; decide +kernel⟩, cl_n (show a < 2 ^ 31 by omega), hs19_8, cl_n (by decide)]; show (R, none, bI (redN R (R 1) a)) = _; rw [hc179]; rfl)⟩
                    · skip
                      by_cases hs19_9 : y = nI 9
                      · skip
                        refine a_tsIn X dX4_of_19 (by rw [hs19_9]; decide +kernel) (by rw [hs19_9]; decide +kernel) (off := 169) (by rw [hs19_9]; decide +kernel) (tgt := 188) (by decide) ?_
                        refine a_aload_n X dX4_of_188 (i := 0) rfl rfl ?_
                        refine s_getr X dX4_of_189 fl_X4_10 ko_0 rfl ?_
                        refine a_iload_n X dX4_of_192 (i := 1) rfl rfl ?_
                        refine s_callV_R X dX4_of_193 lk_X4_129 ko_1 rfl rfl (c_X0_told (b := 1) (Or.inl rfl) ok hC ha) ⟨Nat.le_of_ble_eq_true rfl, Nat.le_of_ble_eq_true rfl⟩ rfl rfl (Nat.le_of_ble_eq_true rfl) ⟨Nat.le_of_ble_eq_true rfl, Nat.le_of_ble_eq_true rfl⟩ ?_
                        refine a_iret X hA dX4_of_196 ?_
                        exact ⟨_, _, _, _, _, rfl, rfl, bv_val (bs_0 hC) (by rw [sp_of, if_pos ⟨hc8, by rw [hs19_9]; decide +kernel⟩, cl_n (show a < 2 ^ 31 by omega), hs19_9, cl_n (by decide)]; rfl)⟩
                      · skip
                        refine a_tsOut X dX4_of_19 (by have z0 := lv_neT hs19_0 (a := 0) (by decide +kernel); have z1 := lv_neT hs19_1 (a := 1) (by decide +kernel); have z2 := lv_neT hs19_2 (a := 2) (by decide +kernel); have z3 := lv_neT hs19_3 (a := 3) (by decide +kernel); have z4 := lv_neT hs19_4 (a := 4) (by decide +kernel); have z5 := lv_neT hs19_5 (a := 5) (by decide +kernel); have z6 := lv_neT hs19_6 (a := 6) (by decide +kernel); have z7 := lv_neT hs19_7 (a := 7) (by decide +kernel); have z8 := lv_neT hs19_8 (a := 8) (by decide +kernel); have z9 := lv_neT hs19_9 (a := 9) (by decide +kernel); omega) (tgt := 197) (by decide) ?_
                        refine a_aload_n X dX4_of_197 (i := 0) rfl rfl ?_
                        refine a_ldc X dX4_of_198 kc_X4_48 ?_
                        refine s_callV_R X dX4_of_200 lk_X4_49 ko_0 rfl rfl (c_X4_found (k := 0) (by decide) (by decide +kernel)) ⟨Nat.le_of_ble_eq_true rfl, Nat.le_of_ble_eq_true rfl⟩ rfl rfl (Nat.le_of_ble_eq_true rfl) ⟨Nat.le_of_ble_eq_true rfl, Nat.le_of_ble_eq_true rfl⟩ ?_
                        refine a_iret X hA dX4_of_203 ?_
                        exact ⟨_, _, _, _, _, rfl, rfl, bv_find (bs_0 hC) (k := 0) (by decide +kernel) (by rw [sp_of, if_neg (fun q => in09 q.2 hs19_0 hs19_1 hs19_2 hs19_3 hs19_4 hs19_5 hs19_6 hs19_7 hs19_8 hs19_9)])⟩
  · skip
    try simp only [bI_0, Bool.not_eq_false] at hc8
    refine a_aload_n X dX4_of_11 (i := 0) rfl rfl ?_
    refine a_ldc X dX4_of_12 kc_X4_48 ?_
    refine s_callV_R X dX4_of_14 lk_X4_49 ko_0 rfl rfl (c_X4_found (k := 0) (by decide) (by decide +kernel)) ⟨Nat.le_of_ble_eq_true rfl, Nat.le_of_ble_eq_true rfl⟩ rfl rfl (Nat.le_of_ble_eq_true rfl) ⟨Nat.le_of_ble_eq_true rfl, Nat.le_of_ble_eq_true rfl⟩ ?_
    refine a_iret X hA dX4_of_17 ?_
    exact ⟨_, _, _, _, _, rfl, rfl, bv_find (bs_0 hC) (k := 0) (by decide +kernel) (by rw [sp_of, if_neg (by simp [*])])⟩
set_option maxRecDepth 100000 in
set_option maxHeartbeats 4000000 in
theorem c_X4_maySet {l : Launch} {g : GG} {I : TI} {J : TJ} {F : TI} {w : Int64} {x v : Int32} : UR l g mX4_maySet [.int x, .int v] I J F w (.int (bI (isPartB x v))) I J F w := by
  refine ct_start (M := mX4_maySet) (by decide +kernel) (Nat.le_of_ble_eq_true rfl) ?_
  intro p e s m args below meth c A X hA
  have X : AX p s m args meth c g A cX4_maySet 2 RX4 (Cond.code yX4_maySet cX4_maySet 2 (some .boolean)) (some .boolean) := X
  show AW p l e (rmM 1 22) s m args below meth c g A 2 0 0 (MQ below (CQ g (hp g I J F w) s.heap.size (fun vv0 hh0 => vv0 = some (.int (bI (isPartB x v))) ∧ hh0 = hp g I J F w)) args s 0 0 A) 0 [some (.int x), some (.int v)] [] (hp g I J F w)
  refine a_iload_n X dX4_maySet_0 (i := 0) rfl rfl ?_
  by_cases hs1_2 : x = nI 2
  · skip
    refine a_tsIn X dX4_maySet_1 (by rw [hs1_2]; decide +kernel) (by rw [hs1_2]; decide +kernel) (off := 31) (by rw [hs1_2]; decide +kernel) (tgt := 32) (by decide) ?_
    refine a_iload_n X dX4_maySet_32 (i := 1) rfl rfl ?_
    refine a_iconst X dX4_maySet_33 (v := nI 0) (by decide +kernel) ?_
    refine a_bipush X dX4_maySet_34 (v := nI 9) (by decide +kernel) ?_
    refine s_callS_R X dX4_maySet_36 lk_X4_44 c_X4_within ⟨Nat.le_of_ble_eq_true rfl, Nat.le_of_ble_eq_true rfl⟩ rfl rfl (Nat.le_of_ble_eq_true rfl) ⟨Nat.le_of_ble_eq_true rfl, Nat.le_of_ble_eq_true rfl⟩ ?_
    refine a_zret X hA dX4_maySet_39 (by first | exact nar_bI _ | decide +kernel) ⟨?_, ?_⟩
    · rw [isPartB, if_pos hs1_2]
    · rfl
  · skip
    by_cases hs1_3 : x = nI 3
    · skip
      refine a_tsIn X dX4_maySet_1 (by rw [hs1_3]; decide +kernel) (by rw [hs1_3]; decide +kernel) (off := 39) (by rw [hs1_3]; decide +kernel) (tgt := 40) (by decide) ?_
      refine a_iload_n X dX4_maySet_40 (i := 1) rfl rfl ?_
      refine a_iconst X dX4_maySet_41 (v := nI 1) (by decide +kernel) ?_
      refine a_bipush X dX4_maySet_42 (v := nI 9) (by decide +kernel) ?_
      refine s_callS_R X dX4_maySet_44 lk_X4_44 c_X4_within ⟨Nat.le_of_ble_eq_true rfl, Nat.le_of_ble_eq_true rfl⟩ rfl rfl (Nat.le_of_ble_eq_true rfl) ⟨Nat.le_of_ble_eq_true rfl, Nat.le_of_ble_eq_true rfl⟩ ?_
      refine a_zret X hA dX4_maySet_47 (by first | exact nar_bI _ | decide +kernel) ⟨?_, ?_⟩
      · rw [isPartB, if_neg hs1_2, if_pos hs1_3]
      · rfl
    · skip
      by_cases hs1_4 : x = nI 4
      · skip
        refine a_tsIn X dX4_maySet_1 (by rw [hs1_4]; decide +kernel) (by rw [hs1_4]; decide +kernel) (off := 47) (by rw [hs1_4]; decide +kernel) (tgt := 48) (by decide) ?_
        refine a_iload_n X dX4_maySet_48 (i := 1) rfl rfl ?_
        refine a_iconst X dX4_maySet_49 (v := nI 0) (by decide +kernel) ?_
        refine a_sipush X dX4_maySet_50 (v := nI 1023) (by decide +kernel) ?_
        refine s_callS_R X dX4_maySet_53 lk_X4_44 c_X4_within ⟨Nat.le_of_ble_eq_true rfl, Nat.le_of_ble_eq_true rfl⟩ rfl rfl (Nat.le_of_ble_eq_true rfl) ⟨Nat.le_of_ble_eq_true rfl, Nat.le_of_ble_eq_true rfl⟩ ?_
        refine a_zret X hA dX4_maySet_56 (by first | exact nar_bI _ | decide +kernel) ⟨?_, ?_⟩
        · rw [isPartB, if_neg hs1_2, if_neg hs1_3, if_pos hs1_4]
        · rfl
      · skip
        by_cases hs1_5 : x = nI 5
        · skip
          refine a_tsIn X dX4_maySet_1 (by rw [hs1_5]; decide +kernel) (by rw [hs1_5]; decide +kernel) (off := 56) (by rw [hs1_5]; decide +kernel) (tgt := 57) (by decide) ?_
          refine a_iload_n X dX4_maySet_57 (i := 1) rfl rfl ?_
          refine a_iconst X dX4_maySet_58 (v := nI 0) (by decide +kernel) ?_
          refine a_bipush X dX4_maySet_59 (v := nI 99) (by decide +kernel) ?_
          refine s_callS_R X dX4_maySet_61 lk_X4_44 c_X4_within ⟨Nat.le_of_ble_eq_true rfl, Nat.le_of_ble_eq_true rfl⟩ rfl rfl (Nat.le_of_ble_eq_true rfl) ⟨Nat.le_of_ble_eq_true rfl, Nat.le_of_ble_eq_true rfl⟩ ?_
          refine a_zret X hA dX4_maySet_64 (by first | exact nar_bI _ | decide +kernel) ⟨?_, ?_⟩
          · rw [isPartB, if_neg hs1_2, if_neg hs1_3, if_neg hs1_4, if_pos hs1_5]
          · rfl
        · skip
          refine a_tsOut X dX4_maySet_1 (by have z0 := lv_neT hs1_2 (a := 2) (by decide +kernel); have z1 := lv_neT hs1_3 (a := 3) (by decide +kernel); have z2 := lv_neT hs1_4 (a := 4) (by decide +kernel); have z3 := lv_neT hs1_5 (a := 5) (by decide +kernel); omega) (tgt := 65) (by decide) ?_
          refine a_iconst X dX4_maySet_65 (v := nI 0) (by decide +kernel) ?_
          refine a_zret X hA dX4_maySet_66 (by first | exact nar_bI _ | decide +kernel) ⟨?_, ?_⟩
          · rw [isPartB, if_neg hs1_2, if_neg hs1_3, if_neg hs1_4, if_neg hs1_5]; rfl
          · rfl
set_option maxRecDepth 100000 in
set_option maxHeartbeats 4000000 in
theorem c_X4_move {l : Launch} {g : GG} {I : TI} {J : TJ} {F : TI} {w : Int64} {R : Nat → Nat} (ok : okR R) (hC : Ch I F 1 R) {x y : Int32} : RV l g mX4_move [.ref (ga g 0), .int x, .int y] I J F w (BvR I J F w (sp_move R x y)) := by
  have hn10 := ok.1
  obtain ⟨c0, c1, cm, cs⟩ := id hC
  have cm : ∀ m, m < R 1 → I 2 m = nI (R (2 + 6 * m + 0)) ∧ I 3 m = nI (R (2 + 6 * m + 1)) ∧ I 4 m = nI (R (2 + 6 * m + 2)) ∧ I 5 m = nI (R (2 + 6 * m + 3)) ∧ I 6 m = nI (R (2 + 6 * m + 4)) ∧ I 7 m = nI (R (2 + 6 * m + 5)) := cm
  refine ct_start (M := mX4_move) (by decide +kernel) (Nat.le_of_ble_eq_true rfl) ?_
  intro p e s m args below meth c A X hA
  have X : AX p s m args meth c g A cX4_move 4 RX4 (Cond.code yX4_move cX4_move 4 (some .int)) (some .int) := X
  show AW p l e (rmM 3 66) s m args below meth c g A 4 0 0 (MQ below (CQ g (hp g I J F w) s.heap.size (fun vv0 hh0 => ∃ xx0 II0 JJ0 FF0 ww0, vv0 = some xx0 ∧ hh0 = hp g II0 JJ0 FF0 ww0 ∧ (BvR I J F w (sp_move R x y)) xx0 II0 JJ0 FF0 ww0)) args s 0 0 A) 0 [some (.ref (ga g 0)), some (.int x), some (.int y), none] [] (hp g I J F w)
  refine a_aload_n X dX4_move_0 (i := 0) rfl rfl ?_
  refine s_getr X dX4_move_1 fl_X4_10 ko_0 rfl ?_
  refine a_iload_n X dX4_move_4 (i := 1) rfl rfl ?_
  refine s_callV_R X dX4_move_5 lk_X4_103 ko_1 rfl rfl (c_X0_has (b := 1) (Or.inl rfl) ok hC) ⟨Nat.le_of_ble_eq_true rfl, Nat.le_of_ble_eq_true rfl⟩ rfl rfl (Nat.le_of_ble_eq_true rfl) ⟨Nat.le_of_ble_eq_true rfl, Nat.le_of_ble_eq_true rfl⟩ ?_
  refine a_if_eq X dX4_move_8 (tgt := 21) (by decide) (fun hc8 => ?_) (fun hc8 => ?_)
  · skip
    try simp only [bI_0, Bool.not_eq_false] at hc8
    refine a_aload_n X dX4_move_21 (i := 0) rfl rfl ?_
    refine a_ldc X dX4_move_22 kc_X4_48 ?_
    refine s_callV_R X dX4_move_24 lk_X4_49 ko_0 rfl rfl (c_X4_found (k := 0) (by decide) (by decide +kernel)) ⟨Nat.le_of_ble_eq_true rfl, Nat.le_of_ble_eq_true rfl⟩ rfl rfl (Nat.le_of_ble_eq_true rfl) ⟨Nat.le_of_ble_eq_true rfl, Nat.le_of_ble_eq_true rfl⟩ ?_
    refine a_iret X hA dX4_move_27 ?_
    exact ⟨_, _, _, _, _, rfl, rfl, bv_find (bs_0 hC) (k := 0) (by decide +kernel) (by rw [sp_move, if_neg (by simp [*])])⟩
  · skip
    try simp only [bI_0, Bool.not_eq_false] at hc8
    obtain ⟨a, ha, rfl⟩ := isM_t (by omega) hc8
    obtain ⟨g0, g1, g2, g3, g4, g5⟩ := ok.2.1 a ha
    obtain ⟨m0, m1, m2, m3, m4, m5⟩ := cm a ha
    refine a_iload_n X dX4_move_11 (i := 2) rfl rfl ?_
    refine a_iconst X dX4_move_12 (v := nI 0) (by decide +kernel) ?_
    refine a_bipush X dX4_move_13 (v := nI 11) (by decide +kernel) ?_
    refine s_callS_R X dX4_move_15 lk_X4_44 c_X4_within ⟨Nat.le_of_ble_eq_true rfl, Nat.le_of_ble_eq_true rfl⟩ rfl rfl (Nat.le_of_ble_eq_true rfl) ⟨Nat.le_of_ble_eq_true rfl, Nat.le_of_ble_eq_true rfl⟩ ?_
    refine a_if_ne X dX4_move_18 (tgt := 28) (by decide) (fun hc18 => ?_) (fun hc18 => ?_)
    · skip
      try simp only [bI_0, Bool.not_eq_false] at hc18
      obtain ⟨j, hj0, hj, rfl⟩ := inB_r (by decide) (by decide) hc18
      refine a_aload_n X dX4_move_28 (i := 0) rfl rfl ?_
      refine s_getr X dX4_move_29 fl_X4_10 ko_0 rfl ?_
      refine a_iload_n X dX4_move_32 (i := 1) rfl rfl ?_
      refine a_iload_n X dX4_move_33 (i := 2) rfl rfl ?_
      refine s_callV_R X dX4_move_34 lk_X4_139 ko_1 rfl rfl (c_X0_maySit (b := 1) (Or.inl rfl) ok hC ha (by omega)) ⟨Nat.le_of_ble_eq_true rfl, Nat.le_of_ble_eq_true rfl⟩ rfl rfl (Nat.le_of_ble_eq_true rfl) ⟨Nat.le_of_ble_eq_true rfl, Nat.le_of_ble_eq_true rfl⟩ ?_
      refine a_if_ne X dX4_move_37 (tgt := 47) (by decide) (fun hc37 => ?_) (fun hc37 => ?_)
      · skip
        try simp only [bI_0, Bool.not_eq_false, decide_eq_true_eq, decide_eq_false_iff_not, Classical.not_not] at hc37
        refine a_aload_n X dX4_move_47 (i := 0) rfl rfl ?_
        refine s_getr X dX4_move_48 fl_X4_10 ko_0 rfl ?_
        refine s_getr X dX4_move_51 fl_X4_109 ko_1 rfl ?_
        refine a_iload_n X dX4_move_54 (i := 1) rfl rfl ?_
        refine s_ild X dX4_move_55 ki_3 (by omega) (by decide) ?_
        rw [m1]
        refine a_istore_n X dX4_move_56 (i := 3) rfl (by decide) rfl ?_
        refine a_aload_n X dX4_move_57 (i := 0) rfl rfl ?_
        refine s_getr X dX4_move_58 fl_X4_10 ko_0 rfl ?_
        refine a_iload_n X dX4_move_61 (i := 1) rfl rfl ?_
        refine a_iload_n X dX4_move_62 (i := 2) rfl rfl ?_
        refine s_callV_V X dX4_move_63 lk_X4_142 ko_1 rfl rfl (c_X0_reseat (b := 1) (Or.inl rfl) ok hC ha (by omega)) ⟨Nat.le_of_ble_eq_true rfl, Nat.le_of_ble_eq_true rfl⟩ rfl rfl (Nat.le_of_ble_eq_true rfl) ⟨Nat.le_of_ble_eq_true rfl, Nat.le_of_ble_eq_true rfl⟩ ?_
        refine a_iload_n X dX4_move_66 (i := 3) rfl rfl ?_
        refine a_iret X hA dX4_move_67 ?_
        exact ⟨_, _, _, _, _, rfl, rfl, bv_val ⟨ch_seat ok hC ha (by omega) hc37, fun Q hQ => by rw [up_n _ _ (by omega), up_n _ _ (by omega)], fun _ _ => rfl⟩ (by rw [sp_move, if_pos ⟨hc8, hc18⟩, cl_n (show j < 2 ^ 31 by omega), cl_n (show a < 2 ^ 31 by omega), if_pos hc37])⟩
      · skip
        try simp only [bI_0, Bool.not_eq_false, decide_eq_true_eq, decide_eq_false_iff_not, Classical.not_not] at hc37
        refine a_aload_n X dX4_move_40 (i := 0) rfl rfl ?_
        refine a_ldc X dX4_move_41 kc_X4_98 ?_
        refine s_callV_R X dX4_move_43 lk_X4_49 ko_0 rfl rfl (c_X4_found (k := 4) (by decide) (by decide +kernel)) ⟨Nat.le_of_ble_eq_true rfl, Nat.le_of_ble_eq_true rfl⟩ rfl rfl (Nat.le_of_ble_eq_true rfl) ⟨Nat.le_of_ble_eq_true rfl, Nat.le_of_ble_eq_true rfl⟩ ?_
        refine a_iret X hA dX4_move_46 ?_
        exact ⟨_, _, _, _, _, rfl, rfl, bv_find (bs_0 hC) (k := 4) (by decide +kernel) (by rw [sp_move, if_pos ⟨hc8, hc18⟩, cl_n (show j < 2 ^ 31 by omega), cl_n (show a < 2 ^ 31 by omega), if_neg hc37])⟩
    · skip
      try simp only [bI_0, Bool.not_eq_false] at hc18
      refine a_aload_n X dX4_move_21 (i := 0) rfl rfl ?_
      refine a_ldc X dX4_move_22 kc_X4_48 ?_
      refine s_callV_R X dX4_move_24 lk_X4_49 ko_0 rfl rfl (c_X4_found (k := 0) (by decide) (by decide +kernel)) ⟨Nat.le_of_ble_eq_true rfl, Nat.le_of_ble_eq_true rfl⟩ rfl rfl (Nat.le_of_ble_eq_true rfl) ⟨Nat.le_of_ble_eq_true rfl, Nat.le_of_ble_eq_true rfl⟩ ?_
      refine a_iret X hA dX4_move_27 ?_
      exact ⟨_, _, _, _, _, rfl, rfl, bv_find (bs_0 hC) (k := 0) (by decide +kernel) (by rw [sp_move, if_neg (by simp [*])])⟩
set_option maxRecDepth 100000 in
set_option maxHeartbeats 4000000 in
theorem c_X4_turn {l : Launch} {g : GG} {I : TI} {J : TJ} {F : TI} {w : Int64} {R : Nat → Nat} (ok : okR R) (hC : Ch I F 1 R) {x y : Int32} : RV l g mX4_turn [.ref (ga g 0), .int x, .int y] I J F w (BvR I J F w (sp_turn R x y)) := by
  have hn10 := ok.1
  obtain ⟨c0, c1, cm, cs⟩ := id hC
  have cm : ∀ m, m < R 1 → I 2 m = nI (R (2 + 6 * m + 0)) ∧ I 3 m = nI (R (2 + 6 * m + 1)) ∧ I 4 m = nI (R (2 + 6 * m + 2)) ∧ I 5 m = nI (R (2 + 6 * m + 3)) ∧ I 6 m = nI (R (2 + 6 * m + 4)) ∧ I 7 m = nI (R (2 + 6 * m + 5)) := cm
  refine ct_start (M := mX4_turn) (by decide +kernel) (Nat.le_of_ble_eq_true rfl) ?_
  intro p e s m args below meth c A X hA
  have X : AX p s m args meth c g A cX4_turn 4 RX4 (Cond.code yX4_turn cX4_turn 4 (some .int)) (some .int) := X
  show AW p l e (rmM 2 44) s m args below meth c g A 4 0 0 (MQ below (CQ g (hp g I J F w) s.heap.size (fun vv0 hh0 => ∃ xx0 II0 JJ0 FF0 ww0, vv0 = some xx0 ∧ hh0 = hp g II0 JJ0 FF0 ww0 ∧ (BvR I J F w (sp_turn R x y)) xx0 II0 JJ0 FF0 ww0)) args s 0 0 A) 0 [some (.ref (ga g 0)), some (.int x), some (.int y), none] [] (hp g I J F w)
  refine a_aload_n X dX4_turn_0 (i := 0) rfl rfl ?_
  refine s_getr X dX4_turn_1 fl_X4_10 ko_0 rfl ?_
  refine a_iload_n X dX4_turn_4 (i := 1) rfl rfl ?_
  refine s_callV_R X dX4_turn_5 lk_X4_103 ko_1 rfl rfl (c_X0_has (b := 1) (Or.inl rfl) ok hC) ⟨Nat.le_of_ble_eq_true rfl, Nat.le_of_ble_eq_true rfl⟩ rfl rfl (Nat.le_of_ble_eq_true rfl) ⟨Nat.le_of_ble_eq_true rfl, Nat.le_of_ble_eq_true rfl⟩ ?_
  refine a_if_eq X dX4_turn_8 (tgt := 18) (by decide) (fun hc8 => ?_) (fun hc8 => ?_)
  · skip
    try simp only [bI_0, Bool.not_eq_false] at hc8
    refine a_aload_n X dX4_turn_18 (i := 0) rfl rfl ?_
    refine a_ldc X dX4_turn_19 kc_X4_48 ?_
    refine s_callV_R X dX4_turn_21 lk_X4_49 ko_0 rfl rfl (c_X4_found (k := 0) (by decide) (by decide +kernel)) ⟨Nat.le_of_ble_eq_true rfl, Nat.le_of_ble_eq_true rfl⟩ rfl rfl (Nat.le_of_ble_eq_true rfl) ⟨Nat.le_of_ble_eq_true rfl, Nat.le_of_ble_eq_true rfl⟩ ?_
    refine a_iret X hA dX4_turn_24 ?_
    exact ⟨_, _, _, _, _, rfl, rfl, bv_find (bs_0 hC) (k := 0) (by decide +kernel) (by rw [sp_turn, if_neg (by simp [*])])⟩
  · skip
    try simp only [bI_0, Bool.not_eq_false] at hc8
    obtain ⟨a, ha, rfl⟩ := isM_t (by omega) hc8
    obtain ⟨g0, g1, g2, g3, g4, g5⟩ := ok.2.1 a ha
    obtain ⟨m0, m1, m2, m3, m4, m5⟩ := cm a ha
    refine a_iload_n X dX4_turn_11 (i := 2) rfl rfl ?_
    refine s_callS_R X dX4_turn_12 lk_X4_87 c_X1_isKind ⟨Nat.le_of_ble_eq_true rfl, Nat.le_of_ble_eq_true rfl⟩ rfl rfl (Nat.le_of_ble_eq_true rfl) ⟨Nat.le_of_ble_eq_true rfl, Nat.le_of_ble_eq_true rfl⟩ ?_
    refine a_if_ne X dX4_turn_15 (tgt := 25) (by decide) (fun hc15 => ?_) (fun hc15 => ?_)
    · skip
      try simp only [bI_0, Bool.not_eq_false] at hc15
      obtain ⟨j, hj0, hj, rfl⟩ := inB_r (by decide) (by decide) hc15
      refine a_aload_n X dX4_turn_25 (i := 0) rfl rfl ?_
      refine s_getr X dX4_turn_26 fl_X4_10 ko_0 rfl ?_
      refine s_getr X dX4_turn_29 fl_X4_106 ko_1 rfl ?_
      refine a_iload_n X dX4_turn_32 (i := 1) rfl rfl ?_
      refine s_ild X dX4_turn_33 ki_2 (by omega) (by decide) ?_
      rw [m0]
      refine a_istore_n X dX4_turn_34 (i := 3) rfl (by decide) rfl ?_
      refine a_aload_n X dX4_turn_35 (i := 0) rfl rfl ?_
      refine s_getr X dX4_turn_36 fl_X4_10 ko_0 rfl ?_
      refine s_getr X dX4_turn_39 fl_X4_106 ko_1 rfl ?_
      refine a_iload_n X dX4_turn_42 (i := 1) rfl rfl ?_
      refine a_iload_n X dX4_turn_43 (i := 2) rfl rfl ?_
      refine s_ist X dX4_turn_44 ki_2 (by omega) (by decide) ?_
      refine a_iload_n X dX4_turn_45 (i := 3) rfl rfl ?_
      refine a_iret X hA dX4_turn_46 ?_
      exact ⟨_, _, _, _, _, rfl, rfl, bv_val (bs_u (by omega) (ch_put (j := 0) hC ha (by decide) (by decide) rfl)) (by rw [sp_turn, if_pos ⟨hc8, hc15⟩, cl_n (show j < 2 ^ 31 by omega), cl_n (show a < 2 ^ 31 by omega)])⟩
    · skip
      try simp only [bI_0, Bool.not_eq_false] at hc15
      refine a_aload_n X dX4_turn_18 (i := 0) rfl rfl ?_
      refine a_ldc X dX4_turn_19 kc_X4_48 ?_
      refine s_callV_R X dX4_turn_21 lk_X4_49 ko_0 rfl rfl (c_X4_found (k := 0) (by decide) (by decide +kernel)) ⟨Nat.le_of_ble_eq_true rfl, Nat.le_of_ble_eq_true rfl⟩ rfl rfl (Nat.le_of_ble_eq_true rfl) ⟨Nat.le_of_ble_eq_true rfl, Nat.le_of_ble_eq_true rfl⟩ ?_
      refine a_iret X hA dX4_turn_24 ?_
      exact ⟨_, _, _, _, _, rfl, rfl, bv_find (bs_0 hC) (k := 0) (by decide +kernel) (by rw [sp_turn, if_neg (by simp [*])])⟩
set_option maxRecDepth 100000 in
set_option maxHeartbeats 4000000 in
theorem c_X4_nights {l : Launch} {g : GG} {I : TI} {J : TJ} {F : TI} {w : Int64} {R : Nat → Nat} (ok : okR R) (hC : Ch I F 1 R) {x : Int32} (hN : R 0 ≤ 99999) : RV l g mX4_nights [.ref (ga g 0), .int x] I J F w (BvR I J F w (sp_nights R x)) := by
  have hn10 := ok.1
  obtain ⟨c0, c1, cm, cs⟩ := id hC
  have cm : ∀ m, m < R 1 → I 2 m = nI (R (2 + 6 * m + 0)) ∧ I 3 m = nI (R (2 + 6 * m + 1)) ∧ I 4 m = nI (R (2 + 6 * m + 2)) ∧ I 5 m = nI (R (2 + 6 * m + 3)) ∧ I 6 m = nI (R (2 + 6 * m + 4)) ∧ I 7 m = nI (R (2 + 6 * m + 5)) := cm
  refine ct_start (M := mX4_nights) (by decide +kernel) (Nat.le_of_ble_eq_true rfl) ?_
  intro p e s m args below meth c A X hA
  have X : AX p s m args meth c g A cX4_nights 2 RX4 (Cond.code yX4_nights cX4_nights 2 (some .int)) (some .int) := X
  show AW p l e (rmM 6 135) s m args below meth c g A 2 0 0 (MQ below (CQ g (hp g I J F w) s.heap.size (fun vv0 hh0 => ∃ xx0 II0 JJ0 FF0 ww0, vv0 = some xx0 ∧ hh0 = hp g II0 JJ0 FF0 ww0 ∧ (BvR I J F w (sp_nights R x)) xx0 II0 JJ0 FF0 ww0)) args s 0 0 A) 0 [some (.ref (ga g 0)), some (.int x)] [] (hp g I J F w)
  refine a_iload_n X dX4_nights_0 (i := 1) rfl rfl ?_
  refine a_iconst X dX4_nights_1 (v := nI 1) (by decide +kernel) ?_
  refine a_bipush X dX4_nights_2 (v := nI 60) (by decide +kernel) ?_
  refine s_callS_R X dX4_nights_4 lk_X4_44 c_X4_within ⟨Nat.le_of_ble_eq_true rfl, Nat.le_of_ble_eq_true rfl⟩ rfl rfl (Nat.le_of_ble_eq_true rfl) ⟨Nat.le_of_ble_eq_true rfl, Nat.le_of_ble_eq_true rfl⟩ ?_
  refine a_if_ne X dX4_nights_7 (tgt := 17) (by decide) (fun hc7 => ?_) (fun hc7 => ?_)
  · skip
    try simp only [bI_0, Bool.not_eq_false] at hc7
    obtain ⟨j, hj0, hj, rfl⟩ := inB_r (by decide) (by decide) hc7
    refine a_aload_n X dX4_nights_17 (i := 0) rfl rfl ?_
    refine s_getr X dX4_nights_18 fl_X4_10 ko_0 rfl ?_
    refine s_geti X dX4_nights_21 fl_X4_56 ko_1 rfl ?_
    rw [c0]
    refine a_ldc X dX4_nights_24 kc_X4_150 ?_
    rw [show (99999 : Int32) = nI 99999 from by decide +kernel]
    refine a_iload_n X dX4_nights_26 (i := 1) rfl rfl ?_
    refine s_isubN X dX4_nights_27 (by omega) ?_
    refine s_icmp_leN X dX4_nights_28 (tgt := 38) (by decide) (by omega) (by omega) (fun hc28 => ?_) (fun hc28 => ?_)
    · skip
      refine a_aload_n X dX4_nights_38 (i := 0) rfl rfl ?_
      refine s_getr X dX4_nights_39 fl_X4_10 ko_0 rfl ?_
      refine a_iload_n X dX4_nights_42 (i := 1) rfl rfl ?_
      refine s_callV_Y X dX4_nights_43 lk_X4_151 ko_1 rfl rfl (c_X0_passNights (b := 1) (Or.inl rfl) ok hC (by omega)) ⟨Nat.le_of_ble_eq_true rfl, Nat.le_of_ble_eq_true rfl⟩ rfl rfl (Nat.le_of_ble_eq_true rfl) ⟨Nat.le_of_ble_eq_true rfl, Nat.le_of_ble_eq_true rfl⟩ (fun I2 J2 F2 w2 hpo => ?_)
      have K := bs_p (bs_0 hC) hpo
      obtain ⟨-, -, eJ, ew⟩ := hpo
      have eJ := eJ.symm
      have ew := ew.symm
      subst eJ; subst ew
      refine a_aload_n X dX4_nights_46 (i := 0) rfl rfl ?_
      refine s_getr X dX4_nights_47 fl_X4_10 ko_0 rfl ?_
      refine s_callV_R X dX4_nights_50 lk_X4_67 ko_1 rfl rfl (c_X0_versesKnown (b := 1) (Or.inl rfl) (okR_pas ok j) K.1) ⟨Nat.le_of_ble_eq_true rfl, Nat.le_of_ble_eq_true rfl⟩ rfl rfl (Nat.le_of_ble_eq_true rfl) ⟨Nat.le_of_ble_eq_true rfl, Nat.le_of_ble_eq_true rfl⟩ ?_
      refine a_iret X hA dX4_nights_53 ?_
      exact ⟨_, _, _, _, _, rfl, rfl, bv_val (K) (by rw [sp_nights, if_pos hc7, cl_n (show j < 2 ^ 31 by omega), if_pos (by omega)]; rfl)⟩
    · skip
      refine a_aload_n X dX4_nights_31 (i := 0) rfl rfl ?_
      refine a_ldc X dX4_nights_32 kc_X4_98 ?_
      refine s_callV_R X dX4_nights_34 lk_X4_49 ko_0 rfl rfl (c_X4_found (k := 4) (by decide) (by decide +kernel)) ⟨Nat.le_of_ble_eq_true rfl, Nat.le_of_ble_eq_true rfl⟩ rfl rfl (Nat.le_of_ble_eq_true rfl) ⟨Nat.le_of_ble_eq_true rfl, Nat.le_of_ble_eq_true rfl⟩ ?_
      refine a_iret X hA dX4_nights_37 ?_
      exact ⟨_, _, _, _, _, rfl, rfl, bv_find (bs_0 hC) (k := 4) (by decide +kernel) (by rw [sp_nights, if_pos hc7, cl_n (show j < 2 ^ 31 by omega), if_neg (by omega)])⟩
  · skip
    try simp only [bI_0, Bool.not_eq_false] at hc7
    refine a_aload_n X dX4_nights_10 (i := 0) rfl rfl ?_
    refine a_ldc X dX4_nights_11 kc_X4_48 ?_
    refine s_callV_R X dX4_nights_13 lk_X4_49 ko_0 rfl rfl (c_X4_found (k := 0) (by decide) (by decide +kernel)) ⟨Nat.le_of_ble_eq_true rfl, Nat.le_of_ble_eq_true rfl⟩ rfl rfl (Nat.le_of_ble_eq_true rfl) ⟨Nat.le_of_ble_eq_true rfl, Nat.le_of_ble_eq_true rfl⟩ ?_
    refine a_iret X hA dX4_nights_16 ?_
    exact ⟨_, _, _, _, _, rfl, rfl, bv_find (bs_0 hC) (k := 0) (by decide +kernel) (by rw [sp_nights, if_neg (by rw [hc7]; decide)])⟩
set_option maxRecDepth 100000 in
set_option maxHeartbeats 4000000 in
theorem c_X4_count {l : Launch} {g : GG} {I : TI} {J : TJ} {F : TI} {w : Int64} {R : Nat → Nat} (ok : okR R) (hC : Ch I F 1 R) {x : Int32} : RV l g mX4_count [.ref (ga g 0), .int x] I J F w (BvR I J F w (sp_count R (F 31 0) x)) := by
  have hn10 := ok.1
  obtain ⟨c0, c1, cm, cs⟩ := id hC
  have cm : ∀ m, m < R 1 → I 2 m = nI (R (2 + 6 * m + 0)) ∧ I 3 m = nI (R (2 + 6 * m + 1)) ∧ I 4 m = nI (R (2 + 6 * m + 2)) ∧ I 5 m = nI (R (2 + 6 * m + 3)) ∧ I 6 m = nI (R (2 + 6 * m + 4)) ∧ I 7 m = nI (R (2 + 6 * m + 5)) := cm
  refine ct_start (M := mX4_count) (by decide +kernel) (Nat.le_of_ble_eq_true rfl) ?_
  intro p e s m args below meth c A X hA
  have X : AX p s m args meth c g A cX4_count 2 RX4 (Cond.code yX4_count cX4_count 2 (some .int)) (some .int) := X
  show AW p l e (rmM 2 44) s m args below meth c g A 2 0 0 (MQ below (CQ g (hp g I J F w) s.heap.size (fun vv0 hh0 => ∃ xx0 II0 JJ0 FF0 ww0, vv0 = some xx0 ∧ hh0 = hp g II0 JJ0 FF0 ww0 ∧ (BvR I J F w (sp_count R (F 31 0) x)) xx0 II0 JJ0 FF0 ww0)) args s 0 0 A) 0 [some (.ref (ga g 0)), some (.int x)] [] (hp g I J F w)
  refine a_iload_n X dX4_count_0 (i := 1) rfl rfl ?_
  by_cases hs1_0 : x = nI 0
  · skip
    refine a_tsIn X dX4_count_1 (by rw [hs1_0]; decide +kernel) (by rw [hs1_0]; decide +kernel) (off := 31) (by rw [hs1_0]; decide +kernel) (tgt := 32) (by decide) ?_
    refine a_aload_n X dX4_count_32 (i := 0) rfl rfl ?_
    refine s_getr X dX4_count_33 fl_X4_10 ko_0 rfl ?_
    refine s_geti X dX4_count_36 fl_X4_177 ko_1 rfl ?_
    rw [c1]
    refine a_iret X hA dX4_count_39 ?_
    exact ⟨_, _, _, _, _, rfl, rfl, bv_val (bs_0 hC) (by rw [sp_count, if_pos hs1_0])⟩
  · skip
    by_cases hs1_1 : x = nI 1
    · skip
      refine a_tsIn X dX4_count_1 (by rw [hs1_1]; decide +kernel) (by rw [hs1_1]; decide +kernel) (off := 39) (by rw [hs1_1]; decide +kernel) (tgt := 40) (by decide) ?_
      refine a_aload_n X dX4_count_40 (i := 0) rfl rfl ?_
      refine s_getr X dX4_count_41 fl_X4_29 ko_0 rfl ?_
      refine s_geti X dX4_count_44 fl_X4_180 ko_31 rfl ?_
      refine a_iret X hA dX4_count_47 ?_
      exact ⟨_, _, _, _, _, rfl, rfl, bv_val (bs_0 hC) (by rw [sp_count, if_neg hs1_0, if_pos hs1_1])⟩
    · skip
      by_cases hs1_2 : x = nI 2
      · skip
        refine a_tsIn X dX4_count_1 (by rw [hs1_2]; decide +kernel) (by rw [hs1_2]; decide +kernel) (off := 47) (by rw [hs1_2]; decide +kernel) (tgt := 48) (by decide) ?_
        refine a_aload_n X dX4_count_48 (i := 0) rfl rfl ?_
        refine s_getr X dX4_count_49 fl_X4_10 ko_0 rfl ?_
        refine a_aload_n X dX4_count_52 (i := 0) rfl rfl ?_
        refine s_getr X dX4_count_53 fl_X4_10 ko_0 rfl ?_
        refine s_getr X dX4_count_56 fl_X4_112 ko_1 rfl ?_
        refine s_callV_R X dX4_count_59 lk_X4_76 ko_1 rfl rfl (c_X0_sum (b := 1) (Or.inl rfl) ok hC ki_5) ⟨Nat.le_of_ble_eq_true rfl, Nat.le_of_ble_eq_true rfl⟩ rfl rfl (Nat.le_of_ble_eq_true rfl) ⟨Nat.le_of_ble_eq_true rfl, Nat.le_of_ble_eq_true rfl⟩ ?_
        refine a_iret X hA dX4_count_62 ?_
        exact ⟨_, _, _, _, _, rfl, rfl, bv_val (bs_0 hC) (by rw [sp_count, if_neg hs1_0, if_neg hs1_1, if_pos hs1_2, sumF_congr (fun m hm => (cm m hm).2.2.2.1)])⟩
      · skip
        by_cases hs1_3 : x = nI 3
        · skip
          refine a_tsIn X dX4_count_1 (by rw [hs1_3]; decide +kernel) (by rw [hs1_3]; decide +kernel) (off := 62) (by rw [hs1_3]; decide +kernel) (tgt := 63) (by decide) ?_
          refine a_bipush X dX4_count_63 (v := nI 12) (by decide +kernel) ?_
          refine a_aload_n X dX4_count_65 (i := 0) rfl rfl ?_
          refine s_getr X dX4_count_66 fl_X4_10 ko_0 rfl ?_
          refine s_geti X dX4_count_69 fl_X4_177 ko_1 rfl ?_
          rw [c1]
          refine a_isub X dX4_count_72 ?_
          refine a_iret X hA dX4_count_73 ?_
          exact ⟨_, _, _, _, _, rfl, rfl, bv_val (bs_0 hC) (by rw [sp_count, if_neg hs1_0, if_neg hs1_1, if_neg hs1_2, if_pos hs1_3])⟩
        · skip
          refine a_tsOut X dX4_count_1 (by have z0 := lv_neT hs1_0 (a := 0) (by decide +kernel); have z1 := lv_neT hs1_1 (a := 1) (by decide +kernel); have z2 := lv_neT hs1_2 (a := 2) (by decide +kernel); have z3 := lv_neT hs1_3 (a := 3) (by decide +kernel); omega) (tgt := 74) (by decide) ?_
          refine a_aload_n X dX4_count_74 (i := 0) rfl rfl ?_
          refine a_ldc X dX4_count_75 kc_X4_48 ?_
          refine s_callV_R X dX4_count_77 lk_X4_49 ko_0 rfl rfl (c_X4_found (k := 0) (by decide) (by decide +kernel)) ⟨Nat.le_of_ble_eq_true rfl, Nat.le_of_ble_eq_true rfl⟩ rfl rfl (Nat.le_of_ble_eq_true rfl) ⟨Nat.le_of_ble_eq_true rfl, Nat.le_of_ble_eq_true rfl⟩ ?_
          refine a_iret X hA dX4_count_80 ?_
          exact ⟨_, _, _, _, _, rfl, rfl, bv_find (bs_0 hC) (k := 0) (by decide +kernel) (by rw [sp_count, if_neg hs1_0, if_neg hs1_1, if_neg hs1_2, if_neg hs1_3])⟩
