set_option maxRecDepth 100000 in
set_option maxHeartbeats 4000000 in
theorem c_X5_seat {l : Launch} {g : GG} {I : TI} {J : TJ} {F : TI} {w : Int64} {R : Nat → Nat} (hR : I 44 = nr R) (ok : okR R) {x : Int32} : RV l g mX5_seat [.ref (ga g 43), .int x] I J F w (MdR I J F w (sp_seat R x)) := by
  have hn10 := ok.1
  refine ct_start (M := mX5_seat) (by decide +kernel) (Nat.le_of_ble_eq_true rfl) ?_
  intro p e s m args below meth c A X hA
  have X : AX p s m args meth c g A cX5_seat 2 RX5 (Cond.code yX5_seat cX5_seat 2 (some .int)) (some .int) := X
  show AW p l e (rmM 2 45) s m args below meth c g A 2 0 0 (MQ below (CQ g (hp g I J F w) s.heap.size (fun vv0 hh0 => ∃ xx0 II0 JJ0 FF0 ww0, vv0 = some xx0 ∧ hh0 = hp g II0 JJ0 FF0 ww0 ∧ (MdR I J F w (sp_seat R x)) xx0 II0 JJ0 FF0 ww0)) args s 0 0 A) 0 [some (.ref (ga g 43)), some (.int x)] [] (hp g I J F w)
  refine a_iload_n X dX5_seat_0 (i := 1) rfl rfl ?_
  refine s_callS_R X dX5_seat_1 lk_X5_59 c_X5_isSeat ⟨Nat.le_of_ble_eq_true rfl, Nat.le_of_ble_eq_true rfl⟩ rfl rfl (Nat.le_of_ble_eq_true rfl) ⟨Nat.le_of_ble_eq_true rfl, Nat.le_of_ble_eq_true rfl⟩ ?_
  refine a_if_eq X dX5_seat_4 (tgt := 15) (by decide) (fun hc4 => ?_) (fun hc4 => ?_)
  · skip
    try simp only [bI_0, Bool.not_eq_false] at hc4
    refine a_aload_n X dX5_seat_15 (i := 0) rfl rfl ?_
    refine a_ldc X dX5_seat_16 kc_X5_50 ?_
    refine s_callV_R X dX5_seat_18 lk_X5_67 ko_43 rfl rfl (c_X5_finds (k := 0) (by decide) (by decide +kernel)) ⟨Nat.le_of_ble_eq_true rfl, Nat.le_of_ble_eq_true rfl⟩ rfl rfl (Nat.le_of_ble_eq_true rfl) ⟨Nat.le_of_ble_eq_true rfl, Nat.le_of_ble_eq_true rfl⟩ ?_
    refine a_iret X hA dX5_seat_21 ?_
    first | exact ⟨_, _, _, _, _, rfl, rfl, md_find (ah_0 hR) (k := 0) (by decide +kernel) (by rw [sp_seat, if_neg (by rw [hc4]; decide)])⟩ | exact ⟨_, _, _, _, _, rfl, rfl, md_val (ah_0 hR) (by rw [sp_seat, if_pos hc4, cl_n (show j < 2 ^ 31 by omega)])⟩
  · skip
    try simp only [bI_0, Bool.not_eq_false] at hc4
    obtain ⟨j, hj0, hj, rfl⟩ := inB_r (by decide) (by decide) hc4
    refine a_aload_n X dX5_seat_7 (i := 0) rfl rfl ?_
    refine a_iload_n X dX5_seat_8 (i := 1) rfl rfl ?_
    refine s_callV_R X dX5_seat_9 lk_X5_63 ko_43 rfl rfl (c_X5_whoIn hR ok.1 (by omega) (fun m hm => Nat.lt_trans (ok.2.1 m hm).2.1 (by decide))) ⟨Nat.le_of_ble_eq_true rfl, Nat.le_of_ble_eq_true rfl⟩ rfl rfl (Nat.le_of_ble_eq_true rfl) ⟨Nat.le_of_ble_eq_true rfl, Nat.le_of_ble_eq_true rfl⟩ ?_
    refine a_goto X dX5_seat_12 (tgt := 21) (by decide) ?_
    refine a_iret X hA dX5_seat_21 ?_
    first | exact ⟨_, _, _, _, _, rfl, rfl, md_find (ah_0 hR) (k := 0) (by decide +kernel) (by rw [sp_seat, if_neg (by rw [hc4]; decide)])⟩ | exact ⟨_, _, _, _, _, rfl, rfl, md_val (ah_0 hR) (by rw [sp_seat, if_pos hc4, cl_n (show j < 2 ^ 31 by omega)])⟩
set_option maxRecDepth 100000 in
set_option maxHeartbeats 4000000 in
theorem c_X5_now {l : Launch} {g : GG} {I : TI} {J : TJ} {F : TI} {w : Int64} {R : Nat → Nat} (hR : I 44 = nr R) (ok : okR R) {x : Int32} : RV l g mX5_now [.ref (ga g 43), .int x] I J F w (MdR I J F w (sp_now R x)) := by
  have hn10 := ok.1
  refine ct_start (M := mX5_now) (by decide +kernel) (Nat.le_of_ble_eq_true rfl) ?_
  intro p e s m args below meth c A X hA
  have X : AX p s m args meth c g A cX5_now 2 RX5 (Cond.code yX5_now cX5_now 2 (some .int)) (some .int) := X
  show AW p l e (rmM 3 69) s m args below meth c g A 2 0 0 (MQ below (CQ g (hp g I J F w) s.heap.size (fun vv0 hh0 => ∃ xx0 II0 JJ0 FF0 ww0, vv0 = some xx0 ∧ hh0 = hp g II0 JJ0 FF0 ww0 ∧ (MdR I J F w (sp_now R x)) xx0 II0 JJ0 FF0 ww0)) args s 0 0 A) 0 [some (.ref (ga g 43)), some (.int x)] [] (hp g I J F w)
  refine a_iload_n X dX5_now_0 (i := 1) rfl rfl ?_
  by_cases hs1_0 : x = nI 0
  · skip
    refine a_tsIn X dX5_now_1 (by rw [hs1_0]; decide +kernel) (by rw [hs1_0]; decide +kernel) (off := 39) (by rw [hs1_0]; decide +kernel) (tgt := 40) (by decide) ?_
    refine a_aload_n X dX5_now_40 (i := 0) rfl rfl ?_
    refine s_getr X dX5_now_41 fl_X5_7 ko_43 rfl ?_
    refine a_iconst X dX5_now_44 (v := nI 0) (by decide +kernel) ?_
    refine s_ild X dX5_now_45 ki_44 (by omega) (by decide) ?_
    rw [show I 44 0 = nI (R 0) from by rw [hR]; rfl]
    refine a_iret X hA dX5_now_46 ?_
    exact ⟨_, _, _, _, _, rfl, rfl, md_val (ah_0 hR) (by rw [sp_now, if_pos hs1_0])⟩
  · skip
    by_cases hs1_1 : x = nI 1
    · skip
      refine a_tsIn X dX5_now_1 (by rw [hs1_1]; decide +kernel) (by rw [hs1_1]; decide +kernel) (off := 46) (by rw [hs1_1]; decide +kernel) (tgt := 47) (by decide) ?_
      refine a_aload_n X dX5_now_47 (i := 0) rfl rfl ?_
      refine s_callV_R X dX5_now_48 lk_X5_77 ko_43 rfl rfl (c_X5_gaps hR ok.1) ⟨Nat.le_of_ble_eq_true rfl, Nat.le_of_ble_eq_true rfl⟩ rfl rfl (Nat.le_of_ble_eq_true rfl) ⟨Nat.le_of_ble_eq_true rfl, Nat.le_of_ble_eq_true rfl⟩ ?_
      refine a_iret X hA dX5_now_51 ?_
      exact ⟨_, _, _, _, _, rfl, rfl, md_val (ah_0 hR) (by rw [sp_now, if_neg hs1_0, if_pos hs1_1])⟩
    · skip
      by_cases hs1_2 : x = nI 2
      · skip
        refine a_tsIn X dX5_now_1 (by rw [hs1_2]; decide +kernel) (by rw [hs1_2]; decide +kernel) (off := 51) (by rw [hs1_2]; decide +kernel) (tgt := 52) (by decide) ?_
        refine a_aload_n X dX5_now_52 (i := 0) rfl rfl ?_
        refine s_callV_R X dX5_now_53 lk_X5_80 ko_43 rfl rfl (c_X5_standing hR ok.1) ⟨Nat.le_of_ble_eq_true rfl, Nat.le_of_ble_eq_true rfl⟩ rfl rfl (Nat.le_of_ble_eq_true rfl) ⟨Nat.le_of_ble_eq_true rfl, Nat.le_of_ble_eq_true rfl⟩ ?_
        refine a_iret X hA dX5_now_56 ?_
        exact ⟨_, _, _, _, _, rfl, rfl, md_val (ah_0 hR) (by rw [sp_now, if_neg hs1_0, if_neg hs1_1, if_pos hs1_2])⟩
      · skip
        by_cases hs1_3 : x = nI 3
        · skip
          refine a_tsIn X dX5_now_1 (by rw [hs1_3]; decide +kernel) (by rw [hs1_3]; decide +kernel) (off := 56) (by rw [hs1_3]; decide +kernel) (tgt := 57) (by decide) ?_
          refine a_aload_n X dX5_now_57 (i := 0) rfl rfl ?_
          refine s_callV_R X dX5_now_58 lk_X5_83 ko_43 rfl rfl (c_X5_known hR ok.1) ⟨Nat.le_of_ble_eq_true rfl, Nat.le_of_ble_eq_true rfl⟩ rfl rfl (Nat.le_of_ble_eq_true rfl) ⟨Nat.le_of_ble_eq_true rfl, Nat.le_of_ble_eq_true rfl⟩ ?_
          refine a_iret X hA dX5_now_61 ?_
          exact ⟨_, _, _, _, _, rfl, rfl, md_val (ah_0 hR) (by rw [sp_now, if_neg hs1_0, if_neg hs1_1, if_neg hs1_2, if_pos hs1_3]; rfl)⟩
        · skip
          by_cases hs1_4 : x = nI 4
          · skip
            refine a_tsIn X dX5_now_1 (by rw [hs1_4]; decide +kernel) (by rw [hs1_4]; decide +kernel) (off := 61) (by rw [hs1_4]; decide +kernel) (tgt := 62) (by decide) ?_
            refine a_aload_n X dX5_now_62 (i := 0) rfl rfl ?_
            refine s_callV_R X dX5_now_63 lk_X5_86 ko_43 rfl rfl (c_X5_knownOfAll hR (fun m hm => (ok.2.1 m hm).2.2.2.2.1) ok.1) ⟨Nat.le_of_ble_eq_true rfl, Nat.le_of_ble_eq_true rfl⟩ rfl rfl (Nat.le_of_ble_eq_true rfl) ⟨Nat.le_of_ble_eq_true rfl, Nat.le_of_ble_eq_true rfl⟩ ?_
            refine a_iret X hA dX5_now_66 ?_
            exact ⟨_, _, _, _, _, rfl, rfl, md_val (ah_0 hR) (by rw [sp_now, if_neg hs1_0, if_neg hs1_1, if_neg hs1_2, if_neg hs1_3, if_pos hs1_4])⟩
          · skip
            by_cases hs1_5 : x = nI 5
            · skip
              refine a_tsIn X dX5_now_1 (by rw [hs1_5]; decide +kernel) (by rw [hs1_5]; decide +kernel) (off := 66) (by rw [hs1_5]; decide +kernel) (tgt := 67) (by decide) ?_
              refine a_aload_n X dX5_now_67 (i := 0) rfl rfl ?_
              refine a_iconst X dX5_now_68 (v := nI 5) (by decide +kernel) ?_
              refine s_callV_R X dX5_now_69 lk_X5_89 ko_43 rfl rfl (c_X5_sumOf hR (by decide) ok.1) ⟨Nat.le_of_ble_eq_true rfl, Nat.le_of_ble_eq_true rfl⟩ rfl rfl (Nat.le_of_ble_eq_true rfl) ⟨Nat.le_of_ble_eq_true rfl, Nat.le_of_ble_eq_true rfl⟩ ?_
              refine a_iret X hA dX5_now_72 ?_
              exact ⟨_, _, _, _, _, rfl, rfl, md_val (ah_0 hR) (by rw [sp_now, if_neg hs1_0, if_neg hs1_1, if_neg hs1_2, if_neg hs1_3, if_neg hs1_4, if_pos hs1_5])⟩
            · skip
              refine a_tsOut X dX5_now_1 (by have z0 := lv_neT hs1_0 (a := 0) (by decide +kernel); have z1 := lv_neT hs1_1 (a := 1) (by decide +kernel); have z2 := lv_neT hs1_2 (a := 2) (by decide +kernel); have z3 := lv_neT hs1_3 (a := 3) (by decide +kernel); have z4 := lv_neT hs1_4 (a := 4) (by decide +kernel); have z5 := lv_neT hs1_5 (a := 5) (by decide +kernel); omega) (tgt := 73) (by decide) ?_
              refine a_aload_n X dX5_now_73 (i := 0) rfl rfl ?_
              refine a_ldc X dX5_now_74 kc_X5_50 ?_
              refine s_callV_R X dX5_now_76 lk_X5_67 ko_43 rfl rfl (c_X5_finds (k := 0) (by decide) (by decide +kernel)) ⟨Nat.le_of_ble_eq_true rfl, Nat.le_of_ble_eq_true rfl⟩ rfl rfl (Nat.le_of_ble_eq_true rfl) ⟨Nat.le_of_ble_eq_true rfl, Nat.le_of_ble_eq_true rfl⟩ ?_
              refine a_iret X hA dX5_now_79 ?_
              exact ⟨_, _, _, _, _, rfl, rfl, md_find (ah_0 hR) (k := 0) (by decide +kernel) (by rw [sp_now, if_neg hs1_0, if_neg hs1_1, if_neg hs1_2, if_neg hs1_3, if_neg hs1_4, if_neg hs1_5])⟩
set_option maxRecDepth 100000 in
set_option maxHeartbeats 4000000 in
theorem c_X5_member {l : Launch} {g : GG} {I : TI} {J : TJ} {F : TI} {w : Int64} {R : Nat → Nat} (hR : I 44 = nr R) (ok : okR R) {x y z : Int32} : RV l g mX5_member [.ref (ga g 43), .int x, .int y, .int z] I J F w (MdR I J F w (sp_member R x y z)) := by
  have hn10 := ok.1
  have h1 : I 44 1 = nI (R 1) := by rw [hR]; rfl
  refine ct_start (M := mX5_member) (by decide +kernel) (Nat.le_of_ble_eq_true rfl) ?_
  intro p e s m args below meth c A X hA
  have X : AX p s m args meth c g A cX5_member 4 RX5 (Cond.code yX5_member cX5_member 4 (some .int)) (some .int) := X
  show AW p l e (rmM 2 48) s m args below meth c g A 4 0 0 (MQ below (CQ g (hp g I J F w) s.heap.size (fun vv0 hh0 => ∃ xx0 II0 JJ0 FF0 ww0, vv0 = some xx0 ∧ hh0 = hp g II0 JJ0 FF0 ww0 ∧ (MdR I J F w (sp_member R x y z)) xx0 II0 JJ0 FF0 ww0)) args s 0 0 A) 0 [some (.ref (ga g 43)), some (.int x), some (.int y), some (.int z)] [] (hp g I J F w)
  refine a_iload_n X dX5_member_0 (i := 1) rfl rfl ?_
  refine s_callS_R X dX5_member_1 lk_X5_112 c_X5_isKind ⟨Nat.le_of_ble_eq_true rfl, Nat.le_of_ble_eq_true rfl⟩ rfl rfl (Nat.le_of_ble_eq_true rfl) ⟨Nat.le_of_ble_eq_true rfl, Nat.le_of_ble_eq_true rfl⟩ ?_
  refine a_if_eq X dX5_member_4 (tgt := 21) (by decide) (fun hc4 => ?_) (fun hc4 => ?_)
  · skip
    try simp only [bI_0, Bool.not_eq_false] at hc4
    refine a_aload_n X dX5_member_21 (i := 0) rfl rfl ?_
    refine a_ldc X dX5_member_22 kc_X5_50 ?_
    refine s_callV_R X dX5_member_24 lk_X5_67 ko_43 rfl rfl (c_X5_finds (k := 0) (by decide) (by decide +kernel)) ⟨Nat.le_of_ble_eq_true rfl, Nat.le_of_ble_eq_true rfl⟩ rfl rfl (Nat.le_of_ble_eq_true rfl) ⟨Nat.le_of_ble_eq_true rfl, Nat.le_of_ble_eq_true rfl⟩ ?_
    refine a_iret X hA dX5_member_27 ?_
    exact ⟨_, _, _, _, _, rfl, rfl, md_find (ah_0 hR) (k := 0) (by decide +kernel) (by rw [sp_member, if_neg (by simp [*])])⟩
  · skip
    try simp only [bI_0, Bool.not_eq_false] at hc4
    refine a_iload_n X dX5_member_7 (i := 2) rfl rfl ?_
    refine s_callS_R X dX5_member_8 lk_X5_59 c_X5_isSeat ⟨Nat.le_of_ble_eq_true rfl, Nat.le_of_ble_eq_true rfl⟩ rfl rfl (Nat.le_of_ble_eq_true rfl) ⟨Nat.le_of_ble_eq_true rfl, Nat.le_of_ble_eq_true rfl⟩ ?_
    refine a_if_eq X dX5_member_11 (tgt := 21) (by decide) (fun hc11 => ?_) (fun hc11 => ?_)
    · skip
      try simp only [bI_0, Bool.not_eq_false] at hc11
      refine a_aload_n X dX5_member_21 (i := 0) rfl rfl ?_
      refine a_ldc X dX5_member_22 kc_X5_50 ?_
      refine s_callV_R X dX5_member_24 lk_X5_67 ko_43 rfl rfl (c_X5_finds (k := 0) (by decide) (by decide +kernel)) ⟨Nat.le_of_ble_eq_true rfl, Nat.le_of_ble_eq_true rfl⟩ rfl rfl (Nat.le_of_ble_eq_true rfl) ⟨Nat.le_of_ble_eq_true rfl, Nat.le_of_ble_eq_true rfl⟩ ?_
      refine a_iret X hA dX5_member_27 ?_
      exact ⟨_, _, _, _, _, rfl, rfl, md_find (ah_0 hR) (k := 0) (by decide +kernel) (by rw [sp_member, if_neg (by simp [*])])⟩
    · skip
      try simp only [bI_0, Bool.not_eq_false] at hc11
      refine a_iload_n X dX5_member_14 (i := 3) rfl rfl ?_
      refine s_callS_R X dX5_member_15 lk_X5_115 c_X5_isVerse ⟨Nat.le_of_ble_eq_true rfl, Nat.le_of_ble_eq_true rfl⟩ rfl rfl (Nat.le_of_ble_eq_true rfl) ⟨Nat.le_of_ble_eq_true rfl, Nat.le_of_ble_eq_true rfl⟩ ?_
      refine a_if_ne X dX5_member_18 (tgt := 28) (by decide) (fun hc18 => ?_) (fun hc18 => ?_)
      · skip
        try simp only [bI_0, Bool.not_eq_false] at hc18
        obtain ⟨k, hk0, hk, rfl⟩ := inB_r (by decide) (by decide) hc4
        obtain ⟨j, hj0, hj, rfl⟩ := inB_r (by decide) (by decide) hc11
        obtain ⟨v, hv0, hv, rfl⟩ := inB_r (by decide) (by decide) hc18
        refine a_aload_n X dX5_member_28 (i := 0) rfl rfl ?_
        refine s_getr X dX5_member_29 fl_X5_7 ko_43 rfl ?_
        refine a_iconst X dX5_member_32 (v := nI 1) (by decide +kernel) ?_
        refine s_ild X dX5_member_33 ki_44 (by omega) (by decide) ?_
        rw [h1]
        refine a_bipush X dX5_member_34 (v := nI 10) (by decide +kernel) ?_
        refine s_icmp_neN X dX5_member_36 (tgt := 46) (by decide) (by omega) (by omega) (fun hc36 => ?_) (fun hc36 => ?_)
        · skip
          refine a_aload_n X dX5_member_46 (i := 0) rfl rfl ?_
          refine a_iload_n X dX5_member_47 (i := 2) rfl rfl ?_
          refine s_callV_R X dX5_member_48 lk_X5_63 ko_43 rfl rfl (c_X5_whoIn hR ok.1 (by omega) (fun m hm => Nat.lt_trans (ok.2.1 m hm).2.1 (by decide))) ⟨Nat.le_of_ble_eq_true rfl, Nat.le_of_ble_eq_true rfl⟩ rfl rfl (Nat.le_of_ble_eq_true rfl) ⟨Nat.le_of_ble_eq_true rfl, Nat.le_of_ble_eq_true rfl⟩ ?_
          refine a_if_lt X dX5_member_51 (tgt := 61) (by decide) (fun hc51 => ?_) (fun hc51 => ?_)
          · skip
            have hw := whoNone' (who_b hn10) hc51
            refine a_aload_n X dX5_member_61 (i := 0) rfl rfl ?_
            refine a_iload_n X dX5_member_62 (i := 1) rfl rfl ?_
            refine a_iload_n X dX5_member_63 (i := 2) rfl rfl ?_
            refine a_iload_n X dX5_member_64 (i := 3) rfl rfl ?_
            refine a_iconst X dX5_member_65 (v := nI 5) (by decide +kernel) ?_
            refine s_callV_V X dX5_member_66 lk_X5_120 ko_43 rfl rfl (c_X5_adds hR ok (by omega)) ⟨Nat.le_of_ble_eq_true rfl, Nat.le_of_ble_eq_true rfl⟩ rfl rfl (Nat.le_of_ble_eq_true rfl) ⟨Nat.le_of_ble_eq_true rfl, Nat.le_of_ble_eq_true rfl⟩ ?_
            refine a_aload_n X dX5_member_69 (i := 0) rfl rfl ?_
            refine s_getr X dX5_member_70 fl_X5_7 ko_43 rfl ?_
            refine a_iconst X dX5_member_73 (v := nI 1) (by decide +kernel) ?_
            refine s_ild X dX5_member_74 ki_44 (by omega) (by decide) ?_
            rw [up_s, show nr (addN R k j v 5) 1 = nI (R 1 + 1) from by simp [nr, addN, up_s]]
            refine a_iconst X dX5_member_75 (v := nI 1) (by decide +kernel) ?_
            refine s_isubN X dX5_member_76 (by omega) ?_
            refine a_iret X hA dX5_member_77 ?_
            exact ⟨_, _, _, _, _, rfl, rfl, md_val (ah_u (ah_0 hR)) (by rw [sp_member, if_pos ⟨hc4, hc11, hc18⟩, if_neg (by omega), cl_n (show j < 2 ^ 31 by omega), if_pos hw, cl_n (show k < 2 ^ 31 by omega), cl_n (show v < 2 ^ 31 by omega)]; rfl)⟩
          · skip
            obtain ⟨q, hw⟩ := whoSome' hc51
            refine a_aload_n X dX5_member_54 (i := 0) rfl rfl ?_
            refine a_ldc X dX5_member_55 kc_X5_119 ?_
            refine s_callV_R X dX5_member_57 lk_X5_67 ko_43 rfl rfl (c_X5_finds (k := 4) (by decide) (by decide +kernel)) ⟨Nat.le_of_ble_eq_true rfl, Nat.le_of_ble_eq_true rfl⟩ rfl rfl (Nat.le_of_ble_eq_true rfl) ⟨Nat.le_of_ble_eq_true rfl, Nat.le_of_ble_eq_true rfl⟩ ?_
            refine a_iret X hA dX5_member_60 ?_
            exact ⟨_, _, _, _, _, rfl, rfl, md_find (ah_0 hR) (k := 4) (by decide +kernel) (by rw [sp_member, if_pos ⟨hc4, hc11, hc18⟩, if_neg (by omega), cl_n (show j < 2 ^ 31 by omega), if_neg (by rw [hw]; simp)])⟩
        · skip
          refine a_aload_n X dX5_member_39 (i := 0) rfl rfl ?_
          refine a_ldc X dX5_member_40 kc_X5_118 ?_
          refine s_callV_R X dX5_member_42 lk_X5_67 ko_43 rfl rfl (c_X5_finds (k := 1) (by decide) (by decide +kernel)) ⟨Nat.le_of_ble_eq_true rfl, Nat.le_of_ble_eq_true rfl⟩ rfl rfl (Nat.le_of_ble_eq_true rfl) ⟨Nat.le_of_ble_eq_true rfl, Nat.le_of_ble_eq_true rfl⟩ ?_
          refine a_iret X hA dX5_member_45 ?_
          exact ⟨_, _, _, _, _, rfl, rfl, md_find (ah_0 hR) (k := 1) (by decide +kernel) (by rw [sp_member, if_pos ⟨hc4, hc11, hc18⟩, if_pos (by omega)])⟩
      · skip
        try simp only [bI_0, Bool.not_eq_false] at hc18
        refine a_aload_n X dX5_member_21 (i := 0) rfl rfl ?_
        refine a_ldc X dX5_member_22 kc_X5_50 ?_
        refine s_callV_R X dX5_member_24 lk_X5_67 ko_43 rfl rfl (c_X5_finds (k := 0) (by decide) (by decide +kernel)) ⟨Nat.le_of_ble_eq_true rfl, Nat.le_of_ble_eq_true rfl⟩ rfl rfl (Nat.le_of_ble_eq_true rfl) ⟨Nat.le_of_ble_eq_true rfl, Nat.le_of_ble_eq_true rfl⟩ ?_
        refine a_iret X hA dX5_member_27 ?_
        exact ⟨_, _, _, _, _, rfl, rfl, md_find (ah_0 hR) (k := 0) (by decide +kernel) (by rw [sp_member, if_neg (by simp [*])])⟩
set_option maxRecDepth 100000 in
set_option maxHeartbeats 4000000 in
theorem c_X5_of {l : Launch} {g : GG} {I : TI} {J : TJ} {F : TI} {w : Int64} {R : Nat → Nat} (hR : I 44 = nr R) (ok : okR R) {x y : Int32} (hN : R 0 < 2 ^ 31) : RV l g mX5_of [.ref (ga g 43), .int x, .int y] I J F w (MdR I J F w (sp_of R x y)) := by
  have hn10 := ok.1
  refine ct_start (M := mX5_of) (by decide +kernel) (Nat.le_of_ble_eq_true rfl) ?_
  intro p e s m args below meth c A X hA
  have X : AX p s m args meth c g A cX5_of 3 RX5 (Cond.code yX5_of cX5_of 3 (some .int)) (some .int) := X
  show AW p l e (rmM 4 93) s m args below meth c g A 3 0 0 (MQ below (CQ g (hp g I J F w) s.heap.size (fun vv0 hh0 => ∃ xx0 II0 JJ0 FF0 ww0, vv0 = some xx0 ∧ hh0 = hp g II0 JJ0 FF0 ww0 ∧ (MdR I J F w (sp_of R x y)) xx0 II0 JJ0 FF0 ww0)) args s 0 0 A) 0 [some (.ref (ga g 43)), some (.int x), some (.int y)] [] (hp g I J F w)
  refine a_aload_n X dX5_of_0 (i := 0) rfl rfl ?_
  refine a_iload_n X dX5_of_1 (i := 1) rfl rfl ?_
  refine s_callV_R X dX5_of_2 lk_X5_124 ko_43 rfl rfl (c_X5_isOne hR) ⟨Nat.le_of_ble_eq_true rfl, Nat.le_of_ble_eq_true rfl⟩ rfl rfl (Nat.le_of_ble_eq_true rfl) ⟨Nat.le_of_ble_eq_true rfl, Nat.le_of_ble_eq_true rfl⟩ ?_
  refine a_if_eq X dX5_of_5 (tgt := 18) (by decide) (fun hc5 => ?_) (fun hc5 => ?_)
  · skip
    try simp only [bI_0, Bool.not_eq_false] at hc5
    refine a_aload_n X dX5_of_18 (i := 0) rfl rfl ?_
    refine a_ldc X dX5_of_19 kc_X5_50 ?_
    refine s_callV_R X dX5_of_21 lk_X5_67 ko_43 rfl rfl (c_X5_finds (k := 0) (by decide) (by decide +kernel)) ⟨Nat.le_of_ble_eq_true rfl, Nat.le_of_ble_eq_true rfl⟩ rfl rfl (Nat.le_of_ble_eq_true rfl) ⟨Nat.le_of_ble_eq_true rfl, Nat.le_of_ble_eq_true rfl⟩ ?_
    refine a_iret X hA dX5_of_24 ?_
    exact ⟨_, _, _, _, _, rfl, rfl, md_find (ah_0 hR) (k := 0) (by decide +kernel) (by rw [sp_of, if_neg (by simp [*])])⟩
  · skip
    try simp only [bI_0, Bool.not_eq_false] at hc5
    obtain ⟨a, ha, rfl⟩ := isM_t (by omega) hc5
    obtain ⟨g0, g1, g2, g3, g4, g5⟩ := ok.2.1 a ha
    refine a_iload_n X dX5_of_8 (i := 2) rfl rfl ?_
    refine a_iconst X dX5_of_9 (v := nI 0) (by decide +kernel) ?_
    refine a_bipush X dX5_of_10 (v := nI 9) (by decide +kernel) ?_
    refine s_callS_R X dX5_of_12 lk_X5_51 c_X5_in ⟨Nat.le_of_ble_eq_true rfl, Nat.le_of_ble_eq_true rfl⟩ rfl rfl (Nat.le_of_ble_eq_true rfl) ⟨Nat.le_of_ble_eq_true rfl, Nat.le_of_ble_eq_true rfl⟩ ?_
    refine a_if_ne X dX5_of_15 (tgt := 25) (by decide) (fun hc15 => ?_) (fun hc15 => ?_)
    · skip
      try simp only [bI_0, Bool.not_eq_false] at hc15
      obtain ⟨j, hj0, hj, rfl⟩ := inB_r (by decide) (by decide) hc15
      refine a_iload_n X dX5_of_25 (i := 2) rfl rfl ?_
      by_cases hs26_6 : nI j = nI 6
      · skip
        refine a_tsIn X dX5_of_26 (by rw [hs26_6]; decide +kernel) (by rw [hs26_6]; decide +kernel) (off := 30) (by rw [hs26_6]; decide +kernel) (tgt := 56) (by decide) ?_
        have hj6 : j = 6 := (nI_eq (by omega) (by decide)).mp hs26_6
        subst hj6
        refine a_aload_n X dX5_of_56 (i := 0) rfl rfl ?_
        refine a_iload_n X dX5_of_57 (i := 1) rfl rfl ?_
        refine s_callV_R X dX5_of_58 lk_X5_93 ko_43 rfl rfl (c_X5_feels hR ok ha) ⟨Nat.le_of_ble_eq_true rfl, Nat.le_of_ble_eq_true rfl⟩ rfl rfl (Nat.le_of_ble_eq_true rfl) ⟨Nat.le_of_ble_eq_true rfl, Nat.le_of_ble_eq_true rfl⟩ ?_
        refine a_iret X hA dX5_of_61 ?_
        exact ⟨_, _, _, _, _, rfl, rfl, md_val (ah_0 hR) (by rw [sp_of, if_pos ⟨hc5, hc15⟩, cl_n (show a < 2 ^ 31 by omega), cl_n (by decide)]; rfl)⟩
      · skip
        by_cases hs26_7 : nI j = nI 7
        · skip
          refine a_tsIn X dX5_of_26 (by rw [hs26_7]; decide +kernel) (by rw [hs26_7]; decide +kernel) (off := 36) (by rw [hs26_7]; decide +kernel) (tgt := 62) (by decide) ?_
          have hj6 : j = 7 := (nI_eq (by omega) (by decide)).mp hs26_7
          subst hj6
          refine a_aload_n X dX5_of_62 (i := 0) rfl rfl ?_
          refine a_iload_n X dX5_of_63 (i := 1) rfl rfl ?_
          refine s_callV_R X dX5_of_64 lk_X5_96 ko_43 rfl rfl (c_X5_felt hR ok ha) ⟨Nat.le_of_ble_eq_true rfl, Nat.le_of_ble_eq_true rfl⟩ rfl rfl (Nat.le_of_ble_eq_true rfl) ⟨Nat.le_of_ble_eq_true rfl, Nat.le_of_ble_eq_true rfl⟩ ?_
          refine a_iret X hA dX5_of_67 ?_
          exact ⟨_, _, _, _, _, rfl, rfl, md_val (ah_0 hR) (by rw [sp_of, if_pos ⟨hc5, hc15⟩, cl_n (show a < 2 ^ 31 by omega), cl_n (by decide)]; rfl)⟩
        · skip
          by_cases hs26_8 : nI j = nI 8
          · skip
            refine a_tsIn X dX5_of_26 (by rw [hs26_8]; decide +kernel) (by rw [hs26_8]; decide +kernel) (off := 42) (by rw [hs26_8]; decide +kernel) (tgt := 68) (by decide) ?_
            have hj6 : j = 8 := (nI_eq (by omega) (by decide)).mp hs26_8
            subst hj6
            refine a_aload_n X dX5_of_68 (i := 0) rfl rfl ?_
            refine a_iload_n X dX5_of_69 (i := 1) rfl rfl ?_
            refine s_callV_R X dX5_of_70 lk_X5_105 ko_43 rfl rfl (c_X5_isReading hR ok ha hN) ⟨Nat.le_of_ble_eq_true rfl, Nat.le_of_ble_eq_true rfl⟩ rfl rfl (Nat.le_of_ble_eq_true rfl) ⟨Nat.le_of_ble_eq_true rfl, Nat.le_of_ble_eq_true rfl⟩ ?_
            refine a_if_eq X dX5_of_73 (tgt := 80) (by decide) (fun hc73 => ?_) (fun hc73 => ?_)
            · skip
              try simp only [bI_0, Bool.not_eq_false] at hc73
              refine a_iconst X dX5_of_80 (v := nI 0) (by decide +kernel) ?_
              refine a_iret X hA dX5_of_81 ?_
              exact ⟨_, _, _, _, _, rfl, rfl, md_val (ah_0 hR) (by rw [sp_of, if_pos ⟨hc5, hc15⟩, cl_n (show a < 2 ^ 31 by omega), cl_n (show 8 < 2 ^ 31 by omega)]; show (R, none, bI (redN R (R 1) a)) = _; rw [hc73]; rfl)⟩
            · skip
              try simp only [bI_0, Bool.not_eq_false] at hc73
              refine a_iconst X dX5_of_76 (v := nI 1) (by decide +kernel) ?_
              refine a_goto X dX5_of_77 (tgt := 81) (by decide) ?_
              refine a_iret X hA dX5_of_81 ?_
              exact ⟨_, _, _, _, _, rfl, rfl, md_val (ah_0 hR) (by rw [sp_of, if_pos ⟨hc5, hc15⟩, cl_n (show a < 2 ^ 31 by omega), cl_n (show 8 < 2 ^ 31 by omega)]; show (R, none, bI (redN R (R 1) a)) = _; rw [hc73]; rfl)⟩
          · skip
            by_cases hs26_9 : nI j = nI 9
            · skip
              refine a_tsIn X dX5_of_26 (by rw [hs26_9]; decide +kernel) (by rw [hs26_9]; decide +kernel) (off := 56) (by rw [hs26_9]; decide +kernel) (tgt := 82) (by decide) ?_
              have hj6 : j = 9 := (nI_eq (by omega) (by decide)).mp hs26_9
              subst hj6
              refine a_aload_n X dX5_of_82 (i := 0) rfl rfl ?_
              refine a_iload_n X dX5_of_83 (i := 1) rfl rfl ?_
              refine s_callV_R X dX5_of_84 lk_X5_127 ko_43 rfl rfl (c_X5_tells hR ok ha) ⟨Nat.le_of_ble_eq_true rfl, Nat.le_of_ble_eq_true rfl⟩ rfl rfl (Nat.le_of_ble_eq_true rfl) ⟨Nat.le_of_ble_eq_true rfl, Nat.le_of_ble_eq_true rfl⟩ ?_
              refine a_iret X hA dX5_of_87 ?_
              exact ⟨_, _, _, _, _, rfl, rfl, md_val (ah_0 hR) (by rw [sp_of, if_pos ⟨hc5, hc15⟩, cl_n (show a < 2 ^ 31 by omega), cl_n (by decide)]; rfl)⟩
            · skip
              refine a_tsOut X dX5_of_26 (by have z0 := lv_neT hs26_6 (a := 6) (by decide +kernel); have z1 := lv_neT hs26_7 (a := 7) (by decide +kernel); have z2 := lv_neT hs26_8 (a := 8) (by decide +kernel); have z3 := lv_neT hs26_9 (a := 9) (by decide +kernel); omega) (tgt := 88) (by decide) ?_
              have q6 : j ≠ 6 := fun z => hs26_6 (by rw [z])
              have q7 : j ≠ 7 := fun z => hs26_7 (by rw [z])
              have q8 : j ≠ 8 := fun z => hs26_8 (by rw [z])
              have q9 : j ≠ 9 := fun z => hs26_9 (by rw [z])
              refine a_aload_n X dX5_of_88 (i := 0) rfl rfl ?_
              refine a_iload_n X dX5_of_89 (i := 1) rfl rfl ?_
              refine a_iload_n X dX5_of_90 (i := 2) rfl rfl ?_
              refine s_callV_R X dX5_of_91 lk_X5_55 ko_43 rfl rfl (c_X5_its hR (by omega)) ⟨Nat.le_of_ble_eq_true rfl, Nat.le_of_ble_eq_true rfl⟩ rfl rfl (Nat.le_of_ble_eq_true rfl) ⟨Nat.le_of_ble_eq_true rfl, Nat.le_of_ble_eq_true rfl⟩ ?_
              refine a_iret X hA dX5_of_94 ?_
              exact ⟨_, _, _, _, _, rfl, rfl, md_val (ah_0 hR) (by rw [sp_of, if_pos ⟨hc5, hc15⟩, cl_n (show a < 2 ^ 31 by omega), cl_n (show j < 2 ^ 31 by omega), ofV, if_neg q6, if_neg q7, if_neg q8, if_neg q9])⟩
    · skip
      try simp only [bI_0, Bool.not_eq_false] at hc15
      refine a_aload_n X dX5_of_18 (i := 0) rfl rfl ?_
      refine a_ldc X dX5_of_19 kc_X5_50 ?_
      refine s_callV_R X dX5_of_21 lk_X5_67 ko_43 rfl rfl (c_X5_finds (k := 0) (by decide) (by decide +kernel)) ⟨Nat.le_of_ble_eq_true rfl, Nat.le_of_ble_eq_true rfl⟩ rfl rfl (Nat.le_of_ble_eq_true rfl) ⟨Nat.le_of_ble_eq_true rfl, Nat.le_of_ble_eq_true rfl⟩ ?_
      refine a_iret X hA dX5_of_24 ?_
      exact ⟨_, _, _, _, _, rfl, rfl, md_find (ah_0 hR) (k := 0) (by decide +kernel) (by rw [sp_of, if_neg (by simp [*])])⟩
set_option maxRecDepth 100000 in
set_option maxHeartbeats 4000000 in
theorem c_X5_isPart {l : Launch} {g : GG} {I : TI} {J : TJ} {F : TI} {w : Int64} {x v : Int32} : UR l g mX5_isPart [.int x, .int v] I J F w (.int (bI (isPartB x v))) I J F w := by
  refine ct_start (M := mX5_isPart) (by decide +kernel) (Nat.le_of_ble_eq_true rfl) ?_
  intro p e s m args below meth c A X hA
  have X : AX p s m args meth c g A cX5_isPart 2 RX5 (Cond.code yX5_isPart cX5_isPart 2 (some .boolean)) (some .boolean) := X
  show AW p l e (rmM 2 42) s m args below meth c g A 2 0 0 (MQ below (CQ g (hp g I J F w) s.heap.size (fun vv0 hh0 => vv0 = some (.int (bI (isPartB x v))) ∧ hh0 = hp g I J F w)) args s 0 0 A) 0 [some (.int x), some (.int v)] [] (hp g I J F w)
  refine a_iload_n X dX5_isPart_0 (i := 0) rfl rfl ?_
  by_cases hs1_2 : x = nI 2
  · skip
    refine a_tsIn X dX5_isPart_1 (by rw [hs1_2]; decide +kernel) (by rw [hs1_2]; decide +kernel) (off := 27) (by rw [hs1_2]; decide +kernel) (tgt := 28) (by decide) ?_
    refine a_iload_n X dX5_isPart_28 (i := 1) rfl rfl ?_
    refine s_callS_R X dX5_isPart_29 lk_X5_115 c_X5_isVerse ⟨Nat.le_of_ble_eq_true rfl, Nat.le_of_ble_eq_true rfl⟩ rfl rfl (Nat.le_of_ble_eq_true rfl) ⟨Nat.le_of_ble_eq_true rfl, Nat.le_of_ble_eq_true rfl⟩ ?_
    refine a_zret X hA dX5_isPart_32 (by first | exact nar_bI _ | decide +kernel) ⟨?_, ?_⟩
    · rw [isPartB, if_pos hs1_2]
    · rfl
  · skip
    by_cases hs1_3 : x = nI 3
    · skip
      refine a_tsIn X dX5_isPart_1 (by rw [hs1_3]; decide +kernel) (by rw [hs1_3]; decide +kernel) (off := 32) (by rw [hs1_3]; decide +kernel) (tgt := 33) (by decide) ?_
      refine a_iload_n X dX5_isPart_33 (i := 1) rfl rfl ?_
      refine a_iconst X dX5_isPart_34 (v := nI 1) (by decide +kernel) ?_
      refine a_bipush X dX5_isPart_35 (v := nI 9) (by decide +kernel) ?_
      refine s_callS_R X dX5_isPart_37 lk_X5_51 c_X5_in ⟨Nat.le_of_ble_eq_true rfl, Nat.le_of_ble_eq_true rfl⟩ rfl rfl (Nat.le_of_ble_eq_true rfl) ⟨Nat.le_of_ble_eq_true rfl, Nat.le_of_ble_eq_true rfl⟩ ?_
      refine a_zret X hA dX5_isPart_40 (by first | exact nar_bI _ | decide +kernel) ⟨?_, ?_⟩
      · rw [isPartB, if_neg hs1_2, if_pos hs1_3]
      · rfl
    · skip
      by_cases hs1_4 : x = nI 4
      · skip
        refine a_tsIn X dX5_isPart_1 (by rw [hs1_4]; decide +kernel) (by rw [hs1_4]; decide +kernel) (off := 40) (by rw [hs1_4]; decide +kernel) (tgt := 41) (by decide) ?_
        refine a_iload_n X dX5_isPart_41 (i := 1) rfl rfl ?_
        refine a_iconst X dX5_isPart_42 (v := nI 0) (by decide +kernel) ?_
        refine a_sipush X dX5_isPart_43 (v := nI 1023) (by decide +kernel) ?_
        refine s_callS_R X dX5_isPart_46 lk_X5_51 c_X5_in ⟨Nat.le_of_ble_eq_true rfl, Nat.le_of_ble_eq_true rfl⟩ rfl rfl (Nat.le_of_ble_eq_true rfl) ⟨Nat.le_of_ble_eq_true rfl, Nat.le_of_ble_eq_true rfl⟩ ?_
        refine a_zret X hA dX5_isPart_49 (by first | exact nar_bI _ | decide +kernel) ⟨?_, ?_⟩
        · rw [isPartB, if_neg hs1_2, if_neg hs1_3, if_pos hs1_4]
        · rfl
      · skip
        refine a_tsOut X dX5_isPart_1 (by have z0 := lv_neT hs1_2 (a := 2) (by decide +kernel); have z1 := lv_neT hs1_3 (a := 3) (by decide +kernel); have z2 := lv_neT hs1_4 (a := 4) (by decide +kernel); omega) (tgt := 50) (by decide) ?_
        refine a_iload_n X dX5_isPart_50 (i := 0) rfl rfl ?_
        refine a_iconst X dX5_isPart_51 (v := nI 5) (by decide +kernel) ?_
        refine a_icmp_ne X dX5_isPart_52 (tgt := 69) (by decide) (fun hc52 => ?_) (fun hc52 => ?_)
        · skip
          refine a_iconst X dX5_isPart_69 (v := nI 0) (by decide +kernel) ?_
          refine a_zret X hA dX5_isPart_70 (by first | exact nar_bI _ | decide +kernel) ⟨?_, ?_⟩
          · rw [isPartB, if_neg hs1_2, if_neg hs1_3, if_neg hs1_4]; first | (rw [if_pos hc52, hc62]; rfl) | (rw [if_neg hc52]; rfl)
          · rfl
        · skip
          refine a_iload_n X dX5_isPart_55 (i := 1) rfl rfl ?_
          refine a_iconst X dX5_isPart_56 (v := nI 0) (by decide +kernel) ?_
          refine a_bipush X dX5_isPart_57 (v := nI 99) (by decide +kernel) ?_
          refine s_callS_R X dX5_isPart_59 lk_X5_51 c_X5_in ⟨Nat.le_of_ble_eq_true rfl, Nat.le_of_ble_eq_true rfl⟩ rfl rfl (Nat.le_of_ble_eq_true rfl) ⟨Nat.le_of_ble_eq_true rfl, Nat.le_of_ble_eq_true rfl⟩ ?_
          refine a_if_eq X dX5_isPart_62 (tgt := 69) (by decide) (fun hc62 => ?_) (fun hc62 => ?_)
          · skip
            try simp only [bI_0, Bool.not_eq_false] at hc62
            refine a_iconst X dX5_isPart_69 (v := nI 0) (by decide +kernel) ?_
            refine a_zret X hA dX5_isPart_70 (by first | exact nar_bI _ | decide +kernel) ⟨?_, ?_⟩
            · rw [isPartB, if_neg hs1_2, if_neg hs1_3, if_neg hs1_4]; first | (rw [if_pos hc52, hc62]; rfl) | (rw [if_neg hc52]; rfl)
            · rfl
          · skip
            try simp only [bI_0, Bool.not_eq_false] at hc62
            refine a_iconst X dX5_isPart_65 (v := nI 1) (by decide +kernel) ?_
            refine a_goto X dX5_isPart_66 (tgt := 70) (by decide) ?_
            refine a_zret X hA dX5_isPart_70 (by first | exact nar_bI _ | decide +kernel) ⟨?_, ?_⟩
            · rw [isPartB, if_neg hs1_2, if_neg hs1_3, if_neg hs1_4]; first | (rw [if_pos hc52, hc62]; rfl) | (rw [if_neg hc52]; rfl)
            · rfl
set_option maxRecDepth 100000 in
set_option maxHeartbeats 4000000 in
theorem c_X5_set {l : Launch} {g : GG} {I : TI} {J : TJ} {F : TI} {w : Int64} {R : Nat → Nat} (hR : I 44 = nr R) (ok : okR R) {x y z : Int32} : RV l g mX5_set [.ref (ga g 43), .int x, .int y, .int z] I J F w (MdR I J F w (sp_set R x y z)) := by
  have hn10 := ok.1
  refine ct_start (M := mX5_set) (by decide +kernel) (Nat.le_of_ble_eq_true rfl) ?_
  intro p e s m args below meth c A X hA
  have X : AX p s m args meth c g A cX5_set 4 RX5 (Cond.code yX5_set cX5_set 4 (some .int)) (some .int) := X
  show AW p l e (rmM 3 63) s m args below meth c g A 4 0 0 (MQ below (CQ g (hp g I J F w) s.heap.size (fun vv0 hh0 => ∃ xx0 II0 JJ0 FF0 ww0, vv0 = some xx0 ∧ hh0 = hp g II0 JJ0 FF0 ww0 ∧ (MdR I J F w (sp_set R x y z)) xx0 II0 JJ0 FF0 ww0)) args s 0 0 A) 0 [some (.ref (ga g 43)), some (.int x), some (.int y), some (.int z)] [] (hp g I J F w)
  refine a_aload_n X dX5_set_0 (i := 0) rfl rfl ?_
  refine a_iload_n X dX5_set_1 (i := 1) rfl rfl ?_
  refine s_callV_R X dX5_set_2 lk_X5_124 ko_43 rfl rfl (c_X5_isOne hR) ⟨Nat.le_of_ble_eq_true rfl, Nat.le_of_ble_eq_true rfl⟩ rfl rfl (Nat.le_of_ble_eq_true rfl) ⟨Nat.le_of_ble_eq_true rfl, Nat.le_of_ble_eq_true rfl⟩ ?_
  refine a_if_eq X dX5_set_5 (tgt := 32) (by decide) (fun hc5 => ?_) (fun hc5 => ?_)
  · skip
    try simp only [bI_0, Bool.not_eq_false] at hc5
    refine a_aload_n X dX5_set_32 (i := 0) rfl rfl ?_
    refine a_ldc X dX5_set_33 kc_X5_50 ?_
    refine s_callV_R X dX5_set_35 lk_X5_67 ko_43 rfl rfl (c_X5_finds (k := 0) (by decide) (by decide +kernel)) ⟨Nat.le_of_ble_eq_true rfl, Nat.le_of_ble_eq_true rfl⟩ rfl rfl (Nat.le_of_ble_eq_true rfl) ⟨Nat.le_of_ble_eq_true rfl, Nat.le_of_ble_eq_true rfl⟩ ?_
    refine a_iret X hA dX5_set_38 ?_
    first | exact ⟨_, _, _, _, _, rfl, rfl, md_find (ah_0 hR) (k := 0) (by decide +kernel) (by rw [sp_set, if_neg (by simp [*])])⟩ | exact ⟨_, _, _, _, _, rfl, rfl, md_val (ah_u (ah_0 hR)) (by rw [sp_set, if_pos ⟨hc5, hc13⟩, cl_n (show a < 2 ^ 31 by omega), cl_n (show b < 2 ^ 31 by omega), cl_n (show v < 2 ^ 31 by omega)])⟩
  · skip
    try simp only [bI_0, Bool.not_eq_false] at hc5
    obtain ⟨a, ha, rfl⟩ := isM_t (by omega) hc5
    obtain ⟨g0, g1, g2, g3, g4, g5⟩ := ok.2.1 a ha
    refine a_iload_n X dX5_set_8 (i := 2) rfl rfl ?_
    refine a_iload_n X dX5_set_9 (i := 3) rfl rfl ?_
    refine s_callS_R X dX5_set_10 lk_X5_130 c_X5_isPart ⟨Nat.le_of_ble_eq_true rfl, Nat.le_of_ble_eq_true rfl⟩ rfl rfl (Nat.le_of_ble_eq_true rfl) ⟨Nat.le_of_ble_eq_true rfl, Nat.le_of_ble_eq_true rfl⟩ ?_
    refine a_if_eq X dX5_set_13 (tgt := 32) (by decide) (fun hc13 => ?_) (fun hc13 => ?_)
    · skip
      try simp only [bI_0, Bool.not_eq_false] at hc13
      refine a_aload_n X dX5_set_32 (i := 0) rfl rfl ?_
      refine a_ldc X dX5_set_33 kc_X5_50 ?_
      refine s_callV_R X dX5_set_35 lk_X5_67 ko_43 rfl rfl (c_X5_finds (k := 0) (by decide) (by decide +kernel)) ⟨Nat.le_of_ble_eq_true rfl, Nat.le_of_ble_eq_true rfl⟩ rfl rfl (Nat.le_of_ble_eq_true rfl) ⟨Nat.le_of_ble_eq_true rfl, Nat.le_of_ble_eq_true rfl⟩ ?_
      refine a_iret X hA dX5_set_38 ?_
      first | exact ⟨_, _, _, _, _, rfl, rfl, md_find (ah_0 hR) (k := 0) (by decide +kernel) (by rw [sp_set, if_neg (by simp [*])])⟩ | exact ⟨_, _, _, _, _, rfl, rfl, md_val (ah_u (ah_0 hR)) (by rw [sp_set, if_pos ⟨hc5, hc13⟩, cl_n (show a < 2 ^ 31 by omega), cl_n (show b < 2 ^ 31 by omega), cl_n (show v < 2 ^ 31 by omega)])⟩
    · skip
      try simp only [bI_0, Bool.not_eq_false] at hc13
      obtain ⟨b, v, rfl, rfl, k1, k2, k3, -⟩ := isPart_t hc13
      refine a_aload_n X dX5_set_16 (i := 0) rfl rfl ?_
      refine a_iconst X dX5_set_17 (v := nI 2) (by decide +kernel) ?_
      refine a_bipush X dX5_set_18 (v := nI 6) (by decide +kernel) ?_
      refine a_iload_n X dX5_set_20 (i := 1) rfl rfl ?_
      refine s_imulN X dX5_set_21 ?_
      refine s_iaddN X dX5_set_22 ?_
      refine a_iload_n X dX5_set_23 (i := 2) rfl rfl ?_
      refine s_iaddN X dX5_set_24 ?_
      refine a_iload_n X dX5_set_25 (i := 3) rfl rfl ?_
      refine s_callV_R X dX5_set_26 lk_X5_134 ko_43 rfl rfl (c_X5_becomes hR (by omega)) ⟨Nat.le_of_ble_eq_true rfl, Nat.le_of_ble_eq_true rfl⟩ rfl rfl (Nat.le_of_ble_eq_true rfl) ⟨Nat.le_of_ble_eq_true rfl, Nat.le_of_ble_eq_true rfl⟩ ?_
      refine a_goto X dX5_set_29 (tgt := 38) (by decide) ?_
      refine a_iret X hA dX5_set_38 ?_
      first | exact ⟨_, _, _, _, _, rfl, rfl, md_find (ah_0 hR) (k := 0) (by decide +kernel) (by rw [sp_set, if_neg (by simp [*])])⟩ | exact ⟨_, _, _, _, _, rfl, rfl, md_val (ah_u (ah_0 hR)) (by rw [sp_set, if_pos ⟨hc5, hc13⟩, cl_n (show a < 2 ^ 31 by omega), cl_n (show b < 2 ^ 31 by omega), cl_n (show v < 2 ^ 31 by omega)])⟩
set_option maxRecDepth 100000 in
set_option maxHeartbeats 4000000 in
theorem c_X5_move {l : Launch} {g : GG} {I : TI} {J : TJ} {F : TI} {w : Int64} {R : Nat → Nat} (hR : I 44 = nr R) (ok : okR R) {x y : Int32} : RV l g mX5_move [.ref (ga g 43), .int x, .int y] I J F w (MdR I J F w (sp_move R x y)) := by
  have hn10 := ok.1
  refine ct_start (M := mX5_move) (by decide +kernel) (Nat.le_of_ble_eq_true rfl) ?_
  intro p e s m args below meth c A X hA
  have X : AX p s m args meth c g A cX5_move 4 RX5 (Cond.code yX5_move cX5_move 4 (some .int)) (some .int) := X
  show AW p l e (rmM 2 45) s m args below meth c g A 4 0 0 (MQ below (CQ g (hp g I J F w) s.heap.size (fun vv0 hh0 => ∃ xx0 II0 JJ0 FF0 ww0, vv0 = some xx0 ∧ hh0 = hp g II0 JJ0 FF0 ww0 ∧ (MdR I J F w (sp_move R x y)) xx0 II0 JJ0 FF0 ww0)) args s 0 0 A) 0 [some (.ref (ga g 43)), some (.int x), some (.int y), none] [] (hp g I J F w)
  refine a_aload_n X dX5_move_0 (i := 0) rfl rfl ?_
  refine a_iload_n X dX5_move_1 (i := 1) rfl rfl ?_
  refine s_callV_R X dX5_move_2 lk_X5_124 ko_43 rfl rfl (c_X5_isOne hR) ⟨Nat.le_of_ble_eq_true rfl, Nat.le_of_ble_eq_true rfl⟩ rfl rfl (Nat.le_of_ble_eq_true rfl) ⟨Nat.le_of_ble_eq_true rfl, Nat.le_of_ble_eq_true rfl⟩ ?_
  refine a_if_eq X dX5_move_5 (tgt := 15) (by decide) (fun hc5 => ?_) (fun hc5 => ?_)
  · skip
    try simp only [bI_0, Bool.not_eq_false] at hc5
    refine a_aload_n X dX5_move_15 (i := 0) rfl rfl ?_
    refine a_ldc X dX5_move_16 kc_X5_50 ?_
    refine s_callV_R X dX5_move_18 lk_X5_67 ko_43 rfl rfl (c_X5_finds (k := 0) (by decide) (by decide +kernel)) ⟨Nat.le_of_ble_eq_true rfl, Nat.le_of_ble_eq_true rfl⟩ rfl rfl (Nat.le_of_ble_eq_true rfl) ⟨Nat.le_of_ble_eq_true rfl, Nat.le_of_ble_eq_true rfl⟩ ?_
    refine a_iret X hA dX5_move_21 ?_
    exact ⟨_, _, _, _, _, rfl, rfl, md_find (ah_0 hR) (k := 0) (by decide +kernel) (by rw [sp_move, if_neg (by simp [*])])⟩
  · skip
    try simp only [bI_0, Bool.not_eq_false] at hc5
    obtain ⟨a, ha, rfl⟩ := isM_t (by omega) hc5
    obtain ⟨g0, g1, g2, g3, g4, g5⟩ := ok.2.1 a ha
    refine a_iload_n X dX5_move_8 (i := 2) rfl rfl ?_
    refine s_callS_R X dX5_move_9 lk_X5_59 c_X5_isSeat ⟨Nat.le_of_ble_eq_true rfl, Nat.le_of_ble_eq_true rfl⟩ rfl rfl (Nat.le_of_ble_eq_true rfl) ⟨Nat.le_of_ble_eq_true rfl, Nat.le_of_ble_eq_true rfl⟩ ?_
    refine a_if_ne X dX5_move_12 (tgt := 22) (by decide) (fun hc12 => ?_) (fun hc12 => ?_)
    · skip
      try simp only [bI_0, Bool.not_eq_false] at hc12
      obtain ⟨j, hj0, hj, rfl⟩ := inB_r (by decide) (by decide) hc12
      refine a_aload_n X dX5_move_22 (i := 0) rfl rfl ?_
      refine a_iload_n X dX5_move_23 (i := 2) rfl rfl ?_
      refine s_callV_R X dX5_move_24 lk_X5_63 ko_43 rfl rfl (c_X5_whoIn hR ok.1 (by omega) (fun m hm => Nat.lt_trans (ok.2.1 m hm).2.1 (by decide))) ⟨Nat.le_of_ble_eq_true rfl, Nat.le_of_ble_eq_true rfl⟩ rfl rfl (Nat.le_of_ble_eq_true rfl) ⟨Nat.le_of_ble_eq_true rfl, Nat.le_of_ble_eq_true rfl⟩ ?_
      refine a_istore_n X dX5_move_27 (i := 3) rfl (by decide) rfl ?_
      refine a_iload_n X dX5_move_28 (i := 3) rfl rfl ?_
      refine a_if_lt X dX5_move_29 (tgt := 46) (by decide) (fun hc29 => ?_) (fun hc29 => ?_)
      · skip
        have hw := whoNone' (who_b hn10) hc29
        refine a_aload_n X dX5_move_46 (i := 0) rfl rfl ?_
        refine a_iconst X dX5_move_47 (v := nI 2) (by decide +kernel) ?_
        refine a_bipush X dX5_move_48 (v := nI 6) (by decide +kernel) ?_
        refine a_iload_n X dX5_move_50 (i := 1) rfl rfl ?_
        refine s_imulN X dX5_move_51 ?_
        refine s_iaddN X dX5_move_52 ?_
        refine a_iconst X dX5_move_53 (v := nI 1) (by decide +kernel) ?_
        refine s_iaddN X dX5_move_54 ?_
        refine a_iload_n X dX5_move_55 (i := 2) rfl rfl ?_
        refine s_callV_R X dX5_move_56 lk_X5_134 ko_43 rfl rfl (c_X5_becomes hR (by omega)) ⟨Nat.le_of_ble_eq_true rfl, Nat.le_of_ble_eq_true rfl⟩ rfl rfl (Nat.le_of_ble_eq_true rfl) ⟨Nat.le_of_ble_eq_true rfl, Nat.le_of_ble_eq_true rfl⟩ ?_
        refine a_iret X hA dX5_move_59 ?_
        first | exact ⟨_, _, _, _, _, rfl, rfl, md_find (ah_0 hR) (k := 4) (by decide +kernel) (by rw [sp_move, if_pos ⟨hc5, hc12⟩, cl_n (show j < 2 ^ 31 by omega), cl_n (show a < 2 ^ 31 by omega), if_neg (by rw [hw]; simp; omega)])⟩ | exact ⟨_, _, _, _, _, rfl, rfl, md_val (ah_u (ah_0 hR)) (by rw [sp_move, if_pos ⟨hc5, hc12⟩, cl_n (show j < 2 ^ 31 by omega), if_pos (by rw [hw]; simp)]; rw [cl_n (show a < 2 ^ 31 by omega)])⟩ | exact ⟨_, _, _, _, _, rfl, rfl, md_val (ah_u (ah_0 hR)) (by rw [sp_move, if_pos ⟨hc5, hc12⟩, cl_n (show j < 2 ^ 31 by omega), cl_n (show q < 2 ^ 31 by omega), if_pos (Or.inr hw)])⟩
      · skip
        obtain ⟨q, hw⟩ := whoSome' hc29
        have hq := (who_lt hw).1
        rw [hw, wI_s]
        refine a_iload_n X dX5_move_32 (i := 3) rfl rfl ?_
        refine a_iload_n X dX5_move_33 (i := 1) rfl rfl ?_
        refine s_icmp_eqN X dX5_move_34 (tgt := 46) (by decide) (by omega) (by omega) (fun hc34 => ?_) (fun hc34 => ?_)
        · skip
          subst hc34
          refine a_aload_n X dX5_move_46 (i := 0) rfl rfl ?_
          refine a_iconst X dX5_move_47 (v := nI 2) (by decide +kernel) ?_
          refine a_bipush X dX5_move_48 (v := nI 6) (by decide +kernel) ?_
          refine a_iload_n X dX5_move_50 (i := 1) rfl rfl ?_
          refine s_imulN X dX5_move_51 ?_
          refine s_iaddN X dX5_move_52 ?_
          refine a_iconst X dX5_move_53 (v := nI 1) (by decide +kernel) ?_
          refine s_iaddN X dX5_move_54 ?_
          refine a_iload_n X dX5_move_55 (i := 2) rfl rfl ?_
          refine s_callV_R X dX5_move_56 lk_X5_134 ko_43 rfl rfl (c_X5_becomes hR (by omega)) ⟨Nat.le_of_ble_eq_true rfl, Nat.le_of_ble_eq_true rfl⟩ rfl rfl (Nat.le_of_ble_eq_true rfl) ⟨Nat.le_of_ble_eq_true rfl, Nat.le_of_ble_eq_true rfl⟩ ?_
          refine a_iret X hA dX5_move_59 ?_
          first | exact ⟨_, _, _, _, _, rfl, rfl, md_find (ah_0 hR) (k := 4) (by decide +kernel) (by rw [sp_move, if_pos ⟨hc5, hc12⟩, cl_n (show j < 2 ^ 31 by omega), cl_n (show a < 2 ^ 31 by omega), if_neg (by rw [hw]; simp; omega)])⟩ | exact ⟨_, _, _, _, _, rfl, rfl, md_val (ah_u (ah_0 hR)) (by rw [sp_move, if_pos ⟨hc5, hc12⟩, cl_n (show j < 2 ^ 31 by omega), if_pos (by rw [hw]; simp)]; rw [cl_n (show a < 2 ^ 31 by omega)])⟩ | exact ⟨_, _, _, _, _, rfl, rfl, md_val (ah_u (ah_0 hR)) (by rw [sp_move, if_pos ⟨hc5, hc12⟩, cl_n (show j < 2 ^ 31 by omega), cl_n (show q < 2 ^ 31 by omega), if_pos (Or.inr hw)])⟩
        · skip
          refine a_aload_n X dX5_move_37 (i := 0) rfl rfl ?_
          refine a_ldc X dX5_move_38 kc_X5_119 ?_
          refine s_callV_R X dX5_move_40 lk_X5_67 ko_43 rfl rfl (c_X5_finds (k := 4) (by decide) (by decide +kernel)) ⟨Nat.le_of_ble_eq_true rfl, Nat.le_of_ble_eq_true rfl⟩ rfl rfl (Nat.le_of_ble_eq_true rfl) ⟨Nat.le_of_ble_eq_true rfl, Nat.le_of_ble_eq_true rfl⟩ ?_
          refine a_goto X dX5_move_43 (tgt := 59) (by decide) ?_
          refine a_iret X hA dX5_move_59 ?_
          first | exact ⟨_, _, _, _, _, rfl, rfl, md_find (ah_0 hR) (k := 4) (by decide +kernel) (by rw [sp_move, if_pos ⟨hc5, hc12⟩, cl_n (show j < 2 ^ 31 by omega), cl_n (show a < 2 ^ 31 by omega), if_neg (by rw [hw]; simp; omega)])⟩ | exact ⟨_, _, _, _, _, rfl, rfl, md_val (ah_u (ah_0 hR)) (by rw [sp_move, if_pos ⟨hc5, hc12⟩, cl_n (show j < 2 ^ 31 by omega), if_pos (by rw [hw]; simp)]; rw [cl_n (show a < 2 ^ 31 by omega)])⟩ | exact ⟨_, _, _, _, _, rfl, rfl, md_val (ah_u (ah_0 hR)) (by rw [sp_move, if_pos ⟨hc5, hc12⟩, cl_n (show j < 2 ^ 31 by omega), cl_n (show q < 2 ^ 31 by omega), if_pos (Or.inr hw)])⟩
    · skip
      try simp only [bI_0, Bool.not_eq_false] at hc12
      refine a_aload_n X dX5_move_15 (i := 0) rfl rfl ?_
      refine a_ldc X dX5_move_16 kc_X5_50 ?_
      refine s_callV_R X dX5_move_18 lk_X5_67 ko_43 rfl rfl (c_X5_finds (k := 0) (by decide) (by decide +kernel)) ⟨Nat.le_of_ble_eq_true rfl, Nat.le_of_ble_eq_true rfl⟩ rfl rfl (Nat.le_of_ble_eq_true rfl) ⟨Nat.le_of_ble_eq_true rfl, Nat.le_of_ble_eq_true rfl⟩ ?_
      refine a_iret X hA dX5_move_21 ?_
      exact ⟨_, _, _, _, _, rfl, rfl, md_find (ah_0 hR) (k := 0) (by decide +kernel) (by rw [sp_move, if_neg (by simp [*])])⟩
set_option maxRecDepth 100000 in
set_option maxHeartbeats 4000000 in
theorem c_X5_turn {l : Launch} {g : GG} {I : TI} {J : TJ} {F : TI} {w : Int64} {R : Nat → Nat} (hR : I 44 = nr R) (ok : okR R) {x y : Int32} : RV l g mX5_turn [.ref (ga g 43), .int x, .int y] I J F w (MdR I J F w (sp_turn R x y)) := by
  have hn10 := ok.1
  refine ct_start (M := mX5_turn) (by decide +kernel) (Nat.le_of_ble_eq_true rfl) ?_
  intro p e s m args below meth c A X hA
  have X : AX p s m args meth c g A cX5_turn 3 RX5 (Cond.code yX5_turn cX5_turn 3 (some .int)) (some .int) := X
  show AW p l e (rmM 2 43) s m args below meth c g A 3 0 0 (MQ below (CQ g (hp g I J F w) s.heap.size (fun vv0 hh0 => ∃ xx0 II0 JJ0 FF0 ww0, vv0 = some xx0 ∧ hh0 = hp g II0 JJ0 FF0 ww0 ∧ (MdR I J F w (sp_turn R x y)) xx0 II0 JJ0 FF0 ww0)) args s 0 0 A) 0 [some (.ref (ga g 43)), some (.int x), some (.int y)] [] (hp g I J F w)
  refine a_aload_n X dX5_turn_0 (i := 0) rfl rfl ?_
  refine a_iload_n X dX5_turn_1 (i := 1) rfl rfl ?_
  refine s_callV_R X dX5_turn_2 lk_X5_124 ko_43 rfl rfl (c_X5_isOne hR) ⟨Nat.le_of_ble_eq_true rfl, Nat.le_of_ble_eq_true rfl⟩ rfl rfl (Nat.le_of_ble_eq_true rfl) ⟨Nat.le_of_ble_eq_true rfl, Nat.le_of_ble_eq_true rfl⟩ ?_
  refine a_if_eq X dX5_turn_5 (tgt := 29) (by decide) (fun hc5 => ?_) (fun hc5 => ?_)
  · skip
    try simp only [bI_0, Bool.not_eq_false] at hc5
    refine a_aload_n X dX5_turn_29 (i := 0) rfl rfl ?_
    refine a_ldc X dX5_turn_30 kc_X5_50 ?_
    refine s_callV_R X dX5_turn_32 lk_X5_67 ko_43 rfl rfl (c_X5_finds (k := 0) (by decide) (by decide +kernel)) ⟨Nat.le_of_ble_eq_true rfl, Nat.le_of_ble_eq_true rfl⟩ rfl rfl (Nat.le_of_ble_eq_true rfl) ⟨Nat.le_of_ble_eq_true rfl, Nat.le_of_ble_eq_true rfl⟩ ?_
    refine a_iret X hA dX5_turn_35 ?_
    first | exact ⟨_, _, _, _, _, rfl, rfl, md_find (ah_0 hR) (k := 0) (by decide +kernel) (by rw [sp_turn, if_neg (by simp [*])])⟩ | exact ⟨_, _, _, _, _, rfl, rfl, md_val (ah_u (ah_0 hR)) (by rw [sp_turn, if_pos ⟨hc5, hc12⟩, cl_n (show j < 2 ^ 31 by omega), cl_n (show a < 2 ^ 31 by omega)]; rfl)⟩
  · skip
    try simp only [bI_0, Bool.not_eq_false] at hc5
    obtain ⟨a, ha, rfl⟩ := isM_t (by omega) hc5
    obtain ⟨g0, g1, g2, g3, g4, g5⟩ := ok.2.1 a ha
    refine a_iload_n X dX5_turn_8 (i := 2) rfl rfl ?_
    refine s_callS_R X dX5_turn_9 lk_X5_112 c_X5_isKind ⟨Nat.le_of_ble_eq_true rfl, Nat.le_of_ble_eq_true rfl⟩ rfl rfl (Nat.le_of_ble_eq_true rfl) ⟨Nat.le_of_ble_eq_true rfl, Nat.le_of_ble_eq_true rfl⟩ ?_
    refine a_if_eq X dX5_turn_12 (tgt := 29) (by decide) (fun hc12 => ?_) (fun hc12 => ?_)
    · skip
      try simp only [bI_0, Bool.not_eq_false] at hc12
      refine a_aload_n X dX5_turn_29 (i := 0) rfl rfl ?_
      refine a_ldc X dX5_turn_30 kc_X5_50 ?_
      refine s_callV_R X dX5_turn_32 lk_X5_67 ko_43 rfl rfl (c_X5_finds (k := 0) (by decide) (by decide +kernel)) ⟨Nat.le_of_ble_eq_true rfl, Nat.le_of_ble_eq_true rfl⟩ rfl rfl (Nat.le_of_ble_eq_true rfl) ⟨Nat.le_of_ble_eq_true rfl, Nat.le_of_ble_eq_true rfl⟩ ?_
      refine a_iret X hA dX5_turn_35 ?_
      first | exact ⟨_, _, _, _, _, rfl, rfl, md_find (ah_0 hR) (k := 0) (by decide +kernel) (by rw [sp_turn, if_neg (by simp [*])])⟩ | exact ⟨_, _, _, _, _, rfl, rfl, md_val (ah_u (ah_0 hR)) (by rw [sp_turn, if_pos ⟨hc5, hc12⟩, cl_n (show j < 2 ^ 31 by omega), cl_n (show a < 2 ^ 31 by omega)]; rfl)⟩
    · skip
      try simp only [bI_0, Bool.not_eq_false] at hc12
      obtain ⟨j, hj0, hj, rfl⟩ := inB_r (by decide) (by decide) hc12
      refine a_aload_n X dX5_turn_15 (i := 0) rfl rfl ?_
      refine a_iconst X dX5_turn_16 (v := nI 2) (by decide +kernel) ?_
      refine a_bipush X dX5_turn_17 (v := nI 6) (by decide +kernel) ?_
      refine a_iload_n X dX5_turn_19 (i := 1) rfl rfl ?_
      refine s_imulN X dX5_turn_20 ?_
      refine s_iaddN X dX5_turn_21 ?_
      refine a_iload_n X dX5_turn_22 (i := 2) rfl rfl ?_
      refine s_callV_R X dX5_turn_23 lk_X5_134 ko_43 rfl rfl (c_X5_becomes hR (by omega)) ⟨Nat.le_of_ble_eq_true rfl, Nat.le_of_ble_eq_true rfl⟩ rfl rfl (Nat.le_of_ble_eq_true rfl) ⟨Nat.le_of_ble_eq_true rfl, Nat.le_of_ble_eq_true rfl⟩ ?_
      refine a_goto X dX5_turn_26 (tgt := 35) (by decide) ?_
      refine a_iret X hA dX5_turn_35 ?_
      first | exact ⟨_, _, _, _, _, rfl, rfl, md_find (ah_0 hR) (k := 0) (by decide +kernel) (by rw [sp_turn, if_neg (by simp [*])])⟩ | exact ⟨_, _, _, _, _, rfl, rfl, md_val (ah_u (ah_0 hR)) (by rw [sp_turn, if_pos ⟨hc5, hc12⟩, cl_n (show j < 2 ^ 31 by omega), cl_n (show a < 2 ^ 31 by omega)]; rfl)⟩
set_option maxRecDepth 100000 in
set_option maxHeartbeats 4000000 in
theorem c_X5_as {l : Launch} {g : GG} {I : TI} {J : TJ} {F : TI} {w : Int64} {R : Nat → Nat} (hR : I 44 = nr R) (ok : okR R) {x y : Int32} : RV l g mX5_as [.ref (ga g 43), .int x, .int y] I J F w (MdR I J F w (sp_as R x y)) := by
  have hn10 := ok.1
  refine ct_start (M := mX5_as) (by decide +kernel) (Nat.le_of_ble_eq_true rfl) ?_
  intro p e s m args below meth c A X hA
  have X : AX p s m args meth c g A cX5_as 5 RX5 (Cond.code yX5_as cX5_as 5 (some .int)) (some .int) := X
  show AW p l e (rmM 2 43) s m args below meth c g A 5 0 0 (MQ below (CQ g (hp g I J F w) s.heap.size (fun vv0 hh0 => ∃ xx0 II0 JJ0 FF0 ww0, vv0 = some xx0 ∧ hh0 = hp g II0 JJ0 FF0 ww0 ∧ (MdR I J F w (sp_as R x y)) xx0 II0 JJ0 FF0 ww0)) args s 0 0 A) 0 [some (.ref (ga g 43)), some (.int x), some (.int y), none, none] [] (hp g I J F w)
  refine a_aload_n X dX5_as_0 (i := 0) rfl rfl ?_
  refine a_iload_n X dX5_as_1 (i := 1) rfl rfl ?_
  refine s_callV_R X dX5_as_2 lk_X5_124 ko_43 rfl rfl (c_X5_isOne hR) ⟨Nat.le_of_ble_eq_true rfl, Nat.le_of_ble_eq_true rfl⟩ rfl rfl (Nat.le_of_ble_eq_true rfl) ⟨Nat.le_of_ble_eq_true rfl, Nat.le_of_ble_eq_true rfl⟩ ?_
  refine a_if_eq X dX5_as_5 (tgt := 15) (by decide) (fun hc5 => ?_) (fun hc5 => ?_)
  · skip
    try simp only [bI_0, Bool.not_eq_false] at hc5
    refine a_aload_n X dX5_as_15 (i := 0) rfl rfl ?_
    refine a_ldc X dX5_as_16 kc_X5_50 ?_
    refine s_callV_R X dX5_as_18 lk_X5_67 ko_43 rfl rfl (c_X5_finds (k := 0) (by decide) (by decide +kernel)) ⟨Nat.le_of_ble_eq_true rfl, Nat.le_of_ble_eq_true rfl⟩ rfl rfl (Nat.le_of_ble_eq_true rfl) ⟨Nat.le_of_ble_eq_true rfl, Nat.le_of_ble_eq_true rfl⟩ ?_
    refine a_iret X hA dX5_as_21 ?_
    exact ⟨_, _, _, _, _, rfl, rfl, md_find (ah_0 hR) (k := 0) (by decide +kernel) (by rw [sp_as, if_neg (by simp [*])])⟩
  · skip
    try simp only [bI_0, Bool.not_eq_false] at hc5
    obtain ⟨a, ha, rfl⟩ := isM_t (by omega) hc5
    obtain ⟨g0, g1, g2, g3, g4, g5⟩ := ok.2.1 a ha
    refine a_iload_n X dX5_as_8 (i := 2) rfl rfl ?_
    refine s_callS_R X dX5_as_9 lk_X5_112 c_X5_isKind ⟨Nat.le_of_ble_eq_true rfl, Nat.le_of_ble_eq_true rfl⟩ rfl rfl (Nat.le_of_ble_eq_true rfl) ⟨Nat.le_of_ble_eq_true rfl, Nat.le_of_ble_eq_true rfl⟩ ?_
    refine a_if_ne X dX5_as_12 (tgt := 22) (by decide) (fun hc12 => ?_) (fun hc12 => ?_)
    · skip
      try simp only [bI_0, Bool.not_eq_false] at hc12
      obtain ⟨j, hj0, hj, rfl⟩ := inB_r (by decide) (by decide) hc12
      refine a_aload_n X dX5_as_22 (i := 0) rfl rfl ?_
      refine a_iload_n X dX5_as_23 (i := 1) rfl rfl ?_
      refine a_iconst X dX5_as_24 (v := nI 0) (by decide +kernel) ?_
      refine s_callV_R X dX5_as_25 lk_X5_55 ko_43 rfl rfl (c_X5_its hR (by omega)) ⟨Nat.le_of_ble_eq_true rfl, Nat.le_of_ble_eq_true rfl⟩ rfl rfl (Nat.le_of_ble_eq_true rfl) ⟨Nat.le_of_ble_eq_true rfl, Nat.le_of_ble_eq_true rfl⟩ ?_
      refine a_istore_n X dX5_as_28 (i := 3) rfl (by decide) rfl ?_
      refine a_iload_n X dX5_as_29 (i := 2) rfl rfl ?_
      refine a_if_eq X dX5_as_30 (tgt := 58) (by decide) (fun hc30 => ?_) (fun hc30 => ?_)
      · skip
        have hj0 : j = 0 := (nI_eq (by omega) (by decide)).mp (hc30.trans nI_0.symm)
        refine a_iconst X dX5_as_58 (v := nI 1) (by decide +kernel) ?_
        refine a_goto X dX5_as_59 (tgt := 63) (by decide) ?_
        refine a_istore X dX5_as_63 (by decide) rfl ?_
        refine a_iload X dX5_as_65 rfl ?_
        refine a_if_eq X dX5_as_67 (tgt := 79) (by decide) (fun hc67 => ?_) (fun hc67 => ?_)
        · skip
          refine a_aload_n X dX5_as_79 (i := 0) rfl rfl ?_
          refine a_ldc X dX5_as_80 kc_X5_137 ?_
          refine s_callV_R X dX5_as_82 lk_X5_67 ko_43 rfl rfl (c_X5_finds (k := 2) (by decide) (by decide +kernel)) ⟨Nat.le_of_ble_eq_true rfl, Nat.le_of_ble_eq_true rfl⟩ rfl rfl (Nat.le_of_ble_eq_true rfl) ⟨Nat.le_of_ble_eq_true rfl, Nat.le_of_ble_eq_true rfl⟩ ?_
          refine a_iret X hA dX5_as_85 ?_
          first | exact absurd hc67 (by decide +kernel) | exact absurd (by decide +kernel) hc67 | exact ⟨_, _, _, _, _, rfl, rfl, md_val (ah_0 hR) (by rw [sp_as, if_pos ⟨hc5, hc12⟩, cl_n (show j < 2 ^ 31 by omega), cl_n (show a < 2 ^ 31 by omega), if_pos (by unfold undB; simp only [Bool.or_eq_true, Bool.and_eq_true, decide_eq_true_eq]; omega)])⟩ | exact ⟨_, _, _, _, _, rfl, rfl, md_find (ah_0 hR) (k := 2) (by decide +kernel) (by rw [sp_as, if_pos ⟨hc5, hc12⟩, cl_n (show j < 2 ^ 31 by omega), cl_n (show a < 2 ^ 31 by omega), if_neg (by unfold undB; simp only [Bool.or_eq_true, Bool.and_eq_true, decide_eq_true_eq]; omega)])⟩
        · skip
          refine a_aload_n X dX5_as_70 (i := 0) rfl rfl ?_
          refine a_iload_n X dX5_as_71 (i := 1) rfl rfl ?_
          refine a_iconst X dX5_as_72 (v := nI 4) (by decide +kernel) ?_
          refine s_callV_R X dX5_as_73 lk_X5_55 ko_43 rfl rfl (c_X5_its hR (by omega)) ⟨Nat.le_of_ble_eq_true rfl, Nat.le_of_ble_eq_true rfl⟩ rfl rfl (Nat.le_of_ble_eq_true rfl) ⟨Nat.le_of_ble_eq_true rfl, Nat.le_of_ble_eq_true rfl⟩ ?_
          refine a_goto X dX5_as_76 (tgt := 85) (by decide) ?_
          refine a_iret X hA dX5_as_85 ?_
          first | exact absurd hc67 (by decide +kernel) | exact absurd (by decide +kernel) hc67 | exact ⟨_, _, _, _, _, rfl, rfl, md_val (ah_0 hR) (by rw [sp_as, if_pos ⟨hc5, hc12⟩, cl_n (show j < 2 ^ 31 by omega), cl_n (show a < 2 ^ 31 by omega), if_pos (by unfold undB; simp only [Bool.or_eq_true, Bool.and_eq_true, decide_eq_true_eq]; omega)])⟩ | exact ⟨_, _, _, _, _, rfl, rfl, md_find (ah_0 hR) (k := 2) (by decide +kernel) (by rw [sp_as, if_pos ⟨hc5, hc12⟩, cl_n (show j < 2 ^ 31 by omega), cl_n (show a < 2 ^ 31 by omega), if_neg (by unfold undB; simp only [Bool.or_eq_true, Bool.and_eq_true, decide_eq_true_eq]; omega)])⟩
      · skip
        have hj0 : ¬ j = 0 := fun z => hc30 (by rw [z]; exact nI_0)
        refine a_iload_n X dX5_as_33 (i := 2) rfl rfl ?_
        refine a_iload_n X dX5_as_34 (i := 3) rfl rfl ?_
        refine s_icmp_eqN X dX5_as_35 (tgt := 58) (by decide) (by omega) (by omega) (fun hc35 => ?_) (fun hc35 => ?_)
        · skip
          refine a_iconst X dX5_as_58 (v := nI 1) (by decide +kernel) ?_
          refine a_goto X dX5_as_59 (tgt := 63) (by decide) ?_
          refine a_istore X dX5_as_63 (by decide) rfl ?_
          refine a_iload X dX5_as_65 rfl ?_
          refine a_if_eq X dX5_as_67 (tgt := 79) (by decide) (fun hc67 => ?_) (fun hc67 => ?_)
          · skip
            refine a_aload_n X dX5_as_79 (i := 0) rfl rfl ?_
            refine a_ldc X dX5_as_80 kc_X5_137 ?_
            refine s_callV_R X dX5_as_82 lk_X5_67 ko_43 rfl rfl (c_X5_finds (k := 2) (by decide) (by decide +kernel)) ⟨Nat.le_of_ble_eq_true rfl, Nat.le_of_ble_eq_true rfl⟩ rfl rfl (Nat.le_of_ble_eq_true rfl) ⟨Nat.le_of_ble_eq_true rfl, Nat.le_of_ble_eq_true rfl⟩ ?_
            refine a_iret X hA dX5_as_85 ?_
            first | exact absurd hc67 (by decide +kernel) | exact absurd (by decide +kernel) hc67 | exact ⟨_, _, _, _, _, rfl, rfl, md_val (ah_0 hR) (by rw [sp_as, if_pos ⟨hc5, hc12⟩, cl_n (show j < 2 ^ 31 by omega), cl_n (show a < 2 ^ 31 by omega), if_pos (by unfold undB; simp only [Bool.or_eq_true, Bool.and_eq_true, decide_eq_true_eq]; omega)])⟩ | exact ⟨_, _, _, _, _, rfl, rfl, md_find (ah_0 hR) (k := 2) (by decide +kernel) (by rw [sp_as, if_pos ⟨hc5, hc12⟩, cl_n (show j < 2 ^ 31 by omega), cl_n (show a < 2 ^ 31 by omega), if_neg (by unfold undB; simp only [Bool.or_eq_true, Bool.and_eq_true, decide_eq_true_eq]; omega)])⟩
          · skip
            refine a_aload_n X dX5_as_70 (i := 0) rfl rfl ?_
            refine a_iload_n X dX5_as_71 (i := 1) rfl rfl ?_
            refine a_iconst X dX5_as_72 (v := nI 4) (by decide +kernel) ?_
            refine s_callV_R X dX5_as_73 lk_X5_55 ko_43 rfl rfl (c_X5_its hR (by omega)) ⟨Nat.le_of_ble_eq_true rfl, Nat.le_of_ble_eq_true rfl⟩ rfl rfl (Nat.le_of_ble_eq_true rfl) ⟨Nat.le_of_ble_eq_true rfl, Nat.le_of_ble_eq_true rfl⟩ ?_
            refine a_goto X dX5_as_76 (tgt := 85) (by decide) ?_
            refine a_iret X hA dX5_as_85 ?_
            first | exact absurd hc67 (by decide +kernel) | exact absurd (by decide +kernel) hc67 | exact ⟨_, _, _, _, _, rfl, rfl, md_val (ah_0 hR) (by rw [sp_as, if_pos ⟨hc5, hc12⟩, cl_n (show j < 2 ^ 31 by omega), cl_n (show a < 2 ^ 31 by omega), if_pos (by unfold undB; simp only [Bool.or_eq_true, Bool.and_eq_true, decide_eq_true_eq]; omega)])⟩ | exact ⟨_, _, _, _, _, rfl, rfl, md_find (ah_0 hR) (k := 2) (by decide +kernel) (by rw [sp_as, if_pos ⟨hc5, hc12⟩, cl_n (show j < 2 ^ 31 by omega), cl_n (show a < 2 ^ 31 by omega), if_neg (by unfold undB; simp only [Bool.or_eq_true, Bool.and_eq_true, decide_eq_true_eq]; omega)])⟩
        · skip
          refine a_iload_n X dX5_as_38 (i := 2) rfl rfl ?_
          refine a_iconst X dX5_as_39 (v := nI 1) (by decide +kernel) ?_
          refine s_icmp_neN X dX5_as_40 (tgt := 48) (by decide) (by omega) (by omega) (fun hc40 => ?_) (fun hc40 => ?_)
          · skip
            refine a_iload_n X dX5_as_48 (i := 2) rfl rfl ?_
            refine a_iconst X dX5_as_49 (v := nI 2) (by decide +kernel) ?_
            refine s_icmp_neN X dX5_as_50 (tgt := 62) (by decide) (by omega) (by omega) (fun hc50 => ?_) (fun hc50 => ?_)
            · skip
              refine a_iconst X dX5_as_62 (v := nI 0) (by decide +kernel) ?_
              refine a_istore X dX5_as_63 (by decide) rfl ?_
              refine a_iload X dX5_as_65 rfl ?_
              refine a_if_eq X dX5_as_67 (tgt := 79) (by decide) (fun hc67 => ?_) (fun hc67 => ?_)
              · skip
                refine a_aload_n X dX5_as_79 (i := 0) rfl rfl ?_
                refine a_ldc X dX5_as_80 kc_X5_137 ?_
                refine s_callV_R X dX5_as_82 lk_X5_67 ko_43 rfl rfl (c_X5_finds (k := 2) (by decide) (by decide +kernel)) ⟨Nat.le_of_ble_eq_true rfl, Nat.le_of_ble_eq_true rfl⟩ rfl rfl (Nat.le_of_ble_eq_true rfl) ⟨Nat.le_of_ble_eq_true rfl, Nat.le_of_ble_eq_true rfl⟩ ?_
                refine a_iret X hA dX5_as_85 ?_
                first | exact absurd hc67 (by decide +kernel) | exact absurd (by decide +kernel) hc67 | exact ⟨_, _, _, _, _, rfl, rfl, md_val (ah_0 hR) (by rw [sp_as, if_pos ⟨hc5, hc12⟩, cl_n (show j < 2 ^ 31 by omega), cl_n (show a < 2 ^ 31 by omega), if_pos (by unfold undB; simp only [Bool.or_eq_true, Bool.and_eq_true, decide_eq_true_eq]; omega)])⟩ | exact ⟨_, _, _, _, _, rfl, rfl, md_find (ah_0 hR) (k := 2) (by decide +kernel) (by rw [sp_as, if_pos ⟨hc5, hc12⟩, cl_n (show j < 2 ^ 31 by omega), cl_n (show a < 2 ^ 31 by omega), if_neg (by unfold undB; simp only [Bool.or_eq_true, Bool.and_eq_true, decide_eq_true_eq]; omega)])⟩
              · skip
                refine a_aload_n X dX5_as_70 (i := 0) rfl rfl ?_
                refine a_iload_n X dX5_as_71 (i := 1) rfl rfl ?_
                refine a_iconst X dX5_as_72 (v := nI 4) (by decide +kernel) ?_
                refine s_callV_R X dX5_as_73 lk_X5_55 ko_43 rfl rfl (c_X5_its hR (by omega)) ⟨Nat.le_of_ble_eq_true rfl, Nat.le_of_ble_eq_true rfl⟩ rfl rfl (Nat.le_of_ble_eq_true rfl) ⟨Nat.le_of_ble_eq_true rfl, Nat.le_of_ble_eq_true rfl⟩ ?_
                refine a_goto X dX5_as_76 (tgt := 85) (by decide) ?_
                refine a_iret X hA dX5_as_85 ?_
                first | exact absurd hc67 (by decide +kernel) | exact absurd (by decide +kernel) hc67 | exact ⟨_, _, _, _, _, rfl, rfl, md_val (ah_0 hR) (by rw [sp_as, if_pos ⟨hc5, hc12⟩, cl_n (show j < 2 ^ 31 by omega), cl_n (show a < 2 ^ 31 by omega), if_pos (by unfold undB; simp only [Bool.or_eq_true, Bool.and_eq_true, decide_eq_true_eq]; omega)])⟩ | exact ⟨_, _, _, _, _, rfl, rfl, md_find (ah_0 hR) (k := 2) (by decide +kernel) (by rw [sp_as, if_pos ⟨hc5, hc12⟩, cl_n (show j < 2 ^ 31 by omega), cl_n (show a < 2 ^ 31 by omega), if_neg (by unfold undB; simp only [Bool.or_eq_true, Bool.and_eq_true, decide_eq_true_eq]; omega)])⟩
            · skip
              refine a_iload_n X dX5_as_53 (i := 3) rfl rfl ?_
              refine a_iconst X dX5_as_54 (v := nI 5) (by decide +kernel) ?_
              refine s_icmp_neN X dX5_as_55 (tgt := 62) (by decide) (by omega) (by omega) (fun hc55 => ?_) (fun hc55 => ?_)
              · skip
                refine a_iconst X dX5_as_62 (v := nI 0) (by decide +kernel) ?_
                refine a_istore X dX5_as_63 (by decide) rfl ?_
                refine a_iload X dX5_as_65 rfl ?_
                refine a_if_eq X dX5_as_67 (tgt := 79) (by decide) (fun hc67 => ?_) (fun hc67 => ?_)
                · skip
                  refine a_aload_n X dX5_as_79 (i := 0) rfl rfl ?_
                  refine a_ldc X dX5_as_80 kc_X5_137 ?_
                  refine s_callV_R X dX5_as_82 lk_X5_67 ko_43 rfl rfl (c_X5_finds (k := 2) (by decide) (by decide +kernel)) ⟨Nat.le_of_ble_eq_true rfl, Nat.le_of_ble_eq_true rfl⟩ rfl rfl (Nat.le_of_ble_eq_true rfl) ⟨Nat.le_of_ble_eq_true rfl, Nat.le_of_ble_eq_true rfl⟩ ?_
                  refine a_iret X hA dX5_as_85 ?_
                  first | exact absurd hc67 (by decide +kernel) | exact absurd (by decide +kernel) hc67 | exact ⟨_, _, _, _, _, rfl, rfl, md_val (ah_0 hR) (by rw [sp_as, if_pos ⟨hc5, hc12⟩, cl_n (show j < 2 ^ 31 by omega), cl_n (show a < 2 ^ 31 by omega), if_pos (by unfold undB; simp only [Bool.or_eq_true, Bool.and_eq_true, decide_eq_true_eq]; omega)])⟩ | exact ⟨_, _, _, _, _, rfl, rfl, md_find (ah_0 hR) (k := 2) (by decide +kernel) (by rw [sp_as, if_pos ⟨hc5, hc12⟩, cl_n (show j < 2 ^ 31 by omega), cl_n (show a < 2 ^ 31 by omega), if_neg (by unfold undB; simp only [Bool.or_eq_true, Bool.and_eq_true, decide_eq_true_eq]; omega)])⟩
                · skip
                  refine a_aload_n X dX5_as_70 (i := 0) rfl rfl ?_
                  refine a_iload_n X dX5_as_71 (i := 1) rfl rfl ?_
                  refine a_iconst X dX5_as_72 (v := nI 4) (by decide +kernel) ?_
                  refine s_callV_R X dX5_as_73 lk_X5_55 ko_43 rfl rfl (c_X5_its hR (by omega)) ⟨Nat.le_of_ble_eq_true rfl, Nat.le_of_ble_eq_true rfl⟩ rfl rfl (Nat.le_of_ble_eq_true rfl) ⟨Nat.le_of_ble_eq_true rfl, Nat.le_of_ble_eq_true rfl⟩ ?_
                  refine a_goto X dX5_as_76 (tgt := 85) (by decide) ?_
                  refine a_iret X hA dX5_as_85 ?_
                  first | exact absurd hc67 (by decide +kernel) | exact absurd (by decide +kernel) hc67 | exact ⟨_, _, _, _, _, rfl, rfl, md_val (ah_0 hR) (by rw [sp_as, if_pos ⟨hc5, hc12⟩, cl_n (show j < 2 ^ 31 by omega), cl_n (show a < 2 ^ 31 by omega), if_pos (by unfold undB; simp only [Bool.or_eq_true, Bool.and_eq_true, decide_eq_true_eq]; omega)])⟩ | exact ⟨_, _, _, _, _, rfl, rfl, md_find (ah_0 hR) (k := 2) (by decide +kernel) (by rw [sp_as, if_pos ⟨hc5, hc12⟩, cl_n (show j < 2 ^ 31 by omega), cl_n (show a < 2 ^ 31 by omega), if_neg (by unfold undB; simp only [Bool.or_eq_true, Bool.and_eq_true, decide_eq_true_eq]; omega)])⟩
              · skip
                refine a_iconst X dX5_as_58 (v := nI 1) (by decide +kernel) ?_
                refine a_goto X dX5_as_59 (tgt := 63) (by decide) ?_
                refine a_istore X dX5_as_63 (by decide) rfl ?_
                refine a_iload X dX5_as_65 rfl ?_
                refine a_if_eq X dX5_as_67 (tgt := 79) (by decide) (fun hc67 => ?_) (fun hc67 => ?_)
                · skip
                  refine a_aload_n X dX5_as_79 (i := 0) rfl rfl ?_
                  refine a_ldc X dX5_as_80 kc_X5_137 ?_
                  refine s_callV_R X dX5_as_82 lk_X5_67 ko_43 rfl rfl (c_X5_finds (k := 2) (by decide) (by decide +kernel)) ⟨Nat.le_of_ble_eq_true rfl, Nat.le_of_ble_eq_true rfl⟩ rfl rfl (Nat.le_of_ble_eq_true rfl) ⟨Nat.le_of_ble_eq_true rfl, Nat.le_of_ble_eq_true rfl⟩ ?_
                  refine a_iret X hA dX5_as_85 ?_
                  first | exact absurd hc67 (by decide +kernel) | exact absurd (by decide +kernel) hc67 | exact ⟨_, _, _, _, _, rfl, rfl, md_val (ah_0 hR) (by rw [sp_as, if_pos ⟨hc5, hc12⟩, cl_n (show j < 2 ^ 31 by omega), cl_n (show a < 2 ^ 31 by omega), if_pos (by unfold undB; simp only [Bool.or_eq_true, Bool.and_eq_true, decide_eq_true_eq]; omega)])⟩ | exact ⟨_, _, _, _, _, rfl, rfl, md_find (ah_0 hR) (k := 2) (by decide +kernel) (by rw [sp_as, if_pos ⟨hc5, hc12⟩, cl_n (show j < 2 ^ 31 by omega), cl_n (show a < 2 ^ 31 by omega), if_neg (by unfold undB; simp only [Bool.or_eq_true, Bool.and_eq_true, decide_eq_true_eq]; omega)])⟩
                · skip
                  refine a_aload_n X dX5_as_70 (i := 0) rfl rfl ?_
                  refine a_iload_n X dX5_as_71 (i := 1) rfl rfl ?_
                  refine a_iconst X dX5_as_72 (v := nI 4) (by decide +kernel) ?_
                  refine s_callV_R X dX5_as_73 lk_X5_55 ko_43 rfl rfl (c_X5_its hR (by omega)) ⟨Nat.le_of_ble_eq_true rfl, Nat.le_of_ble_eq_true rfl⟩ rfl rfl (Nat.le_of_ble_eq_true rfl) ⟨Nat.le_of_ble_eq_true rfl, Nat.le_of_ble_eq_true rfl⟩ ?_
                  refine a_goto X dX5_as_76 (tgt := 85) (by decide) ?_
                  refine a_iret X hA dX5_as_85 ?_
                  first | exact absurd hc67 (by decide +kernel) | exact absurd (by decide +kernel) hc67 | exact ⟨_, _, _, _, _, rfl, rfl, md_val (ah_0 hR) (by rw [sp_as, if_pos ⟨hc5, hc12⟩, cl_n (show j < 2 ^ 31 by omega), cl_n (show a < 2 ^ 31 by omega), if_pos (by unfold undB; simp only [Bool.or_eq_true, Bool.and_eq_true, decide_eq_true_eq]; omega)])⟩ | exact ⟨_, _, _, _, _, rfl, rfl, md_find (ah_0 hR) (k := 2) (by decide +kernel) (by rw [sp_as, if_pos ⟨hc5, hc12⟩, cl_n (show j < 2 ^ 31 by omega), cl_n (show a < 2 ^ 31 by omega), if_neg (by unfold undB; simp only [Bool.or_eq_true, Bool.and_eq_true, decide_eq_true_eq]; omega)])⟩
          · skip
            refine a_iload_n X dX5_as_43 (i := 3) rfl rfl ?_
            refine a_iconst X dX5_as_44 (v := nI 4) (by decide +kernel) ?_
            refine s_icmp_eqN X dX5_as_45 (tgt := 58) (by decide) (by omega) (by omega) (fun hc45 => ?_) (fun hc45 => ?_)
            · skip
              refine a_iconst X dX5_as_58 (v := nI 1) (by decide +kernel) ?_
              refine a_goto X dX5_as_59 (tgt := 63) (by decide) ?_
              refine a_istore X dX5_as_63 (by decide) rfl ?_
              refine a_iload X dX5_as_65 rfl ?_
              refine a_if_eq X dX5_as_67 (tgt := 79) (by decide) (fun hc67 => ?_) (fun hc67 => ?_)
              · skip
                refine a_aload_n X dX5_as_79 (i := 0) rfl rfl ?_
                refine a_ldc X dX5_as_80 kc_X5_137 ?_
                refine s_callV_R X dX5_as_82 lk_X5_67 ko_43 rfl rfl (c_X5_finds (k := 2) (by decide) (by decide +kernel)) ⟨Nat.le_of_ble_eq_true rfl, Nat.le_of_ble_eq_true rfl⟩ rfl rfl (Nat.le_of_ble_eq_true rfl) ⟨Nat.le_of_ble_eq_true rfl, Nat.le_of_ble_eq_true rfl⟩ ?_
                refine a_iret X hA dX5_as_85 ?_
                first | exact absurd hc67 (by decide +kernel) | exact absurd (by decide +kernel) hc67 | exact ⟨_, _, _, _, _, rfl, rfl, md_val (ah_0 hR) (by rw [sp_as, if_pos ⟨hc5, hc12⟩, cl_n (show j < 2 ^ 31 by omega), cl_n (show a < 2 ^ 31 by omega), if_pos (by unfold undB; simp only [Bool.or_eq_true, Bool.and_eq_true, decide_eq_true_eq]; omega)])⟩ | exact ⟨_, _, _, _, _, rfl, rfl, md_find (ah_0 hR) (k := 2) (by decide +kernel) (by rw [sp_as, if_pos ⟨hc5, hc12⟩, cl_n (show j < 2 ^ 31 by omega), cl_n (show a < 2 ^ 31 by omega), if_neg (by unfold undB; simp only [Bool.or_eq_true, Bool.and_eq_true, decide_eq_true_eq]; omega)])⟩
              · skip
                refine a_aload_n X dX5_as_70 (i := 0) rfl rfl ?_
                refine a_iload_n X dX5_as_71 (i := 1) rfl rfl ?_
                refine a_iconst X dX5_as_72 (v := nI 4) (by decide +kernel) ?_
                refine s_callV_R X dX5_as_73 lk_X5_55 ko_43 rfl rfl (c_X5_its hR (by omega)) ⟨Nat.le_of_ble_eq_true rfl, Nat.le_of_ble_eq_true rfl⟩ rfl rfl (Nat.le_of_ble_eq_true rfl) ⟨Nat.le_of_ble_eq_true rfl, Nat.le_of_ble_eq_true rfl⟩ ?_
                refine a_goto X dX5_as_76 (tgt := 85) (by decide) ?_
                refine a_iret X hA dX5_as_85 ?_
                first | exact absurd hc67 (by decide +kernel) | exact absurd (by decide +kernel) hc67 | exact ⟨_, _, _, _, _, rfl, rfl, md_val (ah_0 hR) (by rw [sp_as, if_pos ⟨hc5, hc12⟩, cl_n (show j < 2 ^ 31 by omega), cl_n (show a < 2 ^ 31 by omega), if_pos (by unfold undB; simp only [Bool.or_eq_true, Bool.and_eq_true, decide_eq_true_eq]; omega)])⟩ | exact ⟨_, _, _, _, _, rfl, rfl, md_find (ah_0 hR) (k := 2) (by decide +kernel) (by rw [sp_as, if_pos ⟨hc5, hc12⟩, cl_n (show j < 2 ^ 31 by omega), cl_n (show a < 2 ^ 31 by omega), if_neg (by unfold undB; simp only [Bool.or_eq_true, Bool.and_eq_true, decide_eq_true_eq]; omega)])⟩
            · skip
              refine a_iload_n X dX5_as_48 (i := 2) rfl rfl ?_
              refine a_iconst X dX5_as_49 (v := nI 2) (by decide +kernel) ?_
              refine s_icmp_neN X dX5_as_50 (tgt := 62) (by decide) (by omega) (by omega) (fun hc50 => ?_) (fun hc50 => ?_)
              · skip
                refine a_iconst X dX5_as_62 (v := nI 0) (by decide +kernel) ?_
                refine a_istore X dX5_as_63 (by decide) rfl ?_
                refine a_iload X dX5_as_65 rfl ?_
                refine a_if_eq X dX5_as_67 (tgt := 79) (by decide) (fun hc67 => ?_) (fun hc67 => ?_)
                · skip
                  refine a_aload_n X dX5_as_79 (i := 0) rfl rfl ?_
                  refine a_ldc X dX5_as_80 kc_X5_137 ?_
                  refine s_callV_R X dX5_as_82 lk_X5_67 ko_43 rfl rfl (c_X5_finds (k := 2) (by decide) (by decide +kernel)) ⟨Nat.le_of_ble_eq_true rfl, Nat.le_of_ble_eq_true rfl⟩ rfl rfl (Nat.le_of_ble_eq_true rfl) ⟨Nat.le_of_ble_eq_true rfl, Nat.le_of_ble_eq_true rfl⟩ ?_
                  refine a_iret X hA dX5_as_85 ?_
                  first | exact absurd hc67 (by decide +kernel) | exact absurd (by decide +kernel) hc67 | exact ⟨_, _, _, _, _, rfl, rfl, md_val (ah_0 hR) (by rw [sp_as, if_pos ⟨hc5, hc12⟩, cl_n (show j < 2 ^ 31 by omega), cl_n (show a < 2 ^ 31 by omega), if_pos (by unfold undB; simp only [Bool.or_eq_true, Bool.and_eq_true, decide_eq_true_eq]; omega)])⟩ | exact ⟨_, _, _, _, _, rfl, rfl, md_find (ah_0 hR) (k := 2) (by decide +kernel) (by rw [sp_as, if_pos ⟨hc5, hc12⟩, cl_n (show j < 2 ^ 31 by omega), cl_n (show a < 2 ^ 31 by omega), if_neg (by unfold undB; simp only [Bool.or_eq_true, Bool.and_eq_true, decide_eq_true_eq]; omega)])⟩
                · skip
                  refine a_aload_n X dX5_as_70 (i := 0) rfl rfl ?_
                  refine a_iload_n X dX5_as_71 (i := 1) rfl rfl ?_
                  refine a_iconst X dX5_as_72 (v := nI 4) (by decide +kernel) ?_
                  refine s_callV_R X dX5_as_73 lk_X5_55 ko_43 rfl rfl (c_X5_its hR (by omega)) ⟨Nat.le_of_ble_eq_true rfl, Nat.le_of_ble_eq_true rfl⟩ rfl rfl (Nat.le_of_ble_eq_true rfl) ⟨Nat.le_of_ble_eq_true rfl, Nat.le_of_ble_eq_true rfl⟩ ?_
                  refine a_goto X dX5_as_76 (tgt := 85) (by decide) ?_
                  refine a_iret X hA dX5_as_85 ?_
                  first | exact absurd hc67 (by decide +kernel) | exact absurd (by decide +kernel) hc67 | exact ⟨_, _, _, _, _, rfl, rfl, md_val (ah_0 hR) (by rw [sp_as, if_pos ⟨hc5, hc12⟩, cl_n (show j < 2 ^ 31 by omega), cl_n (show a < 2 ^ 31 by omega), if_pos (by unfold undB; simp only [Bool.or_eq_true, Bool.and_eq_true, decide_eq_true_eq]; omega)])⟩ | exact ⟨_, _, _, _, _, rfl, rfl, md_find (ah_0 hR) (k := 2) (by decide +kernel) (by rw [sp_as, if_pos ⟨hc5, hc12⟩, cl_n (show j < 2 ^ 31 by omega), cl_n (show a < 2 ^ 31 by omega), if_neg (by unfold undB; simp only [Bool.or_eq_true, Bool.and_eq_true, decide_eq_true_eq]; omega)])⟩
              · skip
                refine a_iload_n X dX5_as_53 (i := 3) rfl rfl ?_
                refine a_iconst X dX5_as_54 (v := nI 5) (by decide +kernel) ?_
                refine s_icmp_neN X dX5_as_55 (tgt := 62) (by decide) (by omega) (by omega) (fun hc55 => ?_) (fun hc55 => ?_)
                · skip
                  refine a_iconst X dX5_as_62 (v := nI 0) (by decide +kernel) ?_
                  refine a_istore X dX5_as_63 (by decide) rfl ?_
                  refine a_iload X dX5_as_65 rfl ?_
                  refine a_if_eq X dX5_as_67 (tgt := 79) (by decide) (fun hc67 => ?_) (fun hc67 => ?_)
                  · skip
                    refine a_aload_n X dX5_as_79 (i := 0) rfl rfl ?_
                    refine a_ldc X dX5_as_80 kc_X5_137 ?_
                    refine s_callV_R X dX5_as_82 lk_X5_67 ko_43 rfl rfl (c_X5_finds (k := 2) (by decide) (by decide +kernel)) ⟨Nat.le_of_ble_eq_true rfl, Nat.le_of_ble_eq_true rfl⟩ rfl rfl (Nat.le_of_ble_eq_true rfl) ⟨Nat.le_of_ble_eq_true rfl, Nat.le_of_ble_eq_true rfl⟩ ?_
                    refine a_iret X hA dX5_as_85 ?_
                    first | exact absurd hc67 (by decide +kernel) | exact absurd (by decide +kernel) hc67 | exact ⟨_, _, _, _, _, rfl, rfl, md_val (ah_0 hR) (by rw [sp_as, if_pos ⟨hc5, hc12⟩, cl_n (show j < 2 ^ 31 by omega), cl_n (show a < 2 ^ 31 by omega), if_pos (by unfold undB; simp only [Bool.or_eq_true, Bool.and_eq_true, decide_eq_true_eq]; omega)])⟩ | exact ⟨_, _, _, _, _, rfl, rfl, md_find (ah_0 hR) (k := 2) (by decide +kernel) (by rw [sp_as, if_pos ⟨hc5, hc12⟩, cl_n (show j < 2 ^ 31 by omega), cl_n (show a < 2 ^ 31 by omega), if_neg (by unfold undB; simp only [Bool.or_eq_true, Bool.and_eq_true, decide_eq_true_eq]; omega)])⟩
                  · skip
                    refine a_aload_n X dX5_as_70 (i := 0) rfl rfl ?_
                    refine a_iload_n X dX5_as_71 (i := 1) rfl rfl ?_
                    refine a_iconst X dX5_as_72 (v := nI 4) (by decide +kernel) ?_
                    refine s_callV_R X dX5_as_73 lk_X5_55 ko_43 rfl rfl (c_X5_its hR (by omega)) ⟨Nat.le_of_ble_eq_true rfl, Nat.le_of_ble_eq_true rfl⟩ rfl rfl (Nat.le_of_ble_eq_true rfl) ⟨Nat.le_of_ble_eq_true rfl, Nat.le_of_ble_eq_true rfl⟩ ?_
                    refine a_goto X dX5_as_76 (tgt := 85) (by decide) ?_
                    refine a_iret X hA dX5_as_85 ?_
                    first | exact absurd hc67 (by decide +kernel) | exact absurd (by decide +kernel) hc67 | exact ⟨_, _, _, _, _, rfl, rfl, md_val (ah_0 hR) (by rw [sp_as, if_pos ⟨hc5, hc12⟩, cl_n (show j < 2 ^ 31 by omega), cl_n (show a < 2 ^ 31 by omega), if_pos (by unfold undB; simp only [Bool.or_eq_true, Bool.and_eq_true, decide_eq_true_eq]; omega)])⟩ | exact ⟨_, _, _, _, _, rfl, rfl, md_find (ah_0 hR) (k := 2) (by decide +kernel) (by rw [sp_as, if_pos ⟨hc5, hc12⟩, cl_n (show j < 2 ^ 31 by omega), cl_n (show a < 2 ^ 31 by omega), if_neg (by unfold undB; simp only [Bool.or_eq_true, Bool.and_eq_true, decide_eq_true_eq]; omega)])⟩
                · skip
                  refine a_iconst X dX5_as_58 (v := nI 1) (by decide +kernel) ?_
                  refine a_goto X dX5_as_59 (tgt := 63) (by decide) ?_
                  refine a_istore X dX5_as_63 (by decide) rfl ?_
                  refine a_iload X dX5_as_65 rfl ?_
                  refine a_if_eq X dX5_as_67 (tgt := 79) (by decide) (fun hc67 => ?_) (fun hc67 => ?_)
                  · skip
                    refine a_aload_n X dX5_as_79 (i := 0) rfl rfl ?_
                    refine a_ldc X dX5_as_80 kc_X5_137 ?_
                    refine s_callV_R X dX5_as_82 lk_X5_67 ko_43 rfl rfl (c_X5_finds (k := 2) (by decide) (by decide +kernel)) ⟨Nat.le_of_ble_eq_true rfl, Nat.le_of_ble_eq_true rfl⟩ rfl rfl (Nat.le_of_ble_eq_true rfl) ⟨Nat.le_of_ble_eq_true rfl, Nat.le_of_ble_eq_true rfl⟩ ?_
                    refine a_iret X hA dX5_as_85 ?_
                    first | exact absurd hc67 (by decide +kernel) | exact absurd (by decide +kernel) hc67 | exact ⟨_, _, _, _, _, rfl, rfl, md_val (ah_0 hR) (by rw [sp_as, if_pos ⟨hc5, hc12⟩, cl_n (show j < 2 ^ 31 by omega), cl_n (show a < 2 ^ 31 by omega), if_pos (by unfold undB; simp only [Bool.or_eq_true, Bool.and_eq_true, decide_eq_true_eq]; omega)])⟩ | exact ⟨_, _, _, _, _, rfl, rfl, md_find (ah_0 hR) (k := 2) (by decide +kernel) (by rw [sp_as, if_pos ⟨hc5, hc12⟩, cl_n (show j < 2 ^ 31 by omega), cl_n (show a < 2 ^ 31 by omega), if_neg (by unfold undB; simp only [Bool.or_eq_true, Bool.and_eq_true, decide_eq_true_eq]; omega)])⟩
                  · skip
                    refine a_aload_n X dX5_as_70 (i := 0) rfl rfl ?_
                    refine a_iload_n X dX5_as_71 (i := 1) rfl rfl ?_
                    refine a_iconst X dX5_as_72 (v := nI 4) (by decide +kernel) ?_
                    refine s_callV_R X dX5_as_73 lk_X5_55 ko_43 rfl rfl (c_X5_its hR (by omega)) ⟨Nat.le_of_ble_eq_true rfl, Nat.le_of_ble_eq_true rfl⟩ rfl rfl (Nat.le_of_ble_eq_true rfl) ⟨Nat.le_of_ble_eq_true rfl, Nat.le_of_ble_eq_true rfl⟩ ?_
                    refine a_goto X dX5_as_76 (tgt := 85) (by decide) ?_
                    refine a_iret X hA dX5_as_85 ?_
                    first | exact absurd hc67 (by decide +kernel) | exact absurd (by decide +kernel) hc67 | exact ⟨_, _, _, _, _, rfl, rfl, md_val (ah_0 hR) (by rw [sp_as, if_pos ⟨hc5, hc12⟩, cl_n (show j < 2 ^ 31 by omega), cl_n (show a < 2 ^ 31 by omega), if_pos (by unfold undB; simp only [Bool.or_eq_true, Bool.and_eq_true, decide_eq_true_eq]; omega)])⟩ | exact ⟨_, _, _, _, _, rfl, rfl, md_find (ah_0 hR) (k := 2) (by decide +kernel) (by rw [sp_as, if_pos ⟨hc5, hc12⟩, cl_n (show j < 2 ^ 31 by omega), cl_n (show a < 2 ^ 31 by omega), if_neg (by unfold undB; simp only [Bool.or_eq_true, Bool.and_eq_true, decide_eq_true_eq]; omega)])⟩
    · skip
      try simp only [bI_0, Bool.not_eq_false] at hc12
      refine a_aload_n X dX5_as_15 (i := 0) rfl rfl ?_
      refine a_ldc X dX5_as_16 kc_X5_50 ?_
      refine s_callV_R X dX5_as_18 lk_X5_67 ko_43 rfl rfl (c_X5_finds (k := 0) (by decide) (by decide +kernel)) ⟨Nat.le_of_ble_eq_true rfl, Nat.le_of_ble_eq_true rfl⟩ rfl rfl (Nat.le_of_ble_eq_true rfl) ⟨Nat.le_of_ble_eq_true rfl, Nat.le_of_ble_eq_true rfl⟩ ?_
      refine a_iret X hA dX5_as_21 ?_
      exact ⟨_, _, _, _, _, rfl, rfl, md_find (ah_0 hR) (k := 0) (by decide +kernel) (by rw [sp_as, if_neg (by simp [*])])⟩
set_option maxRecDepth 100000 in
set_option maxHeartbeats 4000000 in
theorem c_X5_nights {l : Launch} {g : GG} {I : TI} {J : TJ} {F : TI} {w : Int64} {R : Nat → Nat} (hR : I 44 = nr R) (ok : okR R) {x : Int32} (hN : R 0 ≤ 99999) : RV l g mX5_nights [.ref (ga g 43), .int x] I J F w (MdR I J F w (sp_nights R x)) := by
  have hn10 := ok.1
  refine ct_start (M := mX5_nights) (by decide +kernel) (Nat.le_of_ble_eq_true rfl) ?_
  intro p e s m args below meth c A X hA
  have X : AX p s m args meth c g A cX5_nights 2 RX5 (Cond.code yX5_nights cX5_nights 2 (some .int)) (some .int) := X
  show AW p l e (rmM 7 159) s m args below meth c g A 2 0 0 (MQ below (CQ g (hp g I J F w) s.heap.size (fun vv0 hh0 => ∃ xx0 II0 JJ0 FF0 ww0, vv0 = some xx0 ∧ hh0 = hp g II0 JJ0 FF0 ww0 ∧ (MdR I J F w (sp_nights R x)) xx0 II0 JJ0 FF0 ww0)) args s 0 0 A) 0 [some (.ref (ga g 43)), some (.int x)] [] (hp g I J F w)
  refine a_iload_n X dX5_nights_0 (i := 1) rfl rfl ?_
  refine a_iconst X dX5_nights_1 (v := nI 1) (by decide +kernel) ?_
  refine a_bipush X dX5_nights_2 (v := nI 60) (by decide +kernel) ?_
  refine s_callS_R X dX5_nights_4 lk_X5_51 c_X5_in ⟨Nat.le_of_ble_eq_true rfl, Nat.le_of_ble_eq_true rfl⟩ rfl rfl (Nat.le_of_ble_eq_true rfl) ⟨Nat.le_of_ble_eq_true rfl, Nat.le_of_ble_eq_true rfl⟩ ?_
  refine a_if_ne X dX5_nights_7 (tgt := 17) (by decide) (fun hc7 => ?_) (fun hc7 => ?_)
  · skip
    try simp only [bI_0, Bool.not_eq_false] at hc7
    obtain ⟨j, hj0, hj, rfl⟩ := inB_r (by decide) (by decide) hc7
    refine a_aload_n X dX5_nights_17 (i := 0) rfl rfl ?_
    refine s_getr X dX5_nights_18 fl_X5_7 ko_43 rfl ?_
    refine a_iconst X dX5_nights_21 (v := nI 0) (by decide +kernel) ?_
    refine s_ild X dX5_nights_22 ki_44 (by omega) (by decide) ?_
    rw [show I 44 0 = nI (R 0) from by rw [hR]; rfl]
    refine a_iload_n X dX5_nights_23 (i := 1) rfl rfl ?_
    refine s_iaddN X dX5_nights_24 ?_
    refine a_ldc X dX5_nights_25 kc_X5_151 ?_
    rw [show (99999 : Int32) = nI 99999 from by decide +kernel]
    refine s_icmp_leN X dX5_nights_27 (tgt := 37) (by decide) (by omega) (by omega) (fun hc27 => ?_) (fun hc27 => ?_)
    · skip
      refine a_aload_n X dX5_nights_37 (i := 0) rfl rfl ?_
      refine a_iload_n X dX5_nights_38 (i := 1) rfl rfl ?_
      refine s_callV_Y X dX5_nights_39 lk_X5_152 ko_43 rfl rfl (c_X5_passes hR ok (by omega)) ⟨Nat.le_of_ble_eq_true rfl, Nat.le_of_ble_eq_true rfl⟩ rfl rfl (Nat.le_of_ble_eq_true rfl) ⟨Nat.le_of_ble_eq_true rfl, Nat.le_of_ble_eq_true rfl⟩ (fun I2 J2 F2 w2 hpo => ?_)
      have K := ah_m (ah_0 hR) hpo
      obtain ⟨e1, e2, rfl, rfl, rfl⟩ := hpo
      refine a_aload_n X dX5_nights_42 (i := 0) rfl rfl ?_
      refine s_callV_R X dX5_nights_43 lk_X5_83 ko_43 rfl rfl (c_X5_known e1 (by rw [pas_1]; exact ok.1)) ⟨Nat.le_of_ble_eq_true rfl, Nat.le_of_ble_eq_true rfl⟩ rfl rfl (Nat.le_of_ble_eq_true rfl) ⟨Nat.le_of_ble_eq_true rfl, Nat.le_of_ble_eq_true rfl⟩ ?_
      refine a_iret X hA dX5_nights_46 ?_
      exact ⟨_, _, _, _, _, rfl, rfl, md_val (K) (by rw [sp_nights, if_pos hc7, cl_n (show j < 2 ^ 31 by omega), if_pos (by omega)]; rfl)⟩
    · skip
      refine a_aload_n X dX5_nights_30 (i := 0) rfl rfl ?_
      refine a_ldc X dX5_nights_31 kc_X5_119 ?_
      refine s_callV_R X dX5_nights_33 lk_X5_67 ko_43 rfl rfl (c_X5_finds (k := 4) (by decide) (by decide +kernel)) ⟨Nat.le_of_ble_eq_true rfl, Nat.le_of_ble_eq_true rfl⟩ rfl rfl (Nat.le_of_ble_eq_true rfl) ⟨Nat.le_of_ble_eq_true rfl, Nat.le_of_ble_eq_true rfl⟩ ?_
      refine a_iret X hA dX5_nights_36 ?_
      exact ⟨_, _, _, _, _, rfl, rfl, md_find (ah_0 hR) (k := 4) (by decide +kernel) (by rw [sp_nights, if_pos hc7, cl_n (show j < 2 ^ 31 by omega), if_neg (by omega)])⟩
  · skip
    try simp only [bI_0, Bool.not_eq_false] at hc7
    refine a_aload_n X dX5_nights_10 (i := 0) rfl rfl ?_
    refine a_ldc X dX5_nights_11 kc_X5_50 ?_
    refine s_callV_R X dX5_nights_13 lk_X5_67 ko_43 rfl rfl (c_X5_finds (k := 0) (by decide) (by decide +kernel)) ⟨Nat.le_of_ble_eq_true rfl, Nat.le_of_ble_eq_true rfl⟩ rfl rfl (Nat.le_of_ble_eq_true rfl) ⟨Nat.le_of_ble_eq_true rfl, Nat.le_of_ble_eq_true rfl⟩ ?_
    refine a_iret X hA dX5_nights_16 ?_
    exact ⟨_, _, _, _, _, rfl, rfl, md_find (ah_0 hR) (k := 0) (by decide +kernel) (by rw [sp_nights, if_neg (by rw [hc7]; decide)])⟩
set_option maxRecDepth 100000 in
set_option maxHeartbeats 4000000 in
theorem c_X5_on {l : Launch} {g : GG} {I : TI} {J : TJ} {F : TI} {w : Int64} {R : Nat → Nat} (hR : I 44 = nr R) (ok : okR R) {x y z : Int32} (hN : R 0 < 1000000) : RV l g mX5_on [.ref (ga g 43), .int x, .int y, .int z] I J F w (MdR I J F w (sp_on R x y z)) := by
  have hn10 := ok.1
  refine ct_start (M := mX5_on) (by decide +kernel) (Nat.le_of_ble_eq_true rfl) ?_
  intro p e s m args below meth c A X hA
  have X : AX p s m args meth c g A cX5_on 5 RX5 (Cond.code yX5_on cX5_on 5 (some .int)) (some .int) := X
  show AW p l e (rmM 7 159) s m args below meth c g A 5 0 0 (MQ below (CQ g (hp g I J F w) s.heap.size (fun vv0 hh0 => ∃ xx0 II0 JJ0 FF0 ww0, vv0 = some xx0 ∧ hh0 = hp g II0 JJ0 FF0 ww0 ∧ (MdR I J F w (sp_on R x y z)) xx0 II0 JJ0 FF0 ww0)) args s 0 0 A) 0 [some (.ref (ga g 43)), some (.int x), some (.int y), some (.int z), none] [] (hp g I J F w)
  refine a_aload_n X dX5_on_0 (i := 0) rfl rfl ?_
  refine a_iload_n X dX5_on_1 (i := 1) rfl rfl ?_
  refine s_callV_R X dX5_on_2 lk_X5_124 ko_43 rfl rfl (c_X5_isOne hR) ⟨Nat.le_of_ble_eq_true rfl, Nat.le_of_ble_eq_true rfl⟩ rfl rfl (Nat.le_of_ble_eq_true rfl) ⟨Nat.le_of_ble_eq_true rfl, Nat.le_of_ble_eq_true rfl⟩ ?_
  refine a_if_eq X dX5_on_5 (tgt := 27) (by decide) (fun hc5 => ?_) (fun hc5 => ?_)
  · skip
    try simp only [bI_0, Bool.not_eq_false] at hc5
    refine a_aload_n X dX5_on_27 (i := 0) rfl rfl ?_
    refine a_ldc X dX5_on_28 kc_X5_50 ?_
    refine s_callV_R X dX5_on_30 lk_X5_67 ko_43 rfl rfl (c_X5_finds (k := 0) (by decide) (by decide +kernel)) ⟨Nat.le_of_ble_eq_true rfl, Nat.le_of_ble_eq_true rfl⟩ rfl rfl (Nat.le_of_ble_eq_true rfl) ⟨Nat.le_of_ble_eq_true rfl, Nat.le_of_ble_eq_true rfl⟩ ?_
    refine a_iret X hA dX5_on_33 ?_
    exact ⟨_, _, _, _, _, rfl, rfl, md_find (ah_0 hR) (k := 0) (by decide +kernel) (by rw [sp_on, if_neg (by simp [*])])⟩
  · skip
    try simp only [bI_0, Bool.not_eq_false] at hc5
    obtain ⟨a, ha, rfl⟩ := isM_t (by omega) hc5
    obtain ⟨g0, g1, g2, g3, g4, g5⟩ := ok.2.1 a ha
    refine a_iload_n X dX5_on_8 (i := 2) rfl rfl ?_
    refine a_iconst X dX5_on_9 (v := nI 0) (by decide +kernel) ?_
    refine a_bipush X dX5_on_10 (v := nI 100) (by decide +kernel) ?_
    refine s_callS_R X dX5_on_12 lk_X5_51 c_X5_in ⟨Nat.le_of_ble_eq_true rfl, Nat.le_of_ble_eq_true rfl⟩ rfl rfl (Nat.le_of_ble_eq_true rfl) ⟨Nat.le_of_ble_eq_true rfl, Nat.le_of_ble_eq_true rfl⟩ ?_
    refine a_if_eq X dX5_on_15 (tgt := 27) (by decide) (fun hc15 => ?_) (fun hc15 => ?_)
    · skip
      try simp only [bI_0, Bool.not_eq_false] at hc15
      refine a_aload_n X dX5_on_27 (i := 0) rfl rfl ?_
      refine a_ldc X dX5_on_28 kc_X5_50 ?_
      refine s_callV_R X dX5_on_30 lk_X5_67 ko_43 rfl rfl (c_X5_finds (k := 0) (by decide) (by decide +kernel)) ⟨Nat.le_of_ble_eq_true rfl, Nat.le_of_ble_eq_true rfl⟩ rfl rfl (Nat.le_of_ble_eq_true rfl) ⟨Nat.le_of_ble_eq_true rfl, Nat.le_of_ble_eq_true rfl⟩ ?_
      refine a_iret X hA dX5_on_33 ?_
      exact ⟨_, _, _, _, _, rfl, rfl, md_find (ah_0 hR) (k := 0) (by decide +kernel) (by rw [sp_on, if_neg (by simp [*])])⟩
    · skip
      try simp only [bI_0, Bool.not_eq_false] at hc15
      obtain ⟨j, hj0, hj, rfl⟩ := inB_r (by decide) (by decide) hc15
      refine a_iload_n X dX5_on_18 (i := 3) rfl rfl ?_
      refine a_iconst X dX5_on_19 (v := nI 0) (by decide +kernel) ?_
      refine a_iconst X dX5_on_20 (v := nI 1) (by decide +kernel) ?_
      refine s_callS_R X dX5_on_21 lk_X5_51 c_X5_in ⟨Nat.le_of_ble_eq_true rfl, Nat.le_of_ble_eq_true rfl⟩ rfl rfl (Nat.le_of_ble_eq_true rfl) ⟨Nat.le_of_ble_eq_true rfl, Nat.le_of_ble_eq_true rfl⟩ ?_
      refine a_if_ne X dX5_on_24 (tgt := 34) (by decide) (fun hc24 => ?_) (fun hc24 => ?_)
      · skip
        try simp only [bI_0, Bool.not_eq_false] at hc24
        obtain ⟨b, hb0, hb, rfl⟩ := inB_r (by decide) (by decide) hc24
        refine a_aload_n X dX5_on_34 (i := 0) rfl rfl ?_
        refine a_iconst X dX5_on_35 (v := nI 1) (by decide +kernel) ?_
        refine a_aload_n X dX5_on_36 (i := 0) rfl rfl ?_
        refine s_getr X dX5_on_37 fl_X5_22 ko_43 rfl ?_
        refine s_callV_V X dX5_on_40 lk_X5_156 ko_43 rfl rfl (c_X5_moveAll_t ki_48 (by decide)) ⟨Nat.le_of_ble_eq_true rfl, Nat.le_of_ble_eq_true rfl⟩ rfl rfl (Nat.le_of_ble_eq_true rfl) ⟨Nat.le_of_ble_eq_true rfl, Nat.le_of_ble_eq_true rfl⟩ ?_
        have K := ahk_0 (Q := 48) hR (by decide)
        refine a_aload_n X dX5_on_43 (i := 0) rfl rfl ?_
        refine a_iload_n X dX5_on_44 (i := 2) rfl rfl ?_
        refine s_callV_Y X dX5_on_45 lk_X5_152 ko_43 rfl rfl (c_X5_passes K.1 ok (by omega)) ⟨Nat.le_of_ble_eq_true rfl, Nat.le_of_ble_eq_true rfl⟩ rfl rfl (Nat.le_of_ble_eq_true rfl) ⟨Nat.le_of_ble_eq_true rfl, Nat.le_of_ble_eq_true rfl⟩ (fun I2 J2 F2 w2 hpo => ?_)
        have K2 := ahk_m K (Or.inl rfl) hpo
        obtain ⟨e1, e2, rfl, rfl, rfl⟩ := hpo
        refine a_aload_n X dX5_on_48 (i := 0) rfl rfl ?_
        refine a_iload_n X dX5_on_49 (i := 1) rfl rfl ?_
        refine a_iconst X dX5_on_50 (v := nI 4) (by decide +kernel) ?_
        refine a_iload_n X dX5_on_51 (i := 3) rfl rfl ?_
        refine s_iaddN X dX5_on_52 ?_
        refine s_callV_R X dX5_on_53 lk_X5_55 ko_43 rfl rfl (c_X5_its K2.1 (by omega)) ⟨Nat.le_of_ble_eq_true rfl, Nat.le_of_ble_eq_true rfl⟩ rfl rfl (Nat.le_of_ble_eq_true rfl) ⟨Nat.le_of_ble_eq_true rfl, Nat.le_of_ble_eq_true rfl⟩ ?_
        refine a_istore X dX5_on_56 (by decide) rfl ?_
        refine a_aload_n X dX5_on_58 (i := 0) rfl rfl ?_
        refine a_iconst X dX5_on_59 (v := nI 0) (by decide +kernel) ?_
        refine a_aload_n X dX5_on_60 (i := 0) rfl rfl ?_
        refine s_getr X dX5_on_61 fl_X5_22 ko_43 rfl ?_
        refine s_callV_V X dX5_on_64 lk_X5_156 ko_43 rfl rfl (c_X5_moveAll_f K2.1 ki_48 (by decide) K2.2.1 (fun k hk => (ok.2.2.2 k hk).trans ((okR_pas ok j).2.2.2 k hk).symm)) ⟨Nat.le_of_ble_eq_true rfl, Nat.le_of_ble_eq_true rfl⟩ rfl rfl (Nat.le_of_ble_eq_true rfl) ⟨Nat.le_of_ble_eq_true rfl, Nat.le_of_ble_eq_true rfl⟩ ?_
        refine a_iload X dX5_on_67 rfl ?_
        refine a_iret X hA dX5_on_69 ?_
        exact ⟨_, _, _, _, _, rfl, rfl, md_val ((ahk_u K2 (by decide)).S (Or.inl rfl)) (by rw [sp_on, if_pos ⟨hc5, hc15, hc24⟩, cl_n (show j < 2 ^ 31 by omega), cl_n (show a < 2 ^ 31 by omega), cl_n (show b < 2 ^ 31 by omega)])⟩
      · skip
        try simp only [bI_0, Bool.not_eq_false] at hc24
        refine a_aload_n X dX5_on_27 (i := 0) rfl rfl ?_
        refine a_ldc X dX5_on_28 kc_X5_50 ?_
        refine s_callV_R X dX5_on_30 lk_X5_67 ko_43 rfl rfl (c_X5_finds (k := 0) (by decide) (by decide +kernel)) ⟨Nat.le_of_ble_eq_true rfl, Nat.le_of_ble_eq_true rfl⟩ rfl rfl (Nat.le_of_ble_eq_true rfl) ⟨Nat.le_of_ble_eq_true rfl, Nat.le_of_ble_eq_true rfl⟩ ?_
        refine a_iret X hA dX5_on_33 ?_
        exact ⟨_, _, _, _, _, rfl, rfl, md_find (ah_0 hR) (k := 0) (by decide +kernel) (by rw [sp_on, if_neg (by simp [*])])⟩
set_option maxRecDepth 100000 in
set_option maxHeartbeats 4000000 in
theorem c_X5_count {l : Launch} {g : GG} {I : TI} {J : TJ} {F : TI} {w : Int64} {R : Nat → Nat} (hR : I 44 = nr R) (ok : okR R) {x : Int32} : RV l g mX5_count [.ref (ga g 43), .int x] I J F w (MdR I J F w (sp_count R (F 43 7) x)) := by
  have hn10 := ok.1
  have h1 : I 44 1 = nI (R 1) := by rw [hR]; rfl
  refine ct_start (M := mX5_count) (by decide +kernel) (Nat.le_of_ble_eq_true rfl) ?_
  intro p e s m args below meth c A X hA
  have X : AX p s m args meth c g A cX5_count 2 RX5 (Cond.code yX5_count cX5_count 2 (some .int)) (some .int) := X
  show AW p l e (rmM 2 45) s m args below meth c g A 2 0 0 (MQ below (CQ g (hp g I J F w) s.heap.size (fun vv0 hh0 => ∃ xx0 II0 JJ0 FF0 ww0, vv0 = some xx0 ∧ hh0 = hp g II0 JJ0 FF0 ww0 ∧ (MdR I J F w (sp_count R (F 43 7) x)) xx0 II0 JJ0 FF0 ww0)) args s 0 0 A) 0 [some (.ref (ga g 43)), some (.int x)] [] (hp g I J F w)
  refine a_iload_n X dX5_count_0 (i := 1) rfl rfl ?_
  by_cases hs1_0 : x = nI 0
  · skip
    refine a_tsIn X dX5_count_1 (by rw [hs1_0]; decide +kernel) (by rw [hs1_0]; decide +kernel) (off := 31) (by rw [hs1_0]; decide +kernel) (tgt := 32) (by decide) ?_
    refine a_aload_n X dX5_count_32 (i := 0) rfl rfl ?_
    refine s_getr X dX5_count_33 fl_X5_7 ko_43 rfl ?_
    refine a_iconst X dX5_count_36 (v := nI 1) (by decide +kernel) ?_
    refine s_ild X dX5_count_37 ki_44 (by omega) (by decide) ?_
    rw [h1]
    refine a_iret X hA dX5_count_38 ?_
    exact ⟨_, _, _, _, _, rfl, rfl, md_val (ah_0 hR) (by rw [sp_count, if_pos hs1_0])⟩
  · skip
    by_cases hs1_1 : x = nI 1
    · skip
      refine a_tsIn X dX5_count_1 (by rw [hs1_1]; decide +kernel) (by rw [hs1_1]; decide +kernel) (off := 38) (by rw [hs1_1]; decide +kernel) (tgt := 39) (by decide) ?_
      refine a_aload_n X dX5_count_39 (i := 0) rfl rfl ?_
      refine s_geti X dX5_count_40 fl_X5_173 ko_43 rfl ?_
      refine a_iret X hA dX5_count_43 ?_
      exact ⟨_, _, _, _, _, rfl, rfl, md_val (ah_0 hR) (by rw [sp_count, if_neg hs1_0, if_pos hs1_1])⟩
    · skip
      by_cases hs1_2 : x = nI 2
      · skip
        refine a_tsIn X dX5_count_1 (by rw [hs1_2]; decide +kernel) (by rw [hs1_2]; decide +kernel) (off := 43) (by rw [hs1_2]; decide +kernel) (tgt := 44) (by decide) ?_
        refine a_aload_n X dX5_count_44 (i := 0) rfl rfl ?_
        refine a_iconst X dX5_count_45 (v := nI 3) (by decide +kernel) ?_
        refine s_callV_R X dX5_count_46 lk_X5_89 ko_43 rfl rfl (c_X5_sumOf hR (by decide) ok.1) ⟨Nat.le_of_ble_eq_true rfl, Nat.le_of_ble_eq_true rfl⟩ rfl rfl (Nat.le_of_ble_eq_true rfl) ⟨Nat.le_of_ble_eq_true rfl, Nat.le_of_ble_eq_true rfl⟩ ?_
        refine a_iret X hA dX5_count_49 ?_
        exact ⟨_, _, _, _, _, rfl, rfl, md_val (ah_0 hR) (by rw [sp_count, if_neg hs1_0, if_neg hs1_1, if_pos hs1_2])⟩
      · skip
        by_cases hs1_3 : x = nI 3
        · skip
          refine a_tsIn X dX5_count_1 (by rw [hs1_3]; decide +kernel) (by rw [hs1_3]; decide +kernel) (off := 49) (by rw [hs1_3]; decide +kernel) (tgt := 50) (by decide) ?_
          refine a_bipush X dX5_count_50 (v := nI 12) (by decide +kernel) ?_
          refine a_aload_n X dX5_count_52 (i := 0) rfl rfl ?_
          refine s_getr X dX5_count_53 fl_X5_7 ko_43 rfl ?_
          refine a_iconst X dX5_count_56 (v := nI 1) (by decide +kernel) ?_
          refine s_ild X dX5_count_57 ki_44 (by omega) (by decide) ?_
          rw [h1]
          refine a_isub X dX5_count_58 ?_
          refine a_iret X hA dX5_count_59 ?_
          exact ⟨_, _, _, _, _, rfl, rfl, md_val (ah_0 hR) (by rw [sp_count, if_neg hs1_0, if_neg hs1_1, if_neg hs1_2, if_pos hs1_3])⟩
        · skip
          refine a_tsOut X dX5_count_1 (by have z0 := lv_neT hs1_0 (a := 0) (by decide +kernel); have z1 := lv_neT hs1_1 (a := 1) (by decide +kernel); have z2 := lv_neT hs1_2 (a := 2) (by decide +kernel); have z3 := lv_neT hs1_3 (a := 3) (by decide +kernel); omega) (tgt := 60) (by decide) ?_
          refine a_aload_n X dX5_count_60 (i := 0) rfl rfl ?_
          refine a_ldc X dX5_count_61 kc_X5_50 ?_
          refine s_callV_R X dX5_count_63 lk_X5_67 ko_43 rfl rfl (c_X5_finds (k := 0) (by decide) (by decide +kernel)) ⟨Nat.le_of_ble_eq_true rfl, Nat.le_of_ble_eq_true rfl⟩ rfl rfl (Nat.le_of_ble_eq_true rfl) ⟨Nat.le_of_ble_eq_true rfl, Nat.le_of_ble_eq_true rfl⟩ ?_
          refine a_iret X hA dX5_count_66 ?_
          exact ⟨_, _, _, _, _, rfl, rfl, md_find (ah_0 hR) (k := 0) (by decide +kernel) (by rw [sp_count, if_neg hs1_0, if_neg hs1_1, if_neg hs1_2, if_neg hs1_3])⟩
set_option maxRecDepth 100000 in
set_option maxHeartbeats 4000000 in
theorem c_X5_status {l : Launch} {g : GG} {I : TI} {J : TJ} {F : TI} {w : Int64} {R : Nat → Nat} (hR : I 44 = nr R) {x : Int32} : RV l g mX5_status [.ref (ga g 43), .int x] I J F w (MdR I J F w (sp_status R (I 45) x)) := by
  refine ct_start (M := mX5_status) (by decide +kernel) (Nat.le_of_ble_eq_true rfl) ?_
  intro p e s m args below meth c A X hA
  have X : AX p s m args meth c g A cX5_status 4 RX5 (Cond.code yX5_status cX5_status 4 (some .int)) (some .int) := X
  show AW p l e (rmM 1 22) s m args below meth c g A 4 0 0 (MQ below (CQ g (hp g I J F w) s.heap.size (fun vv0 hh0 => ∃ xx0 II0 JJ0 FF0 ww0, vv0 = some xx0 ∧ hh0 = hp g II0 JJ0 FF0 ww0 ∧ (MdR I J F w (sp_status R (I 45) x)) xx0 II0 JJ0 FF0 ww0)) args s 0 0 A) 0 [some (.ref (ga g 43)), some (.int x), none, none] [] (hp g I J F w)
  have L21 : ∀ (fu : Nat) (k : Nat), 7 - k < fu → (inB x (-1) (nI 6) = true) → (k ≤ 7) → AW p l e (rmM 1 22) s m args below meth c g A 4 0 0 (MQ below (CQ g (hp g I J F w) s.heap.size (fun vv0 hh0 => ∃ xx0 II0 JJ0 FF0 ww0, vv0 = some xx0 ∧ hh0 = hp g II0 JJ0 FF0 ww0 ∧ (MdR I J F w (sp_status R (I 45) x)) xx0 II0 JJ0 FF0 ww0)) args s 0 0 A) 21 [some (.ref (ga g 43)), some (.int x), some (.int (sumF (I 45) k)), some (.int (nI k))] [] (hp g I J F w) := by
    intro fu
    induction fu with
    | zero => intro k hfu; exact absurd hfu (by omega)
    | succ fu ih =>
      intro k hfu hc7 hk
      refine a_iload_n X dX5_status_21 (i := 3) rfl rfl ?_
      refine a_bipush X dX5_status_22 (v := nI 7) (by decide +kernel) ?_
      refine s_icmp_geN X dX5_status_24 (tgt := 42) (by decide) (by omega) (by omega) (fun hc24 => ?_) (fun hc24 => ?_)
      · skip
        have hk2 : k = 7 := by omega
        subst hk2
        refine a_iload_n X dX5_status_42 (i := 1) rfl rfl ?_
        refine a_if_ge X dX5_status_43 (tgt := 50) (by decide) (fun hc43 => ?_) (fun hc43 => ?_)
        · skip
          obtain ⟨j, hj, rfl⟩ := st_in hc7 hc43
          refine a_aload_n X dX5_status_50 (i := 0) rfl rfl ?_
          refine s_getr X dX5_status_51 fl_X5_13 ko_43 rfl ?_
          refine a_iload_n X dX5_status_54 (i := 1) rfl rfl ?_
          refine a_if_ge X dX5_status_55 (tgt := 62) (by decide) (fun hc55 => ?_) (fun hc55 => ?_)
          · skip
            refine a_iload_n X dX5_status_62 (i := 1) rfl rfl ?_
            refine s_ild X dX5_status_63 ki_45 (by omega) (by decide) ?_
            refine a_iret X hA dX5_status_64 ?_
            first | exact absurd hc43 hc55 | exact ⟨_, _, _, _, _, rfl, rfl, md_val (ah_0 hR) (by rw [sp_status, if_pos hc7, if_pos (Int32.not_le.mp hc43)])⟩ | exact ⟨_, _, _, _, _, rfl, rfl, md_val (ah_0 hR) (by rw [sp_status, if_pos hc7, if_neg (Int32.not_lt.mpr hc43), cl_n (show j < 2 ^ 31 by omega)])⟩
          · skip
            exact absurd hc43 hc55
        · skip
          refine a_iload_n X dX5_status_46 (i := 2) rfl rfl ?_
          refine a_goto X dX5_status_47 (tgt := 64) (by decide) ?_
          refine a_iret X hA dX5_status_64 ?_
          first | exact absurd hc43 hc55 | exact ⟨_, _, _, _, _, rfl, rfl, md_val (ah_0 hR) (by rw [sp_status, if_pos hc7, if_pos (Int32.not_le.mp hc43)])⟩ | exact ⟨_, _, _, _, _, rfl, rfl, md_val (ah_0 hR) (by rw [sp_status, if_pos hc7, if_neg (Int32.not_lt.mpr hc43), cl_n (show j < 2 ^ 31 by omega)])⟩
      · skip
        refine a_iload_n X dX5_status_27 (i := 2) rfl rfl ?_
        refine a_aload_n X dX5_status_28 (i := 0) rfl rfl ?_
        refine s_getr X dX5_status_29 fl_X5_13 ko_43 rfl ?_
        refine a_iload_n X dX5_status_32 (i := 3) rfl rfl ?_
        refine s_ild X dX5_status_33 ki_45 (by omega) (by decide) ?_
        refine a_iadd X dX5_status_34 ?_
        refine a_istore_n X dX5_status_35 (i := 2) rfl (by decide) rfl ?_
        refine a_iinc X dX5_status_36 rfl (v := nI (_ + 1)) (iincN _ 1) (by decide) rfl ?_
        refine a_goto X dX5_status_39 (tgt := 21) (by decide) ?_
        exact ih (k + 1) (by omega) hc7 (by omega)
  refine a_iload_n X dX5_status_0 (i := 1) rfl rfl ?_
  refine a_iconst X dX5_status_1 (v := (-1)) (by decide +kernel) ?_
  refine a_bipush X dX5_status_2 (v := nI 6) (by decide +kernel) ?_
  refine s_callS_R X dX5_status_4 lk_X5_51 c_X5_in ⟨Nat.le_of_ble_eq_true rfl, Nat.le_of_ble_eq_true rfl⟩ rfl rfl (Nat.le_of_ble_eq_true rfl) ⟨Nat.le_of_ble_eq_true rfl, Nat.le_of_ble_eq_true rfl⟩ ?_
  refine a_if_ne X dX5_status_7 (tgt := 17) (by decide) (fun hc7 => ?_) (fun hc7 => ?_)
  · skip
    try simp only [bI_0, Bool.not_eq_false] at hc7
    refine a_iconst X dX5_status_17 (v := nI 0) (by decide +kernel) ?_
    refine a_istore_n X dX5_status_18 (i := 2) rfl (by decide) rfl ?_
    refine a_iconst X dX5_status_19 (v := nI 0) (by decide +kernel) ?_
    refine a_istore_n X dX5_status_20 (i := 3) rfl (by decide) rfl ?_
    exact L21 8 0 (by omega) hc7 (by omega)
  · skip
    try simp only [bI_0, Bool.not_eq_false] at hc7
    refine a_aload_n X dX5_status_10 (i := 0) rfl rfl ?_
    refine a_ldc X dX5_status_11 kc_X5_50 ?_
    refine s_callV_R X dX5_status_13 lk_X5_67 ko_43 rfl rfl (c_X5_finds (k := 0) (by decide) (by decide +kernel)) ⟨Nat.le_of_ble_eq_true rfl, Nat.le_of_ble_eq_true rfl⟩ rfl rfl (Nat.le_of_ble_eq_true rfl) ⟨Nat.le_of_ble_eq_true rfl, Nat.le_of_ble_eq_true rfl⟩ ?_
    refine a_iret X hA dX5_status_16 ?_
    exact ⟨_, _, _, _, _, rfl, rfl, md_find (ah_0 hR) (k := 0) (by decide +kernel) (by rw [sp_status, if_neg (by rw [hc7]; decide)])⟩
