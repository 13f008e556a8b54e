set_option maxRecDepth 100000 in
set_option maxHeartbeats 4000000 in
theorem c_X0_gaps {l : Launch} {g : GG} {I : TI} {J : TJ} {F : TI} {w : Int64} {b : Nat} (hb : isB b) {R : Nat → Nat} (ok : okR R) (hC : Ch I F b R) : UR l g mX0_gaps [.ref (ga g b)] I J F w (.int (gapF (orF (fun m => nI 1 <<< (nI (R (2 + 6 * m + 1)) &&& 31)) (R 1)) 12)) I J F w := by
  have hn10 := ok.1
  obtain ⟨c0, c1, cm, cs⟩ := hC
  obtain ⟨-, -, hT3⟩ := tk_ok (R := R) (n := R 1) (fun m hm => (ok.2.1 m hm).2.1)
  refine ct_start (M := mX0_gaps) (by decide +kernel) (Nat.le_of_ble_eq_true rfl) ?_
  intro p e s m args below meth c A X hA
  have X : AX p s m args meth c g A cX0_gaps 5 RX0 (Cond.code yX0_gaps cX0_gaps 5 (some .int)) (some .int) := X
  show AW p l e (rmM 0 0) s m args below meth c g A 5 0 0 (MQ below (CQ g (hp g I J F w) s.heap.size (fun vv0 hh0 => vv0 = some (.int (gapF (orF (fun m => nI 1 <<< (nI (R (2 + 6 * m + 1)) &&& 31)) (R 1)) 12)) ∧ hh0 = hp g I J F w)) args s 0 0 A) 0 [some (.ref (ga g b)), none, none, none, none] [] (hp g I J F w)
  have L9 : ∀ (fu : Nat) (k : Nat), 12 - k < fu → (k ≤ 12) → AW p l e (rmM 0 0) s m args below meth c g A 5 0 0 (MQ below (CQ g (hp g I J F w) s.heap.size (fun vv0 hh0 => vv0 = some (.int (gapF (orF (fun m => nI 1 <<< (nI (R (2 + 6 * m + 1)) &&& 31)) (R 1)) 12)) ∧ hh0 = hp g I J F w)) args s 0 0 A) 9 [some (.ref (ga g b)), some (.int (gpC (tkN R (R 1)) k).1), some (.int (gpC (tkN R (R 1)) k).2.1), some (.int (gpC (tkN R (R 1)) k).2.2), some (.int (nI k))] [] (hp g I J F w) := by
    intro fu
    induction fu with
    | zero => intro k hfu; exact absurd hfu (by omega)
    | succ fu ih =>
      intro k hfu hk
      refine a_iload X dX0_gaps_9 rfl ?_
      refine a_bipush X dX0_gaps_11 (v := nI 12) (by decide +kernel) ?_
      refine s_icmp_geN X dX0_gaps_13 (tgt := 51) (by decide) (by omega) (by omega) (fun hc13 => ?_) (fun hc13 => ?_)
      · skip
        have hk2 : k = 12 := by omega
        subst hk2
        refine a_iload_n X dX0_gaps_51 (i := 1) rfl rfl ?_
        refine a_iret X hA dX0_gaps_52 ⟨?_, ?_⟩
        · rw [← gap_end ok]
        · rfl
      · skip
        refine a_aload_n X dX0_gaps_16 (i := 0) rfl rfl ?_
        refine s_getr X dX0_gaps_17 fl_X0_37 (ko_b hb) rfl ?_
        refine a_iload X dX0_gaps_20 rfl ?_
        refine s_ild X dX0_gaps_22 (ki_b7 hb) (by omega) (by decide) ?_
        rw [cs k (by omega)]
        refine a_iconst X dX0_gaps_23 (v := (-1)) (by decide +kernel) ?_
        refine a_icmp_eq X dX0_gaps_24 (tgt := 34) (by decide) (fun hc24 => ?_) (fun hc24 => ?_)
        · skip
          have hT : (tkN R (R 1)).testBit k = false := by rw [hT3 k, (wI_eq (who_b hn10)).mp hc24]; rfl
          refine a_iload_n X dX0_gaps_34 (i := 3) rfl rfl ?_
          refine a_if_eq X dX0_gaps_35 (tgt := 45) (by decide) (fun hc35 => ?_) (fun hc35 => ?_)
          · skip
            refine a_iinc X dX0_gaps_45 rfl (v := nI (_ + 1)) (iincN _ 1) (by decide) rfl ?_
            refine a_goto X dX0_gaps_48 (tgt := 9) (by decide) ?_
            have := ih (k + 1) (by omega) (by omega)
            first
              | (rw [gpC_t hT] at this; exact this)
              | (rw [gpC_0 hT hc35] at this; exact this)
              | (rw [gpC_1 hT hc35] at this; exact this)
          · skip
            refine a_iload_n X dX0_gaps_38 (i := 2) rfl rfl ?_
            refine a_iconst X dX0_gaps_39 (v := nI 1) (by decide +kernel) ?_
            refine a_iload X dX0_gaps_40 rfl ?_
            refine a_ishl X dX0_gaps_42 ?_
            refine a_ior X dX0_gaps_43 ?_
            refine a_istore_n X dX0_gaps_44 (i := 2) rfl (by decide) rfl ?_
            refine a_iinc X dX0_gaps_45 rfl (v := nI (_ + 1)) (iincN _ 1) (by decide) rfl ?_
            refine a_goto X dX0_gaps_48 (tgt := 9) (by decide) ?_
            have := ih (k + 1) (by omega) (by omega)
            first
              | (rw [gpC_t hT] at this; exact this)
              | (rw [gpC_0 hT hc35] at this; exact this)
              | (rw [gpC_1 hT hc35] at this; exact this)
        · skip
          have hT : (tkN R (R 1)).testBit k = true := by
            rw [hT3 k, decide_eq_true_eq]
            exact fun z => hc24 (by rw [z]; rfl)
          refine a_iload_n X dX0_gaps_27 (i := 2) rfl rfl ?_
          refine a_istore_n X dX0_gaps_28 (i := 1) rfl (by decide) rfl ?_
          refine a_iconst X dX0_gaps_29 (v := nI 1) (by decide +kernel) ?_
          refine a_istore_n X dX0_gaps_30 (i := 3) rfl (by decide) rfl ?_
          refine a_goto X dX0_gaps_31 (tgt := 45) (by decide) ?_
          refine a_iinc X dX0_gaps_45 rfl (v := nI (_ + 1)) (iincN _ 1) (by decide) rfl ?_
          refine a_goto X dX0_gaps_48 (tgt := 9) (by decide) ?_
          have := ih (k + 1) (by omega) (by omega)
          first
            | (rw [gpC_t hT] at this; exact this)
            | (rw [gpC_0 hT hc35] at this; exact this)
            | (rw [gpC_1 hT hc35] at this; exact this)
  refine a_iconst X dX0_gaps_0 (v := nI 0) (by decide +kernel) ?_
  refine a_istore_n X dX0_gaps_1 (i := 1) rfl (by decide) rfl ?_
  refine a_iconst X dX0_gaps_2 (v := nI 0) (by decide +kernel) ?_
  refine a_istore_n X dX0_gaps_3 (i := 2) rfl (by decide) rfl ?_
  refine a_iconst X dX0_gaps_4 (v := nI 0) (by decide +kernel) ?_
  refine a_istore_n X dX0_gaps_5 (i := 3) rfl (by decide) rfl ?_
  refine a_iconst X dX0_gaps_6 (v := nI 0) (by decide +kernel) ?_
  refine a_istore X dX0_gaps_7 (by decide) rfl ?_
  exact L9 13 0 (by omega) (by omega)
set_option maxRecDepth 100000 in
set_option maxHeartbeats 4000000 in
theorem c_X4_now {l : Launch} {g : GG} {I : TI} {J : TJ} {F : TI} {w : Int64} {R : Nat → Nat} (ok : okR R) (hC : Ch I F 1 R) {x : Int32} : RV l g mX4_now [.ref (ga g 0), .int x] I J F w (BvR I J F w (sp_now R x)) := by
  have hn10 := ok.1
  obtain ⟨c0, c1, cm, cs⟩ := id hC
  have cm : ∀ m, m < R 1 → I 2 m = nI (R (2 + 6 * m + 0)) ∧ I 3 m = nI (R (2 + 6 * m + 1)) ∧ I 4 m = nI (R (2 + 6 * m + 2)) ∧ I 5 m = nI (R (2 + 6 * m + 3)) ∧ I 6 m = nI (R (2 + 6 * m + 4)) ∧ I 7 m = nI (R (2 + 6 * m + 5)) := cm
  refine ct_start (M := mX4_now) (by decide +kernel) (Nat.le_of_ble_eq_true rfl) ?_
  intro p e s m args below meth c A X hA
  have X : AX p s m args meth c g A cX4_now 2 RX4 (Cond.code yX4_now cX4_now 2 (some .int)) (some .int) := X
  show AW p l e (rmM 3 63) s m args below meth c g A 2 0 0 (MQ below (CQ g (hp g I J F w) s.heap.size (fun vv0 hh0 => ∃ xx0 II0 JJ0 FF0 ww0, vv0 = some xx0 ∧ hh0 = hp g II0 JJ0 FF0 ww0 ∧ (BvR I J F w (sp_now R x)) xx0 II0 JJ0 FF0 ww0)) args s 0 0 A) 0 [some (.ref (ga g 0)), some (.int x)] [] (hp g I J F w)
  refine a_iload_n X dX4_now_0 (i := 1) rfl rfl ?_
  by_cases hs1_0 : x = nI 0
  · skip
    refine a_tsIn X dX4_now_1 (by rw [hs1_0]; decide +kernel) (by rw [hs1_0]; decide +kernel) (off := 39) (by rw [hs1_0]; decide +kernel) (tgt := 40) (by decide) ?_
    refine a_aload_n X dX4_now_40 (i := 0) rfl rfl ?_
    refine s_getr X dX4_now_41 fl_X4_10 ko_0 rfl ?_
    refine s_geti X dX4_now_44 fl_X4_56 ko_1 rfl ?_
    rw [c0]
    refine a_iret X hA dX4_now_47 ?_
    exact ⟨_, _, _, _, _, rfl, rfl, bv_val (bs_0 hC) (by rw [sp_now, if_pos hs1_0])⟩
  · skip
    by_cases hs1_1 : x = nI 1
    · skip
      refine a_tsIn X dX4_now_1 (by rw [hs1_1]; decide +kernel) (by rw [hs1_1]; decide +kernel) (off := 47) (by rw [hs1_1]; decide +kernel) (tgt := 48) (by decide) ?_
      refine a_aload_n X dX4_now_48 (i := 0) rfl rfl ?_
      refine s_getr X dX4_now_49 fl_X4_10 ko_0 rfl ?_
      refine s_callV_R X dX4_now_52 lk_X4_60 ko_1 rfl rfl (c_X0_gaps (b := 1) (Or.inl rfl) ok hC) ⟨Nat.le_of_ble_eq_true rfl, Nat.le_of_ble_eq_true rfl⟩ rfl rfl (Nat.le_of_ble_eq_true rfl) ⟨Nat.le_of_ble_eq_true rfl, Nat.le_of_ble_eq_true rfl⟩ ?_
      refine a_iret X hA dX4_now_55 ?_
      exact ⟨_, _, _, _, _, rfl, rfl, bv_val (bs_0 hC) (by rw [sp_now, if_neg hs1_0, if_pos hs1_1])⟩
    · skip
      by_cases hs1_2 : x = nI 2
      · skip
        refine a_tsIn X dX4_now_1 (by rw [hs1_2]; decide +kernel) (by rw [hs1_2]; decide +kernel) (off := 55) (by rw [hs1_2]; decide +kernel) (tgt := 56) (by decide) ?_
        refine a_aload_n X dX4_now_56 (i := 0) rfl rfl ?_
        refine s_getr X dX4_now_57 fl_X4_10 ko_0 rfl ?_
        refine s_callV_R X dX4_now_60 lk_X4_64 ko_1 rfl rfl (c_X0_versesBorne (b := 1) (Or.inl rfl) ok hC) ⟨Nat.le_of_ble_eq_true rfl, Nat.le_of_ble_eq_true rfl⟩ rfl rfl (Nat.le_of_ble_eq_true rfl) ⟨Nat.le_of_ble_eq_true rfl, Nat.le_of_ble_eq_true rfl⟩ ?_
        refine a_iret X hA dX4_now_63 ?_
        exact ⟨_, _, _, _, _, rfl, rfl, bv_val (bs_0 hC) (by rw [sp_now, if_neg hs1_0, if_neg hs1_1, if_pos hs1_2])⟩
      · skip
        by_cases hs1_3 : x = nI 3
        · skip
          refine a_tsIn X dX4_now_1 (by rw [hs1_3]; decide +kernel) (by rw [hs1_3]; decide +kernel) (off := 63) (by rw [hs1_3]; decide +kernel) (tgt := 64) (by decide) ?_
          refine a_aload_n X dX4_now_64 (i := 0) rfl rfl ?_
          refine s_getr X dX4_now_65 fl_X4_10 ko_0 rfl ?_
          refine s_callV_R X dX4_now_68 lk_X4_67 ko_1 rfl rfl (c_X0_versesKnown (b := 1) (Or.inl rfl) ok hC) ⟨Nat.le_of_ble_eq_true rfl, Nat.le_of_ble_eq_true rfl⟩ rfl rfl (Nat.le_of_ble_eq_true rfl) ⟨Nat.le_of_ble_eq_true rfl, Nat.le_of_ble_eq_true rfl⟩ ?_
          refine a_iret X hA dX4_now_71 ?_
          exact ⟨_, _, _, _, _, rfl, rfl, bv_val (bs_0 hC) (by rw [sp_now, if_neg hs1_0, if_neg hs1_1, if_neg hs1_2, if_pos hs1_3]; rfl)⟩
        · skip
          by_cases hs1_4 : x = nI 4
          · skip
            refine a_tsIn X dX4_now_1 (by rw [hs1_4]; decide +kernel) (by rw [hs1_4]; decide +kernel) (off := 71) (by rw [hs1_4]; decide +kernel) (tgt := 72) (by decide) ?_
            refine a_aload_n X dX4_now_72 (i := 0) rfl rfl ?_
            refine s_getr X dX4_now_73 fl_X4_10 ko_0 rfl ?_
            refine s_callV_R X dX4_now_76 lk_X4_70 ko_1 rfl rfl (c_X0_knownTogether (b := 1) (Or.inl rfl) ok hC) ⟨Nat.le_of_ble_eq_true rfl, Nat.le_of_ble_eq_true rfl⟩ rfl rfl (Nat.le_of_ble_eq_true rfl) ⟨Nat.le_of_ble_eq_true rfl, Nat.le_of_ble_eq_true rfl⟩ ?_
            refine a_iret X hA dX4_now_79 ?_
            exact ⟨_, _, _, _, _, rfl, rfl, bv_val (bs_0 hC) (by rw [sp_now, if_neg hs1_0, if_neg hs1_1, if_neg hs1_2, if_neg hs1_3, if_pos hs1_4])⟩
          · skip
            by_cases hs1_5 : x = nI 5
            · skip
              refine a_tsIn X dX4_now_1 (by rw [hs1_5]; decide +kernel) (by rw [hs1_5]; decide +kernel) (off := 79) (by rw [hs1_5]; decide +kernel) (tgt := 80) (by decide) ?_
              refine a_aload_n X dX4_now_80 (i := 0) rfl rfl ?_
              refine s_getr X dX4_now_81 fl_X4_10 ko_0 rfl ?_
              refine a_aload_n X dX4_now_84 (i := 0) rfl rfl ?_
              refine s_getr X dX4_now_85 fl_X4_10 ko_0 rfl ?_
              refine s_getr X dX4_now_88 fl_X4_73 ko_1 rfl ?_
              refine s_callV_R X dX4_now_91 lk_X4_76 ko_1 rfl rfl (c_X0_sum (b := 1) (Or.inl rfl) ok hC ki_7) ⟨Nat.le_of_ble_eq_true rfl, Nat.le_of_ble_eq_true rfl⟩ rfl rfl (Nat.le_of_ble_eq_true rfl) ⟨Nat.le_of_ble_eq_true rfl, Nat.le_of_ble_eq_true rfl⟩ ?_
              refine a_iret X hA dX4_now_94 ?_
              exact ⟨_, _, _, _, _, rfl, rfl, bv_val (bs_0 hC) (by rw [sp_now, if_neg hs1_0, if_neg hs1_1, if_neg hs1_2, if_neg hs1_3, if_neg hs1_4, if_pos hs1_5, sumF_congr (fun m hm => (cm m hm).2.2.2.2.2)])⟩
            · skip
              refine a_tsOut X dX4_now_1 (by have z0 := lv_neT hs1_0 (a := 0) (by decide +kernel); have z1 := lv_neT hs1_1 (a := 1) (by decide +kernel); have z2 := lv_neT hs1_2 (a := 2) (by decide +kernel); have z3 := lv_neT hs1_3 (a := 3) (by decide +kernel); have z4 := lv_neT hs1_4 (a := 4) (by decide +kernel); have z5 := lv_neT hs1_5 (a := 5) (by decide +kernel); omega) (tgt := 95) (by decide) ?_
              refine a_aload_n X dX4_now_95 (i := 0) rfl rfl ?_
              refine a_ldc X dX4_now_96 kc_X4_48 ?_
              refine s_callV_R X dX4_now_98 lk_X4_49 ko_0 rfl rfl (c_X4_found (k := 0) (by decide) (by decide +kernel)) ⟨Nat.le_of_ble_eq_true rfl, Nat.le_of_ble_eq_true rfl⟩ rfl rfl (Nat.le_of_ble_eq_true rfl) ⟨Nat.le_of_ble_eq_true rfl, Nat.le_of_ble_eq_true rfl⟩ ?_
              refine a_iret X hA dX4_now_101 ?_
              exact ⟨_, _, _, _, _, rfl, rfl, bv_find (bs_0 hC) (k := 0) (by decide +kernel) (by rw [sp_now, if_neg hs1_0, if_neg hs1_1, if_neg hs1_2, if_neg hs1_3, if_neg hs1_4, if_neg hs1_5])⟩
