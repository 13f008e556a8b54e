set_option maxRecDepth 100000 in
set_option maxHeartbeats 4000000 in
theorem c_X4_on {l : Launch} {g : GG} {I : TI} {J : TJ} {F : TI} {w : Int64} {R : Nat → Nat} (ok : okR R) (hC : Ch I F 1 R) {x y z : Int32} (hN : R 0 ≤ 99999) : RV l g mX4_on [.ref (ga g 0), .int x, .int y, .int z] I J F w (BvR I J F w (sp_on R x y z)) := by
  have hn10 := ok.1
  obtain ⟨c0, c1, cm, cs⟩ := id hC
  have cm : ∀ m, m < R 1 → I 2 m = nI (R (2 + 6 * m + 0)) ∧ I 3 m = nI (R (2 + 6 * m + 1)) ∧ I 4 m = nI (R (2 + 6 * m + 2)) ∧ I 5 m = nI (R (2 + 6 * m + 3)) ∧ I 6 m = nI (R (2 + 6 * m + 4)) ∧ I 7 m = nI (R (2 + 6 * m + 5)) := cm
  refine ct_start (M := mX4_on) (by decide +kernel) (Nat.le_of_ble_eq_true rfl) ?_
  intro p e s m args below meth c A X hA
  have X : AX p s m args meth c g A cX4_on 4 RX4 (Cond.code yX4_on cX4_on 4 (some .int)) (some .int) := X
  show AW p l e (rmM 6 135) s m args below meth c g A 4 0 0 (MQ below (CQ g (hp g I J F w) s.heap.size (fun vv0 hh0 => ∃ xx0 II0 JJ0 FF0 ww0, vv0 = some xx0 ∧ hh0 = hp g II0 JJ0 FF0 ww0 ∧ (BvR I J F w (sp_on R x y z)) xx0 II0 JJ0 FF0 ww0)) args s 0 0 A) 0 [some (.ref (ga g 0)), some (.int x), some (.int y), some (.int z)] [] (hp g I J F w)
  refine a_aload_n X dX4_on_0 (i := 0) rfl rfl ?_
  refine s_getr X dX4_on_1 fl_X4_10 ko_0 rfl ?_
  refine a_iload_n X dX4_on_4 (i := 1) rfl rfl ?_
  refine s_callV_R X dX4_on_5 lk_X4_103 ko_1 rfl rfl (c_X0_has (b := 1) (Or.inl rfl) ok hC) ⟨Nat.le_of_ble_eq_true rfl, Nat.le_of_ble_eq_true rfl⟩ rfl rfl (Nat.le_of_ble_eq_true rfl) ⟨Nat.le_of_ble_eq_true rfl, Nat.le_of_ble_eq_true rfl⟩ ?_
  refine a_if_eq X dX4_on_8 (tgt := 30) (by decide) (fun hc8 => ?_) (fun hc8 => ?_)
  · skip
    try simp only [bI_0, Bool.not_eq_false] at hc8
    refine a_aload_n X dX4_on_30 (i := 0) rfl rfl ?_
    refine a_ldc X dX4_on_31 kc_X4_48 ?_
    refine s_callV_R X dX4_on_33 lk_X4_49 ko_0 rfl rfl (c_X4_found (k := 0) (by decide) (by decide +kernel)) ⟨Nat.le_of_ble_eq_true rfl, Nat.le_of_ble_eq_true rfl⟩ rfl rfl (Nat.le_of_ble_eq_true rfl) ⟨Nat.le_of_ble_eq_true rfl, Nat.le_of_ble_eq_true rfl⟩ ?_
    refine a_iret X hA dX4_on_36 ?_
    exact ⟨_, _, _, _, _, rfl, rfl, bv_find (bs_0 hC) (k := 0) (by decide +kernel) (by rw [sp_on, if_neg (by simp [*])])⟩
  · skip
    try simp only [bI_0, Bool.not_eq_false] at hc8
    obtain ⟨a, ha, rfl⟩ := isM_t (by omega) hc8
    obtain ⟨g0, g1, g2, g3, g4, g5⟩ := ok.2.1 a ha
    obtain ⟨m0, m1, m2, m3, m4, m5⟩ := cm a ha
    refine a_iload_n X dX4_on_11 (i := 2) rfl rfl ?_
    refine a_iconst X dX4_on_12 (v := nI 0) (by decide +kernel) ?_
    refine a_bipush X dX4_on_13 (v := nI 100) (by decide +kernel) ?_
    refine s_callS_R X dX4_on_15 lk_X4_44 c_X4_within ⟨Nat.le_of_ble_eq_true rfl, Nat.le_of_ble_eq_true rfl⟩ rfl rfl (Nat.le_of_ble_eq_true rfl) ⟨Nat.le_of_ble_eq_true rfl, Nat.le_of_ble_eq_true rfl⟩ ?_
    refine a_if_eq X dX4_on_18 (tgt := 30) (by decide) (fun hc18 => ?_) (fun hc18 => ?_)
    · skip
      try simp only [bI_0, Bool.not_eq_false] at hc18
      refine a_aload_n X dX4_on_30 (i := 0) rfl rfl ?_
      refine a_ldc X dX4_on_31 kc_X4_48 ?_
      refine s_callV_R X dX4_on_33 lk_X4_49 ko_0 rfl rfl (c_X4_found (k := 0) (by decide) (by decide +kernel)) ⟨Nat.le_of_ble_eq_true rfl, Nat.le_of_ble_eq_true rfl⟩ rfl rfl (Nat.le_of_ble_eq_true rfl) ⟨Nat.le_of_ble_eq_true rfl, Nat.le_of_ble_eq_true rfl⟩ ?_
      refine a_iret X hA dX4_on_36 ?_
      exact ⟨_, _, _, _, _, rfl, rfl, bv_find (bs_0 hC) (k := 0) (by decide +kernel) (by rw [sp_on, if_neg (by simp [*])])⟩
    · skip
      try simp only [bI_0, Bool.not_eq_false] at hc18
      obtain ⟨j, hj0, hj, rfl⟩ := inB_r (by decide) (by decide) hc18
      refine a_iload_n X dX4_on_21 (i := 3) rfl rfl ?_
      refine a_iconst X dX4_on_22 (v := nI 0) (by decide +kernel) ?_
      refine a_iconst X dX4_on_23 (v := nI 1) (by decide +kernel) ?_
      refine s_callS_R X dX4_on_24 lk_X4_44 c_X4_within ⟨Nat.le_of_ble_eq_true rfl, Nat.le_of_ble_eq_true rfl⟩ rfl rfl (Nat.le_of_ble_eq_true rfl) ⟨Nat.le_of_ble_eq_true rfl, Nat.le_of_ble_eq_true rfl⟩ ?_
      refine a_if_ne X dX4_on_27 (tgt := 37) (by decide) (fun hc27 => ?_) (fun hc27 => ?_)
      · skip
        try simp only [bI_0, Bool.not_eq_false] at hc27
        obtain ⟨b, hb0, hb, rfl⟩ := inB_r (by decide) (by decide) hc27
        refine a_aload_n X dX4_on_37 (i := 0) rfl rfl ?_
        refine s_getr X dX4_on_38 fl_X4_16 ko_0 rfl ?_
        refine a_aload_n X dX4_on_41 (i := 0) rfl rfl ?_
        refine s_getr X dX4_on_42 fl_X4_10 ko_0 rfl ?_
        refine s_callV_Y X dX4_on_45 lk_X4_155 ko_11 rfl rfl (c_X0_become (b := 11) (b2 := 1) (Or.inr (Or.inl rfl)) (Or.inl rfl) (by decide) ok hC) ⟨Nat.le_of_ble_eq_true rfl, Nat.le_of_ble_eq_true rfl⟩ rfl rfl (Nat.le_of_ble_eq_true rfl) ⟨Nat.le_of_ble_eq_true rfl, Nat.le_of_ble_eq_true rfl⟩ (fun I2 J2 F2 w2 hpo => ?_)
        have K := bt_t (bs_0 hC) hpo
        obtain ⟨-, -, eJ, ew⟩ := hpo
        have eJ := eJ.symm
        have ew := ew.symm
        subst eJ; subst ew
        refine a_aload_n X dX4_on_48 (i := 0) rfl rfl ?_
        refine s_getr X dX4_on_49 fl_X4_16 ko_0 rfl ?_
        refine a_iload_n X dX4_on_52 (i := 2) rfl rfl ?_
        refine s_callV_Y X dX4_on_53 lk_X4_151 ko_11 rfl rfl (c_X0_passNights (b := 11) (Or.inr (Or.inl rfl)) ok K.2 (by omega)) ⟨Nat.le_of_ble_eq_true rfl, Nat.le_of_ble_eq_true rfl⟩ rfl rfl (Nat.le_of_ble_eq_true rfl) ⟨Nat.le_of_ble_eq_true rfl, Nat.le_of_ble_eq_true rfl⟩ (fun I2 J2 F2 w2 hpo => ?_)
        have K2 := bt_t K.1 hpo
        obtain ⟨-, -, eJ, ew⟩ := hpo
        have eJ := eJ.symm
        have ew := ew.symm
        subst eJ; subst ew
        obtain ⟨t0, t1, t2, t3, t4, t5⟩ := K2.2.2.2.1 a (by rw [pas_1]; exact ha)
        refine a_iload_n X dX4_on_56 (i := 3) rfl rfl ?_
        refine a_if_ne X dX4_on_57 (tgt := 72) (by decide) (fun hc57 => ?_) (fun hc57 => ?_)
        · skip
          rw [show (0 : Int32) = nI 0 from rfl, nI_eq (by omega) (by omega)] at hc57
          refine a_aload_n X dX4_on_72 (i := 0) rfl rfl ?_
          refine s_getr X dX4_on_73 fl_X4_16 ko_0 rfl ?_
          refine s_getr X dX4_on_76 fl_X4_73 ko_11 rfl ?_
          refine a_iload_n X dX4_on_79 (i := 1) rfl rfl ?_
          refine s_ild X dX4_on_80 ki_17 (by omega) (by decide) ?_
          rw [t5]
          refine a_iret X hA dX4_on_81 ?_
          first | exact ⟨_, _, _, _, _, rfl, rfl, bv_val (K2.1) (by rw [sp_on, if_pos ⟨hc8, hc18, hc27⟩, cl_n (show j < 2 ^ 31 by omega), cl_n (show a < 2 ^ 31 by omega), cl_n (show b < 2 ^ 31 by omega), show b = 0 by omega])⟩ | exact ⟨_, _, _, _, _, rfl, rfl, bv_val (K2.1) (by rw [sp_on, if_pos ⟨hc8, hc18, hc27⟩, cl_n (show j < 2 ^ 31 by omega), cl_n (show a < 2 ^ 31 by omega), cl_n (show b < 2 ^ 31 by omega), show b = 1 by omega])⟩
        · skip
          rw [show (0 : Int32) = nI 0 from rfl, nI_eq (by omega) (by omega)] at hc57
          refine a_aload_n X dX4_on_60 (i := 0) rfl rfl ?_
          refine s_getr X dX4_on_61 fl_X4_16 ko_0 rfl ?_
          refine s_getr X dX4_on_64 fl_X4_115 ko_11 rfl ?_
          refine a_iload_n X dX4_on_67 (i := 1) rfl rfl ?_
          refine s_ild X dX4_on_68 ki_16 (by omega) (by decide) ?_
          rw [t4]
          refine a_goto X dX4_on_69 (tgt := 81) (by decide) ?_
          refine a_iret X hA dX4_on_81 ?_
          first | exact ⟨_, _, _, _, _, rfl, rfl, bv_val (K2.1) (by rw [sp_on, if_pos ⟨hc8, hc18, hc27⟩, cl_n (show j < 2 ^ 31 by omega), cl_n (show a < 2 ^ 31 by omega), cl_n (show b < 2 ^ 31 by omega), show b = 0 by omega])⟩ | exact ⟨_, _, _, _, _, rfl, rfl, bv_val (K2.1) (by rw [sp_on, if_pos ⟨hc8, hc18, hc27⟩, cl_n (show j < 2 ^ 31 by omega), cl_n (show a < 2 ^ 31 by omega), cl_n (show b < 2 ^ 31 by omega), show b = 1 by omega])⟩
      · skip
        try simp only [bI_0, Bool.not_eq_false] at hc27
        refine a_aload_n X dX4_on_30 (i := 0) rfl rfl ?_
        refine a_ldc X dX4_on_31 kc_X4_48 ?_
        refine s_callV_R X dX4_on_33 lk_X4_49 ko_0 rfl rfl (c_X4_found (k := 0) (by decide) (by decide +kernel)) ⟨Nat.le_of_ble_eq_true rfl, Nat.le_of_ble_eq_true rfl⟩ rfl rfl (Nat.le_of_ble_eq_true rfl) ⟨Nat.le_of_ble_eq_true rfl, Nat.le_of_ble_eq_true rfl⟩ ?_
        refine a_iret X hA dX4_on_36 ?_
        exact ⟨_, _, _, _, _, rfl, rfl, bv_find (bs_0 hC) (k := 0) (by decide +kernel) (by rw [sp_on, if_neg (by simp [*])])⟩
set_option maxRecDepth 100000 in
set_option maxHeartbeats 4000000 in
theorem c_X4_learns {l : Launch} {g : GG} {I : TI} {J : TJ} {F : TI} {w : Int64} {R : Nat → Nat} (ok : okR R) (hC : Ch I F 1 R) {x y : Int32} (hN : R 0 ≤ 99999) : RV l g mX4_learns [.ref (ga g 0), .int x, .int y] I J F w (BvR I J F w (sp_learns R x y)) := by
  have hn10 := ok.1
  obtain ⟨c0, c1, cm, cs⟩ := id hC
  have cm : ∀ m, m < R 1 → I 2 m = nI (R (2 + 6 * m + 0)) ∧ I 3 m = nI (R (2 + 6 * m + 1)) ∧ I 4 m = nI (R (2 + 6 * m + 2)) ∧ I 5 m = nI (R (2 + 6 * m + 3)) ∧ I 6 m = nI (R (2 + 6 * m + 4)) ∧ I 7 m = nI (R (2 + 6 * m + 5)) := cm
  refine ct_start (M := mX4_learns) (by decide +kernel) (Nat.le_of_ble_eq_true rfl) ?_
  intro p e s m args below meth c A X hA
  have X : AX p s m args meth c g A cX4_learns 4 RX4 (Cond.code yX4_learns cX4_learns 4 (some .int)) (some .int) := X
  show AW p l e (rmM 5 113) s m args below meth c g A 4 0 0 (MQ below (CQ g (hp g I J F w) s.heap.size (fun vv0 hh0 => ∃ xx0 II0 JJ0 FF0 ww0, vv0 = some xx0 ∧ hh0 = hp g II0 JJ0 FF0 ww0 ∧ (BvR I J F w (sp_learns R x y)) xx0 II0 JJ0 FF0 ww0)) args s 0 0 A) 0 [some (.ref (ga g 0)), some (.int x), some (.int y), none] [] (hp g I J F w)
  have L41 : ∀ (fu : Nat) (a : Nat) (v : Nat) (k : Nat) (I1 : TI) (F1 : TI), 101 - k < fu → (x = nI a) → (y = nI v) → (isM (R 1) x = true) → (inB y (nI 0) (nI 9) = true) → (a < R 1) → (v < 10) → (k ≤ 101) → (BT I F R (pasN R k) I1 F1) → (firF (fun k => (pasN R k (2 + 6 * a + 4)).testBit v) (101 - k) k = firF (fun k => (pasN R k (2 + 6 * a + 4)).testBit v) 101 0) → AW p l e (rmM 5 113) s m args below meth c g A 4 0 0 (MQ below (CQ g (hp g I J F w) s.heap.size (fun vv0 hh0 => ∃ xx0 II0 JJ0 FF0 ww0, vv0 = some xx0 ∧ hh0 = hp g II0 JJ0 FF0 ww0 ∧ (BvR I J F w (sp_learns R x y)) xx0 II0 JJ0 FF0 ww0)) args s 0 0 A) 41 [some (.ref (ga g 0)), some (.int (nI a)), some (.int (nI v)), some (.int (nI k))] [] (hp g I1 J F1 w) := by
    intro fu
    induction fu with
    | zero => intro a v k I1 F1 hfu; exact absurd hfu (by omega)
    | succ fu ih =>
      intro a v k I1 F1 hfu hx hy hc8 hc18 ha hv hk K hfir
      subst hx; subst hy
      refine a_iload_n X dX4_learns_41 (i := 3) rfl rfl ?_
      refine a_bipush X dX4_learns_42 (v := nI 100) (by decide +kernel) ?_
      refine s_icmp_gtN X dX4_learns_44 (tgt := 74) (by decide) (by omega) (by omega) (fun hc44 => ?_) (fun hc44 => ?_)
      · skip
        refine a_aload_n X dX4_learns_74 (i := 0) rfl rfl ?_
        refine a_ldc X dX4_learns_75 kc_X4_83 ?_
        refine s_callV_R X dX4_learns_77 lk_X4_49 ko_0 rfl rfl (c_X4_found (k := 3) (by decide) (by decide +kernel)) ⟨Nat.le_of_ble_eq_true rfl, Nat.le_of_ble_eq_true rfl⟩ rfl rfl (Nat.le_of_ble_eq_true rfl) ⟨Nat.le_of_ble_eq_true rfl, Nat.le_of_ble_eq_true rfl⟩ ?_
        refine a_iret X hA dX4_learns_80 ?_
        exact ⟨_, _, _, _, _, rfl, rfl, bv_find (K.1) (k := 3) (by decide +kernel) (by rw [sp_learns, if_pos ⟨hc8, hc18⟩, cl_n (show a < 2 ^ 31 by omega), cl_n (show v < 2 ^ 31 by omega), ← hfir, show k = 101 by omega]; rfl)⟩
      · skip
        refine a_aload_n X dX4_learns_47 (i := 0) rfl rfl ?_
        refine s_getr X dX4_learns_48 fl_X4_16 ko_0 rfl ?_
        refine a_iload_n X dX4_learns_51 (i := 1) rfl rfl ?_
        refine a_iload_n X dX4_learns_52 (i := 2) rfl rfl ?_
        refine s_callV_R X dX4_learns_53 lk_X4_159 ko_11 rfl rfl (c_X0_doesKnow (b := 11) (Or.inr (Or.inl rfl)) (okR_pas ok k) K.2 (by rw [pas_1]; exact ha) hv) ⟨Nat.le_of_ble_eq_true rfl, Nat.le_of_ble_eq_true rfl⟩ rfl rfl (Nat.le_of_ble_eq_true rfl) ⟨Nat.le_of_ble_eq_true rfl, Nat.le_of_ble_eq_true rfl⟩ ?_
        refine a_if_eq X dX4_learns_56 (tgt := 61) (by decide) (fun hc56 => ?_) (fun hc56 => ?_)
        · skip
          try simp only [bI_0, Bool.not_eq_false] at hc56
          refine a_aload_n X dX4_learns_61 (i := 0) rfl rfl ?_
          refine s_getr X dX4_learns_62 fl_X4_16 ko_0 rfl ?_
          refine s_callV_Y X dX4_learns_65 lk_X4_162 ko_11 rfl rfl (c_X0_passNight (b := 11) (Or.inr (Or.inl rfl)) (okR_pas ok k) K.2 (by rw [pas_0]; omega)) ⟨Nat.le_of_ble_eq_true rfl, Nat.le_of_ble_eq_true rfl⟩ rfl rfl (Nat.le_of_ble_eq_true rfl) ⟨Nat.le_of_ble_eq_true rfl, Nat.le_of_ble_eq_true rfl⟩ (fun I2 J2 F2 w2 hpo => ?_)
          refine a_iinc X dX4_learns_68 rfl (v := nI (_ + 1)) (iincN _ 1) (by decide) rfl ?_
          refine a_goto X dX4_learns_71 (tgt := 41) (by decide) ?_
          have K2 := bt_t K.1 hpo
          obtain ⟨-, -, eJ, ew⟩ := hpo
          have eJ := eJ.symm
          have ew := ew.symm
          subst eJ; subst ew
          exact ih a v (k + 1) I2 F2 (by omega) rfl rfl hc8 hc18 ha hv (by omega) K2 ((fir_go (p := fun k => (pasN R k (2 + 6 * a + 4)).testBit v) (n := 101) (by omega) hc56).symm.trans hfir)
        · skip
          try simp only [bI_0, Bool.not_eq_false] at hc56
          refine a_iload_n X dX4_learns_59 (i := 3) rfl rfl ?_
          refine a_iret X hA dX4_learns_60 ?_
          exact ⟨_, _, _, _, _, rfl, rfl, bv_val (K.1) (by rw [sp_learns, if_pos ⟨hc8, hc18⟩, cl_n (show a < 2 ^ 31 by omega), cl_n (show v < 2 ^ 31 by omega), ← hfir, fir_hit (p := fun k => (pasN R k (2 + 6 * a + 4)).testBit v) (n := 101) (by omega) hc56, firSP_s])⟩
  refine a_aload_n X dX4_learns_0 (i := 0) rfl rfl ?_
  refine s_getr X dX4_learns_1 fl_X4_10 ko_0 rfl ?_
  refine a_iload_n X dX4_learns_4 (i := 1) rfl rfl ?_
  refine s_callV_R X dX4_learns_5 lk_X4_103 ko_1 rfl rfl (c_X0_has (b := 1) (Or.inl rfl) ok hC) ⟨Nat.le_of_ble_eq_true rfl, Nat.le_of_ble_eq_true rfl⟩ rfl rfl (Nat.le_of_ble_eq_true rfl) ⟨Nat.le_of_ble_eq_true rfl, Nat.le_of_ble_eq_true rfl⟩ ?_
  refine a_if_eq X dX4_learns_8 (tgt := 21) (by decide) (fun hc8 => ?_) (fun hc8 => ?_)
  · skip
    try simp only [bI_0, Bool.not_eq_false] at hc8
    refine a_aload_n X dX4_learns_21 (i := 0) rfl rfl ?_
    refine a_ldc X dX4_learns_22 kc_X4_48 ?_
    refine s_callV_R X dX4_learns_24 lk_X4_49 ko_0 rfl rfl (c_X4_found (k := 0) (by decide) (by decide +kernel)) ⟨Nat.le_of_ble_eq_true rfl, Nat.le_of_ble_eq_true rfl⟩ rfl rfl (Nat.le_of_ble_eq_true rfl) ⟨Nat.le_of_ble_eq_true rfl, Nat.le_of_ble_eq_true rfl⟩ ?_
    refine a_iret X hA dX4_learns_27 ?_
    exact ⟨_, _, _, _, _, rfl, rfl, bv_find (bs_0 hC) (k := 0) (by decide +kernel) (by rw [sp_learns, if_neg (by simp [*])])⟩
  · skip
    try simp only [bI_0, Bool.not_eq_false] at hc8
    obtain ⟨a, ha, rfl⟩ := isM_t (by omega) hc8
    obtain ⟨g0, g1, g2, g3, g4, g5⟩ := ok.2.1 a ha
    obtain ⟨m0, m1, m2, m3, m4, m5⟩ := cm a ha
    refine a_iload_n X dX4_learns_11 (i := 2) rfl rfl ?_
    refine a_iconst X dX4_learns_12 (v := nI 0) (by decide +kernel) ?_
    refine a_bipush X dX4_learns_13 (v := nI 9) (by decide +kernel) ?_
    refine s_callS_R X dX4_learns_15 lk_X4_44 c_X4_within ⟨Nat.le_of_ble_eq_true rfl, Nat.le_of_ble_eq_true rfl⟩ rfl rfl (Nat.le_of_ble_eq_true rfl) ⟨Nat.le_of_ble_eq_true rfl, Nat.le_of_ble_eq_true rfl⟩ ?_
    refine a_if_ne X dX4_learns_18 (tgt := 28) (by decide) (fun hc18 => ?_) (fun hc18 => ?_)
    · skip
      try simp only [bI_0, Bool.not_eq_false] at hc18
      obtain ⟨v, hv0, hv, rfl⟩ := inB_r (by decide) (by decide) hc18
      refine a_aload_n X dX4_learns_28 (i := 0) rfl rfl ?_
      refine s_getr X dX4_learns_29 fl_X4_16 ko_0 rfl ?_
      refine a_aload_n X dX4_learns_32 (i := 0) rfl rfl ?_
      refine s_getr X dX4_learns_33 fl_X4_10 ko_0 rfl ?_
      refine s_callV_Y X dX4_learns_36 lk_X4_155 ko_11 rfl rfl (c_X0_become (b := 11) (b2 := 1) (Or.inr (Or.inl rfl)) (Or.inl rfl) (by decide) ok hC) ⟨Nat.le_of_ble_eq_true rfl, Nat.le_of_ble_eq_true rfl⟩ rfl rfl (Nat.le_of_ble_eq_true rfl) ⟨Nat.le_of_ble_eq_true rfl, Nat.le_of_ble_eq_true rfl⟩ (fun I2 J2 F2 w2 hpo => ?_)
      have K := bt_t (bs_0 hC) hpo
      obtain ⟨-, -, eJ, ew⟩ := hpo
      have eJ := eJ.symm
      have ew := ew.symm
      subst eJ; subst ew
      refine a_iconst X dX4_learns_39 (v := nI 0) (by decide +kernel) ?_
      refine a_istore_n X dX4_learns_40 (i := 3) rfl (by decide) rfl ?_
      exact L41 102 a v 0 _ _ (by omega) rfl rfl hc8 hc18 ha (by omega) (by omega) K rfl
    · skip
      try simp only [bI_0, Bool.not_eq_false] at hc18
      refine a_aload_n X dX4_learns_21 (i := 0) rfl rfl ?_
      refine a_ldc X dX4_learns_22 kc_X4_48 ?_
      refine s_callV_R X dX4_learns_24 lk_X4_49 ko_0 rfl rfl (c_X4_found (k := 0) (by decide) (by decide +kernel)) ⟨Nat.le_of_ble_eq_true rfl, Nat.le_of_ble_eq_true rfl⟩ rfl rfl (Nat.le_of_ble_eq_true rfl) ⟨Nat.le_of_ble_eq_true rfl, Nat.le_of_ble_eq_true rfl⟩ ?_
      refine a_iret X hA dX4_learns_27 ?_
      exact ⟨_, _, _, _, _, rfl, rfl, bv_find (bs_0 hC) (k := 0) (by decide +kernel) (by rw [sp_learns, if_neg (by simp [*])])⟩
set_option maxRecDepth 100000 in
set_option maxHeartbeats 4000000 in
theorem c_X4_spreads {l : Launch} {g : GG} {I : TI} {J : TJ} {F : TI} {w : Int64} {R : Nat → Nat} (ok : okR R) (hC : Ch I F 1 R) {y : Int32} (hN : R 0 ≤ 99999) : RV l g mX4_spreads [.ref (ga g 0), .int y] I J F w (BvR I J F w (sp_spreads R y)) := by
  have hn10 := ok.1
  obtain ⟨c0, c1, cm, cs⟩ := id hC
  have cm : ∀ m, m < R 1 → I 2 m = nI (R (2 + 6 * m + 0)) ∧ I 3 m = nI (R (2 + 6 * m + 1)) ∧ I 4 m = nI (R (2 + 6 * m + 2)) ∧ I 5 m = nI (R (2 + 6 * m + 3)) ∧ I 6 m = nI (R (2 + 6 * m + 4)) ∧ I 7 m = nI (R (2 + 6 * m + 5)) := cm
  refine ct_start (M := mX4_spreads) (by decide +kernel) (Nat.le_of_ble_eq_true rfl) ?_
  intro p e s m args below meth c A X hA
  have X : AX p s m args meth c g A cX4_spreads 3 RX4 (Cond.code yX4_spreads cX4_spreads 3 (some .int)) (some .int) := X
  show AW p l e (rmM 5 113) s m args below meth c g A 3 0 0 (MQ below (CQ g (hp g I J F w) s.heap.size (fun vv0 hh0 => ∃ xx0 II0 JJ0 FF0 ww0, vv0 = some xx0 ∧ hh0 = hp g II0 JJ0 FF0 ww0 ∧ (BvR I J F w (sp_spreads R y)) xx0 II0 JJ0 FF0 ww0)) args s 0 0 A) 0 [some (.ref (ga g 0)), some (.int y), none] [] (hp g I J F w)
  have L30 : ∀ (fu : Nat) (v : Nat) (k : Nat) (I1 : TI) (F1 : TI), 101 - k < fu → (y = nI v) → (inB y (nI 0) (nI 9) = true) → (v < 10) → (k ≤ 101) → (BT I F R (pasN R k) I1 F1) → (firF (fun k => allB (sprF (pasN R k) v) (R 1)) (101 - k) k = firF (fun k => allB (sprF (pasN R k) v) (R 1)) 101 0) → AW p l e (rmM 5 113) s m args below meth c g A 3 0 0 (MQ below (CQ g (hp g I J F w) s.heap.size (fun vv0 hh0 => ∃ xx0 II0 JJ0 FF0 ww0, vv0 = some xx0 ∧ hh0 = hp g II0 JJ0 FF0 ww0 ∧ (BvR I J F w (sp_spreads R y)) xx0 II0 JJ0 FF0 ww0)) args s 0 0 A) 30 [some (.ref (ga g 0)), some (.int (nI v)), some (.int (nI k))] [] (hp g I1 J F1 w) := by
    intro fu
    induction fu with
    | zero => intro v k I1 F1 hfu; exact absurd hfu (by omega)
    | succ fu ih =>
      intro v k I1 F1 hfu hy hc7 hv hk K hfir
      subst hy
      refine a_iload_n X dX4_spreads_30 (i := 2) rfl rfl ?_
      refine a_bipush X dX4_spreads_31 (v := nI 100) (by decide +kernel) ?_
      refine s_icmp_gtN X dX4_spreads_33 (tgt := 62) (by decide) (by omega) (by omega) (fun hc33 => ?_) (fun hc33 => ?_)
      · skip
        refine a_aload_n X dX4_spreads_62 (i := 0) rfl rfl ?_
        refine a_ldc X dX4_spreads_63 kc_X4_83 ?_
        refine s_callV_R X dX4_spreads_65 lk_X4_49 ko_0 rfl rfl (c_X4_found (k := 3) (by decide) (by decide +kernel)) ⟨Nat.le_of_ble_eq_true rfl, Nat.le_of_ble_eq_true rfl⟩ rfl rfl (Nat.le_of_ble_eq_true rfl) ⟨Nat.le_of_ble_eq_true rfl, Nat.le_of_ble_eq_true rfl⟩ ?_
        refine a_iret X hA dX4_spreads_68 ?_
        exact ⟨_, _, _, _, _, rfl, rfl, bv_find (K.1) (k := 3) (by decide +kernel) (by rw [sp_spreads, if_pos hc7, cl_n (show v < 2 ^ 31 by omega), ← hfir, show k = 101 by omega]; rfl)⟩
      · skip
        refine a_aload_n X dX4_spreads_36 (i := 0) rfl rfl ?_
        refine s_getr X dX4_spreads_37 fl_X4_16 ko_0 rfl ?_
        refine a_iload_n X dX4_spreads_40 (i := 1) rfl rfl ?_
        refine s_callV_R X dX4_spreads_41 lk_X4_165 ko_11 rfl rfl (by have := c_X0_isSpread (l := l) (g := g) (I := I1) (J := J) (F := F1) (w := w) (b := 11) (Or.inr (Or.inl rfl)) (okR_pas ok k) K.2 hv; rw [pas_1] at this; exact this) ⟨Nat.le_of_ble_eq_true rfl, Nat.le_of_ble_eq_true rfl⟩ rfl rfl (Nat.le_of_ble_eq_true rfl) ⟨Nat.le_of_ble_eq_true rfl, Nat.le_of_ble_eq_true rfl⟩ ?_
        refine a_if_eq X dX4_spreads_44 (tgt := 49) (by decide) (fun hc44 => ?_) (fun hc44 => ?_)
        · skip
          try simp only [bI_0, Bool.not_eq_false] at hc44
          refine a_aload_n X dX4_spreads_49 (i := 0) rfl rfl ?_
          refine s_getr X dX4_spreads_50 fl_X4_16 ko_0 rfl ?_
          refine s_callV_Y X dX4_spreads_53 lk_X4_162 ko_11 rfl rfl (c_X0_passNight (b := 11) (Or.inr (Or.inl rfl)) (okR_pas ok k) K.2 (by rw [pas_0]; omega)) ⟨Nat.le_of_ble_eq_true rfl, Nat.le_of_ble_eq_true rfl⟩ rfl rfl (Nat.le_of_ble_eq_true rfl) ⟨Nat.le_of_ble_eq_true rfl, Nat.le_of_ble_eq_true rfl⟩ (fun I2 J2 F2 w2 hpo => ?_)
          refine a_iinc X dX4_spreads_56 rfl (v := nI (_ + 1)) (iincN _ 1) (by decide) rfl ?_
          refine a_goto X dX4_spreads_59 (tgt := 30) (by decide) ?_
          have K2 := bt_t K.1 hpo
          obtain ⟨-, -, eJ, ew⟩ := hpo
          have eJ := eJ.symm
          have ew := ew.symm
          subst eJ; subst ew
          exact ih v (k + 1) I2 F2 (by omega) rfl hc7 hv (by omega) K2 ((fir_go (p := fun k => allB (sprF (pasN R k) v) (R 1)) (n := 101) (by omega) hc44).symm.trans hfir)
        · skip
          try simp only [bI_0, Bool.not_eq_false] at hc44
          refine a_iload_n X dX4_spreads_47 (i := 2) rfl rfl ?_
          refine a_iret X hA dX4_spreads_48 ?_
          exact ⟨_, _, _, _, _, rfl, rfl, bv_val (K.1) (by rw [sp_spreads, if_pos hc7, cl_n (show v < 2 ^ 31 by omega), ← hfir, fir_hit (p := fun k => allB (sprF (pasN R k) v) (R 1)) (n := 101) (by omega) hc44, firSP_s])⟩
  refine a_iload_n X dX4_spreads_0 (i := 1) rfl rfl ?_
  refine a_iconst X dX4_spreads_1 (v := nI 0) (by decide +kernel) ?_
  refine a_bipush X dX4_spreads_2 (v := nI 9) (by decide +kernel) ?_
  refine s_callS_R X dX4_spreads_4 lk_X4_44 c_X4_within ⟨Nat.le_of_ble_eq_true rfl, Nat.le_of_ble_eq_true rfl⟩ rfl rfl (Nat.le_of_ble_eq_true rfl) ⟨Nat.le_of_ble_eq_true rfl, Nat.le_of_ble_eq_true rfl⟩ ?_
  refine a_if_ne X dX4_spreads_7 (tgt := 17) (by decide) (fun hc7 => ?_) (fun hc7 => ?_)
  · skip
    try simp only [bI_0, Bool.not_eq_false] at hc7
    obtain ⟨v, hv0, hv, rfl⟩ := inB_r (by decide) (by decide) hc7
    refine a_aload_n X dX4_spreads_17 (i := 0) rfl rfl ?_
    refine s_getr X dX4_spreads_18 fl_X4_16 ko_0 rfl ?_
    refine a_aload_n X dX4_spreads_21 (i := 0) rfl rfl ?_
    refine s_getr X dX4_spreads_22 fl_X4_10 ko_0 rfl ?_
    refine s_callV_Y X dX4_spreads_25 lk_X4_155 ko_11 rfl rfl (c_X0_become (b := 11) (b2 := 1) (Or.inr (Or.inl rfl)) (Or.inl rfl) (by decide) ok hC) ⟨Nat.le_of_ble_eq_true rfl, Nat.le_of_ble_eq_true rfl⟩ rfl rfl (Nat.le_of_ble_eq_true rfl) ⟨Nat.le_of_ble_eq_true rfl, Nat.le_of_ble_eq_true rfl⟩ (fun I2 J2 F2 w2 hpo => ?_)
    have K := bt_t (bs_0 hC) hpo
    obtain ⟨-, -, eJ, ew⟩ := hpo
    have eJ := eJ.symm
    have ew := ew.symm
    subst eJ; subst ew
    refine a_iconst X dX4_spreads_28 (v := nI 0) (by decide +kernel) ?_
    refine a_istore_n X dX4_spreads_29 (i := 2) rfl (by decide) rfl ?_
    exact L30 102 v 0 _ _ (by omega) rfl hc7 (by omega) (by omega) K rfl
  · skip
    try simp only [bI_0, Bool.not_eq_false] at hc7
    refine a_aload_n X dX4_spreads_10 (i := 0) rfl rfl ?_
    refine a_ldc X dX4_spreads_11 kc_X4_48 ?_
    refine s_callV_R X dX4_spreads_13 lk_X4_49 ko_0 rfl rfl (c_X4_found (k := 0) (by decide) (by decide +kernel)) ⟨Nat.le_of_ble_eq_true rfl, Nat.le_of_ble_eq_true rfl⟩ rfl rfl (Nat.le_of_ble_eq_true rfl) ⟨Nat.le_of_ble_eq_true rfl, Nat.le_of_ble_eq_true rfl⟩ ?_
    refine a_iret X hA dX4_spreads_16 ?_
    exact ⟨_, _, _, _, _, rfl, rfl, bv_find (bs_0 hC) (k := 0) (by decide +kernel) (by rw [sp_spreads, if_neg (by rw [hc7]; decide)])⟩
set_option maxRecDepth 100000 in
set_option maxHeartbeats 4000000 in
theorem c_X4_heresy {l : Launch} {g : GG} {I : TI} {J : TJ} {F : TI} {w : Int64} {R : Nat → Nat} (ok : okR R) (hC : Ch I F 1 R)  (hN : R 0 ≤ 99999) : RV l g mX4_heresy [.ref (ga g 0)] I J F w (BvR I J F w (sp_heresy R)) := by
  have hn10 := ok.1
  obtain ⟨c0, c1, cm, cs⟩ := id hC
  have cm : ∀ m, m < R 1 → I 2 m = nI (R (2 + 6 * m + 0)) ∧ I 3 m = nI (R (2 + 6 * m + 1)) ∧ I 4 m = nI (R (2 + 6 * m + 2)) ∧ I 5 m = nI (R (2 + 6 * m + 3)) ∧ I 6 m = nI (R (2 + 6 * m + 4)) ∧ I 7 m = nI (R (2 + 6 * m + 5)) := cm
  refine ct_start (M := mX4_heresy) (by decide +kernel) (Nat.le_of_ble_eq_true rfl) ?_
  intro p e s m args below meth c A X hA
  have X : AX p s m args meth c g A cX4_heresy 2 RX4 (Cond.code yX4_heresy cX4_heresy 2 (some .int)) (some .int) := X
  show AW p l e (rmM 5 113) s m args below meth c g A 2 0 0 (MQ below (CQ g (hp g I J F w) s.heap.size (fun vv0 hh0 => ∃ xx0 II0 JJ0 FF0 ww0, vv0 = some xx0 ∧ hh0 = hp g II0 JJ0 FF0 ww0 ∧ (BvR I J F w (sp_heresy R)) xx0 II0 JJ0 FF0 ww0)) args s 0 0 A) 0 [some (.ref (ga g 0)), none] [] (hp g I J F w)
  have L13 : ∀ (fu : Nat) (k : Nat) (I1 : TI) (F1 : TI), 101 - k < fu → (k ≤ 101) → (BT I F R (pasN R k) I1 F1) → (firF (fun k => anyB (herF (pasN R k)) (R 1)) (101 - k) k = firF (fun k => anyB (herF (pasN R k)) (R 1)) 101 0) → AW p l e (rmM 5 113) s m args below meth c g A 2 0 0 (MQ below (CQ g (hp g I J F w) s.heap.size (fun vv0 hh0 => ∃ xx0 II0 JJ0 FF0 ww0, vv0 = some xx0 ∧ hh0 = hp g II0 JJ0 FF0 ww0 ∧ (BvR I J F w (sp_heresy R)) xx0 II0 JJ0 FF0 ww0)) args s 0 0 A) 13 [some (.ref (ga g 0)), some (.int (nI k))] [] (hp g I1 J F1 w) := by
    intro fu
    induction fu with
    | zero => intro k I1 F1 hfu; exact absurd hfu (by omega)
    | succ fu ih =>
      intro k I1 F1 hfu hk K hfir
      refine a_iload_n X dX4_heresy_13 (i := 1) rfl rfl ?_
      refine a_bipush X dX4_heresy_14 (v := nI 100) (by decide +kernel) ?_
      refine s_icmp_gtN X dX4_heresy_16 (tgt := 44) (by decide) (by omega) (by omega) (fun hc16 => ?_) (fun hc16 => ?_)
      · skip
        refine a_aload_n X dX4_heresy_44 (i := 0) rfl rfl ?_
        refine a_ldc X dX4_heresy_45 kc_X4_83 ?_
        refine s_callV_R X dX4_heresy_47 lk_X4_49 ko_0 rfl rfl (c_X4_found (k := 3) (by decide) (by decide +kernel)) ⟨Nat.le_of_ble_eq_true rfl, Nat.le_of_ble_eq_true rfl⟩ rfl rfl (Nat.le_of_ble_eq_true rfl) ⟨Nat.le_of_ble_eq_true rfl, Nat.le_of_ble_eq_true rfl⟩ ?_
        refine a_iret X hA dX4_heresy_50 ?_
        exact ⟨_, _, _, _, _, rfl, rfl, bv_find (K.1) (k := 3) (by decide +kernel) (by rw [sp_heresy, ← hfir, show k = 101 by omega]; rfl)⟩
      · skip
        refine a_aload_n X dX4_heresy_19 (i := 0) rfl rfl ?_
        refine s_getr X dX4_heresy_20 fl_X4_16 ko_0 rfl ?_
        refine s_callV_R X dX4_heresy_23 lk_X4_168 ko_11 rfl rfl (by have := c_X0_isHeretical (l := l) (g := g) (I := I1) (J := J) (F := F1) (w := w) (b := 11) (Or.inr (Or.inl rfl)) (okR_pas ok k) K.2; rw [pas_1] at this; exact this) ⟨Nat.le_of_ble_eq_true rfl, Nat.le_of_ble_eq_true rfl⟩ rfl rfl (Nat.le_of_ble_eq_true rfl) ⟨Nat.le_of_ble_eq_true rfl, Nat.le_of_ble_eq_true rfl⟩ ?_
        refine a_if_eq X dX4_heresy_26 (tgt := 31) (by decide) (fun hc26 => ?_) (fun hc26 => ?_)
        · skip
          try simp only [bI_0, Bool.not_eq_false] at hc26
          refine a_aload_n X dX4_heresy_31 (i := 0) rfl rfl ?_
          refine s_getr X dX4_heresy_32 fl_X4_16 ko_0 rfl ?_
          refine s_callV_Y X dX4_heresy_35 lk_X4_162 ko_11 rfl rfl (c_X0_passNight (b := 11) (Or.inr (Or.inl rfl)) (okR_pas ok k) K.2 (by rw [pas_0]; omega)) ⟨Nat.le_of_ble_eq_true rfl, Nat.le_of_ble_eq_true rfl⟩ rfl rfl (Nat.le_of_ble_eq_true rfl) ⟨Nat.le_of_ble_eq_true rfl, Nat.le_of_ble_eq_true rfl⟩ (fun I2 J2 F2 w2 hpo => ?_)
          refine a_iinc X dX4_heresy_38 rfl (v := nI (_ + 1)) (iincN _ 1) (by decide) rfl ?_
          refine a_goto X dX4_heresy_41 (tgt := 13) (by decide) ?_
          have K2 := bt_t K.1 hpo
          obtain ⟨-, -, eJ, ew⟩ := hpo
          have eJ := eJ.symm
          have ew := ew.symm
          subst eJ; subst ew
          exact ih (k + 1) I2 F2 (by omega) (by omega) K2 ((fir_go (p := fun k => anyB (herF (pasN R k)) (R 1)) (n := 101) (by omega) hc26).symm.trans hfir)
        · skip
          try simp only [bI_0, Bool.not_eq_false] at hc26
          refine a_iload_n X dX4_heresy_29 (i := 1) rfl rfl ?_
          refine a_iret X hA dX4_heresy_30 ?_
          exact ⟨_, _, _, _, _, rfl, rfl, bv_val (K.1) (by rw [sp_heresy, ← hfir, fir_hit (p := fun k => anyB (herF (pasN R k)) (R 1)) (n := 101) (by omega) hc26, firSP_s])⟩
  refine a_aload_n X dX4_heresy_0 (i := 0) rfl rfl ?_
  refine s_getr X dX4_heresy_1 fl_X4_16 ko_0 rfl ?_
  refine a_aload_n X dX4_heresy_4 (i := 0) rfl rfl ?_
  refine s_getr X dX4_heresy_5 fl_X4_10 ko_0 rfl ?_
  refine s_callV_Y X dX4_heresy_8 lk_X4_155 ko_11 rfl rfl (c_X0_become (b := 11) (b2 := 1) (Or.inr (Or.inl rfl)) (Or.inl rfl) (by decide) ok hC) ⟨Nat.le_of_ble_eq_true rfl, Nat.le_of_ble_eq_true rfl⟩ rfl rfl (Nat.le_of_ble_eq_true rfl) ⟨Nat.le_of_ble_eq_true rfl, Nat.le_of_ble_eq_true rfl⟩ (fun I2 J2 F2 w2 hpo => ?_)
  have K := bt_t (bs_0 hC) hpo
  obtain ⟨-, -, eJ, ew⟩ := hpo
  have eJ := eJ.symm
  have ew := ew.symm
  subst eJ; subst ew
  refine a_iconst X dX4_heresy_11 (v := nI 0) (by decide +kernel) ?_
  refine a_istore_n X dX4_heresy_12 (i := 1) rfl (by decide) rfl ?_
  exact L13 102 0 _ _ (by omega) (by omega) K rfl
