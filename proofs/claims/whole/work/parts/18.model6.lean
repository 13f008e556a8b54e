set_option maxRecDepth 100000 in
set_option maxHeartbeats 4000000 in
theorem c_X5_shift {l : Launch} {g : GG} {I : TI} {J : TJ} {F : TI} {w : Int64} {R : Nat → Nat} (hR : I 44 = nr R) (ok : okR R) {y : Int32} (hN : R 0 < 1000000) : RV l g mX5_shift [.ref (ga g 43), .int y] I J F w (MdR I J F w (sp_shift R y)) := by
  have hn10 := ok.1
  have h1 : I 44 1 = nI (R 1) := by rw [hR]; rfl
  have he0 := emp_ok ok
  refine ct_start (M := mX5_shift) (by decide +kernel) (Nat.le_of_ble_eq_true rfl) ?_
  intro p e s m args below meth c A X hA
  have X : AX p s m args meth c g A cX5_shift 7 RX5 (Cond.code yX5_shift cX5_shift 7 (some .int)) (some .int) := X
  show AW p l e (rmM 7 159) s m args below meth c g A 7 0 0 (MQ below (CQ g (hp g I J F w) s.heap.size (fun vv0 hh0 => ∃ xx0 II0 JJ0 FF0 ww0, vv0 = some xx0 ∧ hh0 = hp g II0 JJ0 FF0 ww0 ∧ (MdR I J F w (sp_shift R y)) xx0 II0 JJ0 FF0 ww0)) args s 0 0 A) 0 [some (.ref (ga g 43)), some (.int y), none, none, none, none, none] [] (hp g I J F w)
  have L50 : ∀ (fu : Nat) (j : Nat) (e0 : Nat) (k : Nat) (I1 : TI), R 1 - k < fu → (y = nI j) → (inB y (nI 1) (nI 40) = true) → (j ≤ 40) → (e0 = emp R (R 1) 12 0) → (k ≤ R 1) → (AhK 48 I R R I1) → AW p l e (rmM 7 159) s m args below meth c g A 7 0 0 (MQ below (CQ g (hp g I J F w) s.heap.size (fun vv0 hh0 => ∃ xx0 II0 JJ0 FF0 ww0, vv0 = some xx0 ∧ hh0 = hp g II0 JJ0 FF0 ww0 ∧ (MdR I J F w (sp_shift R y)) xx0 II0 JJ0 FF0 ww0)) args s 0 0 A) 50 [some (.ref (ga g 43)), some (.int (nI j)), some (.int (nI e0)), some (.int (bsI (bvH R e0 j) k)), some (.int (moI (bstF 0 (bvH R e0 j) k).2)), some (.int (nI k)), none] [] (hp g I1 J F w) := by
    intro fu
    induction fu with
    | zero => intro j e0 k I1 hfu; exact absurd hfu (by omega)
    | succ fu ih =>
      intro j e0 k I1 hfu hy hc7 hj hee hk K
      subst hy
      refine a_iload X dX5_shift_50 rfl ?_
      refine a_aload_n X dX5_shift_52 (i := 0) rfl rfl ?_
      refine s_getr X dX5_shift_53 fl_X5_7 ko_43 rfl ?_
      refine a_iconst X dX5_shift_56 (v := nI 1) (by decide +kernel) ?_
      refine s_ild X dX5_shift_57 ki_44 (by omega) (by decide) ?_
      rw [show I1 44 1 = nI (R 1) from by rw [K.1]; rfl]
      refine s_icmp_geN X dX5_shift_58 (tgt := 125) (by decide) (by omega) (by omega) (fun hc58 => ?_) (fun hc58 => ?_)
      · skip
        have hk2 : k = R 1 := by omega
        refine a_iload_n X dX5_shift_125 (i := 3) rfl rfl ?_
        refine a_if_ge X dX5_shift_126 (tgt := 138) (by decide) (fun hc126 => ?_) (fun hc126 => ?_)
        · skip
          refine a_iload_n X dX5_shift_138 (i := 3) rfl rfl ?_
          refine a_iret X hA dX5_shift_139 ?_
          by_cases hz : R 1 = 0
          · first
              | exact absurd hc126 (by rw [show k = 0 by omega]; exact bsI_0 _)
              | exact ⟨_, _, _, _, _, rfl, rfl, md_find (K.S (Or.inl rfl)) (k := 3) (by decide +kernel) (by rw [sp_shift, if_pos hc7, if_pos hz])⟩
          · have hb1 := bs_pos (c := bvH R e0 j) (k := k) (by omega) (fun i => ⟨_, rfl⟩)
            first
              | exact absurd (by rw [hb1]; exact nI_pos' (by have := bst_le1 (b := 0) (c := bvH R e0 j) k; omega)) hc126
              | (rw [hb1]; exact ⟨_, _, _, _, _, rfl, rfl, md_val (K.S (Or.inl rfl)) (by rw [sp_shift, if_pos hc7, if_neg hz, cl_n (show j < 2 ^ 31 by omega), ← hee, hk2])⟩)
        · skip
          refine a_aload_n X dX5_shift_129 (i := 0) rfl rfl ?_
          refine a_ldc X dX5_shift_130 kc_X5_92 ?_
          refine s_callV_R X dX5_shift_132 lk_X5_67 ko_43 rfl rfl (c_X5_finds (k := 3) (by decide) (by decide +kernel)) ⟨Nat.le_of_ble_eq_true rfl, Nat.le_of_ble_eq_true rfl⟩ rfl rfl (Nat.le_of_ble_eq_true rfl) ⟨Nat.le_of_ble_eq_true rfl, Nat.le_of_ble_eq_true rfl⟩ ?_
          refine a_goto X dX5_shift_135 (tgt := 139) (by decide) ?_
          refine a_iret X hA dX5_shift_139 ?_
          by_cases hz : R 1 = 0
          · first
              | exact absurd hc126 (by rw [show k = 0 by omega]; exact bsI_0 _)
              | exact ⟨_, _, _, _, _, rfl, rfl, md_find (K.S (Or.inl rfl)) (k := 3) (by decide +kernel) (by rw [sp_shift, if_pos hc7, if_pos hz])⟩
          · have hb1 := bs_pos (c := bvH R e0 j) (k := k) (by omega) (fun i => ⟨_, rfl⟩)
            first
              | exact absurd (by rw [hb1]; exact nI_pos' (by have := bst_le1 (b := 0) (c := bvH R e0 j) k; omega)) hc126
              | (rw [hb1]; exact ⟨_, _, _, _, _, rfl, rfl, md_val (K.S (Or.inl rfl)) (by rw [sp_shift, if_pos hc7, if_neg hz, cl_n (show j < 2 ^ 31 by omega), ← hee, hk2])⟩)
      · skip
        have hlt : k < R 1 := by omega
        have okm := ok_seat (x := e0) ok hlt (by rw [hee]; exact he0.1) (Or.inl (by rw [hee]; exact he0.2))
        have hcs : bvH R e0 j k = some (kaN (pasN (va_up R (2 + 6 * k + 1) e0) j) (R 1)) := rfl
        have hkl := ka_le (pasN (va_up R (2 + 6 * k + 1) e0) j) (R 1)
        have hmb := bst_b (b := 0) (bvH_b (R := R) (e0 := e0) (j := j) hn10) k
        refine a_aload_n X dX5_shift_61 (i := 0) rfl rfl ?_
        refine a_iload X dX5_shift_62 rfl ?_
        refine a_iconst X dX5_shift_64 (v := nI 1) (by decide +kernel) ?_
        refine a_iload_n X dX5_shift_65 (i := 2) rfl rfl ?_
        refine s_callV_V X dX5_shift_66 lk_X5_108 ko_43 rfl rfl (c_X5_puts K.1 (by omega)) ⟨Nat.le_of_ble_eq_true rfl, Nat.le_of_ble_eq_true rfl⟩ rfl rfl (Nat.le_of_ble_eq_true rfl) ⟨Nat.le_of_ble_eq_true rfl, Nat.le_of_ble_eq_true rfl⟩ ?_
        refine a_aload_n X dX5_shift_69 (i := 0) rfl rfl ?_
        refine a_iload_n X dX5_shift_70 (i := 1) rfl rfl ?_
        refine s_callV_Y X dX5_shift_71 lk_X5_152 ko_43 rfl rfl (c_X5_passes (a := j) (up_s _ _ _) okm (by rw [up_n _ _ (by omega)]; omega)) ⟨Nat.le_of_ble_eq_true rfl, Nat.le_of_ble_eq_true rfl⟩ rfl rfl (Nat.le_of_ble_eq_true rfl) ⟨Nat.le_of_ble_eq_true rfl, Nat.le_of_ble_eq_true rfl⟩ (fun I2 J2 F2 w2 hpo => ?_)
        have K3 := ahk_m (ahk_u K (by decide)) (Or.inl rfl) hpo
        obtain ⟨-, -, rfl, rfl, rfl⟩ := hpo
        refine a_aload_n X dX5_shift_74 (i := 0) rfl rfl ?_
        refine s_callV_R X dX5_shift_75 lk_X5_86 ko_43 rfl rfl (c_X5_knownOfAll K3.1 (fun m hm => ((okR_pas okm j).2.1 m hm).2.2.2.2.1) (okR_pas okm j).1) ⟨Nat.le_of_ble_eq_true rfl, Nat.le_of_ble_eq_true rfl⟩ rfl rfl (Nat.le_of_ble_eq_true rfl) ⟨Nat.le_of_ble_eq_true rfl, Nat.le_of_ble_eq_true rfl⟩ ?_
        rw [ka_eq, pas_1, up_n _ _ (by omega)]
        refine a_istore X dX5_shift_78 (by decide) rfl ?_
        refine a_aload_n X dX5_shift_80 (i := 0) rfl rfl ?_
        refine a_iconst X dX5_shift_81 (v := nI 0) (by decide +kernel) ?_
        refine a_aload_n X dX5_shift_82 (i := 0) rfl rfl ?_
        refine s_getr X dX5_shift_83 fl_X5_22 ko_43 rfl ?_
        refine s_callV_V X dX5_shift_86 lk_X5_156 ko_43 rfl rfl (c_X5_moveAll_f K3.1 ki_48 (by decide) K3.2.1 (fun i hi => (ok.2.2.2 i hi).trans ((okR_pas okm j).2.2.2 i hi).symm)) ⟨Nat.le_of_ble_eq_true rfl, Nat.le_of_ble_eq_true rfl⟩ rfl rfl (Nat.le_of_ble_eq_true rfl) ⟨Nat.le_of_ble_eq_true rfl, Nat.le_of_ble_eq_true rfl⟩ ?_
        refine a_iload X dX5_shift_89 rfl ?_
        refine a_iload X dX5_shift_91 rfl ?_
        refine a_icmp_le X dX5_shift_93 (tgt := 101) (by decide) (fun hc93 => ?_) (fun hc93 => ?_)
        · skip
          refine a_iload_n X dX5_shift_101 (i := 3) rfl rfl ?_
          refine a_istore_n X dX5_shift_102 (i := 3) rfl (by decide) rfl ?_
          refine a_iload X dX5_shift_103 rfl ?_
          refine a_iload X dX5_shift_105 rfl ?_
          refine a_icmp_le X dX5_shift_107 (tgt := 115) (by decide) (fun hc107 => ?_) (fun hc107 => ?_)
          · skip
            refine a_iload X dX5_shift_115 rfl ?_
            refine a_istore X dX5_shift_117 (by decide) rfl ?_
            refine a_iinc X dX5_shift_119 rfl (v := nI (_ + 1)) (iincN _ 1) (by decide) rfl ?_
            refine a_goto X dX5_shift_122 (tgt := 50) (by decide) ?_
            first
              | exact absurd hc93 hc107
              | exact absurd hc107 hc93
              | (have e := bst_le (b := 0) (k := k) hcs ((moI_le (by omega) (by omega)).mp hc93)
                 have := ih j e0 (k + 1) _ (by omega) rfl hc7 hj hee (by omega) (ahk_u K3 (by decide))
                 rw [bs_le e, e] at this
                 exact s_dropAt 6 this)
              | (have e := bst_gt (b := 0) (k := k) hcs (fun z => hc93 ((moI_le (by omega) (by omega)).mpr z))
                 have := ih j e0 (k + 1) _ (by omega) rfl hc7 hj hee (by omega) (ahk_u K3 (by decide))
                 rw [bs_gt e, e] at this
                 exact s_dropAt 6 this)
          · skip
            refine a_iload X dX5_shift_110 rfl ?_
            refine a_goto X dX5_shift_112 (tgt := 117) (by decide) ?_
            refine a_istore X dX5_shift_117 (by decide) rfl ?_
            refine a_iinc X dX5_shift_119 rfl (v := nI (_ + 1)) (iincN _ 1) (by decide) rfl ?_
            refine a_goto X dX5_shift_122 (tgt := 50) (by decide) ?_
            first
              | exact absurd hc93 hc107
              | exact absurd hc107 hc93
              | (have e := bst_le (b := 0) (k := k) hcs ((moI_le (by omega) (by omega)).mp hc93)
                 have := ih j e0 (k + 1) _ (by omega) rfl hc7 hj hee (by omega) (ahk_u K3 (by decide))
                 rw [bs_le e, e] at this
                 exact s_dropAt 6 this)
              | (have e := bst_gt (b := 0) (k := k) hcs (fun z => hc93 ((moI_le (by omega) (by omega)).mpr z))
                 have := ih j e0 (k + 1) _ (by omega) rfl hc7 hj hee (by omega) (ahk_u K3 (by decide))
                 rw [bs_gt e, e] at this
                 exact s_dropAt 6 this)
        · skip
          refine a_iload X dX5_shift_96 rfl ?_
          refine a_goto X dX5_shift_98 (tgt := 102) (by decide) ?_
          refine a_istore_n X dX5_shift_102 (i := 3) rfl (by decide) rfl ?_
          refine a_iload X dX5_shift_103 rfl ?_
          refine a_iload X dX5_shift_105 rfl ?_
          refine a_icmp_le X dX5_shift_107 (tgt := 115) (by decide) (fun hc107 => ?_) (fun hc107 => ?_)
          · skip
            refine a_iload X dX5_shift_115 rfl ?_
            refine a_istore X dX5_shift_117 (by decide) rfl ?_
            refine a_iinc X dX5_shift_119 rfl (v := nI (_ + 1)) (iincN _ 1) (by decide) rfl ?_
            refine a_goto X dX5_shift_122 (tgt := 50) (by decide) ?_
            first
              | exact absurd hc93 hc107
              | exact absurd hc107 hc93
              | (have e := bst_le (b := 0) (k := k) hcs ((moI_le (by omega) (by omega)).mp hc93)
                 have := ih j e0 (k + 1) _ (by omega) rfl hc7 hj hee (by omega) (ahk_u K3 (by decide))
                 rw [bs_le e, e] at this
                 exact s_dropAt 6 this)
              | (have e := bst_gt (b := 0) (k := k) hcs (fun z => hc93 ((moI_le (by omega) (by omega)).mpr z))
                 have := ih j e0 (k + 1) _ (by omega) rfl hc7 hj hee (by omega) (ahk_u K3 (by decide))
                 rw [bs_gt e, e] at this
                 exact s_dropAt 6 this)
          · skip
            refine a_iload X dX5_shift_110 rfl ?_
            refine a_goto X dX5_shift_112 (tgt := 117) (by decide) ?_
            refine a_istore X dX5_shift_117 (by decide) rfl ?_
            refine a_iinc X dX5_shift_119 rfl (v := nI (_ + 1)) (iincN _ 1) (by decide) rfl ?_
            refine a_goto X dX5_shift_122 (tgt := 50) (by decide) ?_
            first
              | exact absurd hc93 hc107
              | exact absurd hc107 hc93
              | (have e := bst_le (b := 0) (k := k) hcs ((moI_le (by omega) (by omega)).mp hc93)
                 have := ih j e0 (k + 1) _ (by omega) rfl hc7 hj hee (by omega) (ahk_u K3 (by decide))
                 rw [bs_le e, e] at this
                 exact s_dropAt 6 this)
              | (have e := bst_gt (b := 0) (k := k) hcs (fun z => hc93 ((moI_le (by omega) (by omega)).mpr z))
                 have := ih j e0 (k + 1) _ (by omega) rfl hc7 hj hee (by omega) (ahk_u K3 (by decide))
                 rw [bs_gt e, e] at this
                 exact s_dropAt 6 this)
  have L19 : ∀ (fu : Nat) (j : Nat) (k : Nat), 13 - k < fu → (y = nI j) → (inB y (nI 1) (nI 40) = true) → (j ≤ 40) → (k ≤ 12) → (emp R (R 1) (12 - k) k = emp R (R 1) 12 0) → AW p l e (rmM 7 159) s m args below meth c g A 7 0 0 (MQ below (CQ g (hp g I J F w) s.heap.size (fun vv0 hh0 => ∃ xx0 II0 JJ0 FF0 ww0, vv0 = some xx0 ∧ hh0 = hp g II0 JJ0 FF0 ww0 ∧ (MdR I J F w (sp_shift R y)) xx0 II0 JJ0 FF0 ww0)) args s 0 0 A) 19 [some (.ref (ga g 43)), some (.int (nI j)), some (.int (nI k)), none, none, none, none] [] (hp g I J F w) := by
    intro fu
    induction fu with
    | zero => intro j k hfu; exact absurd hfu (by omega)
    | succ fu ih =>
      intro j k hfu hy hc7 hj hk he
      subst hy
      refine a_aload_n X dX5_shift_19 (i := 0) rfl rfl ?_
      refine a_iload_n X dX5_shift_20 (i := 2) rfl rfl ?_
      refine s_callV_R X dX5_shift_21 lk_X5_63 ko_43 rfl rfl (c_X5_whoIn hR ok.1 (by omega) (fun m hm => Nat.lt_trans (ok.2.1 m hm).2.1 (by decide))) ⟨Nat.le_of_ble_eq_true rfl, Nat.le_of_ble_eq_true rfl⟩ rfl rfl (Nat.le_of_ble_eq_true rfl) ⟨Nat.le_of_ble_eq_true rfl, Nat.le_of_ble_eq_true rfl⟩ ?_
      refine a_if_lt X dX5_shift_24 (tgt := 33) (by decide) (fun hc24 => ?_) (fun hc24 => ?_)
      · skip
        have hw := whoNone' (who_b hn10) hc24
        refine a_aload_n X dX5_shift_33 (i := 0) rfl rfl ?_
        refine a_iconst X dX5_shift_34 (v := nI 1) (by decide +kernel) ?_
        refine a_aload_n X dX5_shift_35 (i := 0) rfl rfl ?_
        refine s_getr X dX5_shift_36 fl_X5_22 ko_43 rfl ?_
        refine s_callV_V X dX5_shift_39 lk_X5_156 ko_43 rfl rfl (c_X5_moveAll_t ki_48 (by decide)) ⟨Nat.le_of_ble_eq_true rfl, Nat.le_of_ble_eq_true rfl⟩ rfl rfl (Nat.le_of_ble_eq_true rfl) ⟨Nat.le_of_ble_eq_true rfl, Nat.le_of_ble_eq_true rfl⟩ ?_
        refine a_iconst X dX5_shift_42 (v := (-1)) (by decide +kernel) ?_
        refine a_istore_n X dX5_shift_43 (i := 3) rfl (by decide) rfl ?_
        refine a_iconst X dX5_shift_44 (v := (-1)) (by decide +kernel) ?_
        refine a_istore X dX5_shift_45 (by decide) rfl ?_
        refine a_iconst X dX5_shift_47 (v := nI 0) (by decide +kernel) ?_
        refine a_istore X dX5_shift_48 (by decide) rfl ?_
        exact (by rw [show k = emp R (R 1) 12 0 from (emp_hit hw).symm.trans he]; exact L50 (R 1 + 1) j _ 0 _ (by omega) rfl hc7 hj rfl (by omega) (ahk_0 (Q := 48) hR (by decide)))
      · skip
        obtain ⟨q, hw⟩ := whoSome' hc24
        have hk12 : k < 12 := by have z1 := who_lt hw; have z2 := (ok.2.1 q z1.1).2.1; omega
        refine a_iinc X dX5_shift_27 rfl (v := nI (_ + 1)) (iincN _ 1) (by decide) rfl ?_
        refine a_goto X dX5_shift_30 (tgt := 19) (by decide) ?_
        exact ih j (k + 1) (by omega) rfl hc7 hj (by omega) ((emp_go hk12 (by rw [hw]; simp)).symm.trans he)
  refine a_iload_n X dX5_shift_0 (i := 1) rfl rfl ?_
  refine a_iconst X dX5_shift_1 (v := nI 1) (by decide +kernel) ?_
  refine a_bipush X dX5_shift_2 (v := nI 40) (by decide +kernel) ?_
  refine s_callS_R X dX5_shift_4 lk_X5_51 c_X5_in ⟨Nat.le_of_ble_eq_true rfl, Nat.le_of_ble_eq_true rfl⟩ rfl rfl (Nat.le_of_ble_eq_true rfl) ⟨Nat.le_of_ble_eq_true rfl, Nat.le_of_ble_eq_true rfl⟩ ?_
  refine a_if_ne X dX5_shift_7 (tgt := 17) (by decide) (fun hc7 => ?_) (fun hc7 => ?_)
  · skip
    try simp only [bI_0, Bool.not_eq_false] at hc7
    obtain ⟨j, hj0, hj, rfl⟩ := inB_r (by decide) (by decide) hc7
    refine a_iconst X dX5_shift_17 (v := nI 0) (by decide +kernel) ?_
    refine a_istore_n X dX5_shift_18 (i := 2) rfl (by decide) rfl ?_
    exact L19 14 j 0 (by omega) rfl hc7 (by omega) (by omega) rfl
  · skip
    try simp only [bI_0, Bool.not_eq_false] at hc7
    refine a_aload_n X dX5_shift_10 (i := 0) rfl rfl ?_
    refine a_ldc X dX5_shift_11 kc_X5_50 ?_
    refine s_callV_R X dX5_shift_13 lk_X5_67 ko_43 rfl rfl (c_X5_finds (k := 0) (by decide) (by decide +kernel)) ⟨Nat.le_of_ble_eq_true rfl, Nat.le_of_ble_eq_true rfl⟩ rfl rfl (Nat.le_of_ble_eq_true rfl) ⟨Nat.le_of_ble_eq_true rfl, Nat.le_of_ble_eq_true rfl⟩ ?_
    refine a_iret X hA dX5_shift_16 ?_
    exact ⟨_, _, _, _, _, rfl, rfl, md_find (ah_0 hR) (k := 0) (by decide +kernel) (by rw [sp_shift, if_neg (by rw [hc7]; decide)])⟩
set_option maxRecDepth 100000 in
set_option maxHeartbeats 4000000 in
theorem c_X5_image {l : Launch} {g : GG} {I : TI} {J : TJ} {F : TI} {w : Int64}  : UR l g mX5_image [.ref (ga g 43)] I J F w (.int (nI 1)) (va_up I 55 (fun k => if k < 62 then I 44 k else I 55 k)) J (va_up F 43 (va_up (F 43) 20 (nI 1))) w := by
  refine ct_start (M := mX5_image) (by decide +kernel) (Nat.le_of_ble_eq_true rfl) ?_
  intro p e s m args below meth c A X hA
  have X : AX p s m args meth c g A cX5_image 1 RX5 (Cond.code yX5_image cX5_image 1 (some .int)) (some .int) := X
  show AW p l e (rmM 1 23) s m args below meth c g A 1 0 0 (MQ below (CQ g (hp g I J F w) s.heap.size (fun vv0 hh0 => vv0 = some (.int (nI 1)) ∧ hh0 = hp g (va_up I 55 (fun k => if k < 62 then I 44 k else I 55 k)) J (va_up F 43 (va_up (F 43) 20 (nI 1))) w)) args s 0 0 A) 0 [some (.ref (ga g 43))] [] (hp g I J F w)
  refine a_aload_n X dX5_image_0 (i := 0) rfl rfl ?_
  refine a_iconst X dX5_image_1 (v := nI 1) (by decide +kernel) ?_
  refine a_aload_n X dX5_image_2 (i := 0) rfl rfl ?_
  refine s_getr X dX5_image_3 fl_X5_44 ko_43 rfl ?_
  refine s_callV_V X dX5_image_6 lk_X5_156 ko_43 rfl rfl (c_X5_moveAll_t ki_55 (by decide)) ⟨Nat.le_of_ble_eq_true rfl, Nat.le_of_ble_eq_true rfl⟩ rfl rfl (Nat.le_of_ble_eq_true rfl) ⟨Nat.le_of_ble_eq_true rfl, Nat.le_of_ble_eq_true rfl⟩ ?_
  refine a_aload_n X dX5_image_9 (i := 0) rfl rfl ?_
  refine a_iconst X dX5_image_10 (v := nI 1) (by decide +kernel) ?_
  refine s_puti X dX5_image_11 fp_X5_281 ko_43 rfl (by decide +kernel) (by decide +kernel) ?_
  refine a_iconst X dX5_image_14 (v := nI 1) (by decide +kernel) ?_
  exact a_iret X hA dX5_image_15 ⟨rfl, rfl⟩
set_option maxRecDepth 100000 in
set_option maxHeartbeats 4000000 in
theorem c_X5_tear {l : Launch} {g : GG} {I : TI} {J : TJ} {F : TI} {w : Int64}  : UR l g mX5_tear [.ref (ga g 43)] I J F w (.int (if F 43 20 = 0 then nI 0 else nI 1)) I J (va_up F 43 (va_up (F 43) 20 (nI 0))) w := by
  refine ct_start (M := mX5_tear) (by decide +kernel) (Nat.le_of_ble_eq_true rfl) ?_
  intro p e s m args below meth c A X hA
  have X : AX p s m args meth c g A cX5_tear 2 RX5 (Cond.code yX5_tear cX5_tear 2 (some .int)) (some .int) := X
  show AW p l e (rmM 0 0) s m args below meth c g A 2 0 0 (MQ below (CQ g (hp g I J F w) s.heap.size (fun vv0 hh0 => vv0 = some (.int (if F 43 20 = 0 then nI 0 else nI 1)) ∧ hh0 = hp g I J (va_up F 43 (va_up (F 43) 20 (nI 0))) w)) args s 0 0 A) 0 [some (.ref (ga g 43)), none] [] (hp g I J F w)
  refine a_aload_n X dX5_tear_0 (i := 0) rfl rfl ?_
  refine s_geti X dX5_tear_1 fl_X5_281 ko_43 rfl ?_
  refine a_if_eq X dX5_tear_4 (tgt := 11) (by decide) (fun hc4 => ?_) (fun hc4 => ?_)
  · skip
    refine a_iconst X dX5_tear_11 (v := nI 0) (by decide +kernel) ?_
    refine a_istore_n X dX5_tear_12 (i := 1) rfl (by decide) rfl ?_
    refine a_aload_n X dX5_tear_13 (i := 0) rfl rfl ?_
    refine a_iconst X dX5_tear_14 (v := nI 0) (by decide +kernel) ?_
    refine s_puti X dX5_tear_15 fp_X5_281 ko_43 rfl (by decide +kernel) (by decide +kernel) ?_
    refine a_iload_n X dX5_tear_18 (i := 1) rfl rfl ?_
    refine a_iret X hA dX5_tear_19 ⟨?_, ?_⟩
    · first | rw [if_pos hc4] | rw [if_neg hc4]
    · rfl
  · skip
    refine a_iconst X dX5_tear_7 (v := nI 1) (by decide +kernel) ?_
    refine a_goto X dX5_tear_8 (tgt := 12) (by decide) ?_
    refine a_istore_n X dX5_tear_12 (i := 1) rfl (by decide) rfl ?_
    refine a_aload_n X dX5_tear_13 (i := 0) rfl rfl ?_
    refine a_iconst X dX5_tear_14 (v := nI 0) (by decide +kernel) ?_
    refine s_puti X dX5_tear_15 fp_X5_281 ko_43 rfl (by decide +kernel) (by decide +kernel) ?_
    refine a_iload_n X dX5_tear_18 (i := 1) rfl rfl ?_
    refine a_iret X hA dX5_tear_19 ⟨?_, ?_⟩
    · first | rw [if_pos hc4] | rw [if_neg hc4]
    · rfl
set_option maxRecDepth 100000 in
set_option maxHeartbeats 4000000 in
theorem c_X5_wipe {l : Launch} {g : GG} {I : TI} {J : TJ} {F : TI} {w : Int64}  : UR l g mX5_wipe [.ref (ga g 43)] I J F w (.int (F 43 7)) I J (va_up F 43 (va_up (F 43) 7 (nI 0))) w := by
  refine ct_start (M := mX5_wipe) (by decide +kernel) (Nat.le_of_ble_eq_true rfl) ?_
  intro p e s m args below meth c A X hA
  have X : AX p s m args meth c g A cX5_wipe 2 RX5 (Cond.code yX5_wipe cX5_wipe 2 (some .int)) (some .int) := X
  show AW p l e (rmM 0 0) s m args below meth c g A 2 0 0 (MQ below (CQ g (hp g I J F w) s.heap.size (fun vv0 hh0 => vv0 = some (.int (F 43 7)) ∧ hh0 = hp g I J (va_up F 43 (va_up (F 43) 7 (nI 0))) w)) args s 0 0 A) 0 [some (.ref (ga g 43)), none] [] (hp g I J F w)
  refine a_aload_n X dX5_wipe_0 (i := 0) rfl rfl ?_
  refine s_geti X dX5_wipe_1 fl_X5_173 ko_43 rfl ?_
  refine a_istore_n X dX5_wipe_4 (i := 1) rfl (by decide) rfl ?_
  refine a_aload_n X dX5_wipe_5 (i := 0) rfl rfl ?_
  refine a_iconst X dX5_wipe_6 (v := nI 0) (by decide +kernel) ?_
  refine s_puti X dX5_wipe_7 fp_X5_173 ko_43 rfl rfl rfl ?_
  refine a_iload_n X dX5_wipe_10 (i := 1) rfl rfl ?_
  exact a_iret X hA dX5_wipe_11 ⟨rfl, rfl⟩
set_option maxRecDepth 100000 in
set_option maxHeartbeats 4000000 in
theorem c_X5_undo {l : Launch} {g : GG} {I : TI} {J : TJ} {F : TI} {w : Int64} {R : Nat → Nat} (hR : I 44 = nr R) (ok : okR R) {Rk : Nat → Nat} (hs : ¬ F 43 20 = 0 → ∀ k, k < 62 → I 55 k = nI (Rk k)) (hz : ∀ k, 62 ≤ k → Rk k = 0) : RV l g mX5_undo [.ref (ga g 43)] I J F w (MdR I J F w (sp_undo R Rk (F 43 20))) := by
  refine ct_start (M := mX5_undo) (by decide +kernel) (Nat.le_of_ble_eq_true rfl) ?_
  intro p e s m args below meth c A X hA
  have X : AX p s m args meth c g A cX5_undo 1 RX5 (Cond.code yX5_undo cX5_undo 1 (some .int)) (some .int) := X
  show AW p l e (rmM 1 23) s m args below meth c g A 1 0 0 (MQ below (CQ g (hp g I J F w) s.heap.size (fun vv0 hh0 => ∃ xx0 II0 JJ0 FF0 ww0, vv0 = some xx0 ∧ hh0 = hp g II0 JJ0 FF0 ww0 ∧ (MdR I J F w (sp_undo R Rk (F 43 20))) xx0 II0 JJ0 FF0 ww0)) args s 0 0 A) 0 [some (.ref (ga g 43))] [] (hp g I J F w)
  refine a_aload_n X dX5_undo_0 (i := 0) rfl rfl ?_
  refine s_geti X dX5_undo_1 fl_X5_281 ko_43 rfl ?_
  refine a_if_ne X dX5_undo_4 (tgt := 14) (by decide) (fun hc4 => ?_) (fun hc4 => ?_)
  · skip
    refine a_aload_n X dX5_undo_14 (i := 0) rfl rfl ?_
    refine a_iconst X dX5_undo_15 (v := nI 0) (by decide +kernel) ?_
    refine a_aload_n X dX5_undo_16 (i := 0) rfl rfl ?_
    refine s_getr X dX5_undo_17 fl_X5_44 ko_43 rfl ?_
    refine s_callV_V X dX5_undo_20 lk_X5_156 ko_43 rfl rfl (c_X5_moveAll_f hR ki_55 (by decide) (hs hc4) (fun i hi => (hz i hi).trans (ok.2.2.2 i hi).symm)) ⟨Nat.le_of_ble_eq_true rfl, Nat.le_of_ble_eq_true rfl⟩ rfl rfl (Nat.le_of_ble_eq_true rfl) ⟨Nat.le_of_ble_eq_true rfl, Nat.le_of_ble_eq_true rfl⟩ ?_
    refine a_aload_n X dX5_undo_23 (i := 0) rfl rfl ?_
    refine s_getr X dX5_undo_24 fl_X5_7 ko_43 rfl ?_
    refine a_iconst X dX5_undo_27 (v := nI 1) (by decide +kernel) ?_
    refine s_ild X dX5_undo_28 ki_44 (by omega) (by decide) ?_
    rw [up_s]
    refine a_iret X hA dX5_undo_29 ?_
    exact ⟨_, _, _, _, _, rfl, rfl, md_val (ah_u (ah_0 hR)) (by rw [sp_undo, if_neg hc4]; rfl)⟩
  · skip
    refine a_aload_n X dX5_undo_7 (i := 0) rfl rfl ?_
    refine a_ldc X dX5_undo_8 kc_X5_92 ?_
    refine s_callV_R X dX5_undo_10 lk_X5_67 ko_43 rfl rfl (c_X5_finds (k := 3) (by decide) (by decide +kernel)) ⟨Nat.le_of_ble_eq_true rfl, Nat.le_of_ble_eq_true rfl⟩ rfl rfl (Nat.le_of_ble_eq_true rfl) ⟨Nat.le_of_ble_eq_true rfl, Nat.le_of_ble_eq_true rfl⟩ ?_
    refine a_iret X hA dX5_undo_13 ?_
    exact ⟨_, _, _, _, _, rfl, rfl, md_find (ah_0 hR) (k := 3) (by decide +kernel) (by rw [sp_undo, if_pos hc4])⟩
set_option maxRecDepth 100000 in
set_option maxHeartbeats 4000000 in
theorem c_X5_feed {l : Launch} {g : GG} {I : TI} {J : TJ} {F : TI} {w : Int64} {x y : Int32} {t : Nat} (ht : F 43 7 = nI t) (ht2 : t ≤ 120) : RV l g mX5_feed [.ref (ga g 43), .int x, .int y] I J F w (FdM I J F w t x y) := by
  refine ct_start (M := mX5_feed) (by decide +kernel) (Nat.le_of_ble_eq_true rfl) ?_
  intro p e s m args below meth c A X hA
  have X : AX p s m args meth c g A cX5_feed 4 RX5 (Cond.code yX5_feed cX5_feed 4 (some .int)) (some .int) := X
  show AW p l e (rmM 1 22) s m args below meth c g A 4 0 0 (MQ below (CQ g (hp g I J F w) s.heap.size (fun vv0 hh0 => ∃ xx0 II0 JJ0 FF0 ww0, vv0 = some xx0 ∧ hh0 = hp g II0 JJ0 FF0 ww0 ∧ (FdM I J F w t x y) xx0 II0 JJ0 FF0 ww0)) args s 0 0 A) 0 [some (.ref (ga g 43)), some (.int x), some (.int y), none] [] (hp g I J F w)
  have L38 : ∀ (fu : Nat) (n : Nat) (k : Nat) (c1 : Nat) (f1 : Nat → Int32), k < fu → (y = nI n) → (inB y (nI 1) (nI 4) = true) → (1 ≤ n ∧ n ≤ 4) → (t + n ≤ 120) → (k ≤ n) → (c1 + k = t + n) → (fdF f1 c1 x k = fdF (I 50) t x n) → AW p l e (rmM 1 22) s m args below meth c g A 4 0 0 (MQ below (CQ g (hp g I J F w) s.heap.size (fun vv0 hh0 => ∃ xx0 II0 JJ0 FF0 ww0, vv0 = some xx0 ∧ hh0 = hp g II0 JJ0 FF0 ww0 ∧ (FdM I J F w t x y) xx0 II0 JJ0 FF0 ww0)) args s 0 0 A) 38 [some (.ref (ga g 43)), some (.int x), some (.int (nI n)), some (.int (nI k - nI 1))] [] (hp g (va_up I 50 f1) J (va_up F 43 (va_up (F 43) 7 (nI c1))) w) := by
    intro fu
    induction fu with
    | zero => intro n k c1 f1 hfu; exact absurd hfu (by omega)
    | succ fu ih =>
      intro n k c1 f1 hfu hy hc6 hn htn hk hc1 hf
      subst hy
      refine a_iload_n X dX5_feed_38 (i := 3) rfl rfl ?_
      refine a_if_lt X dX5_feed_39 (tgt := 77) (by decide) (fun hc39 => ?_) (fun hc39 => ?_)
      · skip
        have hk0 := k_zero (by omega) hc39
        refine a_aload_n X dX5_feed_77 (i := 0) rfl rfl ?_
        refine s_geti X dX5_feed_78 fl_X5_173 ko_43 rfl ?_
        rw [up_s, up_s]
        refine a_iret X hA dX5_feed_81 ?_
        subst hk0
        refine ⟨_, _, _, _, _, rfl, rfl, (fun _ => ?_), (fun i q => by rw [fdO, if_pos hc6, cl_n (show n < 2 ^ 31 by omega), if_pos (by omega)] at q; cases q), rfl, rfl⟩
        rw [cl_n (show n < 2 ^ 31 by omega), ← hf, ← hc1]
        exact ⟨rfl, rfl, rfl⟩
      · skip
        have hk1 := k_pos hc39
        rw [pk_sub hk1]
        refine a_aload_n X dX5_feed_42 (i := 0) rfl rfl ?_
        refine s_getr X dX5_feed_43 fl_X5_28 ko_43 rfl ?_
        refine a_aload_n X dX5_feed_46 (i := 0) rfl rfl ?_
        refine s_geti X dX5_feed_47 fl_X5_173 ko_43 rfl ?_
        rw [up_s, up_s]
        refine a_iload_n X dX5_feed_50 (i := 1) rfl rfl ?_
        refine a_bipush X dX5_feed_51 (v := nI 8) (by decide +kernel) ?_
        refine a_iload_n X dX5_feed_53 (i := 3) rfl rfl ?_
        refine s_imulN X dX5_feed_54 ?_
        refine a_ishr X dX5_feed_55 ?_
        refine a_sipush X dX5_feed_56 (v := nI 255) (by decide +kernel) ?_
        refine a_iand X dX5_feed_59 ?_
        refine s_ist X dX5_feed_60 ki_50 (by omega) (by decide) ?_
        refine a_aload_n X dX5_feed_61 (i := 0) rfl rfl ?_
        refine a_dup X dX5_feed_62 rfl ?_
        refine s_geti X dX5_feed_63 fl_X5_173 ko_43 rfl ?_
        rw [up_s, up_s]
        refine a_iconst X dX5_feed_66 (v := nI 1) (by decide +kernel) ?_
        refine s_iaddN X dX5_feed_67 ?_
        refine s_puti X dX5_feed_68 fp_X5_173 ko_43 rfl rfl rfl ?_
        refine a_iinc X dX5_feed_71 rfl (v := _ - nI 1) (iincM _) (by decide) rfl ?_
        refine a_goto X dX5_feed_74 (tgt := 38) (by decide) ?_
        have := ih n (k - 1) (c1 + 1) _ (by omega) rfl hc6 hn htn (by omega) (by omega) ((fdF_step (by omega)).symm.trans hf)
        simp only [bx_uu, up_s]
        exact this
  refine a_iload_n X dX5_feed_0 (i := 2) rfl rfl ?_
  refine a_iconst X dX5_feed_1 (v := nI 1) (by decide +kernel) ?_
  refine a_iconst X dX5_feed_2 (v := nI 4) (by decide +kernel) ?_
  refine s_callS_R X dX5_feed_3 lk_X5_51 c_X5_in ⟨Nat.le_of_ble_eq_true rfl, Nat.le_of_ble_eq_true rfl⟩ rfl rfl (Nat.le_of_ble_eq_true rfl) ⟨Nat.le_of_ble_eq_true rfl, Nat.le_of_ble_eq_true rfl⟩ ?_
  refine a_if_ne X dX5_feed_6 (tgt := 16) (by decide) (fun hc6 => ?_) (fun hc6 => ?_)
  · skip
    try simp only [bI_0, Bool.not_eq_false] at hc6
    obtain ⟨n, hn0, hn, rfl⟩ := inB_r (by decide) (by decide) hc6
    refine a_aload_n X dX5_feed_16 (i := 0) rfl rfl ?_
    refine s_geti X dX5_feed_17 fl_X5_173 ko_43 rfl ?_
    rw [ht]
    refine a_iload_n X dX5_feed_20 (i := 2) rfl rfl ?_
    refine s_iaddN X dX5_feed_21 ?_
    refine a_bipush X dX5_feed_22 (v := nI 120) (by decide +kernel) ?_
    refine s_icmp_leN X dX5_feed_24 (tgt := 34) (by decide) (by omega) (by omega) (fun hc24 => ?_) (fun hc24 => ?_)
    · skip
      refine a_iload_n X dX5_feed_34 (i := 2) rfl rfl ?_
      refine a_iconst X dX5_feed_35 (v := nI 1) (by decide +kernel) ?_
      refine a_isub X dX5_feed_36 ?_
      refine a_istore_n X dX5_feed_37 (i := 3) rfl (by decide) rfl ?_
      exact (by have := L38 (n + 1) n n t (I 50) (by omega) rfl hc6 ⟨by omega, by omega⟩ (by omega) (Nat.le_refl n) rfl rfl; rw [show va_up I 50 (I 50) = I from up_self (fun _ => rfl), up_selfF ht] at this; exact this)
    · skip
      refine a_aload_n X dX5_feed_27 (i := 0) rfl rfl ?_
      refine a_ldc X dX5_feed_28 kc_X5_118 ?_
      refine s_callV_R X dX5_feed_30 lk_X5_67 ko_43 rfl rfl (c_X5_finds (k := 1) (by decide) (by decide +kernel)) ⟨Nat.le_of_ble_eq_true rfl, Nat.le_of_ble_eq_true rfl⟩ rfl rfl (Nat.le_of_ble_eq_true rfl) ⟨Nat.le_of_ble_eq_true rfl, Nat.le_of_ble_eq_true rfl⟩ ?_
      refine a_iret X hA dX5_feed_33 ?_
      exact ⟨_, _, _, _, _, rfl, rfl, (fun q => by rw [fdO, if_pos hc6, cl_n (show n < 2 ^ 31 by omega), if_neg (by omega)] at q; cases q), (fun i q => by rw [fdO, if_pos hc6, cl_n (show n < 2 ^ 31 by omega), if_neg (by omega)] at q; cases q; exact ⟨by congr 1, rfl, rfl⟩), rfl, rfl⟩
  · skip
    try simp only [bI_0, Bool.not_eq_false] at hc6
    refine a_aload_n X dX5_feed_9 (i := 0) rfl rfl ?_
    refine a_ldc X dX5_feed_10 kc_X5_50 ?_
    refine s_callV_R X dX5_feed_12 lk_X5_67 ko_43 rfl rfl (c_X5_finds (k := 0) (by decide) (by decide +kernel)) ⟨Nat.le_of_ble_eq_true rfl, Nat.le_of_ble_eq_true rfl⟩ rfl rfl (Nat.le_of_ble_eq_true rfl) ⟨Nat.le_of_ble_eq_true rfl, Nat.le_of_ble_eq_true rfl⟩ ?_
    refine a_iret X hA dX5_feed_15 ?_
    exact ⟨_, _, _, _, _, rfl, rfl, (fun q => by rw [fdO, if_neg (by rw [hc6]; decide)] at q; cases q), (fun i q => by rw [fdO, if_neg (by rw [hc6]; decide)] at q; cases q; exact ⟨by congr 1, rfl, rfl⟩), rfl, rfl⟩
