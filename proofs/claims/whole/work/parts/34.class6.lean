set_option maxRecDepth 100000 in
set_option maxHeartbeats 4000000 in
theorem c_X4_kind {l : Launch} {g : GG} {I : TI} {J : TJ} {F : TI} {w : Int64} {R : Nat → Nat} (ok : okR R) (hC : Ch I F 1 R) {x y : Int32} (hN : R 0 ≤ 99999) : RV l g mX4_kind [.ref (ga g 0), .int x, .int y] I J F w (BvR I J F w (sp_kind R x y)) := by
  have hn10 := ok.1
  obtain ⟨c0, c1, cm, cs⟩ := id hC
  have cm : ∀ m, m < R 1 → I 2 m = nI (R (2 + 6 * m + 0)) ∧ I 3 m = nI (R (2 + 6 * m + 1)) ∧ I 4 m = nI (R (2 + 6 * m + 2)) ∧ I 5 m = nI (R (2 + 6 * m + 3)) ∧ I 6 m = nI (R (2 + 6 * m + 4)) ∧ I 7 m = nI (R (2 + 6 * m + 5)) := cm
  refine ct_start (M := mX4_kind) (by decide +kernel) (Nat.le_of_ble_eq_true rfl) ?_
  intro p e s m args below meth c A X hA
  have X : AX p s m args meth c g A cX4_kind 7 RX4 (Cond.code yX4_kind cX4_kind 7 (some .int)) (some .int) := X
  show AW p l e (rmM 6 135) s m args below meth c g A 7 0 0 (MQ below (CQ g (hp g I J F w) s.heap.size (fun vv0 hh0 => ∃ xx0 II0 JJ0 FF0 ww0, vv0 = some xx0 ∧ hh0 = hp g II0 JJ0 FF0 ww0 ∧ (BvR I J F w (sp_kind R x y)) xx0 II0 JJ0 FF0 ww0)) args s 0 0 A) 0 [some (.ref (ga g 0)), some (.int x), some (.int y), none, none, none, none] [] (hp g I J F w)
  have L36 : ∀ (fu : Nat) (a : Nat) (j : Nat) (k : Nat) (I1 : TI) (F1 : TI), 6 - k < fu → (x = nI a) → (y = nI j) → (isM (R 1) x = true) → (inB y (nI 1) (nI 40) = true) → (a < R 1) → (j ≤ 40) → (k ≤ 6) → (BS I F R I1 F1) → AW p l e (rmM 6 135) s m args below meth c g A 7 0 0 (MQ below (CQ g (hp g I J F w) s.heap.size (fun vv0 hh0 => ∃ xx0 II0 JJ0 FF0 ww0, vv0 = some xx0 ∧ hh0 = hp g II0 JJ0 FF0 ww0 ∧ (BvR I J F w (sp_kind R x y)) xx0 II0 JJ0 FF0 ww0)) args s 0 0 A) 36 [some (.ref (ga g 0)), some (.int (nI a)), some (.int (nI j)), some (.int (nI (bstF 0 (bvK R a j) k).1)), some (.int (moI (bstF 0 (bvK R a j) k).2)), some (.int (nI k)), none] [] (hp g I1 J F1 w) := by
    intro fu
    induction fu with
    | zero => intro a j k I1 F1 hfu; exact absurd hfu (by omega)
    | succ fu ih =>
      intro a j k I1 F1 hfu hx hy hc8 hc18 ha hj hk K
      subst hx; subst hy
      obtain ⟨g0, g1, g2, g3, g4, g5⟩ := ok.2.1 a ha
      refine a_iload X dX4_kind_36 rfl ?_
      refine a_bipush X dX4_kind_38 (v := nI 6) (by decide +kernel) ?_
      refine s_icmp_geN X dX4_kind_40 (tgt := 103) (by decide) (by omega) (by omega) (fun hc40 => ?_) (fun hc40 => ?_)
      · skip
        have hk2 : k = 6 := by omega
        subst hk2
        refine a_iload_n X dX4_kind_103 (i := 3) rfl rfl ?_
        refine a_iret X hA dX4_kind_104 ?_
        exact ⟨_, _, _, _, _, rfl, rfl, bv_val (K) (by rw [sp_kind, if_pos ⟨hc8, hc18⟩, cl_n (show a < 2 ^ 31 by omega), cl_n (show j < 2 ^ 31 by omega)])⟩
      · skip
        have hmb := bst_b (b := 0) (bvK_b (R := R) (m := a) (n := j)) k
        have okm := ok_put (j := 0) (v := k) ok ha (by decide) (by omega) (by decide) (by omega) (by omega) (by omega) (by omega)
        have hcs : bvK R a j k = some (pcn (pasN (va_up R (2 + 6 * a + 0) k) j (2 + 6 * a + 4))) := rfl
        refine a_aload_n X dX4_kind_43 (i := 0) rfl rfl ?_
        refine s_getr X dX4_kind_44 fl_X4_16 ko_0 rfl ?_
        refine a_aload_n X dX4_kind_47 (i := 0) rfl rfl ?_
        refine s_getr X dX4_kind_48 fl_X4_10 ko_0 rfl ?_
        refine s_callV_Y X dX4_kind_51 lk_X4_155 ko_11 rfl rfl (c_X0_become (b := 11) (b2 := 1) (Or.inr (Or.inl rfl)) (Or.inl rfl) (by decide) ok K.1) ⟨Nat.le_of_ble_eq_true rfl, Nat.le_of_ble_eq_true rfl⟩ rfl rfl (Nat.le_of_ble_eq_true rfl) ⟨Nat.le_of_ble_eq_true rfl, Nat.le_of_ble_eq_true rfl⟩ (fun I2 J2 F2 w2 hpo => ?_)
        have K0 := bt_t K hpo
        obtain ⟨-, -, eJ, ew⟩ := hpo
        have eJ := eJ.symm
        have ew := ew.symm
        subst eJ; subst ew
        refine a_aload_n X dX4_kind_54 (i := 0) rfl rfl ?_
        refine s_getr X dX4_kind_55 fl_X4_16 ko_0 rfl ?_
        refine s_getr X dX4_kind_58 fl_X4_106 ko_11 rfl ?_
        refine a_iload_n X dX4_kind_61 (i := 1) rfl rfl ?_
        refine a_iload X dX4_kind_62 rfl ?_
        refine s_ist X dX4_kind_64 ki_12 (by omega) (by decide) ?_
        refine a_aload_n X dX4_kind_65 (i := 0) rfl rfl ?_
        refine s_getr X dX4_kind_66 fl_X4_16 ko_0 rfl ?_
        refine a_iload_n X dX4_kind_69 (i := 2) rfl rfl ?_
        refine s_callV_Y X dX4_kind_70 lk_X4_151 ko_11 rfl rfl (c_X0_passNights (b := 11) (Or.inr (Or.inl rfl)) okm (bt_p (j := 0) (v := k) (P := 12) K0 ha (by decide) (by decide) rfl).2 (by rw [up_n _ _ (by omega)]; omega)) ⟨Nat.le_of_ble_eq_true rfl, Nat.le_of_ble_eq_true rfl⟩ rfl rfl (Nat.le_of_ble_eq_true rfl) ⟨Nat.le_of_ble_eq_true rfl, Nat.le_of_ble_eq_true rfl⟩ (fun I2 J2 F2 w2 hpo => ?_)
        have K3 := bt_t (bt_p (j := 0) (v := k) (P := 12) K0 ha (by decide) (by decide) rfl).1 hpo
        obtain ⟨-, -, eJ, ew⟩ := hpo
        have eJ := eJ.symm
        have ew := ew.symm
        subst eJ; subst ew
        refine a_aload_n X dX4_kind_73 (i := 0) rfl rfl ?_
        refine s_getr X dX4_kind_74 fl_X4_16 ko_0 rfl ?_
        refine a_iload_n X dX4_kind_77 (i := 1) rfl rfl ?_
        refine s_callV_R X dX4_kind_78 lk_X4_171 ko_11 rfl rfl (c_X0_knownBy (b := 11) (Or.inr (Or.inl rfl)) (okR_pas okm j) K3.2 (by rw [pas_1, up_n _ _ (by omega)]; exact ha)) ⟨Nat.le_of_ble_eq_true rfl, Nat.le_of_ble_eq_true rfl⟩ rfl rfl (Nat.le_of_ble_eq_true rfl) ⟨Nat.le_of_ble_eq_true rfl, Nat.le_of_ble_eq_true rfl⟩ ?_
        refine a_istore X dX4_kind_81 (by decide) rfl ?_
        refine a_iload X dX4_kind_83 rfl ?_
        refine a_iload X dX4_kind_85 rfl ?_
        refine a_icmp_le X dX4_kind_87 (tgt := 97) (by decide) (fun hc87 => ?_) (fun hc87 => ?_)
        · skip
          refine a_iinc X dX4_kind_97 rfl (v := nI (_ + 1)) (iincN _ 1) (by decide) rfl ?_
          refine a_goto X dX4_kind_100 (tgt := 36) (by decide) ?_
          first
            | (have e := bst_n (b := 0) (k := k) hcn
               have := ih a j (k + 1) I1 F1 (by omega) rfl rfl hc8 hc18 ha hj (by omega) K
               rw [e] at this
               exact s_dropAt 6 this)
            | (have e := bst_le (b := 0) (k := k) hcs ((moI_le (Nat.lt_of_le_of_lt (pcn_le _) (by decide)) (by omega)).mp hc87)
               have := ih a j (k + 1) I2 F2 (by omega) rfl rfl hc8 hc18 ha hj (by omega) K3.1
               rw [e] at this
               exact s_dropAt 6 this)
            | (have e := bst_gt (b := 0) (k := k) hcs (fun z => hc87 ((moI_le (Nat.lt_of_le_of_lt (pcn_le _) (by decide)) (by omega)).mpr z))
               have := ih a j (k + 1) I2 F2 (by omega) rfl rfl hc8 hc18 ha hj (by omega) K3.1
               rw [e] at this
               exact s_dropAt 6 this)
        · skip
          refine a_iload X dX4_kind_90 rfl ?_
          refine a_istore X dX4_kind_92 (by decide) rfl ?_
          refine a_iload X dX4_kind_94 rfl ?_
          refine a_istore_n X dX4_kind_96 (i := 3) rfl (by decide) rfl ?_
          refine a_iinc X dX4_kind_97 rfl (v := nI (_ + 1)) (iincN _ 1) (by decide) rfl ?_
          refine a_goto X dX4_kind_100 (tgt := 36) (by decide) ?_
          first
            | (have e := bst_n (b := 0) (k := k) hcn
               have := ih a j (k + 1) I1 F1 (by omega) rfl rfl hc8 hc18 ha hj (by omega) K
               rw [e] at this
               exact s_dropAt 6 this)
            | (have e := bst_le (b := 0) (k := k) hcs ((moI_le (Nat.lt_of_le_of_lt (pcn_le _) (by decide)) (by omega)).mp hc87)
               have := ih a j (k + 1) I2 F2 (by omega) rfl rfl hc8 hc18 ha hj (by omega) K3.1
               rw [e] at this
               exact s_dropAt 6 this)
            | (have e := bst_gt (b := 0) (k := k) hcs (fun z => hc87 ((moI_le (Nat.lt_of_le_of_lt (pcn_le _) (by decide)) (by omega)).mpr z))
               have := ih a j (k + 1) I2 F2 (by omega) rfl rfl hc8 hc18 ha hj (by omega) K3.1
               rw [e] at this
               exact s_dropAt 6 this)
  refine a_aload_n X dX4_kind_0 (i := 0) rfl rfl ?_
  refine s_getr X dX4_kind_1 fl_X4_10 ko_0 rfl ?_
  refine a_iload_n X dX4_kind_4 (i := 1) rfl rfl ?_
  refine s_callV_R X dX4_kind_5 lk_X4_103 ko_1 rfl rfl (c_X0_has (b := 1) (Or.inl rfl) ok hC) ⟨Nat.le_of_ble_eq_true rfl, Nat.le_of_ble_eq_true rfl⟩ rfl rfl (Nat.le_of_ble_eq_true rfl) ⟨Nat.le_of_ble_eq_true rfl, Nat.le_of_ble_eq_true rfl⟩ ?_
  refine a_if_eq X dX4_kind_8 (tgt := 21) (by decide) (fun hc8 => ?_) (fun hc8 => ?_)
  · skip
    try simp only [bI_0, Bool.not_eq_false] at hc8
    refine a_aload_n X dX4_kind_21 (i := 0) rfl rfl ?_
    refine a_ldc X dX4_kind_22 kc_X4_48 ?_
    refine s_callV_R X dX4_kind_24 lk_X4_49 ko_0 rfl rfl (c_X4_found (k := 0) (by decide) (by decide +kernel)) ⟨Nat.le_of_ble_eq_true rfl, Nat.le_of_ble_eq_true rfl⟩ rfl rfl (Nat.le_of_ble_eq_true rfl) ⟨Nat.le_of_ble_eq_true rfl, Nat.le_of_ble_eq_true rfl⟩ ?_
    refine a_iret X hA dX4_kind_27 ?_
    exact ⟨_, _, _, _, _, rfl, rfl, bv_find (bs_0 hC) (k := 0) (by decide +kernel) (by rw [sp_kind, if_neg (by simp [*])])⟩
  · skip
    try simp only [bI_0, Bool.not_eq_false] at hc8
    obtain ⟨a, ha, rfl⟩ := isM_t (by omega) hc8
    obtain ⟨g0, g1, g2, g3, g4, g5⟩ := ok.2.1 a ha
    obtain ⟨m0, m1, m2, m3, m4, m5⟩ := cm a ha
    refine a_iload_n X dX4_kind_11 (i := 2) rfl rfl ?_
    refine a_iconst X dX4_kind_12 (v := nI 1) (by decide +kernel) ?_
    refine a_bipush X dX4_kind_13 (v := nI 40) (by decide +kernel) ?_
    refine s_callS_R X dX4_kind_15 lk_X4_44 c_X4_within ⟨Nat.le_of_ble_eq_true rfl, Nat.le_of_ble_eq_true rfl⟩ rfl rfl (Nat.le_of_ble_eq_true rfl) ⟨Nat.le_of_ble_eq_true rfl, Nat.le_of_ble_eq_true rfl⟩ ?_
    refine a_if_ne X dX4_kind_18 (tgt := 28) (by decide) (fun hc18 => ?_) (fun hc18 => ?_)
    · skip
      try simp only [bI_0, Bool.not_eq_false] at hc18
      obtain ⟨j, hj0, hj, rfl⟩ := inB_r (by decide) (by decide) hc18
      refine a_iconst X dX4_kind_28 (v := nI 0) (by decide +kernel) ?_
      refine a_istore_n X dX4_kind_29 (i := 3) rfl (by decide) rfl ?_
      refine a_iconst X dX4_kind_30 (v := (-1)) (by decide +kernel) ?_
      refine a_istore X dX4_kind_31 (by decide) rfl ?_
      refine a_iconst X dX4_kind_33 (v := nI 0) (by decide +kernel) ?_
      refine a_istore X dX4_kind_34 (by decide) rfl ?_
      exact L36 7 a j 0 _ _ (by omega) rfl rfl hc8 hc18 ha (by omega) (by omega) (bs_0 hC)
    · skip
      try simp only [bI_0, Bool.not_eq_false] at hc18
      refine a_aload_n X dX4_kind_21 (i := 0) rfl rfl ?_
      refine a_ldc X dX4_kind_22 kc_X4_48 ?_
      refine s_callV_R X dX4_kind_24 lk_X4_49 ko_0 rfl rfl (c_X4_found (k := 0) (by decide) (by decide +kernel)) ⟨Nat.le_of_ble_eq_true rfl, Nat.le_of_ble_eq_true rfl⟩ rfl rfl (Nat.le_of_ble_eq_true rfl) ⟨Nat.le_of_ble_eq_true rfl, Nat.le_of_ble_eq_true rfl⟩ ?_
      refine a_iret X hA dX4_kind_27 ?_
      exact ⟨_, _, _, _, _, rfl, rfl, bv_find (bs_0 hC) (k := 0) (by decide +kernel) (by rw [sp_kind, if_neg (by simp [*])])⟩
set_option maxRecDepth 100000 in
set_option maxHeartbeats 4000000 in
theorem c_X4_best {l : Launch} {g : GG} {I : TI} {J : TJ} {F : TI} {w : Int64} {R : Nat → Nat} (ok : okR R) (hC : Ch I F 1 R) {x y : Int32} (hN : R 0 ≤ 99999) : RV l g mX4_best [.ref (ga g 0), .int x, .int y] I J F w (BvR I J F w (sp_best R x y)) := by
  have hn10 := ok.1
  obtain ⟨c0, c1, cm, cs⟩ := id hC
  have cm : ∀ m, m < R 1 → I 2 m = nI (R (2 + 6 * m + 0)) ∧ I 3 m = nI (R (2 + 6 * m + 1)) ∧ I 4 m = nI (R (2 + 6 * m + 2)) ∧ I 5 m = nI (R (2 + 6 * m + 3)) ∧ I 6 m = nI (R (2 + 6 * m + 4)) ∧ I 7 m = nI (R (2 + 6 * m + 5)) := cm
  refine ct_start (M := mX4_best) (by decide +kernel) (Nat.le_of_ble_eq_true rfl) ?_
  intro p e s m args below meth c A X hA
  have X : AX p s m args meth c g A cX4_best 7 RX4 (Cond.code yX4_best cX4_best 7 (some .int)) (some .int) := X
  show AW p l e (rmM 6 135) s m args below meth c g A 7 0 0 (MQ below (CQ g (hp g I J F w) s.heap.size (fun vv0 hh0 => ∃ xx0 II0 JJ0 FF0 ww0, vv0 = some xx0 ∧ hh0 = hp g II0 JJ0 FF0 ww0 ∧ (BvR I J F w (sp_best R x y)) xx0 II0 JJ0 FF0 ww0)) args s 0 0 A) 0 [some (.ref (ga g 0)), some (.int x), some (.int y), none, none, none, none] [] (hp g I J F w)
  have L44 : ∀ (fu : Nat) (a : Nat) (j : Nat) (k : Nat) (I1 : TI) (F1 : TI), 12 - k < fu → (x = nI a) → (y = nI j) → (isM (R 1) x = true) → (inB y (nI 1) (nI 40) = true) → (a < R 1) → (j ≤ 40) → (k ≤ 12) → (BS I F R I1 F1) → AW p l e (rmM 6 135) s m args below meth c g A 7 0 0 (MQ below (CQ g (hp g I J F w) s.heap.size (fun vv0 hh0 => ∃ xx0 II0 JJ0 FF0 ww0, vv0 = some xx0 ∧ hh0 = hp g II0 JJ0 FF0 ww0 ∧ (BvR I J F w (sp_best R x y)) xx0 II0 JJ0 FF0 ww0)) args s 0 0 A) 44 [some (.ref (ga g 0)), some (.int (nI a)), some (.int (nI j)), some (.int (nI (bstF (R (2 + 6 * a + 1)) (bvS R a j) k).1)), some (.int (moI (bstF (R (2 + 6 * a + 1)) (bvS R a j) k).2)), some (.int (nI k)), none] [] (hp g I1 J F1 w) := by
    intro fu
    induction fu with
    | zero => intro a j k I1 F1 hfu; exact absurd hfu (by omega)
    | succ fu ih =>
      intro a j k I1 F1 hfu hx hy hc8 hc18 ha hj hk K
      subst hx; subst hy
      obtain ⟨g0, g1, g2, g3, g4, g5⟩ := ok.2.1 a ha
      refine a_iload X dX4_best_44 rfl ?_
      refine a_bipush X dX4_best_46 (v := nI 12) (by decide +kernel) ?_
      refine s_icmp_geN X dX4_best_48 (tgt := 123) (by decide) (by omega) (by omega) (fun hc48 => ?_) (fun hc48 => ?_)
      · skip
        have hk2 : k = 12 := by omega
        subst hk2
        refine a_iload_n X dX4_best_123 (i := 3) rfl rfl ?_
        refine a_iret X hA dX4_best_124 ?_
        exact ⟨_, _, _, _, _, rfl, rfl, bv_val (K) (by rw [sp_best, if_pos ⟨hc8, hc18⟩, cl_n (show a < 2 ^ 31 by omega), cl_n (show j < 2 ^ 31 by omega), ← best_own ok ha (R (2 + 6 * a + 1))])⟩
      · skip
        have hmb := bst_b (b := R (2 + 6 * a + 1)) (bvS_b (R := R) (m := a) (n := j)) k
        refine a_aload_n X dX4_best_51 (i := 0) rfl rfl ?_
        refine s_getr X dX4_best_52 fl_X4_10 ko_0 rfl ?_
        refine a_iload_n X dX4_best_55 (i := 1) rfl rfl ?_
        refine a_iload X dX4_best_56 rfl ?_
        refine s_callV_R X dX4_best_58 lk_X4_139 ko_1 rfl rfl (c_X0_maySit (b := 1) (Or.inl rfl) ok K.1 ha (by omega)) ⟨Nat.le_of_ble_eq_true rfl, Nat.le_of_ble_eq_true rfl⟩ rfl rfl (Nat.le_of_ble_eq_true rfl) ⟨Nat.le_of_ble_eq_true rfl, Nat.le_of_ble_eq_true rfl⟩ ?_
        refine a_if_eq X dX4_best_61 (tgt := 117) (by decide) (fun hc61 => ?_) (fun hc61 => ?_)
        · skip
          try simp only [bI_0, Bool.not_eq_false, decide_eq_true_eq, decide_eq_false_iff_not, Classical.not_not] at hc61
          have hcn : bvS R a j k = none := by rw [bvS, if_neg hc61]
          refine a_iinc X dX4_best_117 rfl (v := nI (_ + 1)) (iincN _ 1) (by decide) rfl ?_
          refine a_goto X dX4_best_120 (tgt := 44) (by decide) ?_
          first
            | (have e := bst_n (b := (R (2 + 6 * a + 1))) (k := k) hcn
               have := ih a j (k + 1) I1 F1 (by omega) rfl rfl hc8 hc18 ha hj (by omega) K
               rw [e] at this
               exact s_dropAt 6 this)
            | (have e := bst_le (b := (R (2 + 6 * a + 1))) (k := k) hcs ((moI_le (Nat.lt_of_le_of_lt (pcn_le _) (by decide)) (by omega)).mp hc107)
               have := ih a j (k + 1) I2 F2 (by omega) rfl rfl hc8 hc18 ha hj (by omega) K3.1
               rw [e] at this
               exact s_dropAt 6 this)
            | (have e := bst_gt (b := (R (2 + 6 * a + 1))) (k := k) hcs (fun z => hc107 ((moI_le (Nat.lt_of_le_of_lt (pcn_le _) (by decide)) (by omega)).mpr z))
               have := ih a j (k + 1) I2 F2 (by omega) rfl rfl hc8 hc18 ha hj (by omega) K3.1
               rw [e] at this
               exact s_dropAt 6 this)
        · skip
          try simp only [bI_0, Bool.not_eq_false, decide_eq_true_eq, decide_eq_false_iff_not, Classical.not_not] at hc61
          have hw2 := hc61
          have okm := ok_seat ok ha (by omega) hw2
          have hcs : bvS R a j k = some (pcn (pasN (va_up R (2 + 6 * a + 1) k) j (2 + 6 * a + 4))) := by rw [bvS, if_pos hw2]
          refine a_aload_n X dX4_best_64 (i := 0) rfl rfl ?_
          refine s_getr X dX4_best_65 fl_X4_16 ko_0 rfl ?_
          refine a_aload_n X dX4_best_68 (i := 0) rfl rfl ?_
          refine s_getr X dX4_best_69 fl_X4_10 ko_0 rfl ?_
          refine s_callV_Y X dX4_best_72 lk_X4_155 ko_11 rfl rfl (c_X0_become (b := 11) (b2 := 1) (Or.inr (Or.inl rfl)) (Or.inl rfl) (by decide) ok K.1) ⟨Nat.le_of_ble_eq_true rfl, Nat.le_of_ble_eq_true rfl⟩ rfl rfl (Nat.le_of_ble_eq_true rfl) ⟨Nat.le_of_ble_eq_true rfl, Nat.le_of_ble_eq_true rfl⟩ (fun I2 J2 F2 w2 hpo => ?_)
          have K0 := bt_t K hpo
          obtain ⟨-, -, eJ, ew⟩ := hpo
          have eJ := eJ.symm
          have ew := ew.symm
          subst eJ; subst ew
          refine a_aload_n X dX4_best_75 (i := 0) rfl rfl ?_
          refine s_getr X dX4_best_76 fl_X4_16 ko_0 rfl ?_
          refine a_iload_n X dX4_best_79 (i := 1) rfl rfl ?_
          refine a_iload X dX4_best_80 rfl ?_
          refine s_callV_V X dX4_best_82 lk_X4_142 ko_11 rfl rfl (c_X0_reseat (b := 11) (Or.inr (Or.inl rfl)) ok K0.2 ha (by omega)) ⟨Nat.le_of_ble_eq_true rfl, Nat.le_of_ble_eq_true rfl⟩ rfl rfl (Nat.le_of_ble_eq_true rfl) ⟨Nat.le_of_ble_eq_true rfl, Nat.le_of_ble_eq_true rfl⟩ ?_
          refine a_aload_n X dX4_best_85 (i := 0) rfl rfl ?_
          refine s_getr X dX4_best_86 fl_X4_16 ko_0 rfl ?_
          refine a_iload_n X dX4_best_89 (i := 2) rfl rfl ?_
          refine s_callV_Y X dX4_best_90 lk_X4_151 ko_11 rfl rfl (c_X0_passNights (b := 11) (Or.inr (Or.inl rfl)) okm (bt_s ok K0 ha (by omega) hw2).2 (by rw [up_n _ _ (by omega)]; omega)) ⟨Nat.le_of_ble_eq_true rfl, Nat.le_of_ble_eq_true rfl⟩ rfl rfl (Nat.le_of_ble_eq_true rfl) ⟨Nat.le_of_ble_eq_true rfl, Nat.le_of_ble_eq_true rfl⟩ (fun I2 J2 F2 w2 hpo => ?_)
          have K3 := bt_t (bt_s ok K0 ha (by omega) hw2).1 hpo
          obtain ⟨-, -, eJ, ew⟩ := hpo
          have eJ := eJ.symm
          have ew := ew.symm
          subst eJ; subst ew
          refine a_aload_n X dX4_best_93 (i := 0) rfl rfl ?_
          refine s_getr X dX4_best_94 fl_X4_16 ko_0 rfl ?_
          refine a_iload_n X dX4_best_97 (i := 1) rfl rfl ?_
          refine s_callV_R X dX4_best_98 lk_X4_171 ko_11 rfl rfl (c_X0_knownBy (b := 11) (Or.inr (Or.inl rfl)) (okR_pas okm j) K3.2 (by rw [pas_1, up_n _ _ (by omega)]; exact ha)) ⟨Nat.le_of_ble_eq_true rfl, Nat.le_of_ble_eq_true rfl⟩ rfl rfl (Nat.le_of_ble_eq_true rfl) ⟨Nat.le_of_ble_eq_true rfl, Nat.le_of_ble_eq_true rfl⟩ ?_
          refine a_istore X dX4_best_101 (by decide) rfl ?_
          refine a_iload X dX4_best_103 rfl ?_
          refine a_iload X dX4_best_105 rfl ?_
          refine a_icmp_le X dX4_best_107 (tgt := 117) (by decide) (fun hc107 => ?_) (fun hc107 => ?_)
          · skip
            refine a_iinc X dX4_best_117 rfl (v := nI (_ + 1)) (iincN _ 1) (by decide) rfl ?_
            refine a_goto X dX4_best_120 (tgt := 44) (by decide) ?_
            first
              | (have e := bst_n (b := (R (2 + 6 * a + 1))) (k := k) hcn
                 have := ih a j (k + 1) I1 F1 (by omega) rfl rfl hc8 hc18 ha hj (by omega) K
                 rw [e] at this
                 exact s_dropAt 6 this)
              | (have e := bst_le (b := (R (2 + 6 * a + 1))) (k := k) hcs ((moI_le (Nat.lt_of_le_of_lt (pcn_le _) (by decide)) (by omega)).mp hc107)
                 have := ih a j (k + 1) I2 F2 (by omega) rfl rfl hc8 hc18 ha hj (by omega) K3.1
                 rw [e] at this
                 exact s_dropAt 6 this)
              | (have e := bst_gt (b := (R (2 + 6 * a + 1))) (k := k) hcs (fun z => hc107 ((moI_le (Nat.lt_of_le_of_lt (pcn_le _) (by decide)) (by omega)).mpr z))
                 have := ih a j (k + 1) I2 F2 (by omega) rfl rfl hc8 hc18 ha hj (by omega) K3.1
                 rw [e] at this
                 exact s_dropAt 6 this)
          · skip
            refine a_iload X dX4_best_110 rfl ?_
            refine a_istore X dX4_best_112 (by decide) rfl ?_
            refine a_iload X dX4_best_114 rfl ?_
            refine a_istore_n X dX4_best_116 (i := 3) rfl (by decide) rfl ?_
            refine a_iinc X dX4_best_117 rfl (v := nI (_ + 1)) (iincN _ 1) (by decide) rfl ?_
            refine a_goto X dX4_best_120 (tgt := 44) (by decide) ?_
            first
              | (have e := bst_n (b := (R (2 + 6 * a + 1))) (k := k) hcn
                 have := ih a j (k + 1) I1 F1 (by omega) rfl rfl hc8 hc18 ha hj (by omega) K
                 rw [e] at this
                 exact s_dropAt 6 this)
              | (have e := bst_le (b := (R (2 + 6 * a + 1))) (k := k) hcs ((moI_le (Nat.lt_of_le_of_lt (pcn_le _) (by decide)) (by omega)).mp hc107)
                 have := ih a j (k + 1) I2 F2 (by omega) rfl rfl hc8 hc18 ha hj (by omega) K3.1
                 rw [e] at this
                 exact s_dropAt 6 this)
              | (have e := bst_gt (b := (R (2 + 6 * a + 1))) (k := k) hcs (fun z => hc107 ((moI_le (Nat.lt_of_le_of_lt (pcn_le _) (by decide)) (by omega)).mpr z))
                 have := ih a j (k + 1) I2 F2 (by omega) rfl rfl hc8 hc18 ha hj (by omega) K3.1
                 rw [e] at this
                 exact s_dropAt 6 this)
  refine a_aload_n X dX4_best_0 (i := 0) rfl rfl ?_
  refine s_getr X dX4_best_1 fl_X4_10 ko_0 rfl ?_
  refine a_iload_n X dX4_best_4 (i := 1) rfl rfl ?_
  refine s_callV_R X dX4_best_5 lk_X4_103 ko_1 rfl rfl (c_X0_has (b := 1) (Or.inl rfl) ok hC) ⟨Nat.le_of_ble_eq_true rfl, Nat.le_of_ble_eq_true rfl⟩ rfl rfl (Nat.le_of_ble_eq_true rfl) ⟨Nat.le_of_ble_eq_true rfl, Nat.le_of_ble_eq_true rfl⟩ ?_
  refine a_if_eq X dX4_best_8 (tgt := 21) (by decide) (fun hc8 => ?_) (fun hc8 => ?_)
  · skip
    try simp only [bI_0, Bool.not_eq_false] at hc8
    refine a_aload_n X dX4_best_21 (i := 0) rfl rfl ?_
    refine a_ldc X dX4_best_22 kc_X4_48 ?_
    refine s_callV_R X dX4_best_24 lk_X4_49 ko_0 rfl rfl (c_X4_found (k := 0) (by decide) (by decide +kernel)) ⟨Nat.le_of_ble_eq_true rfl, Nat.le_of_ble_eq_true rfl⟩ rfl rfl (Nat.le_of_ble_eq_true rfl) ⟨Nat.le_of_ble_eq_true rfl, Nat.le_of_ble_eq_true rfl⟩ ?_
    refine a_iret X hA dX4_best_27 ?_
    exact ⟨_, _, _, _, _, rfl, rfl, bv_find (bs_0 hC) (k := 0) (by decide +kernel) (by rw [sp_best, if_neg (by simp [*])])⟩
  · skip
    try simp only [bI_0, Bool.not_eq_false] at hc8
    obtain ⟨a, ha, rfl⟩ := isM_t (by omega) hc8
    obtain ⟨g0, g1, g2, g3, g4, g5⟩ := ok.2.1 a ha
    obtain ⟨m0, m1, m2, m3, m4, m5⟩ := cm a ha
    refine a_iload_n X dX4_best_11 (i := 2) rfl rfl ?_
    refine a_iconst X dX4_best_12 (v := nI 1) (by decide +kernel) ?_
    refine a_bipush X dX4_best_13 (v := nI 40) (by decide +kernel) ?_
    refine s_callS_R X dX4_best_15 lk_X4_44 c_X4_within ⟨Nat.le_of_ble_eq_true rfl, Nat.le_of_ble_eq_true rfl⟩ rfl rfl (Nat.le_of_ble_eq_true rfl) ⟨Nat.le_of_ble_eq_true rfl, Nat.le_of_ble_eq_true rfl⟩ ?_
    refine a_if_ne X dX4_best_18 (tgt := 28) (by decide) (fun hc18 => ?_) (fun hc18 => ?_)
    · skip
      try simp only [bI_0, Bool.not_eq_false] at hc18
      obtain ⟨j, hj0, hj, rfl⟩ := inB_r (by decide) (by decide) hc18
      refine a_aload_n X dX4_best_28 (i := 0) rfl rfl ?_
      refine s_getr X dX4_best_29 fl_X4_10 ko_0 rfl ?_
      refine s_getr X dX4_best_32 fl_X4_109 ko_1 rfl ?_
      refine a_iload_n X dX4_best_35 (i := 1) rfl rfl ?_
      refine s_ild X dX4_best_36 ki_3 (by omega) (by decide) ?_
      rw [m1]
      refine a_istore_n X dX4_best_37 (i := 3) rfl (by decide) rfl ?_
      refine a_iconst X dX4_best_38 (v := (-1)) (by decide +kernel) ?_
      refine a_istore X dX4_best_39 (by decide) rfl ?_
      refine a_iconst X dX4_best_41 (v := nI 0) (by decide +kernel) ?_
      refine a_istore X dX4_best_42 (by decide) rfl ?_
      exact L44 13 a j 0 _ _ (by omega) rfl rfl hc8 hc18 ha (by omega) (by omega) (bs_0 hC)
    · skip
      try simp only [bI_0, Bool.not_eq_false] at hc18
      refine a_aload_n X dX4_best_21 (i := 0) rfl rfl ?_
      refine a_ldc X dX4_best_22 kc_X4_48 ?_
      refine s_callV_R X dX4_best_24 lk_X4_49 ko_0 rfl rfl (c_X4_found (k := 0) (by decide) (by decide +kernel)) ⟨Nat.le_of_ble_eq_true rfl, Nat.le_of_ble_eq_true rfl⟩ rfl rfl (Nat.le_of_ble_eq_true rfl) ⟨Nat.le_of_ble_eq_true rfl, Nat.le_of_ble_eq_true rfl⟩ ?_
      refine a_iret X hA dX4_best_27 ?_
      exact ⟨_, _, _, _, _, rfl, rfl, bv_find (bs_0 hC) (k := 0) (by decide +kernel) (by rw [sp_best, if_neg (by simp [*])])⟩
set_option maxRecDepth 100000 in
set_option maxHeartbeats 4000000 in
theorem c_X4_deep {l : Launch} {g : GG} {I : TI} {J : TJ} {F : TI} {w : Int64} {R : Nat → Nat} (ok : okR R) (hC : Ch I F 1 R) {x y z : Int32} (hN : R 0 ≤ 99999) : RV l g mX4_deep [.ref (ga g 0), .int x, .int y, .int z] I J F w (BvR I J F w (sp_deep R x y z)) := by
  have hn10 := ok.1
  obtain ⟨c0, c1, cm, cs⟩ := id hC
  have cm : ∀ m, m < R 1 → I 2 m = nI (R (2 + 6 * m + 0)) ∧ I 3 m = nI (R (2 + 6 * m + 1)) ∧ I 4 m = nI (R (2 + 6 * m + 2)) ∧ I 5 m = nI (R (2 + 6 * m + 3)) ∧ I 6 m = nI (R (2 + 6 * m + 4)) ∧ I 7 m = nI (R (2 + 6 * m + 5)) := cm
  refine ct_start (M := mX4_deep) (by decide +kernel) (Nat.le_of_ble_eq_true rfl) ?_
  intro p e s m args below meth c A X hA
  have X : AX p s m args meth c g A cX4_deep 5 RX4 (Cond.code yX4_deep cX4_deep 5 (some .int)) (some .int) := X
  show AW p l e (rmM 6 135) s m args below meth c g A 5 0 0 (MQ below (CQ g (hp g I J F w) s.heap.size (fun vv0 hh0 => ∃ xx0 II0 JJ0 FF0 ww0, vv0 = some xx0 ∧ hh0 = hp g II0 JJ0 FF0 ww0 ∧ (BvR I J F w (sp_deep R x y z)) xx0 II0 JJ0 FF0 ww0)) args s 0 0 A) 0 [some (.ref (ga g 0)), some (.int x), some (.int y), some (.int z), none] [] (hp g I J F w)
  have L47 : ∀ (fu : Nat) (a : Nat) (b : Nat) (j : Nat) (k : Nat) (I1 : TI) (F1 : TI), 10 - k < fu → (x = nI a) → (y = nI b) → (z = nI j) → (isM (R 1) x = true ∧ isM (R 1) y = true ∧ x ≠ y ∧ inB z (nI 0) (nI 40) = true) → (a < R 1) → (b < R 1) → (j ≤ 40) → (1 ≤ k) → (k ≤ 10) → (BS I F R I1 F1) → (firF (depP R a b j) (10 - k) k = firF (depP R a b j) 9 1) → AW p l e (rmM 6 135) s m args below meth c g A 5 0 0 (MQ below (CQ g (hp g I J F w) s.heap.size (fun vv0 hh0 => ∃ xx0 II0 JJ0 FF0 ww0, vv0 = some xx0 ∧ hh0 = hp g II0 JJ0 FF0 ww0 ∧ (BvR I J F w (sp_deep R x y z)) xx0 II0 JJ0 FF0 ww0)) args s 0 0 A) 47 [some (.ref (ga g 0)), some (.int (nI a)), some (.int (nI b)), some (.int (nI j)), some (.int (nI k))] [] (hp g I1 J F1 w) := by
    intro fu
    induction fu with
    | zero => intro a b j k I1 F1 hfu; exact absurd hfu (by omega)
    | succ fu ih =>
      intro a b j k I1 F1 hfu hx hy hz hall ha hb hj hk1 hk K hfir
      subst hx; subst hy; subst hz
      obtain ⟨g0, g1, g2, g3, g4, g5⟩ := ok.2.1 a ha
      refine a_iload X dX4_deep_47 rfl ?_
      refine a_bipush X dX4_deep_49 (v := nI 9) (by decide +kernel) ?_
      refine s_icmp_gtN X dX4_deep_51 (tgt := 113) (by decide) (by omega) (by omega) (fun hc51 => ?_) (fun hc51 => ?_)
      · skip
        refine a_aload_n X dX4_deep_113 (i := 0) rfl rfl ?_
        refine a_ldc X dX4_deep_114 kc_X4_83 ?_
        refine s_callV_R X dX4_deep_116 lk_X4_49 ko_0 rfl rfl (c_X4_found (k := 3) (by decide) (by decide +kernel)) ⟨Nat.le_of_ble_eq_true rfl, Nat.le_of_ble_eq_true rfl⟩ rfl rfl (Nat.le_of_ble_eq_true rfl) ⟨Nat.le_of_ble_eq_true rfl, Nat.le_of_ble_eq_true rfl⟩ ?_
        refine a_iret X hA dX4_deep_119 ?_
        exact ⟨_, _, _, _, _, rfl, rfl, bv_find (K) (k := 3) (by decide +kernel) (by rw [sp_deep, if_pos hall, cl_n (show a < 2 ^ 31 by omega), cl_n (show b < 2 ^ 31 by omega), cl_n (show j < 2 ^ 31 by omega), ← hfir, show k = 10 by omega]; rfl)⟩
      · skip
        have okm := ok_put (j := 3) (v := k) ok ha (by decide) (by omega) (by decide) (by omega) (by omega) (by omega) (by omega)
        refine a_aload_n X dX4_deep_54 (i := 0) rfl rfl ?_
        refine s_getr X dX4_deep_55 fl_X4_16 ko_0 rfl ?_
        refine a_aload_n X dX4_deep_58 (i := 0) rfl rfl ?_
        refine s_getr X dX4_deep_59 fl_X4_10 ko_0 rfl ?_
        refine s_callV_Y X dX4_deep_62 lk_X4_155 ko_11 rfl rfl (c_X0_become (b := 11) (b2 := 1) (Or.inr (Or.inl rfl)) (Or.inl rfl) (by decide) ok K.1) ⟨Nat.le_of_ble_eq_true rfl, Nat.le_of_ble_eq_true rfl⟩ rfl rfl (Nat.le_of_ble_eq_true rfl) ⟨Nat.le_of_ble_eq_true rfl, Nat.le_of_ble_eq_true rfl⟩ (fun I2 J2 F2 w2 hpo => ?_)
        have K0 := bt_t K hpo
        obtain ⟨-, -, eJ, ew⟩ := hpo
        have eJ := eJ.symm
        have ew := ew.symm
        subst eJ; subst ew
        refine a_aload_n X dX4_deep_65 (i := 0) rfl rfl ?_
        refine s_getr X dX4_deep_66 fl_X4_16 ko_0 rfl ?_
        refine s_getr X dX4_deep_69 fl_X4_112 ko_11 rfl ?_
        refine a_iload_n X dX4_deep_72 (i := 1) rfl rfl ?_
        refine a_iload X dX4_deep_73 rfl ?_
        refine s_ist X dX4_deep_75 ki_15 (by omega) (by decide) ?_
        refine a_aload_n X dX4_deep_76 (i := 0) rfl rfl ?_
        refine s_getr X dX4_deep_77 fl_X4_16 ko_0 rfl ?_
        refine a_iload_n X dX4_deep_80 (i := 3) rfl rfl ?_
        refine s_callV_Y X dX4_deep_81 lk_X4_151 ko_11 rfl rfl (c_X0_passNights (b := 11) (Or.inr (Or.inl rfl)) okm (bt_p (j := 3) (v := k) (P := 15) K0 ha (by decide) (by decide) rfl).2 (by rw [up_n _ _ (by omega)]; omega)) ⟨Nat.le_of_ble_eq_true rfl, Nat.le_of_ble_eq_true rfl⟩ rfl rfl (Nat.le_of_ble_eq_true rfl) ⟨Nat.le_of_ble_eq_true rfl, Nat.le_of_ble_eq_true rfl⟩ (fun I2 J2 F2 w2 hpo => ?_)
        have K3 := bt_t (bt_p (j := 3) (v := k) (P := 15) K0 ha (by decide) (by decide) rfl).1 hpo
        obtain ⟨-, -, eJ, ew⟩ := hpo
        have eJ := eJ.symm
        have ew := ew.symm
        subst eJ; subst ew
        obtain ⟨t0, t1, t2, t3, t4, t5⟩ := K3.2.2.2.1 a (by rw [pas_1, up_n _ _ (by omega)]; exact ha)
        rw [pas_j _ (by decide), up_n _ _ (by omega)] at t2
        refine a_aload_n X dX4_deep_84 (i := 0) rfl rfl ?_
        refine s_getr X dX4_deep_85 fl_X4_16 ko_0 rfl ?_
        refine a_iload_n X dX4_deep_88 (i := 2) rfl rfl ?_
        refine a_aload_n X dX4_deep_89 (i := 0) rfl rfl ?_
        refine s_getr X dX4_deep_90 fl_X4_16 ko_0 rfl ?_
        refine s_getr X dX4_deep_93 fl_X4_84 ko_11 rfl ?_
        refine a_iload_n X dX4_deep_96 (i := 1) rfl rfl ?_
        refine s_ild X dX4_deep_97 ki_14 (by omega) (by decide) ?_
        rw [t2]
        refine s_callV_R X dX4_deep_98 lk_X4_159 ko_11 rfl rfl (c_X0_doesKnow (b := 11) (Or.inr (Or.inl rfl)) (okR_pas okm j) K3.2 (by rw [pas_1, up_n _ _ (by omega)]; exact hb) g2) ⟨Nat.le_of_ble_eq_true rfl, Nat.le_of_ble_eq_true rfl⟩ rfl rfl (Nat.le_of_ble_eq_true rfl) ⟨Nat.le_of_ble_eq_true rfl, Nat.le_of_ble_eq_true rfl⟩ ?_
        refine a_if_eq X dX4_deep_101 (tgt := 107) (by decide) (fun hc101 => ?_) (fun hc101 => ?_)
        · skip
          try simp only [bI_0, Bool.not_eq_false] at hc101
          refine a_iinc X dX4_deep_107 rfl (v := nI (_ + 1)) (iincN _ 1) (by decide) rfl ?_
          refine a_goto X dX4_deep_110 (tgt := 47) (by decide) ?_
          exact ih a b j (k + 1) I2 F2 (by omega) rfl rfl rfl hall ha hb hj (by omega) (by omega) K3.1 ((fir_go (p := depP R a b j) (n := 10) (by omega) hc101).symm.trans hfir)
        · skip
          try simp only [bI_0, Bool.not_eq_false] at hc101
          refine a_iload X dX4_deep_104 rfl ?_
          refine a_iret X hA dX4_deep_106 ?_
          exact ⟨_, _, _, _, _, rfl, rfl, bv_val (K3.1) (by rw [sp_deep, if_pos hall, cl_n (show a < 2 ^ 31 by omega), cl_n (show b < 2 ^ 31 by omega), cl_n (show j < 2 ^ 31 by omega), ← hfir, fir_hit (p := depP R a b j) (n := 10) (by omega) hc101, firSP_s])⟩
  refine a_aload_n X dX4_deep_0 (i := 0) rfl rfl ?_
  refine s_getr X dX4_deep_1 fl_X4_10 ko_0 rfl ?_
  refine a_iload_n X dX4_deep_4 (i := 1) rfl rfl ?_
  refine s_callV_R X dX4_deep_5 lk_X4_103 ko_1 rfl rfl (c_X0_has (b := 1) (Or.inl rfl) ok hC) ⟨Nat.le_of_ble_eq_true rfl, Nat.le_of_ble_eq_true rfl⟩ rfl rfl (Nat.le_of_ble_eq_true rfl) ⟨Nat.le_of_ble_eq_true rfl, Nat.le_of_ble_eq_true rfl⟩ ?_
  refine a_if_eq X dX4_deep_8 (tgt := 37) (by decide) (fun hc8 => ?_) (fun hc8 => ?_)
  · skip
    try simp only [bI_0, Bool.not_eq_false] at hc8
    refine a_aload_n X dX4_deep_37 (i := 0) rfl rfl ?_
    refine a_ldc X dX4_deep_38 kc_X4_48 ?_
    refine s_callV_R X dX4_deep_40 lk_X4_49 ko_0 rfl rfl (c_X4_found (k := 0) (by decide) (by decide +kernel)) ⟨Nat.le_of_ble_eq_true rfl, Nat.le_of_ble_eq_true rfl⟩ rfl rfl (Nat.le_of_ble_eq_true rfl) ⟨Nat.le_of_ble_eq_true rfl, Nat.le_of_ble_eq_true rfl⟩ ?_
    refine a_iret X hA dX4_deep_43 ?_
    first | exact ⟨_, _, _, _, _, rfl, rfl, bv_find (bs_0 hC) (k := 0) (by decide +kernel) (by rw [sp_deep, if_neg (by simp [*])])⟩ | exact ⟨_, _, _, _, _, rfl, rfl, bv_find (bs_0 hC) (k := 0) (by decide +kernel) (by rw [sp_deep, if_neg (fun q => q.2.2.1 (by rw [hc24]))])⟩
  · skip
    try simp only [bI_0, Bool.not_eq_false] at hc8
    obtain ⟨a, ha, rfl⟩ := isM_t (by omega) hc8
    obtain ⟨g0, g1, g2, g3, g4, g5⟩ := ok.2.1 a ha
    obtain ⟨m0, m1, m2, m3, m4, m5⟩ := cm a ha
    refine a_aload_n X dX4_deep_11 (i := 0) rfl rfl ?_
    refine s_getr X dX4_deep_12 fl_X4_10 ko_0 rfl ?_
    refine a_iload_n X dX4_deep_15 (i := 2) rfl rfl ?_
    refine s_callV_R X dX4_deep_16 lk_X4_103 ko_1 rfl rfl (c_X0_has (b := 1) (Or.inl rfl) ok hC) ⟨Nat.le_of_ble_eq_true rfl, Nat.le_of_ble_eq_true rfl⟩ rfl rfl (Nat.le_of_ble_eq_true rfl) ⟨Nat.le_of_ble_eq_true rfl, Nat.le_of_ble_eq_true rfl⟩ ?_
    refine a_if_eq X dX4_deep_19 (tgt := 37) (by decide) (fun hc19 => ?_) (fun hc19 => ?_)
    · skip
      try simp only [bI_0, Bool.not_eq_false] at hc19
      refine a_aload_n X dX4_deep_37 (i := 0) rfl rfl ?_
      refine a_ldc X dX4_deep_38 kc_X4_48 ?_
      refine s_callV_R X dX4_deep_40 lk_X4_49 ko_0 rfl rfl (c_X4_found (k := 0) (by decide) (by decide +kernel)) ⟨Nat.le_of_ble_eq_true rfl, Nat.le_of_ble_eq_true rfl⟩ rfl rfl (Nat.le_of_ble_eq_true rfl) ⟨Nat.le_of_ble_eq_true rfl, Nat.le_of_ble_eq_true rfl⟩ ?_
      refine a_iret X hA dX4_deep_43 ?_
      first | exact ⟨_, _, _, _, _, rfl, rfl, bv_find (bs_0 hC) (k := 0) (by decide +kernel) (by rw [sp_deep, if_neg (by simp [*])])⟩ | exact ⟨_, _, _, _, _, rfl, rfl, bv_find (bs_0 hC) (k := 0) (by decide +kernel) (by rw [sp_deep, if_neg (fun q => q.2.2.1 (by rw [hc24]))])⟩
    · skip
      try simp only [bI_0, Bool.not_eq_false] at hc19
      obtain ⟨b, hb, rfl⟩ := isM_t (by omega) hc19
      refine a_iload_n X dX4_deep_22 (i := 1) rfl rfl ?_
      refine a_iload_n X dX4_deep_23 (i := 2) rfl rfl ?_
      refine s_icmp_eqN X dX4_deep_24 (tgt := 37) (by decide) (by omega) (by omega) (fun hc24 => ?_) (fun hc24 => ?_)
      · skip
        refine a_aload_n X dX4_deep_37 (i := 0) rfl rfl ?_
        refine a_ldc X dX4_deep_38 kc_X4_48 ?_
        refine s_callV_R X dX4_deep_40 lk_X4_49 ko_0 rfl rfl (c_X4_found (k := 0) (by decide) (by decide +kernel)) ⟨Nat.le_of_ble_eq_true rfl, Nat.le_of_ble_eq_true rfl⟩ rfl rfl (Nat.le_of_ble_eq_true rfl) ⟨Nat.le_of_ble_eq_true rfl, Nat.le_of_ble_eq_true rfl⟩ ?_
        refine a_iret X hA dX4_deep_43 ?_
        first | exact ⟨_, _, _, _, _, rfl, rfl, bv_find (bs_0 hC) (k := 0) (by decide +kernel) (by rw [sp_deep, if_neg (by simp [*])])⟩ | exact ⟨_, _, _, _, _, rfl, rfl, bv_find (bs_0 hC) (k := 0) (by decide +kernel) (by rw [sp_deep, if_neg (fun q => q.2.2.1 (by rw [hc24]))])⟩
      · skip
        refine a_iload_n X dX4_deep_27 (i := 3) rfl rfl ?_
        refine a_iconst X dX4_deep_28 (v := nI 0) (by decide +kernel) ?_
        refine a_bipush X dX4_deep_29 (v := nI 40) (by decide +kernel) ?_
        refine s_callS_R X dX4_deep_31 lk_X4_44 c_X4_within ⟨Nat.le_of_ble_eq_true rfl, Nat.le_of_ble_eq_true rfl⟩ rfl rfl (Nat.le_of_ble_eq_true rfl) ⟨Nat.le_of_ble_eq_true rfl, Nat.le_of_ble_eq_true rfl⟩ ?_
        refine a_if_ne X dX4_deep_34 (tgt := 44) (by decide) (fun hc34 => ?_) (fun hc34 => ?_)
        · skip
          try simp only [bI_0, Bool.not_eq_false] at hc34
          obtain ⟨j, hj0, hj, rfl⟩ := inB_r (by decide) (by decide) hc34
          refine a_iconst X dX4_deep_44 (v := nI 1) (by decide +kernel) ?_
          refine a_istore X dX4_deep_45 (by decide) rfl ?_
          exact L47 11 a b j 1 _ _ (by omega) rfl rfl rfl ⟨hc8, hc19, fun z => hc24 ((nI_eq (by omega) (by omega)).mp z), hc34⟩ ha hb (by omega) (by omega) (by omega) (bs_0 hC) rfl
        · skip
          try simp only [bI_0, Bool.not_eq_false] at hc34
          refine a_aload_n X dX4_deep_37 (i := 0) rfl rfl ?_
          refine a_ldc X dX4_deep_38 kc_X4_48 ?_
          refine s_callV_R X dX4_deep_40 lk_X4_49 ko_0 rfl rfl (c_X4_found (k := 0) (by decide) (by decide +kernel)) ⟨Nat.le_of_ble_eq_true rfl, Nat.le_of_ble_eq_true rfl⟩ rfl rfl (Nat.le_of_ble_eq_true rfl) ⟨Nat.le_of_ble_eq_true rfl, Nat.le_of_ble_eq_true rfl⟩ ?_
          refine a_iret X hA dX4_deep_43 ?_
          first | exact ⟨_, _, _, _, _, rfl, rfl, bv_find (bs_0 hC) (k := 0) (by decide +kernel) (by rw [sp_deep, if_neg (by simp [*])])⟩ | exact ⟨_, _, _, _, _, rfl, rfl, bv_find (bs_0 hC) (k := 0) (by decide +kernel) (by rw [sp_deep, if_neg (fun q => q.2.2.1 (by rw [hc24]))])⟩
set_option maxRecDepth 100000 in
set_option maxHeartbeats 4000000 in
theorem c_X4_bears {l : Launch} {g : GG} {I : TI} {J : TJ} {F : TI} {w : Int64} {R : Nat → Nat} (ok : okR R) (hC : Ch I F 1 R) {x y z : Int32} (hN : R 0 ≤ 99999) : RV l g mX4_bears [.ref (ga g 0), .int x, .int y, .int z] I J F w (BvR I J F w (sp_bears R x y z)) := by
  have hn10 := ok.1
  obtain ⟨c0, c1, cm, cs⟩ := id hC
  have cm : ∀ m, m < R 1 → I 2 m = nI (R (2 + 6 * m + 0)) ∧ I 3 m = nI (R (2 + 6 * m + 1)) ∧ I 4 m = nI (R (2 + 6 * m + 2)) ∧ I 5 m = nI (R (2 + 6 * m + 3)) ∧ I 6 m = nI (R (2 + 6 * m + 4)) ∧ I 7 m = nI (R (2 + 6 * m + 5)) := cm
  refine ct_start (M := mX4_bears) (by decide +kernel) (Nat.le_of_ble_eq_true rfl) ?_
  intro p e s m args below meth c A X hA
  have X : AX p s m args meth c g A cX4_bears 5 RX4 (Cond.code yX4_bears cX4_bears 5 (some .int)) (some .int) := X
  show AW p l e (rmM 6 135) s m args below meth c g A 5 0 0 (MQ below (CQ g (hp g I J F w) s.heap.size (fun vv0 hh0 => ∃ xx0 II0 JJ0 FF0 ww0, vv0 = some xx0 ∧ hh0 = hp g II0 JJ0 FF0 ww0 ∧ (BvR I J F w (sp_bears R x y z)) xx0 II0 JJ0 FF0 ww0)) args s 0 0 A) 0 [some (.ref (ga g 0)), some (.int x), some (.int y), some (.int z), none] [] (hp g I J F w)
  have L42 : ∀ (fu : Nat) (a : Nat) (j : Nat) (b : Nat) (k : Nat) (I1 : TI) (F1 : TI), k < fu → (x = nI a) → (y = nI j) → (z = nI b) → (isM (R 1) x = true ∧ inB y (nI 0) (nI 40) = true ∧ inB z (nI 0) (nI 10) = true) → (a < R 1) → (j ≤ 40) → (b ≤ 10) → (k ≤ 100) → (BS I F R I1 F1) → (dnF (beaP R a j b) k = dnF (beaP R a j b) 100) → AW p l e (rmM 6 135) s m args below meth c g A 5 0 0 (MQ below (CQ g (hp g I J F w) s.heap.size (fun vv0 hh0 => ∃ xx0 II0 JJ0 FF0 ww0, vv0 = some xx0 ∧ hh0 = hp g II0 JJ0 FF0 ww0 ∧ (BvR I J F w (sp_bears R x y z)) xx0 II0 JJ0 FF0 ww0)) args s 0 0 A) 42 [some (.ref (ga g 0)), some (.int (nI a)), some (.int (nI j)), some (.int (nI b)), some (.int (nI k - nI 1))] [] (hp g I1 J F1 w) := by
    intro fu
    induction fu with
    | zero => intro a j b k I1 F1 hfu; exact absurd hfu (by omega)
    | succ fu ih =>
      intro a j b k I1 F1 hfu hx hy hz hall ha hj hb hk K hfir
      subst hx; subst hy; subst hz
      obtain ⟨g0, g1, g2, g3, g4, g5⟩ := ok.2.1 a ha
      refine a_iload X dX4_bears_42 rfl ?_
      refine a_if_lt X dX4_bears_44 (tgt := 98) (by decide) (fun hc44 => ?_) (fun hc44 => ?_)
      · skip
        have hk0 := k_zero (by omega) hc44
        refine a_aload_n X dX4_bears_98 (i := 0) rfl rfl ?_
        refine a_ldc X dX4_bears_99 kc_X4_83 ?_
        refine s_callV_R X dX4_bears_101 lk_X4_49 ko_0 rfl rfl (c_X4_found (k := 3) (by decide) (by decide +kernel)) ⟨Nat.le_of_ble_eq_true rfl, Nat.le_of_ble_eq_true rfl⟩ rfl rfl (Nat.le_of_ble_eq_true rfl) ⟨Nat.le_of_ble_eq_true rfl, Nat.le_of_ble_eq_true rfl⟩ ?_
        refine a_iret X hA dX4_bears_104 ?_
        exact ⟨_, _, _, _, _, rfl, rfl, bv_find (K) (k := 3) (by decide +kernel) (by rw [sp_bears, if_pos hall, cl_n (show a < 2 ^ 31 by omega), cl_n (show j < 2 ^ 31 by omega), cl_n (show b < 2 ^ 31 by omega), ← hfir, hk0]; rfl)⟩
      · skip
        have hk1 := k_pos hc44
        rw [pk_sub hk1]
        have okm := ok_put (j := 5) (v := k - 1) ok ha (by decide) (by omega) (by decide) (by omega) (by omega) (by omega) (by omega)
        refine a_aload_n X dX4_bears_47 (i := 0) rfl rfl ?_
        refine s_getr X dX4_bears_48 fl_X4_16 ko_0 rfl ?_
        refine a_aload_n X dX4_bears_51 (i := 0) rfl rfl ?_
        refine s_getr X dX4_bears_52 fl_X4_10 ko_0 rfl ?_
        refine s_callV_Y X dX4_bears_55 lk_X4_155 ko_11 rfl rfl (c_X0_become (b := 11) (b2 := 1) (Or.inr (Or.inl rfl)) (Or.inl rfl) (by decide) ok K.1) ⟨Nat.le_of_ble_eq_true rfl, Nat.le_of_ble_eq_true rfl⟩ rfl rfl (Nat.le_of_ble_eq_true rfl) ⟨Nat.le_of_ble_eq_true rfl, Nat.le_of_ble_eq_true rfl⟩ (fun I2 J2 F2 w2 hpo => ?_)
        have K0 := bt_t K hpo
        obtain ⟨-, -, eJ, ew⟩ := hpo
        have eJ := eJ.symm
        have ew := ew.symm
        subst eJ; subst ew
        refine a_aload_n X dX4_bears_58 (i := 0) rfl rfl ?_
        refine s_getr X dX4_bears_59 fl_X4_16 ko_0 rfl ?_
        refine s_getr X dX4_bears_62 fl_X4_73 ko_11 rfl ?_
        refine a_iload_n X dX4_bears_65 (i := 1) rfl rfl ?_
        refine a_iload X dX4_bears_66 rfl ?_
        refine s_ist X dX4_bears_68 ki_17 (by omega) (by decide) ?_
        refine a_aload_n X dX4_bears_69 (i := 0) rfl rfl ?_
        refine s_getr X dX4_bears_70 fl_X4_16 ko_0 rfl ?_
        refine a_iload_n X dX4_bears_73 (i := 2) rfl rfl ?_
        refine s_callV_Y X dX4_bears_74 lk_X4_151 ko_11 rfl rfl (c_X0_passNights (b := 11) (Or.inr (Or.inl rfl)) okm (bt_p (j := 5) (v := k - 1) (P := 17) K0 ha (by decide) (by decide) rfl).2 (by rw [up_n _ _ (by omega)]; omega)) ⟨Nat.le_of_ble_eq_true rfl, Nat.le_of_ble_eq_true rfl⟩ rfl rfl (Nat.le_of_ble_eq_true rfl) ⟨Nat.le_of_ble_eq_true rfl, Nat.le_of_ble_eq_true rfl⟩ (fun I2 J2 F2 w2 hpo => ?_)
        have K3 := bt_t (bt_p (j := 5) (v := k - 1) (P := 17) K0 ha (by decide) (by decide) rfl).1 hpo
        obtain ⟨-, -, eJ, ew⟩ := hpo
        have eJ := eJ.symm
        have ew := ew.symm
        subst eJ; subst ew
        have hpc := pcn_le (pasN (va_up R (2 + 6 * a + 5) (k - 1)) j (2 + 6 * a + 4))
        refine a_aload_n X dX4_bears_77 (i := 0) rfl rfl ?_
        refine s_getr X dX4_bears_78 fl_X4_16 ko_0 rfl ?_
        refine a_iload_n X dX4_bears_81 (i := 1) rfl rfl ?_
        refine s_callV_R X dX4_bears_82 lk_X4_171 ko_11 rfl rfl (c_X0_knownBy (b := 11) (Or.inr (Or.inl rfl)) (okR_pas okm j) K3.2 (by rw [pas_1, up_n _ _ (by omega)]; exact ha)) ⟨Nat.le_of_ble_eq_true rfl, Nat.le_of_ble_eq_true rfl⟩ rfl rfl (Nat.le_of_ble_eq_true rfl) ⟨Nat.le_of_ble_eq_true rfl, Nat.le_of_ble_eq_true rfl⟩ ?_
        refine a_iload_n X dX4_bears_85 (i := 3) rfl rfl ?_
        refine s_icmp_ltN X dX4_bears_86 (tgt := 92) (by decide) (by omega) (by omega) (fun hc86 => ?_) (fun hc86 => ?_)
        · skip
          refine a_iinc X dX4_bears_92 rfl (v := _ - nI 1) (iincM _) (by decide) rfl ?_
          refine a_goto X dX4_bears_95 (tgt := 42) (by decide) ?_
          exact ih a j b (k - 1) I2 F2 (by omega) rfl rfl rfl hall ha hj hb (by omega) K3.1 (by
      have hd : beaP R a j b (k - 1) = false := by simp only [beaP, decide_eq_false_iff_not]; omega
      have := dn_go (p := beaP R a j b) (t := k - 1) hd
      rw [show k - 1 + 1 = k by omega] at this
      exact this.symm.trans hfir)
        · skip
          refine a_iload X dX4_bears_89 rfl ?_
          refine a_iret X hA dX4_bears_91 ?_
          have hd : beaP R a j b (k - 1) = true := by simp only [beaP, decide_eq_true_eq]; omega
          have hh := dn_hit (p := beaP R a j b) (t := k - 1) hd
          rw [show k - 1 + 1 = k by omega] at hh
          exact ⟨_, _, _, _, _, rfl, rfl, bv_val (K3.1) (by rw [sp_bears, if_pos hall, cl_n (show a < 2 ^ 31 by omega), cl_n (show j < 2 ^ 31 by omega), cl_n (show b < 2 ^ 31 by omega), ← hfir, hh, firSP_s])⟩
  refine a_aload_n X dX4_bears_0 (i := 0) rfl rfl ?_
  refine s_getr X dX4_bears_1 fl_X4_10 ko_0 rfl ?_
  refine a_iload_n X dX4_bears_4 (i := 1) rfl rfl ?_
  refine s_callV_R X dX4_bears_5 lk_X4_103 ko_1 rfl rfl (c_X0_has (b := 1) (Or.inl rfl) ok hC) ⟨Nat.le_of_ble_eq_true rfl, Nat.le_of_ble_eq_true rfl⟩ rfl rfl (Nat.le_of_ble_eq_true rfl) ⟨Nat.le_of_ble_eq_true rfl, Nat.le_of_ble_eq_true rfl⟩ ?_
  refine a_if_eq X dX4_bears_8 (tgt := 31) (by decide) (fun hc8 => ?_) (fun hc8 => ?_)
  · skip
    try simp only [bI_0, Bool.not_eq_false] at hc8
    refine a_aload_n X dX4_bears_31 (i := 0) rfl rfl ?_
    refine a_ldc X dX4_bears_32 kc_X4_48 ?_
    refine s_callV_R X dX4_bears_34 lk_X4_49 ko_0 rfl rfl (c_X4_found (k := 0) (by decide) (by decide +kernel)) ⟨Nat.le_of_ble_eq_true rfl, Nat.le_of_ble_eq_true rfl⟩ rfl rfl (Nat.le_of_ble_eq_true rfl) ⟨Nat.le_of_ble_eq_true rfl, Nat.le_of_ble_eq_true rfl⟩ ?_
    refine a_iret X hA dX4_bears_37 ?_
    exact ⟨_, _, _, _, _, rfl, rfl, bv_find (bs_0 hC) (k := 0) (by decide +kernel) (by rw [sp_bears, if_neg (by simp [*])])⟩
  · skip
    try simp only [bI_0, Bool.not_eq_false] at hc8
    obtain ⟨a, ha, rfl⟩ := isM_t (by omega) hc8
    obtain ⟨g0, g1, g2, g3, g4, g5⟩ := ok.2.1 a ha
    obtain ⟨m0, m1, m2, m3, m4, m5⟩ := cm a ha
    refine a_iload_n X dX4_bears_11 (i := 2) rfl rfl ?_
    refine a_iconst X dX4_bears_12 (v := nI 0) (by decide +kernel) ?_
    refine a_bipush X dX4_bears_13 (v := nI 40) (by decide +kernel) ?_
    refine s_callS_R X dX4_bears_15 lk_X4_44 c_X4_within ⟨Nat.le_of_ble_eq_true rfl, Nat.le_of_ble_eq_true rfl⟩ rfl rfl (Nat.le_of_ble_eq_true rfl) ⟨Nat.le_of_ble_eq_true rfl, Nat.le_of_ble_eq_true rfl⟩ ?_
    refine a_if_eq X dX4_bears_18 (tgt := 31) (by decide) (fun hc18 => ?_) (fun hc18 => ?_)
    · skip
      try simp only [bI_0, Bool.not_eq_false] at hc18
      refine a_aload_n X dX4_bears_31 (i := 0) rfl rfl ?_
      refine a_ldc X dX4_bears_32 kc_X4_48 ?_
      refine s_callV_R X dX4_bears_34 lk_X4_49 ko_0 rfl rfl (c_X4_found (k := 0) (by decide) (by decide +kernel)) ⟨Nat.le_of_ble_eq_true rfl, Nat.le_of_ble_eq_true rfl⟩ rfl rfl (Nat.le_of_ble_eq_true rfl) ⟨Nat.le_of_ble_eq_true rfl, Nat.le_of_ble_eq_true rfl⟩ ?_
      refine a_iret X hA dX4_bears_37 ?_
      exact ⟨_, _, _, _, _, rfl, rfl, bv_find (bs_0 hC) (k := 0) (by decide +kernel) (by rw [sp_bears, if_neg (by simp [*])])⟩
    · skip
      try simp only [bI_0, Bool.not_eq_false] at hc18
      obtain ⟨j, hj0, hj, rfl⟩ := inB_r (by decide) (by decide) hc18
      refine a_iload_n X dX4_bears_21 (i := 3) rfl rfl ?_
      refine a_iconst X dX4_bears_22 (v := nI 0) (by decide +kernel) ?_
      refine a_bipush X dX4_bears_23 (v := nI 10) (by decide +kernel) ?_
      refine s_callS_R X dX4_bears_25 lk_X4_44 c_X4_within ⟨Nat.le_of_ble_eq_true rfl, Nat.le_of_ble_eq_true rfl⟩ rfl rfl (Nat.le_of_ble_eq_true rfl) ⟨Nat.le_of_ble_eq_true rfl, Nat.le_of_ble_eq_true rfl⟩ ?_
      refine a_if_ne X dX4_bears_28 (tgt := 38) (by decide) (fun hc28 => ?_) (fun hc28 => ?_)
      · skip
        try simp only [bI_0, Bool.not_eq_false] at hc28
        obtain ⟨b, hb0, hb, rfl⟩ := inB_r (by decide) (by decide) hc28
        refine a_bipush X dX4_bears_38 (v := nI 99) (by decide +kernel) ?_
        refine a_istore X dX4_bears_40 (by decide) rfl ?_
        exact L42 101 a j b 100 _ _ (by omega) rfl rfl rfl ⟨hc8, hc18, hc28⟩ ha (by omega) (by omega) (by omega) (bs_0 hC) rfl
      · skip
        try simp only [bI_0, Bool.not_eq_false] at hc28
        refine a_aload_n X dX4_bears_31 (i := 0) rfl rfl ?_
        refine a_ldc X dX4_bears_32 kc_X4_48 ?_
        refine s_callV_R X dX4_bears_34 lk_X4_49 ko_0 rfl rfl (c_X4_found (k := 0) (by decide) (by decide +kernel)) ⟨Nat.le_of_ble_eq_true rfl, Nat.le_of_ble_eq_true rfl⟩ rfl rfl (Nat.le_of_ble_eq_true rfl) ⟨Nat.le_of_ble_eq_true rfl, Nat.le_of_ble_eq_true rfl⟩ ?_
        refine a_iret X hA dX4_bears_37 ?_
        exact ⟨_, _, _, _, _, rfl, rfl, bv_find (bs_0 hC) (k := 0) (by decide +kernel) (by rw [sp_bears, if_neg (by simp [*])])⟩
