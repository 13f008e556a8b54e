set_option maxRecDepth 100000 in
set_option maxHeartbeats 4000000 in
theorem c_X4_book {l : Launch} {g : GG} {I : TI} {J : TJ} {F : TI} {w : Int64} {R : Nat → Nat} (ok : okR R) (hC : Ch I F 1 R) {x y : Int32} {Z : Nat → Nat} (hZ : ∀ i, i < 4 → I 52 i = nI (Z i) ∧ Z i ≤ 40) (hS : ShH I F) (hN : R 0 ≤ 99999) : RV l g mX4_book [.ref (ga g 0), .int x, .int y] I J F w (BkC I J F w R x y Z) := by
  have hn10 := ok.1
  obtain ⟨c0, c1, cm, cs⟩ := id hC
  have cm : ∀ m, m < R 1 → I 2 m = nI (R (2 + 6 * m + 0)) ∧ I 3 m = nI (R (2 + 6 * m + 1)) ∧ I 4 m = nI (R (2 + 6 * m + 2)) ∧ I 5 m = nI (R (2 + 6 * m + 3)) ∧ I 6 m = nI (R (2 + 6 * m + 4)) ∧ I 7 m = nI (R (2 + 6 * m + 5)) := cm
  refine ct_start (M := mX4_book) (by decide +kernel) (Nat.le_of_ble_eq_true rfl) ?_
  intro p e s m args below meth c A X hA
  have X : AX p s m args meth c g A cX4_book 5 RX4 (Cond.code yX4_book cX4_book 5 (some .int)) (some .int) := X
  show AW p l e (rmM 5 113) s m args below meth c g A 5 0 0 (MQ below (CQ g (hp g I J F w) s.heap.size (fun vv0 hh0 => ∃ xx0 II0 JJ0 FF0 ww0, vv0 = some xx0 ∧ hh0 = hp g II0 JJ0 FF0 ww0 ∧ (BkC I J F w R x y Z) xx0 II0 JJ0 FF0 ww0)) args s 0 0 A) 0 [some (.ref (ga g 0)), some (.int x), some (.int y), none, none] [] (hp g I J F w)
  have L67 : ∀ (fu : Nat) (a : Nat) (b : Nat) (k : Nat) (I1 : TI) (F1 : TI), 50 - k < fu → (x = nI a) → (y = nI b) → (bkO I (R 1) x y = none) → (a < 4) → (b < R 1) → (k ≤ Z a) → (BT I F R (pasN R k) I1 F1) → AW p l e (rmM 5 113) s m args below meth c g A 5 0 0 (MQ below (CQ g (hp g I J F w) s.heap.size (fun vv0 hh0 => ∃ xx0 II0 JJ0 FF0 ww0, vv0 = some xx0 ∧ hh0 = hp g II0 JJ0 FF0 ww0 ∧ (BkC I J F w R x y Z) xx0 II0 JJ0 FF0 ww0)) args s 0 0 A) 67 [some (.ref (ga g 0)), some (.int (nI a)), some (.int (nI b)), some (.ref (ga g (34 + 2 * a))), some (.int (nI k))] [] (hp g I1 (va_up J (35 + 2 * a) (bkC R (I 51 a) b (J (35 + 2 * a)) k)) F1 w) := by
    intro fu
    induction fu with
    | zero => intro a b k I1 F1 hfu; exact absurd hfu (by omega)
    | succ fu ih =>
      intro a b k I1 F1 hfu hx hy hb ha hbb hk K
      subst hx; subst hy
      obtain ⟨z1, z2⟩ := hZ a ha
      obtain ⟨s1, s2⟩ := hS a ha
      have kf : F1 (34 + 2 * a) = F (34 + 2 * a) := K.1.2.2 (34 + 2 * a) (by omega)
      have t4 : I1 16 b = nI (pasN R k (2 + 6 * b + 4)) := (K.2.2.2.1 b (by rw [pas_1]; exact hbb)).2.2.2.2.1
      refine a_iload X dX4_book_67 rfl ?_
      refine a_aload_n X dX4_book_69 (i := 3) rfl rfl ?_
      refine s_geti X dX4_book_70 fl_X4_197 (ko_sh ha) rfl ?_
      rw [kf, s2, z1]
      refine s_icmp_geN X dX4_book_73 (tgt := 105) (by decide) (by omega) (by omega) (fun hc73 => ?_) (fun hc73 => ?_)
      · skip
        have hk2 : Z a = k := by omega
        refine a_aload_n X dX4_book_105 (i := 3) rfl rfl ?_
        refine s_geti X dX4_book_106 fl_X4_197 (ko_sh ha) rfl ?_
        rw [kf, s2, z1]
        refine a_iret X hA dX4_book_109 ?_
        exact ⟨_, _, _, _, _, rfl, rfl, (fun _ => by rw [cl_n (show a < 2 ^ 31 by omega), cl_n (show b < 2 ^ 31 by omega), hk2]; exact ⟨rfl, K.1, rfl⟩), (fun i q => by rw [hb] at q; cases q), rfl⟩
      · skip
        refine a_aload_n X dX4_book_76 (i := 3) rfl rfl ?_
        refine a_iload X dX4_book_77 rfl ?_
        refine a_aload_n X dX4_book_79 (i := 0) rfl rfl ?_
        refine s_getr X dX4_book_80 fl_X4_16 ko_0 rfl ?_
        refine s_getr X dX4_book_83 fl_X4_115 ko_11 rfl ?_
        refine a_iload_n X dX4_book_86 (i := 2) rfl rfl ?_
        refine s_ild X dX4_book_87 ki_16 (by omega) (by decide) ?_
        rw [t4]
        refine a_i2l X dX4_book_88 rfl ?_
        refine s_callV_V X dX4_book_89 lk_X4_206 (ko_sh ha) rfl rfl (c_X2_put (a := a) ha (i := k) (by omega)) ⟨Nat.le_of_ble_eq_true rfl, Nat.le_of_ble_eq_true rfl⟩ rfl rfl (Nat.le_of_ble_eq_true rfl) ⟨Nat.le_of_ble_eq_true rfl, Nat.le_of_ble_eq_true rfl⟩ ?_
        refine a_aload_n X dX4_book_92 (i := 0) rfl rfl ?_
        refine s_getr X dX4_book_93 fl_X4_16 ko_0 rfl ?_
        refine s_callV_Y X dX4_book_96 lk_X4_162 ko_11 rfl rfl (c_X0_passNight (b := 11) (Or.inr (Or.inl rfl)) (okR_pas ok k) K.2 (by rw [pas_0]; omega)) ⟨Nat.le_of_ble_eq_true rfl, Nat.le_of_ble_eq_true rfl⟩ rfl rfl (Nat.le_of_ble_eq_true rfl) ⟨Nat.le_of_ble_eq_true rfl, Nat.le_of_ble_eq_true rfl⟩ (fun I2 J2 F2 w2 hpo => ?_)
        refine a_iinc X dX4_book_99 rfl (v := nI (_ + 1)) (iincN _ 1) (by decide) rfl ?_
        refine a_goto X dX4_book_102 (tgt := 67) (by decide) ?_
        have K2 := bt_t K.1 hpo
        obtain ⟨-, -, eJ, ew⟩ := hpo
        have eJ := eJ.symm
        have ew := ew.symm
        subst eJ; subst ew
        have := ih a b (k + 1) I2 F2 (by omega) rfl rfl hb ha hbb (by omega) K2
        rw [bx_uu, up_s, nrC_M, kf, s1, bkC_step]
        exact this
  refine a_iload_n X dX4_book_0 (i := 1) rfl rfl ?_
  refine s_callS_R X dX4_book_1 lk_X4_190 c_X4_isSheet ⟨Nat.le_of_ble_eq_true rfl, Nat.le_of_ble_eq_true rfl⟩ rfl rfl (Nat.le_of_ble_eq_true rfl) ⟨Nat.le_of_ble_eq_true rfl, Nat.le_of_ble_eq_true rfl⟩ ?_
  refine a_if_ne X dX4_book_4 (tgt := 14) (by decide) (fun hc4 => ?_) (fun hc4 => ?_)
  · skip
    try simp only [bI_0, Bool.not_eq_false] at hc4
    obtain ⟨a, ha0, ha, rfl⟩ := inB_r (by decide) (by decide) hc4
    have sa := hS a (by omega)
    have za := hZ a (by omega)
    refine a_aload_n X dX4_book_14 (i := 0) rfl rfl ?_
    refine s_getr X dX4_book_15 fl_X4_35 ko_0 rfl ?_
    refine a_iload_n X dX4_book_18 (i := 1) rfl rfl ?_
    refine s_ald X dX4_book_19 (show a < 4 by omega) ?_
    refine a_astore_n X dX4_book_20 (i := 3) rfl (by decide) rfl ?_
    refine a_aload_n X dX4_book_21 (i := 3) rfl rfl ?_
    refine s_callV_R X dX4_book_22 lk_X4_198 (ko_sh (show a < 4 by omega)) rfl rfl (c_X2_isMissing (by omega)) ⟨Nat.le_of_ble_eq_true rfl, Nat.le_of_ble_eq_true rfl⟩ rfl rfl (Nat.le_of_ble_eq_true rfl) ⟨Nat.le_of_ble_eq_true rfl, Nat.le_of_ble_eq_true rfl⟩ ?_
    refine a_if_eq X dX4_book_25 (tgt := 35) (by decide) (fun hc25 => ?_) (fun hc25 => ?_)
    · skip
      try simp only [bI_0, Bool.not_eq_false, decide_eq_true_eq, decide_eq_false_iff_not, Classical.not_not] at hc25
      rw [sa.1] at hc25
      refine a_aload_n X dX4_book_35 (i := 0) rfl rfl ?_
      refine s_getr X dX4_book_36 fl_X4_10 ko_0 rfl ?_
      refine a_iload_n X dX4_book_39 (i := 2) rfl rfl ?_
      refine s_callV_R X dX4_book_40 lk_X4_103 ko_1 rfl rfl (c_X0_has (b := 1) (Or.inl rfl) ok hC) ⟨Nat.le_of_ble_eq_true rfl, Nat.le_of_ble_eq_true rfl⟩ rfl rfl (Nat.le_of_ble_eq_true rfl) ⟨Nat.le_of_ble_eq_true rfl, Nat.le_of_ble_eq_true rfl⟩ ?_
      refine a_if_ne X dX4_book_43 (tgt := 53) (by decide) (fun hc43 => ?_) (fun hc43 => ?_)
      · skip
        try simp only [bI_0, Bool.not_eq_false] at hc43
        obtain ⟨b, hbb, rfl⟩ := isM_t (by omega) hc43
        refine a_aload_n X dX4_book_53 (i := 0) rfl rfl ?_
        refine s_getr X dX4_book_54 fl_X4_16 ko_0 rfl ?_
        refine a_aload_n X dX4_book_57 (i := 0) rfl rfl ?_
        refine s_getr X dX4_book_58 fl_X4_10 ko_0 rfl ?_
        refine s_callV_Y X dX4_book_61 lk_X4_155 ko_11 rfl rfl (c_X0_become (b := 11) (b2 := 1) (Or.inr (Or.inl rfl)) (Or.inl rfl) (by decide) ok hC) ⟨Nat.le_of_ble_eq_true rfl, Nat.le_of_ble_eq_true rfl⟩ rfl rfl (Nat.le_of_ble_eq_true rfl) ⟨Nat.le_of_ble_eq_true rfl, Nat.le_of_ble_eq_true rfl⟩ (fun I2 J2 F2 w2 hpo => ?_)
        have K := bt_t (bs_0 hC) hpo
        obtain ⟨-, -, eJ, ew⟩ := hpo
        have eJ := eJ.symm
        have ew := ew.symm
        subst eJ; subst ew
        refine a_iconst X dX4_book_64 (v := nI 0) (by decide +kernel) ?_
        refine a_istore X dX4_book_65 (by decide) rfl ?_
        have hb2 : bkO I (R 1) (nI a) (nI b) = none := by unfold bkO; rw [show bdO I (nI a) = none from (by rw [bdO, if_pos hc4, cl_n (show a < 2 ^ 31 by omega), if_neg hc25])]; show (if _ then _ else _) = _; rw [if_pos hc43]
        have := L67 51 a b 0 _ _ (by omega) rfl rfl hb2 (by omega) hbb (Nat.zero_le _) K
        rw [bkC_0, show va_up J (35 + 2 * a) (J (35 + 2 * a)) = J from up_self (fun _ => rfl)] at this
        exact this
      · skip
        try simp only [bI_0, Bool.not_eq_false] at hc43
        refine a_aload_n X dX4_book_46 (i := 0) rfl rfl ?_
        refine a_ldc X dX4_book_47 kc_X4_48 ?_
        refine s_callV_R X dX4_book_49 lk_X4_49 ko_0 rfl rfl (c_X4_found (k := 0) (by decide) (by decide +kernel)) ⟨Nat.le_of_ble_eq_true rfl, Nat.le_of_ble_eq_true rfl⟩ rfl rfl (Nat.le_of_ble_eq_true rfl) ⟨Nat.le_of_ble_eq_true rfl, Nat.le_of_ble_eq_true rfl⟩ ?_
        refine a_iret X hA dX4_book_52 ?_
        have hb : bdO I (nI a) = none := (by rw [bdO, if_pos hc4, cl_n (show a < 2 ^ 31 by omega), if_neg hc25])
        have hq : bkO I (R 1) (nI a) y = some 0 := by unfold bkO; rw [hb]; show (if _ then _ else _) = _; rw [if_neg (by rw [hc43]; decide)]
        exact ⟨_, _, _, _, _, rfl, rfl, (fun q => by rw [hq] at q; cases q), (fun i q => by rw [hq] at q; cases q; exact ⟨by congr 1, rfl, rfl, rfl⟩), rfl⟩
    · skip
      try simp only [bI_0, Bool.not_eq_false, decide_eq_true_eq, decide_eq_false_iff_not, Classical.not_not] at hc25
      rw [sa.1] at hc25
      refine a_aload_n X dX4_book_28 (i := 0) rfl rfl ?_
      refine a_ldc X dX4_book_29 kc_X4_201 ?_
      refine s_callV_R X dX4_book_31 lk_X4_49 ko_0 rfl rfl (c_X4_found (k := 5) (by decide) (by decide +kernel)) ⟨Nat.le_of_ble_eq_true rfl, Nat.le_of_ble_eq_true rfl⟩ rfl rfl (Nat.le_of_ble_eq_true rfl) ⟨Nat.le_of_ble_eq_true rfl, Nat.le_of_ble_eq_true rfl⟩ ?_
      refine a_iret X hA dX4_book_34 ?_
      have hb : bdO I (nI a) = some 5 := by rw [bdO, if_pos hc4, cl_n (show a < 2 ^ 31 by omega), if_pos hc25]
      exact ⟨_, _, _, _, _, rfl, rfl, (fun q => by unfold bkO at q; rw [hb] at q; cases q), (fun i q => by unfold bkO at q; rw [hb] at q; cases q; exact ⟨by congr 1, rfl, rfl, rfl⟩), rfl⟩
  · skip
    try simp only [bI_0, Bool.not_eq_false] at hc4
    refine a_aload_n X dX4_book_7 (i := 0) rfl rfl ?_
    refine a_ldc X dX4_book_8 kc_X4_48 ?_
    refine s_callV_R X dX4_book_10 lk_X4_49 ko_0 rfl rfl (c_X4_found (k := 0) (by decide) (by decide +kernel)) ⟨Nat.le_of_ble_eq_true rfl, Nat.le_of_ble_eq_true rfl⟩ rfl rfl (Nat.le_of_ble_eq_true rfl) ⟨Nat.le_of_ble_eq_true rfl, Nat.le_of_ble_eq_true rfl⟩ ?_
    refine a_iret X hA dX4_book_13 ?_
    have hb : bdO I x = some 0 := by rw [bdO, if_neg (by rw [hc4]; decide)]
    exact ⟨_, _, _, _, _, rfl, rfl, (fun q => by unfold bkO at q; rw [hb] at q; cases q), (fun i q => by unfold bkO at q; rw [hb] at q; cases q; exact ⟨by congr 1, rfl, rfl, rfl⟩), rfl⟩
set_option maxRecDepth 100000 in
set_option maxHeartbeats 4000000 in
theorem c_X4_read {l : Launch} {g : GG} {I : TI} {J : TJ} {F : TI} {w : Int64} {R : Nat → Nat} (ok : okR R) (hC : Ch I F 1 R) {x y z : Int32} {Z : Nat → Nat} (hZ : ∀ i, i < 4 → I 52 i = nI (Z i) ∧ Z i ≤ 40) (hS : ShH I F) (hN : R 0 ≤ 99999) : RV l g mX4_read [.ref (ga g 0), .int x, .int y, .int z] I J F w (RdC I J F w R x y z Z) := by
  have hn10 := ok.1
  obtain ⟨c0, c1, cm, cs⟩ := id hC
  have cm : ∀ m, m < R 1 → I 2 m = nI (R (2 + 6 * m + 0)) ∧ I 3 m = nI (R (2 + 6 * m + 1)) ∧ I 4 m = nI (R (2 + 6 * m + 2)) ∧ I 5 m = nI (R (2 + 6 * m + 3)) ∧ I 6 m = nI (R (2 + 6 * m + 4)) ∧ I 7 m = nI (R (2 + 6 * m + 5)) := cm
  refine ct_start (M := mX4_read) (by decide +kernel) (Nat.le_of_ble_eq_true rfl) ?_
  intro p e s m args below meth c A X hA
  have X : AX p s m args meth c g A cX4_read 8 RX4 (Cond.code yX4_read cX4_read 8 (some .int)) (some .int) := X
  show AW p l e (rmM 6 136) s m args below meth c g A 8 0 0 (MQ below (CQ g (hp g I J F w) s.heap.size (fun vv0 hh0 => ∃ xx0 II0 JJ0 FF0 ww0, vv0 = some xx0 ∧ hh0 = hp g II0 JJ0 FF0 ww0 ∧ (RdC I J F w R x y z Z) xx0 II0 JJ0 FF0 ww0)) args s 0 0 A) 0 [some (.ref (ga g 0)), some (.int x), some (.int y), some (.int z), none, none, none, none] [] (hp g I J F w)
  have L87 : ∀ (fu : Nat) (a : Nat) (b : Nat) (o : Nat) (i : Nat) (k : Nat) (I1 : TI) (F1 : TI), 6 - k < fu → (x = nI a) → (y = nI b) → (z = nI o) → (rdO I (R 1) x y z = none) → (a < 4) → (b < R 1) → (o < R 1) → (i < 6) → (k ≤ 6) → (BS I F R I1 F1) → (∀ I1 F1 {v5 : Int32}, v5 = nI (rdC R b o (J (35 + 2 * a)) (Z a) (6 * (i + 1))) → BS I F R I1 F1 → AW p l e (rmM 6 136) s m args below meth c g A 8 0 0 (MQ below (CQ g (hp g I J F w) s.heap.size (fun vv0 hh0 => ∃ xx0 II0 JJ0 FF0 ww0, vv0 = some xx0 ∧ hh0 = hp g II0 JJ0 FF0 ww0 ∧ (RdC I J F w R x y z Z) xx0 II0 JJ0 FF0 ww0)) args s 0 0 A) 77 [some (.ref (ga g 0)), some (.int (nI a)), some (.int (nI b)), some (.int (nI o)), some (.ref (ga g (34 + 2 * a))), some (.int v5), some (.int (nI (i + 1))), none] [] (hp g I1 J F1 w)) → AW p l e (rmM 6 136) s m args below meth c g A 8 0 0 (MQ below (CQ g (hp g I J F w) s.heap.size (fun vv0 hh0 => ∃ xx0 II0 JJ0 FF0 ww0, vv0 = some xx0 ∧ hh0 = hp g II0 JJ0 FF0 ww0 ∧ (RdC I J F w R x y z Z) xx0 II0 JJ0 FF0 ww0)) args s 0 0 A) 87 [some (.ref (ga g 0)), some (.int (nI a)), some (.int (nI b)), some (.int (nI o)), some (.ref (ga g (34 + 2 * a))), some (.int (nI (rdC R b o (J (35 + 2 * a)) (Z a) (6 * i + k)))), some (.int (nI i)), some (.int (nI k))] [] (hp g I1 J F1 w) := by
    intro fu
    induction fu with
    | zero => intro a b o i k I1 F1 hfu; exact absurd hfu (by omega)
    | succ fu ih =>
      intro a b o i k I1 F1 hfu hx hy hzz hr ha hbb hoo hi hk K hnx
      subst hx; subst hy; subst hzz
      obtain ⟨z1, z2⟩ := hZ a ha
      obtain ⟨s1, s2⟩ := hS a ha
      refine a_iload X dX4_read_87 rfl ?_
      refine a_bipush X dX4_read_89 (v := nI 6) (by decide +kernel) ?_
      refine s_icmp_geN X dX4_read_91 (tgt := 146) (by decide) (by omega) (by omega) (fun hc91 => ?_) (fun hc91 => ?_)
      · skip
        refine a_iinc X dX4_read_146 rfl (v := nI (_ + 1)) (iincN _ 1) (by decide) rfl ?_
        refine a_goto X dX4_read_149 (tgt := 77) (by decide) ?_
        exact (s_dropAt 7 (hnx I1 F1 (by rw [show 6 * (i + 1) = 6 * i + k by omega]) K))
      · skip
        have okm := ok_put (j := 0) (v := k) (m := o) (ok_put (j := 0) (v := i) (m := b) ok hbb (by decide) (by omega) (by decide) (by omega) (by omega) (by omega) (by omega)) (by rw [up_n _ _ (by omega)]; exact hoo) (by decide) (by omega) (by decide) (by omega) (by omega) (by omega) (by omega)
        refine a_aload_n X dX4_read_94 (i := 0) rfl rfl ?_
        refine s_getr X dX4_read_95 fl_X4_16 ko_0 rfl ?_
        refine a_aload_n X dX4_read_98 (i := 0) rfl rfl ?_
        refine s_getr X dX4_read_99 fl_X4_10 ko_0 rfl ?_
        refine s_callV_Y X dX4_read_102 lk_X4_155 ko_11 rfl rfl (c_X0_become (b := 11) (b2 := 1) (Or.inr (Or.inl rfl)) (Or.inl rfl) (by decide) ok K.1) ⟨Nat.le_of_ble_eq_true rfl, Nat.le_of_ble_eq_true rfl⟩ rfl rfl (Nat.le_of_ble_eq_true rfl) ⟨Nat.le_of_ble_eq_true rfl, Nat.le_of_ble_eq_true rfl⟩ (fun I2 J2 F2 w2 hpo => ?_)
        have K0 := bt_t K hpo
        obtain ⟨-, -, eJ, ew⟩ := hpo
        have eJ := eJ.symm
        have ew := ew.symm
        subst eJ; subst ew
        refine a_aload_n X dX4_read_105 (i := 0) rfl rfl ?_
        refine s_getr X dX4_read_106 fl_X4_16 ko_0 rfl ?_
        refine s_getr X dX4_read_109 fl_X4_106 ko_11 rfl ?_
        refine a_iload_n X dX4_read_112 (i := 2) rfl rfl ?_
        refine a_iload X dX4_read_113 rfl ?_
        refine s_ist X dX4_read_115 ki_12 (by omega) (by decide) ?_
        refine a_aload_n X dX4_read_116 (i := 0) rfl rfl ?_
        refine s_getr X dX4_read_117 fl_X4_16 ko_0 rfl ?_
        refine s_getr X dX4_read_120 fl_X4_106 ko_11 rfl ?_
        refine a_iload_n X dX4_read_123 (i := 3) rfl rfl ?_
        refine a_iload X dX4_read_124 rfl ?_
        refine s_ist X dX4_read_126 ki_12 (by omega) (by decide) ?_
        refine a_aload_n X dX4_read_127 (i := 0) rfl rfl ?_
        refine a_aload X dX4_read_128 rfl ?_
        refine a_iload_n X dX4_read_130 (i := 2) rfl rfl ?_
        refine s_callV_X X dX4_read_131 lk_X4_224 ko_0 rfl rfl (c_X4_trialGoesAs (a := a) (b := b) (z := Z a) okm (bt_p (j := 0) (v := k) (P := 12) (bt_p (j := 0) (v := i) (P := 12) K0 hbb (by decide) (by decide) rfl) (a := o) (by rw [up_n _ _ (by omega)]; exact hoo) (by decide) (by decide) rfl).2 ha (by rw [up_n _ _ (by omega), up_n _ _ (by omega)]; exact hbb) (by rw [up_n _ _ (by omega), up_n _ _ (by omega)]; omega) ⟨by rw [K0.1.2.2 (34 + 2 * a) (by omega), s2, z1], z2⟩) ⟨Nat.le_of_ble_eq_true rfl, Nat.le_of_ble_eq_true rfl⟩ rfl rfl (Nat.le_of_ble_eq_true rfl) ⟨Nat.le_of_ble_eq_true rfl, Nat.le_of_ble_eq_true rfl⟩ (fun x2 I2 J2 F2 w2 hpo => ?_)
        obtain ⟨rfl, R2, hpo⟩ := hpo
        have K3 := bt_t (bt_p (j := 0) (v := k) (P := 12) (bt_p (j := 0) (v := i) (P := 12) K0 hbb (by decide) (by decide) rfl) (a := o) (by rw [up_n _ _ (by omega)]; exact hoo) (by decide) (by decide) rfl).1 hpo
        obtain ⟨-, -, eJ, ew⟩ := hpo
        have eJ := eJ.symm
        have ew := ew.symm
        subst eJ; subst ew
        refine a_if_eq X dX4_read_134 (tgt := 140) (by decide) (fun hc134 => ?_) (fun hc134 => ?_)
        · skip
          try simp only [bI_0, Bool.not_eq_false] at hc134
          refine a_iinc X dX4_read_140 rfl (v := nI (_ + 1)) (iincN _ 1) (by decide) rfl ?_
          refine a_goto X dX4_read_143 (tgt := 87) (by decide) ?_
          have := ih a b o i (k + 1) I2 F2 (by omega) rfl rfl rfl hr ha hbb hoo hi (by omega) K3.1 hnx
          first
            | (rw [show rdC R b o (J (35 + 2 * a)) (Z a) (6 * i + (k + 1)) = rdC R b o (J (35 + 2 * a)) (Z a) (6 * i + k) + 0 from (by rw [← Nat.add_assoc, rdC_at (by omega), if_neg (by rw [hc134]; decide)])] at this; exact this)
            | (rw [show rdC R b o (J (35 + 2 * a)) (Z a) (6 * i + (k + 1)) = rdC R b o (J (35 + 2 * a)) (Z a) (6 * i + k) + 1 from (by rw [← Nat.add_assoc, rdC_at (by omega), if_pos hc134])] at this; exact this)
        · skip
          try simp only [bI_0, Bool.not_eq_false] at hc134
          refine a_iinc X dX4_read_137 rfl (v := nI (_ + 1)) (iincN _ 1) (by decide) rfl ?_
          refine a_iinc X dX4_read_140 rfl (v := nI (_ + 1)) (iincN _ 1) (by decide) rfl ?_
          refine a_goto X dX4_read_143 (tgt := 87) (by decide) ?_
          have := ih a b o i (k + 1) I2 F2 (by omega) rfl rfl rfl hr ha hbb hoo hi (by omega) K3.1 hnx
          first
            | (rw [show rdC R b o (J (35 + 2 * a)) (Z a) (6 * i + (k + 1)) = rdC R b o (J (35 + 2 * a)) (Z a) (6 * i + k) + 0 from (by rw [← Nat.add_assoc, rdC_at (by omega), if_neg (by rw [hc134]; decide)])] at this; exact this)
            | (rw [show rdC R b o (J (35 + 2 * a)) (Z a) (6 * i + (k + 1)) = rdC R b o (J (35 + 2 * a)) (Z a) (6 * i + k) + 1 from (by rw [← Nat.add_assoc, rdC_at (by omega), if_pos hc134])] at this; exact this)
  have L77 : ∀ (fu : Nat) (a : Nat) (b : Nat) (o : Nat) (i : Nat) (I1 : TI) (F1 : TI), 6 - i < fu → (x = nI a) → (y = nI b) → (z = nI o) → (rdO I (R 1) x y z = none) → (a < 4) → (b < R 1) → (o < R 1) → (i ≤ 6) → (BS I F R I1 F1) → AW p l e (rmM 6 136) s m args below meth c g A 8 0 0 (MQ below (CQ g (hp g I J F w) s.heap.size (fun vv0 hh0 => ∃ xx0 II0 JJ0 FF0 ww0, vv0 = some xx0 ∧ hh0 = hp g II0 JJ0 FF0 ww0 ∧ (RdC I J F w R x y z Z) xx0 II0 JJ0 FF0 ww0)) args s 0 0 A) 77 [some (.ref (ga g 0)), some (.int (nI a)), some (.int (nI b)), some (.int (nI o)), some (.ref (ga g (34 + 2 * a))), some (.int (nI (rdC R b o (J (35 + 2 * a)) (Z a) (6 * i)))), some (.int (nI i)), none] [] (hp g I1 J F1 w) := by
    intro fu
    induction fu with
    | zero => intro a b o i I1 F1 hfu; exact absurd hfu (by omega)
    | succ fu ih =>
      intro a b o i I1 F1 hfu hx hy hzz hr ha hbb hoo hi K
      subst hx; subst hy; subst hzz
      obtain ⟨z1, z2⟩ := hZ a ha
      obtain ⟨s1, s2⟩ := hS a ha
      refine a_iload X dX4_read_77 rfl ?_
      refine a_bipush X dX4_read_79 (v := nI 6) (by decide +kernel) ?_
      refine s_icmp_geN X dX4_read_81 (tgt := 152) (by decide) (by omega) (by omega) (fun hc81 => ?_) (fun hc81 => ?_)
      · skip
        have hi2 : i = 6 := by omega
        refine a_iload X dX4_read_152 rfl ?_
        refine a_iret X hA dX4_read_154 ?_
        exact ⟨_, _, _, _, _, rfl, rfl, (fun _ => by rw [cl_n (show a < 2 ^ 31 by omega), cl_n (show b < 2 ^ 31 by omega), cl_n (show o < 2 ^ 31 by omega), hi2]; exact ⟨rfl, K⟩), (fun i q => by rw [hr] at q; cases q), rfl, rfl⟩
      · skip
        refine a_iconst X dX4_read_84 (v := nI 0) (by decide +kernel) ?_
        refine a_istore X dX4_read_85 (by decide) rfl ?_
        exact L87 7 a b o i 0 I1 F1 (by omega) rfl rfl rfl hr ha hbb hoo (by omega) (by omega) K (fun I2 F2 v5 e5 K5 => by rw [e5]; exact ih a b o (i + 1) I2 F2 (by omega) rfl rfl rfl hr ha hbb hoo (by omega) K5)
  refine a_iload_n X dX4_read_0 (i := 1) rfl rfl ?_
  refine s_callS_R X dX4_read_1 lk_X4_190 c_X4_isSheet ⟨Nat.le_of_ble_eq_true rfl, Nat.le_of_ble_eq_true rfl⟩ rfl rfl (Nat.le_of_ble_eq_true rfl) ⟨Nat.le_of_ble_eq_true rfl, Nat.le_of_ble_eq_true rfl⟩ ?_
  refine a_if_ne X dX4_read_4 (tgt := 14) (by decide) (fun hc4 => ?_) (fun hc4 => ?_)
  · skip
    try simp only [bI_0, Bool.not_eq_false] at hc4
    obtain ⟨a, ha0, ha, rfl⟩ := inB_r (by decide) (by decide) hc4
    have sa := hS a (by omega)
    have za := hZ a (by omega)
    refine a_aload_n X dX4_read_14 (i := 0) rfl rfl ?_
    refine s_getr X dX4_read_15 fl_X4_35 ko_0 rfl ?_
    refine a_iload_n X dX4_read_18 (i := 1) rfl rfl ?_
    refine s_ald X dX4_read_19 (show a < 4 by omega) ?_
    refine a_astore X dX4_read_20 (by decide) rfl ?_
    refine a_aload X dX4_read_22 rfl ?_
    refine s_callV_R X dX4_read_24 lk_X4_198 (ko_sh (show a < 4 by omega)) rfl rfl (c_X2_isMissing (by omega)) ⟨Nat.le_of_ble_eq_true rfl, Nat.le_of_ble_eq_true rfl⟩ rfl rfl (Nat.le_of_ble_eq_true rfl) ⟨Nat.le_of_ble_eq_true rfl, Nat.le_of_ble_eq_true rfl⟩ ?_
    refine a_if_eq X dX4_read_27 (tgt := 37) (by decide) (fun hc27 => ?_) (fun hc27 => ?_)
    · skip
      try simp only [bI_0, Bool.not_eq_false, decide_eq_true_eq, decide_eq_false_iff_not, Classical.not_not] at hc27
      rw [sa.1] at hc27
      refine a_aload_n X dX4_read_37 (i := 0) rfl rfl ?_
      refine s_getr X dX4_read_38 fl_X4_10 ko_0 rfl ?_
      refine a_iload_n X dX4_read_41 (i := 2) rfl rfl ?_
      refine s_callV_R X dX4_read_42 lk_X4_103 ko_1 rfl rfl (c_X0_has (b := 1) (Or.inl rfl) ok hC) ⟨Nat.le_of_ble_eq_true rfl, Nat.le_of_ble_eq_true rfl⟩ rfl rfl (Nat.le_of_ble_eq_true rfl) ⟨Nat.le_of_ble_eq_true rfl, Nat.le_of_ble_eq_true rfl⟩ ?_
      refine a_if_eq X dX4_read_45 (tgt := 64) (by decide) (fun hc45 => ?_) (fun hc45 => ?_)
      · skip
        try simp only [bI_0, Bool.not_eq_false] at hc45
        refine a_aload_n X dX4_read_64 (i := 0) rfl rfl ?_
        refine a_ldc X dX4_read_65 kc_X4_48 ?_
        refine s_callV_R X dX4_read_67 lk_X4_49 ko_0 rfl rfl (c_X4_found (k := 0) (by decide) (by decide +kernel)) ⟨Nat.le_of_ble_eq_true rfl, Nat.le_of_ble_eq_true rfl⟩ rfl rfl (Nat.le_of_ble_eq_true rfl) ⟨Nat.le_of_ble_eq_true rfl, Nat.le_of_ble_eq_true rfl⟩ ?_
        refine a_iret X hA dX4_read_70 ?_
        have hb : bdO I (nI a) = none := (by rw [bdO, if_pos hc4, cl_n (show a < 2 ^ 31 by omega), if_neg hc27])
        have hn0 : ∀ y z, ¬ (isM (R 1) y = true ∧ isM (R 1) z = true ∧ y ≠ z) → rdO I (R 1) (nI a) y z = some 0 := fun y z hh => by
          unfold rdO; rw [hb]; show (if _ then _ else _) = _; rw [if_neg hh]
        exact ⟨_, _, _, _, _, rfl, rfl, (fun q => by rw [hn0 _ _ (by first | exact (fun q => absurd q.1 (by rw [hc45]; decide)) | exact (fun q => absurd q.2.1 (by rw [hc56]; decide)) | exact (fun q => q.2.2 (by rw [hc61])))] at q; cases q), (fun i q => by rw [hn0 _ _ (by first | exact (fun q => absurd q.1 (by rw [hc45]; decide)) | exact (fun q => absurd q.2.1 (by rw [hc56]; decide)) | exact (fun q => q.2.2 (by rw [hc61])))] at q; cases q; exact ⟨by congr 1, rfl, rfl⟩), rfl, rfl⟩
      · skip
        try simp only [bI_0, Bool.not_eq_false] at hc45
        obtain ⟨b, hbb, rfl⟩ := isM_t (by omega) hc45
        refine a_aload_n X dX4_read_48 (i := 0) rfl rfl ?_
        refine s_getr X dX4_read_49 fl_X4_10 ko_0 rfl ?_
        refine a_iload_n X dX4_read_52 (i := 3) rfl rfl ?_
        refine s_callV_R X dX4_read_53 lk_X4_103 ko_1 rfl rfl (c_X0_has (b := 1) (Or.inl rfl) ok hC) ⟨Nat.le_of_ble_eq_true rfl, Nat.le_of_ble_eq_true rfl⟩ rfl rfl (Nat.le_of_ble_eq_true rfl) ⟨Nat.le_of_ble_eq_true rfl, Nat.le_of_ble_eq_true rfl⟩ ?_
        refine a_if_eq X dX4_read_56 (tgt := 64) (by decide) (fun hc56 => ?_) (fun hc56 => ?_)
        · skip
          try simp only [bI_0, Bool.not_eq_false] at hc56
          refine a_aload_n X dX4_read_64 (i := 0) rfl rfl ?_
          refine a_ldc X dX4_read_65 kc_X4_48 ?_
          refine s_callV_R X dX4_read_67 lk_X4_49 ko_0 rfl rfl (c_X4_found (k := 0) (by decide) (by decide +kernel)) ⟨Nat.le_of_ble_eq_true rfl, Nat.le_of_ble_eq_true rfl⟩ rfl rfl (Nat.le_of_ble_eq_true rfl) ⟨Nat.le_of_ble_eq_true rfl, Nat.le_of_ble_eq_true rfl⟩ ?_
          refine a_iret X hA dX4_read_70 ?_
          have hb : bdO I (nI a) = none := (by rw [bdO, if_pos hc4, cl_n (show a < 2 ^ 31 by omega), if_neg hc27])
          have hn0 : ∀ y z, ¬ (isM (R 1) y = true ∧ isM (R 1) z = true ∧ y ≠ z) → rdO I (R 1) (nI a) y z = some 0 := fun y z hh => by
            unfold rdO; rw [hb]; show (if _ then _ else _) = _; rw [if_neg hh]
          exact ⟨_, _, _, _, _, rfl, rfl, (fun q => by rw [hn0 _ _ (by first | exact (fun q => absurd q.1 (by rw [hc45]; decide)) | exact (fun q => absurd q.2.1 (by rw [hc56]; decide)) | exact (fun q => q.2.2 (by rw [hc61])))] at q; cases q), (fun i q => by rw [hn0 _ _ (by first | exact (fun q => absurd q.1 (by rw [hc45]; decide)) | exact (fun q => absurd q.2.1 (by rw [hc56]; decide)) | exact (fun q => q.2.2 (by rw [hc61])))] at q; cases q; exact ⟨by congr 1, rfl, rfl⟩), rfl, rfl⟩
        · skip
          try simp only [bI_0, Bool.not_eq_false] at hc56
          obtain ⟨o, hoo, rfl⟩ := isM_t (by omega) hc56
          refine a_iload_n X dX4_read_59 (i := 2) rfl rfl ?_
          refine a_iload_n X dX4_read_60 (i := 3) rfl rfl ?_
          refine s_icmp_neN X dX4_read_61 (tgt := 71) (by decide) (by omega) (by omega) (fun hc61 => ?_) (fun hc61 => ?_)
          · skip
            refine a_iconst X dX4_read_71 (v := nI 0) (by decide +kernel) ?_
            refine a_istore X dX4_read_72 (by decide) rfl ?_
            refine a_iconst X dX4_read_74 (v := nI 0) (by decide +kernel) ?_
            refine a_istore X dX4_read_75 (by decide) rfl ?_
            exact L77 7 a b o 0 _ _ (by omega) rfl rfl rfl (by unfold rdO; rw [show bdO I (nI a) = none from (by rw [bdO, if_pos hc4, cl_n (show a < 2 ^ 31 by omega), if_neg hc27])]; show (if _ then _ else _) = _; rw [if_pos ⟨hc45, hc56, fun q => hc61 ((nI_eq (by omega) (by omega)).mp q)⟩]) (by omega) hbb hoo (by omega) (bs_0 hC)
          · skip
            refine a_aload_n X dX4_read_64 (i := 0) rfl rfl ?_
            refine a_ldc X dX4_read_65 kc_X4_48 ?_
            refine s_callV_R X dX4_read_67 lk_X4_49 ko_0 rfl rfl (c_X4_found (k := 0) (by decide) (by decide +kernel)) ⟨Nat.le_of_ble_eq_true rfl, Nat.le_of_ble_eq_true rfl⟩ rfl rfl (Nat.le_of_ble_eq_true rfl) ⟨Nat.le_of_ble_eq_true rfl, Nat.le_of_ble_eq_true rfl⟩ ?_
            refine a_iret X hA dX4_read_70 ?_
            have hb : bdO I (nI a) = none := (by rw [bdO, if_pos hc4, cl_n (show a < 2 ^ 31 by omega), if_neg hc27])
            have hn0 : ∀ y z, ¬ (isM (R 1) y = true ∧ isM (R 1) z = true ∧ y ≠ z) → rdO I (R 1) (nI a) y z = some 0 := fun y z hh => by
              unfold rdO; rw [hb]; show (if _ then _ else _) = _; rw [if_neg hh]
            exact ⟨_, _, _, _, _, rfl, rfl, (fun q => by rw [hn0 _ _ (by first | exact (fun q => absurd q.1 (by rw [hc45]; decide)) | exact (fun q => absurd q.2.1 (by rw [hc56]; decide)) | exact (fun q => q.2.2 (by rw [hc61])))] at q; cases q), (fun i q => by rw [hn0 _ _ (by first | exact (fun q => absurd q.1 (by rw [hc45]; decide)) | exact (fun q => absurd q.2.1 (by rw [hc56]; decide)) | exact (fun q => q.2.2 (by rw [hc61])))] at q; cases q; exact ⟨by congr 1, rfl, rfl⟩), rfl, rfl⟩
    · skip
      try simp only [bI_0, Bool.not_eq_false, decide_eq_true_eq, decide_eq_false_iff_not, Classical.not_not] at hc27
      rw [sa.1] at hc27
      refine a_aload_n X dX4_read_30 (i := 0) rfl rfl ?_
      refine a_ldc X dX4_read_31 kc_X4_201 ?_
      refine s_callV_R X dX4_read_33 lk_X4_49 ko_0 rfl rfl (c_X4_found (k := 5) (by decide) (by decide +kernel)) ⟨Nat.le_of_ble_eq_true rfl, Nat.le_of_ble_eq_true rfl⟩ rfl rfl (Nat.le_of_ble_eq_true rfl) ⟨Nat.le_of_ble_eq_true rfl, Nat.le_of_ble_eq_true rfl⟩ ?_
      refine a_iret X hA dX4_read_36 ?_
      have hb : bdO I (nI a) = some 5 := by rw [bdO, if_pos hc4, cl_n (show a < 2 ^ 31 by omega), if_pos hc27]
      exact ⟨_, _, _, _, _, rfl, rfl, (fun q => by unfold rdO at q; rw [hb] at q; cases q), (fun i q => by unfold rdO at q; rw [hb] at q; cases q; exact ⟨by congr 1, rfl, rfl⟩), rfl, rfl⟩
  · skip
    try simp only [bI_0, Bool.not_eq_false] at hc4
    refine a_aload_n X dX4_read_7 (i := 0) rfl rfl ?_
    refine a_ldc X dX4_read_8 kc_X4_48 ?_
    refine s_callV_R X dX4_read_10 lk_X4_49 ko_0 rfl rfl (c_X4_found (k := 0) (by decide) (by decide +kernel)) ⟨Nat.le_of_ble_eq_true rfl, Nat.le_of_ble_eq_true rfl⟩ rfl rfl (Nat.le_of_ble_eq_true rfl) ⟨Nat.le_of_ble_eq_true rfl, Nat.le_of_ble_eq_true rfl⟩ ?_
    refine a_iret X hA dX4_read_13 ?_
    have hb : bdO I x = some 0 := by rw [bdO, if_neg (by rw [hc4]; decide)]
    exact ⟨_, _, _, _, _, rfl, rfl, (fun q => by unfold rdO at q; rw [hb] at q; cases q), (fun i q => by unfold rdO at q; rw [hb] at q; cases q; exact ⟨by congr 1, rfl, rfl⟩), rfl, rfl⟩
