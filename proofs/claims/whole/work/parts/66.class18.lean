set_option maxRecDepth 100000 in
set_option maxHeartbeats 4000000 in
theorem c_X3_append {l : Launch} {g : GG} {I : TI} {J : TJ} {F : TI} {w : Int64} {t0 : Nat} (ht : F 31 0 = nI t0) (ht2 : t0 < 120) {x : Int32} : UV l g mX3_append [.ref (ga g 31), .int x] I J F w (va_up I 32 (upd (I 32) t0 x)) J (va_up F 31 (va_up (F 31) 0 (nI (t0 + 1)))) w := by
  refine ct_start (M := mX3_append) (by decide +kernel) (Nat.le_of_ble_eq_true rfl) ?_
  intro p e s m args below meth c A X hA
  have X : AX p s m args meth c g A cX3_append 2 RX3 (Cond.code yX3_append cX3_append 2 none) none := X
  show AW p l e (rmM 0 0) s m args below meth c g A 2 0 0 (MQ below (CQ g (hp g I J F w) s.heap.size (fun vv0 hh0 => vv0 = none ∧ hh0 = hp g (va_up I 32 (upd (I 32) t0 x)) J (va_up F 31 (va_up (F 31) 0 (nI (t0 + 1)))) w)) args s 0 0 A) 0 [some (.ref (ga g 31)), some (.int x)] [] (hp g I J F w)
  refine a_aload_n X dX3_append_0 (i := 0) rfl rfl ?_
  refine s_geti X dX3_append_1 fl_X3_11 ko_31 rfl ?_
  rw [ht]
  refine a_bipush X dX3_append_4 (v := nI 120) (by decide +kernel) ?_
  refine s_icmp_geN X dX3_append_6 (tgt := 29) (by decide) (by omega) (by omega) (fun hc6 => ?_) (fun hc6 => ?_)
  · skip
    omega
  · skip
    refine a_aload_n X dX3_append_9 (i := 0) rfl rfl ?_
    refine s_getr X dX3_append_10 fl_X3_17 ko_31 rfl ?_
    refine a_aload_n X dX3_append_13 (i := 0) rfl rfl ?_
    refine s_geti X dX3_append_14 fl_X3_11 ko_31 rfl ?_
    rw [ht]
    refine a_iload_n X dX3_append_17 (i := 1) rfl rfl ?_
    refine s_ist X dX3_append_18 ki_32 (by omega) (by decide) ?_
    refine a_aload_n X dX3_append_19 (i := 0) rfl rfl ?_
    refine a_dup X dX3_append_20 rfl ?_
    refine s_geti X dX3_append_21 fl_X3_11 ko_31 rfl ?_
    rw [ht]
    refine a_iconst X dX3_append_24 (v := nI 1) (by decide +kernel) ?_
    refine s_iaddN X dX3_append_25 ?_
    refine s_puti X dX3_append_26 fp_X3_11 ko_31 rfl rfl rfl ?_
    exact a_vret X hA dX3_append_29 ⟨rfl, rfl⟩
set_option maxRecDepth 100000 in
set_option maxHeartbeats 4000000 in
theorem c_X4_feed {l : Launch} {g : GG} {I : TI} {J : TJ} {F : TI} {w : Int64} {x y : Int32} {t : Nat} (ht : F 31 0 = nI t) (ht2 : t ≤ 120) : RV l g mX4_feed [.ref (ga g 0), .int x, .int y] I J F w (FdC I J F w t x y) := by
  refine ct_start (M := mX4_feed) (by decide +kernel) (Nat.le_of_ble_eq_true rfl) ?_
  intro p e s m args below meth c A X hA
  have X : AX p s m args meth c g A cX4_feed 4 RX4 (Cond.code yX4_feed cX4_feed 4 (some .int)) (some .int) := X
  show AW p l e (rmM 2 44) s m args below meth c g A 4 0 0 (MQ below (CQ g (hp g I J F w) s.heap.size (fun vv0 hh0 => ∃ xx0 II0 JJ0 FF0 ww0, vv0 = some xx0 ∧ hh0 = hp g II0 JJ0 FF0 ww0 ∧ (FdC I J F w t x y) xx0 II0 JJ0 FF0 ww0)) args s 0 0 A) 0 [some (.ref (ga g 0)), some (.int x), some (.int y), none] [] (hp g I J F w)
  have L41 : ∀ (fu : Nat) (n : Nat) (k : Nat) (c1 : Nat) (f1 : Nat → Int32), k < fu → (y = nI n) → (inB y (nI 1) (nI 4) = true) → (1 ≤ n ∧ n ≤ 4) → (t + n ≤ 120) → (k ≤ n) → (c1 + k = t + n) → (fdF f1 c1 x k = fdF (I 32) t x n) → AW p l e (rmM 2 44) s m args below meth c g A 4 0 0 (MQ below (CQ g (hp g I J F w) s.heap.size (fun vv0 hh0 => ∃ xx0 II0 JJ0 FF0 ww0, vv0 = some xx0 ∧ hh0 = hp g II0 JJ0 FF0 ww0 ∧ (FdC I J F w t x y) xx0 II0 JJ0 FF0 ww0)) args s 0 0 A) 41 [some (.ref (ga g 0)), some (.int x), some (.int (nI n)), some (.int (nI k - nI 1))] [] (hp g (va_up I 32 f1) J (va_up F 31 (va_up (F 31) 0 (nI c1))) w) := by
    intro fu
    induction fu with
    | zero => intro n k c1 f1 hfu; exact absurd hfu (by omega)
    | succ fu ih =>
      intro n k c1 f1 hfu hy hc6 hn htn hk hc1 hf
      subst hy
      refine a_iload_n X dX4_feed_41 (i := 3) rfl rfl ?_
      refine a_if_lt X dX4_feed_42 (tgt := 68) (by decide) (fun hc42 => ?_) (fun hc42 => ?_)
      · skip
        have hk0 := k_zero (by omega) hc42
        refine a_aload_n X dX4_feed_68 (i := 0) rfl rfl ?_
        refine s_getr X dX4_feed_69 fl_X4_29 ko_0 rfl ?_
        refine s_geti X dX4_feed_72 fl_X4_180 ko_31 rfl ?_
        rw [up_s, up_s]
        refine a_iret X hA dX4_feed_75 ?_
        subst hk0
        refine ⟨_, _, _, _, _, rfl, rfl, (fun _ => ?_), (fun i q => by rw [fdO, if_pos hc6, cl_n (show n < 2 ^ 31 by omega), if_pos (by omega)] at q; cases q), rfl, rfl⟩
        rw [cl_n (show n < 2 ^ 31 by omega), ← hf, ← hc1]
        exact ⟨rfl, rfl, rfl⟩
      · skip
        have hk1 := k_pos hc42
        rw [pk_sub hk1]
        refine a_aload_n X dX4_feed_45 (i := 0) rfl rfl ?_
        refine s_getr X dX4_feed_46 fl_X4_29 ko_0 rfl ?_
        refine a_iload_n X dX4_feed_49 (i := 1) rfl rfl ?_
        refine a_bipush X dX4_feed_50 (v := nI 8) (by decide +kernel) ?_
        refine a_iload_n X dX4_feed_52 (i := 3) rfl rfl ?_
        refine a_imul X dX4_feed_53 ?_
        refine a_iushr X dX4_feed_54 rfl ?_
        refine a_sipush X dX4_feed_55 (v := nI 255) (by decide +kernel) ?_
        refine a_iand X dX4_feed_58 ?_
        rw [by_sh x (k - 1) (by omega)]
        refine s_callV_V X dX4_feed_59 lk_X4_183 ko_31 rfl rfl (c_X3_append (t0 := c1) (by rw [up_s, up_s]) (by omega)) ⟨Nat.le_of_ble_eq_true rfl, Nat.le_of_ble_eq_true rfl⟩ rfl rfl (Nat.le_of_ble_eq_true rfl) ⟨Nat.le_of_ble_eq_true rfl, Nat.le_of_ble_eq_true rfl⟩ ?_
        refine a_iinc X dX4_feed_62 rfl (v := _ - nI 1) (iincM _) (by decide) rfl ?_
        refine a_goto X dX4_feed_65 (tgt := 41) (by decide) ?_
        have := ih n (k - 1) (c1 + 1) _ (by omega) rfl hc6 hn htn (by omega) (by omega) ((fdF_step (by omega)).symm.trans hf)
        simp only [bx_uu, up_s]
        exact this
  refine a_iload_n X dX4_feed_0 (i := 2) rfl rfl ?_
  refine a_iconst X dX4_feed_1 (v := nI 1) (by decide +kernel) ?_
  refine a_iconst X dX4_feed_2 (v := nI 4) (by decide +kernel) ?_
  refine s_callS_R X dX4_feed_3 lk_X4_44 c_X4_within ⟨Nat.le_of_ble_eq_true rfl, Nat.le_of_ble_eq_true rfl⟩ rfl rfl (Nat.le_of_ble_eq_true rfl) ⟨Nat.le_of_ble_eq_true rfl, Nat.le_of_ble_eq_true rfl⟩ ?_
  refine a_if_ne X dX4_feed_6 (tgt := 16) (by decide) (fun hc6 => ?_) (fun hc6 => ?_)
  · skip
    try simp only [bI_0, Bool.not_eq_false] at hc6
    obtain ⟨n, hn0, hn, rfl⟩ := inB_r (by decide) (by decide) hc6
    refine a_aload_n X dX4_feed_16 (i := 0) rfl rfl ?_
    refine s_getr X dX4_feed_17 fl_X4_29 ko_0 rfl ?_
    refine s_geti X dX4_feed_20 fl_X4_180 ko_31 rfl ?_
    rw [ht]
    refine a_iload_n X dX4_feed_23 (i := 2) rfl rfl ?_
    refine s_iaddN X dX4_feed_24 ?_
    refine a_bipush X dX4_feed_25 (v := nI 120) (by decide +kernel) ?_
    refine s_icmp_leN X dX4_feed_27 (tgt := 37) (by decide) (by omega) (by omega) (fun hc27 => ?_) (fun hc27 => ?_)
    · skip
      refine a_iload_n X dX4_feed_37 (i := 2) rfl rfl ?_
      refine a_iconst X dX4_feed_38 (v := nI 1) (by decide +kernel) ?_
      refine a_isub X dX4_feed_39 ?_
      refine a_istore_n X dX4_feed_40 (i := 3) rfl (by decide) rfl ?_
      exact (by have := L41 (n + 1) n n t (I 32) (by omega) rfl hc6 ⟨by omega, by omega⟩ (by omega) (Nat.le_refl n) rfl rfl; rw [show va_up I 32 (I 32) = I from up_self (fun _ => rfl), up_selfF ht] at this; exact this)
    · skip
      refine a_aload_n X dX4_feed_30 (i := 0) rfl rfl ?_
      refine a_ldc X dX4_feed_31 kc_X4_97 ?_
      refine s_callV_R X dX4_feed_33 lk_X4_49 ko_0 rfl rfl (c_X4_found (k := 1) (by decide) (by decide +kernel)) ⟨Nat.le_of_ble_eq_true rfl, Nat.le_of_ble_eq_true rfl⟩ rfl rfl (Nat.le_of_ble_eq_true rfl) ⟨Nat.le_of_ble_eq_true rfl, Nat.le_of_ble_eq_true rfl⟩ ?_
      refine a_iret X hA dX4_feed_36 ?_
      exact ⟨_, _, _, _, _, rfl, rfl, (fun q => by rw [fdO, if_pos hc6, cl_n (show n < 2 ^ 31 by omega), if_neg (by omega)] at q; cases q), (fun i q => by rw [fdO, if_pos hc6, cl_n (show n < 2 ^ 31 by omega), if_neg (by omega)] at q; cases q; exact ⟨by congr 1, rfl, rfl⟩), rfl, rfl⟩
  · skip
    try simp only [bI_0, Bool.not_eq_false] at hc6
    refine a_aload_n X dX4_feed_9 (i := 0) rfl rfl ?_
    refine a_ldc X dX4_feed_10 kc_X4_48 ?_
    refine s_callV_R X dX4_feed_12 lk_X4_49 ko_0 rfl rfl (c_X4_found (k := 0) (by decide) (by decide +kernel)) ⟨Nat.le_of_ble_eq_true rfl, Nat.le_of_ble_eq_true rfl⟩ rfl rfl (Nat.le_of_ble_eq_true rfl) ⟨Nat.le_of_ble_eq_true rfl, Nat.le_of_ble_eq_true rfl⟩ ?_
    refine a_iret X hA dX4_feed_15 ?_
    exact ⟨_, _, _, _, _, rfl, rfl, (fun q => by rw [fdO, if_neg (by rw [hc6]; decide)] at q; cases q), (fun i q => by rw [fdO, if_neg (by rw [hc6]; decide)] at q; cases q; exact ⟨by congr 1, rfl, rfl⟩), rfl, rfl⟩
set_option maxRecDepth 100000 in
set_option maxHeartbeats 4000000 in
theorem c_X3_atEmptySeat {l : Launch} {g : GG} {I : TI} {J : TJ} {F : TI} {w : Int64} {B : Nat → Nat} {t p0 : Nat} (hK : TkC B t p0 F) {R : Nat → Nat} (ok : okR R) (hC : Ch I F 11 R) : UR l g mX3_atEmptySeat [.ref (ga g 31), .ref (ga g 11)] I J F w (.int (bI (txN B t p0 0 12 && decide (who R (tkV B t p0) (R 1) = none)))) I J F w := by
  refine ct_start (M := mX3_atEmptySeat) (by decide +kernel) (Nat.le_of_ble_eq_true rfl) ?_
  intro p e s m args below meth c A X hA
  have X : AX p s m args meth c g A cX3_atEmptySeat 2 RX3 (Cond.code yX3_atEmptySeat cX3_atEmptySeat 2 (some .boolean)) (some .boolean) := X
  show AW p l e (rmM 2 44) s m args below meth c g A 2 0 0 (MQ below (CQ g (hp g I J F w) s.heap.size (fun vv0 hh0 => vv0 = some (.int (bI (txN B t p0 0 12 && decide (who R (tkV B t p0) (R 1) = none)))) ∧ hh0 = hp g I J F w)) args s 0 0 A) 0 [some (.ref (ga g 31)), some (.ref (ga g 11))] [] (hp g I J F w)
  refine a_aload_n X dX3_atEmptySeat_0 (i := 0) rfl rfl ?_
  refine a_iconst X dX3_atEmptySeat_1 (v := nI 0) (by decide +kernel) ?_
  refine a_bipush X dX3_atEmptySeat_2 (v := nI 11) (by decide +kernel) ?_
  refine s_callV_R X dX3_atEmptySeat_4 lk_X3_62 ko_31 rfl rfl c_X3_atNumber ⟨Nat.le_of_ble_eq_true rfl, Nat.le_of_ble_eq_true rfl⟩ rfl rfl (Nat.le_of_ble_eq_true rfl) ⟨Nat.le_of_ble_eq_true rfl, Nat.le_of_ble_eq_true rfl⟩ ?_
  rw [wc hK (by decide) (by decide)]
  refine a_if_eq X dX3_atEmptySeat_7 (tgt := 26) (by decide) (fun hc7 => ?_) (fun hc7 => ?_)
  · skip
    try simp only [bI_0, Bool.not_eq_false] at hc7
    refine a_iconst X dX3_atEmptySeat_26 (v := nI 0) (by decide +kernel) ?_
    refine a_zret X hA dX3_atEmptySeat_27 (by first | exact nar_bI _ | decide +kernel) ⟨?_, ?_⟩
    · rw [hc7]; rfl
    · rfl
  · skip
    try simp only [bI_0, Bool.not_eq_false] at hc7
    obtain ⟨v1, -, l1⟩ := wcV hK hc7
    refine a_aload_n X dX3_atEmptySeat_10 (i := 1) rfl rfl ?_
    refine a_aload_n X dX3_atEmptySeat_11 (i := 0) rfl rfl ?_
    refine s_geti X dX3_atEmptySeat_12 fl_X3_30 ko_31 rfl ?_
    rw [v1]
    refine s_callV_R X dX3_atEmptySeat_15 lk_X3_80 ko_11 rfl rfl (c_X0_sitter (b := 11) (Or.inr (Or.inl rfl)) ok hC (by omega)) ⟨Nat.le_of_ble_eq_true rfl, Nat.le_of_ble_eq_true rfl⟩ rfl rfl (Nat.le_of_ble_eq_true rfl) ⟨Nat.le_of_ble_eq_true rfl, Nat.le_of_ble_eq_true rfl⟩ ?_
    refine a_iconst X dX3_atEmptySeat_18 (v := (-1)) (by decide +kernel) ?_
    refine a_icmp_ne X dX3_atEmptySeat_19 (tgt := 26) (by decide) (fun hc19 => ?_) (fun hc19 => ?_)
    · skip
      refine a_iconst X dX3_atEmptySeat_26 (v := nI 0) (by decide +kernel) ?_
      refine a_zret X hA dX3_atEmptySeat_27 (by first | exact nar_bI _ | decide +kernel) ⟨?_, ?_⟩
      · rw [hc7, decide_eq_false (fun q => hc19 ((wI_eq (who_b ok.1)).mpr q))]; rfl
      · rfl
    · skip
      refine a_iconst X dX3_atEmptySeat_22 (v := nI 1) (by decide +kernel) ?_
      refine a_goto X dX3_atEmptySeat_23 (tgt := 27) (by decide) ?_
      refine a_zret X hA dX3_atEmptySeat_27 (by first | exact nar_bI _ | decide +kernel) ⟨?_, ?_⟩
      · rw [hc7, decide_eq_true ((wI_eq (who_b ok.1)).mp hc19)]; rfl
      · rfl
set_option maxRecDepth 100000 in
set_option maxHeartbeats 4000000 in
theorem c_X3_takesKnows {l : Launch} {g : GG} {I : TI} {J : TJ} {F : TI} {w : Int64} {B : Nat → Nat} {t : Nat} (hT : TpC I F B t) {p0 : Nat} (hp0 : p0 ≤ t) (hK : TkC B t p0 F) {R : Nat → Nat} (ok : okR R) (hC : Ch I F 11 R) : RV l g mX3_takesKnows [.ref (ga g 31), .ref (ga g 11)] I J F w (ItC I J F w B t (knwS B t R p0)) := by
  have hE1 := tkE_le (B := B) hp0
  have hE2 := tkE_le (B := B) hE1.2
  have hE3 := tkE_le (B := B) hE2.2
  have hE4 := tkE_le (B := B) hE3.2
  have hn := ok.1
  have h120 := hT.2.1
  refine ct_start (M := mX3_takesKnows) (by decide +kernel) (Nat.le_of_ble_eq_true rfl) ?_
  intro p e s m args below meth c A X hA
  have X : AX p s m args meth c g A cX3_takesKnows 3 RX3 (Cond.code yX3_takesKnows cX3_takesKnows 3 (some .boolean)) (some .boolean) := X
  show AW p l e (rmM 8 169) s m args below meth c g A 3 0 0 (MQ below (CQ g (hp g I J F w) s.heap.size (fun vv0 hh0 => ∃ xx0 II0 JJ0 FF0 ww0, vv0 = some xx0 ∧ hh0 = hp g II0 JJ0 FF0 ww0 ∧ (ItC I J F w B t (knwS B t R p0)) xx0 II0 JJ0 FF0 ww0)) args s 0 0 A) 0 [some (.ref (ga g 31)), some (.ref (ga g 11)), none] [] (hp g I J F w)
  refine a_aload_n X dX3_takesKnows_0 (i := 0) rfl rfl ?_
  refine s_callV_Y X dX3_takesKnows_1 lk_X3_33 ko_31 rfl rfl (c_X3_advance (p0 := tkE B t p0) hT hE1.2 hK.2.1) ⟨Nat.le_of_ble_eq_true rfl, Nat.le_of_ble_eq_true rfl⟩ rfl rfl (Nat.le_of_ble_eq_true rfl) ⟨Nat.le_of_ble_eq_true rfl, Nat.le_of_ble_eq_true rfl⟩ (fun I2 J2 F2 w2 hpo => ?_)
  obtain ⟨rfl, rfl, rfl, hF2, hK2⟩ := hpo
  refine a_aload_n X dX3_takesKnows_4 (i := 0) rfl rfl ?_
  refine a_iconst X dX3_takesKnows_5 (v := nI 0) (by decide +kernel) ?_
  refine a_aload_n X dX3_takesKnows_6 (i := 1) rfl rfl ?_
  refine s_geti X dX3_takesKnows_7 fl_X3_70 ko_11 rfl ?_
  rw [(ch_frc hC hF2 (by decide)).2.1]
  refine a_iconst X dX3_takesKnows_10 (v := nI 1) (by decide +kernel) ?_
  refine a_isub X dX3_takesKnows_11 ?_
  refine s_callV_R X dX3_takesKnows_12 lk_X3_62 ko_31 rfl rfl c_X3_atNumber ⟨Nat.le_of_ble_eq_true rfl, Nat.le_of_ble_eq_true rfl⟩ rfl rfl (Nat.le_of_ble_eq_true rfl) ⟨Nat.le_of_ble_eq_true rfl, Nat.le_of_ble_eq_true rfl⟩ ?_
  rw [wcM hK2 ok.1]
  refine a_if_ne X dX3_takesKnows_15 (tgt := 20) (by decide) (fun hc15 => ?_) (fun hc15 => ?_)
  · skip
    try simp only [bI_0, Bool.not_eq_false] at hc15
    obtain ⟨v1, -, l1⟩ := wcV hK2 hc15
    refine a_aload_n X dX3_takesKnows_20 (i := 0) rfl rfl ?_
    refine s_geti X dX3_takesKnows_21 fl_X3_30 ko_31 rfl ?_
    rw [v1]
    refine a_istore_n X dX3_takesKnows_24 (i := 2) rfl (by decide) rfl ?_
    refine a_aload_n X dX3_takesKnows_25 (i := 0) rfl rfl ?_
    refine s_callV_Y X dX3_takesKnows_26 lk_X3_33 ko_31 rfl rfl (c_X3_advance (p0 := tkE B t (tkE B t p0)) (tc_f hT hF2) hE2.2 hK2.2.1) ⟨Nat.le_of_ble_eq_true rfl, Nat.le_of_ble_eq_true rfl⟩ rfl rfl (Nat.le_of_ble_eq_true rfl) ⟨Nat.le_of_ble_eq_true rfl, Nat.le_of_ble_eq_true rfl⟩ (fun I3 J3 F3 w3 hpo3 => ?_)
    obtain ⟨rfl, rfl, rfl, hF3, hK3⟩ := hpo3
    refine a_aload_n X dX3_takesKnows_29 (i := 0) rfl rfl ?_
    refine a_iconst X dX3_takesKnows_30 (v := nI 0) (by decide +kernel) ?_
    refine a_bipush X dX3_takesKnows_31 (v := nI 9) (by decide +kernel) ?_
    refine s_callV_R X dX3_takesKnows_33 lk_X3_62 ko_31 rfl rfl c_X3_atNumber ⟨Nat.le_of_ble_eq_true rfl, Nat.le_of_ble_eq_true rfl⟩ rfl rfl (Nat.le_of_ble_eq_true rfl) ⟨Nat.le_of_ble_eq_true rfl, Nat.le_of_ble_eq_true rfl⟩ ?_
    rw [wc hK3 (by decide) (by decide)]
    refine a_if_ne X dX3_takesKnows_36 (tgt := 41) (by decide) (fun hc36 => ?_) (fun hc36 => ?_)
    · skip
      try simp only [bI_0, Bool.not_eq_false] at hc36
      obtain ⟨v2, -, l2⟩ := wcV hK3 hc36
      have hcm := (hC.2.2.1 _ l1).2.2.2.2.1
      refine a_aload_n X dX3_takesKnows_41 (i := 1) rfl rfl ?_
      refine s_getr X dX3_takesKnows_42 fl_X3_73 ko_11 rfl ?_
      refine a_iload_n X dX3_takesKnows_45 (i := 2) rfl rfl ?_
      refine a_dup2 X dX3_takesKnows_46 rfl rfl ?_
      refine s_ild X dX3_takesKnows_47 ki_16 (by omega) (by decide) ?_
      rw [show I 16 (tkV B t (tkE B t p0)) = nI (R (2 + 6 * tkV B t (tkE B t p0) + 4)) from hcm]
      refine a_iconst X dX3_takesKnows_48 (v := nI 1) (by decide +kernel) ?_
      refine a_aload_n X dX3_takesKnows_49 (i := 0) rfl rfl ?_
      refine s_geti X dX3_takesKnows_50 fl_X3_30 ko_31 rfl ?_
      rw [v2]
      refine a_ishl X dX3_takesKnows_53 ?_
      refine a_ior X dX3_takesKnows_54 ?_
      rw [(shl_v _ l2).1, nI_or]
      refine s_ist X dX3_takesKnows_55 ki_16 (by omega) (by decide) ?_
      refine a_aload_n X dX3_takesKnows_56 (i := 0) rfl rfl ?_
      refine s_callV_Y X dX3_takesKnows_57 lk_X3_33 ko_31 rfl rfl (c_X3_advance (p0 := tkE B t (tkE B t (tkE B t p0))) (tc_i (tc_f hT (frc_t hF2 hF3)) (up_n _ _ (by decide))) hE3.2 hK3.2.1) ⟨Nat.le_of_ble_eq_true rfl, Nat.le_of_ble_eq_true rfl⟩ rfl rfl (Nat.le_of_ble_eq_true rfl) ⟨Nat.le_of_ble_eq_true rfl, Nat.le_of_ble_eq_true rfl⟩ (fun I4 J4 F4 w4 hpo4 => ?_)
      obtain ⟨rfl, rfl, rfl, hF4, hK4⟩ := hpo4
      refine a_iconst X dX3_takesKnows_60 (v := nI 1) (by decide +kernel) ?_
      refine a_zret X hA dX3_takesKnows_61 (by first | exact nar_bI _ | decide +kernel) ?_
      rw [show knwS B t R p0 = (true, va_up R (2 + 6 * tkV B t (tkE B t p0) + 4) (R (2 + 6 * tkV B t (tkE B t p0) + 4) ||| 2 ^ tkV B t (tkE B t (tkE B t p0))), (tkE B t (tkE B t (tkE B t p0)))) by rw [knwS, if_pos hc15, if_pos hc36]]
      exact ⟨_, _, _, _, _, rfl, rfl, rfl, ch_frc (ch_put (j := 4) (ch_frc hC (frc_t hF2 hF3) (by decide)) l1 (by decide) (by decide) rfl) hF4 (by decide), fun Q hQ => up_n _ _ (by omega), fun Q _ hQ => (frc_t (frc_t hF2 hF3) hF4).1 Q hQ, (frc_t (frc_t hF2 hF3) hF4).2, rfl, rfl, hK4⟩
    · skip
      try simp only [bI_0, Bool.not_eq_false] at hc36
      refine a_iconst X dX3_takesKnows_39 (v := nI 0) (by decide +kernel) ?_
      refine a_zret X hA dX3_takesKnows_40 (by first | exact nar_bI _ | decide +kernel) ?_
      exact ⟨_, _, _, _, _, rfl, rfl, itc_f hC (frc_t hF2 hF3) hK3 (show knwS B t R p0 = (false, R, (tkE B t (tkE B t p0))) from by rw [knwS, if_pos hc15, if_neg (by rw [hc36]; decide)]) rfl⟩
  · skip
    try simp only [bI_0, Bool.not_eq_false] at hc15
    refine a_iconst X dX3_takesKnows_18 (v := nI 0) (by decide +kernel) ?_
    refine a_zret X hA dX3_takesKnows_19 (by first | exact nar_bI _ | decide +kernel) ?_
    exact ⟨_, _, _, _, _, rfl, rfl, itc_f hC (hF2) hK2 (show knwS B t R p0 = (false, R, (tkE B t p0)) from by rw [knwS, if_neg (by rw [hc15]; decide)]) rfl⟩
set_option maxRecDepth 100000 in
set_option maxHeartbeats 4000000 in
theorem c_X3_takesMove {l : Launch} {g : GG} {I : TI} {J : TJ} {F : TI} {w : Int64} {B : Nat → Nat} {t : Nat} (hT : TpC I F B t) {p0 : Nat} (hp0 : p0 ≤ t) (hK : TkC B t p0 F) {R : Nat → Nat} (ok : okR R) (hC : Ch I F 11 R) : RV l g mX3_takesMove [.ref (ga g 31), .ref (ga g 11)] I J F w (ItC I J F w B t (movS B t R p0)) := by
  have hE1 := tkE_le (B := B) hp0
  have hE2 := tkE_le (B := B) hE1.2
  have hE3 := tkE_le (B := B) hE2.2
  have hE4 := tkE_le (B := B) hE3.2
  have hn := ok.1
  have h120 := hT.2.1
  refine ct_start (M := mX3_takesMove) (by decide +kernel) (Nat.le_of_ble_eq_true rfl) ?_
  intro p e s m args below meth c A X hA
  have X : AX p s m args meth c g A cX3_takesMove 3 RX3 (Cond.code yX3_takesMove cX3_takesMove 3 (some .boolean)) (some .boolean) := X
  show AW p l e (rmM 8 169) s m args below meth c g A 3 0 0 (MQ below (CQ g (hp g I J F w) s.heap.size (fun vv0 hh0 => ∃ xx0 II0 JJ0 FF0 ww0, vv0 = some xx0 ∧ hh0 = hp g II0 JJ0 FF0 ww0 ∧ (ItC I J F w B t (movS B t R p0)) xx0 II0 JJ0 FF0 ww0)) args s 0 0 A) 0 [some (.ref (ga g 31)), some (.ref (ga g 11)), none] [] (hp g I J F w)
  refine a_aload_n X dX3_takesMove_0 (i := 0) rfl rfl ?_
  refine s_callV_Y X dX3_takesMove_1 lk_X3_33 ko_31 rfl rfl (c_X3_advance (p0 := tkE B t p0) hT hE1.2 hK.2.1) ⟨Nat.le_of_ble_eq_true rfl, Nat.le_of_ble_eq_true rfl⟩ rfl rfl (Nat.le_of_ble_eq_true rfl) ⟨Nat.le_of_ble_eq_true rfl, Nat.le_of_ble_eq_true rfl⟩ (fun I2 J2 F2 w2 hpo => ?_)
  obtain ⟨rfl, rfl, rfl, hF2, hK2⟩ := hpo
  refine a_aload_n X dX3_takesMove_4 (i := 0) rfl rfl ?_
  refine a_iconst X dX3_takesMove_5 (v := nI 0) (by decide +kernel) ?_
  refine a_aload_n X dX3_takesMove_6 (i := 1) rfl rfl ?_
  refine s_geti X dX3_takesMove_7 fl_X3_70 ko_11 rfl ?_
  rw [(ch_frc hC hF2 (by decide)).2.1]
  refine a_iconst X dX3_takesMove_10 (v := nI 1) (by decide +kernel) ?_
  refine a_isub X dX3_takesMove_11 ?_
  refine s_callV_R X dX3_takesMove_12 lk_X3_62 ko_31 rfl rfl c_X3_atNumber ⟨Nat.le_of_ble_eq_true rfl, Nat.le_of_ble_eq_true rfl⟩ rfl rfl (Nat.le_of_ble_eq_true rfl) ⟨Nat.le_of_ble_eq_true rfl, Nat.le_of_ble_eq_true rfl⟩ ?_
  rw [wcM hK2 ok.1]
  refine a_if_ne X dX3_takesMove_15 (tgt := 20) (by decide) (fun hc15 => ?_) (fun hc15 => ?_)
  · skip
    try simp only [bI_0, Bool.not_eq_false] at hc15
    obtain ⟨v1, -, l1⟩ := wcV hK2 hc15
    refine a_aload_n X dX3_takesMove_20 (i := 0) rfl rfl ?_
    refine s_geti X dX3_takesMove_21 fl_X3_30 ko_31 rfl ?_
    rw [v1]
    refine a_istore_n X dX3_takesMove_24 (i := 2) rfl (by decide) rfl ?_
    refine a_aload_n X dX3_takesMove_25 (i := 0) rfl rfl ?_
    refine s_callV_Y X dX3_takesMove_26 lk_X3_33 ko_31 rfl rfl (c_X3_advance (p0 := tkE B t (tkE B t p0)) (tc_f hT hF2) hE2.2 hK2.2.1) ⟨Nat.le_of_ble_eq_true rfl, Nat.le_of_ble_eq_true rfl⟩ rfl rfl (Nat.le_of_ble_eq_true rfl) ⟨Nat.le_of_ble_eq_true rfl, Nat.le_of_ble_eq_true rfl⟩ (fun I3 J3 F3 w3 hpo3 => ?_)
    obtain ⟨rfl, rfl, rfl, hF3, hK3⟩ := hpo3
    refine a_aload_n X dX3_takesMove_29 (i := 0) rfl rfl ?_
    refine a_aload_n X dX3_takesMove_30 (i := 1) rfl rfl ?_
    refine s_callV_R X dX3_takesMove_31 lk_X3_59 ko_31 rfl rfl (c_X3_atEmptySeat hK3 ok (ch_frc hC (frc_t hF2 hF3) (by decide))) ⟨Nat.le_of_ble_eq_true rfl, Nat.le_of_ble_eq_true rfl⟩ rfl rfl (Nat.le_of_ble_eq_true rfl) ⟨Nat.le_of_ble_eq_true rfl, Nat.le_of_ble_eq_true rfl⟩ ?_
    refine a_if_ne X dX3_takesMove_34 (tgt := 39) (by decide) (fun hc34 => ?_) (fun hc34 => ?_)
    · skip
      try simp only [bI_0, Bool.not_eq_false] at hc34
      simp only [Bool.and_eq_true, decide_eq_true_eq] at hc34
      obtain ⟨v2, -, l2⟩ := wcV hK3 hc34.1
      refine a_aload_n X dX3_takesMove_39 (i := 1) rfl rfl ?_
      refine a_iload_n X dX3_takesMove_40 (i := 2) rfl rfl ?_
      refine a_aload_n X dX3_takesMove_41 (i := 0) rfl rfl ?_
      refine s_geti X dX3_takesMove_42 fl_X3_30 ko_31 rfl ?_
      rw [v2]
      refine s_callV_V X dX3_takesMove_45 lk_X3_76 ko_11 rfl rfl (c_X0_reseat (b := 11) (Or.inr (Or.inl rfl)) ok (ch_frc hC (frc_t hF2 hF3) (by decide)) l1 l2) ⟨Nat.le_of_ble_eq_true rfl, Nat.le_of_ble_eq_true rfl⟩ rfl rfl (Nat.le_of_ble_eq_true rfl) ⟨Nat.le_of_ble_eq_true rfl, Nat.le_of_ble_eq_true rfl⟩ ?_
      refine a_aload_n X dX3_takesMove_48 (i := 0) rfl rfl ?_
      refine s_callV_Y X dX3_takesMove_49 lk_X3_33 ko_31 rfl rfl (c_X3_advance (p0 := tkE B t (tkE B t (tkE B t p0))) (tc_i (tc_f hT (frc_t hF2 hF3)) (by rw [up_n _ _ (by decide), up_n _ _ (by decide)])) hE3.2 hK3.2.1) ⟨Nat.le_of_ble_eq_true rfl, Nat.le_of_ble_eq_true rfl⟩ rfl rfl (Nat.le_of_ble_eq_true rfl) ⟨Nat.le_of_ble_eq_true rfl, Nat.le_of_ble_eq_true rfl⟩ (fun I4 J4 F4 w4 hpo4 => ?_)
      obtain ⟨rfl, rfl, rfl, hF4, hK4⟩ := hpo4
      refine a_iconst X dX3_takesMove_52 (v := nI 1) (by decide +kernel) ?_
      refine a_zret X hA dX3_takesMove_53 (by first | exact nar_bI _ | decide +kernel) ?_
      rw [show movS B t R p0 = (true, va_up R (2 + 6 * tkV B t (tkE B t p0) + 1) (tkV B t (tkE B t (tkE B t p0))), (tkE B t (tkE B t (tkE B t p0)))) by rw [movS, if_pos hc15, if_pos hc34]]
      exact ⟨_, _, _, _, _, rfl, rfl, rfl, ch_frc (ch_seat ok (ch_frc hC (frc_t hF2 hF3) (by decide)) l1 l2 (Or.inl hc34.2)) hF4 (by decide), fun Q hQ => by rw [up_n _ _ (by omega), up_n _ _ (by omega)], fun Q _ hQ => (frc_t (frc_t hF2 hF3) hF4).1 Q hQ, (frc_t (frc_t hF2 hF3) hF4).2, rfl, rfl, hK4⟩
    · skip
      try simp only [bI_0, Bool.not_eq_false] at hc34
      refine a_iconst X dX3_takesMove_37 (v := nI 0) (by decide +kernel) ?_
      refine a_zret X hA dX3_takesMove_38 (by first | exact nar_bI _ | decide +kernel) ?_
      exact ⟨_, _, _, _, _, rfl, rfl, itc_f hC (frc_t hF2 hF3) hK3 (show movS B t R p0 = (false, R, (tkE B t (tkE B t p0))) from by rw [movS, if_pos hc15, if_neg (fun q => by simp [q.1, q.2] at hc34)]) rfl⟩
  · skip
    try simp only [bI_0, Bool.not_eq_false] at hc15
    refine a_iconst X dX3_takesMove_18 (v := nI 0) (by decide +kernel) ?_
    refine a_zret X hA dX3_takesMove_19 (by first | exact nar_bI _ | decide +kernel) ?_
    exact ⟨_, _, _, _, _, rfl, rfl, itc_f hC (hF2) hK2 (show movS B t R p0 = (false, R, (tkE B t p0)) from by rw [movS, if_neg (by rw [hc15]; decide)]) rfl⟩
set_option maxRecDepth 100000 in
set_option maxHeartbeats 4000000 in
theorem c_X3_takesMember {l : Launch} {g : GG} {I : TI} {J : TJ} {F : TI} {w : Int64} {B : Nat → Nat} {t : Nat} (hT : TpC I F B t) {p0 : Nat} (hp0 : p0 ≤ t) (hK : TkC B t p0 F) {R : Nat → Nat} (ok : okR R) (hC : Ch I F 11 R) {k : Nat} (hv0 : F 31 5 = nI k) : RV l g mX3_takesMember [.ref (ga g 31), .ref (ga g 11)] I J F w (ItC I J F w B t (memS B t R p0 k)) := by
  have hE1 := tkE_le (B := B) hp0
  have hE2 := tkE_le (B := B) hE1.2
  have hE3 := tkE_le (B := B) hE2.2
  have hE4 := tkE_le (B := B) hE3.2
  have hn := ok.1
  have h120 := hT.2.1
  refine ct_start (M := mX3_takesMember) (by decide +kernel) (Nat.le_of_ble_eq_true rfl) ?_
  intro p e s m args below meth c A X hA
  have X : AX p s m args meth c g A cX3_takesMember 6 RX3 (Cond.code yX3_takesMember cX3_takesMember 6 (some .boolean)) (some .boolean) := X
  show AW p l e (rmM 8 169) s m args below meth c g A 6 0 0 (MQ below (CQ g (hp g I J F w) s.heap.size (fun vv0 hh0 => ∃ xx0 II0 JJ0 FF0 ww0, vv0 = some xx0 ∧ hh0 = hp g II0 JJ0 FF0 ww0 ∧ (ItC I J F w B t (memS B t R p0 k)) xx0 II0 JJ0 FF0 ww0)) args s 0 0 A) 0 [some (.ref (ga g 31)), some (.ref (ga g 11)), none, none, none, none] [] (hp g I J F w)
  refine a_aload_n X dX3_takesMember_0 (i := 1) rfl rfl ?_
  refine s_callV_R X dX3_takesMember_1 lk_X3_53 ko_11 rfl rfl (c_X0_isFull (b := 11) (Or.inr (Or.inl rfl)) ok hC) ⟨Nat.le_of_ble_eq_true rfl, Nat.le_of_ble_eq_true rfl⟩ rfl rfl (Nat.le_of_ble_eq_true rfl) ⟨Nat.le_of_ble_eq_true rfl, Nat.le_of_ble_eq_true rfl⟩ ?_
  refine a_if_eq X dX3_takesMember_4 (tgt := 9) (by decide) (fun hc4 => ?_) (fun hc4 => ?_)
  · skip
    simp only [bI_0, Bool.not_eq_false, decide_eq_true_eq, decide_eq_false_iff_not, Classical.not_not] at hc4
    refine a_aload_n X dX3_takesMember_9 (i := 0) rfl rfl ?_
    refine s_geti X dX3_takesMember_10 fl_X3_30 ko_31 rfl ?_
    rw [hv0]
    refine a_istore_n X dX3_takesMember_13 (i := 2) rfl (by decide) rfl ?_
    refine a_aload_n X dX3_takesMember_14 (i := 0) rfl rfl ?_
    refine s_callV_Y X dX3_takesMember_15 lk_X3_33 ko_31 rfl rfl (c_X3_advance (p0 := tkE B t p0) hT hE1.2 hK.2.1) ⟨Nat.le_of_ble_eq_true rfl, Nat.le_of_ble_eq_true rfl⟩ rfl rfl (Nat.le_of_ble_eq_true rfl) ⟨Nat.le_of_ble_eq_true rfl, Nat.le_of_ble_eq_true rfl⟩ (fun I2 J2 F2 w2 hpo => ?_)
    obtain ⟨rfl, rfl, rfl, hF2, hK2⟩ := hpo
    refine a_aload_n X dX3_takesMember_18 (i := 0) rfl rfl ?_
    refine a_aload_n X dX3_takesMember_19 (i := 1) rfl rfl ?_
    refine s_callV_R X dX3_takesMember_20 lk_X3_59 ko_31 rfl rfl (c_X3_atEmptySeat hK2 ok (ch_frc hC hF2 (by decide))) ⟨Nat.le_of_ble_eq_true rfl, Nat.le_of_ble_eq_true rfl⟩ rfl rfl (Nat.le_of_ble_eq_true rfl) ⟨Nat.le_of_ble_eq_true rfl, Nat.le_of_ble_eq_true rfl⟩ ?_
    refine a_if_ne X dX3_takesMember_23 (tgt := 28) (by decide) (fun hc23 => ?_) (fun hc23 => ?_)
    · skip
      try simp only [bI_0, Bool.not_eq_false] at hc23
      simp only [Bool.and_eq_true, decide_eq_true_eq] at hc23
      obtain ⟨v1, -, l1⟩ := wcV hK2 hc23.1
      refine a_aload_n X dX3_takesMember_28 (i := 0) rfl rfl ?_
      refine s_geti X dX3_takesMember_29 fl_X3_30 ko_31 rfl ?_
      rw [v1]
      refine a_istore_n X dX3_takesMember_32 (i := 3) rfl (by decide) rfl ?_
      refine a_aload_n X dX3_takesMember_33 (i := 0) rfl rfl ?_
      refine s_callV_Y X dX3_takesMember_34 lk_X3_33 ko_31 rfl rfl (c_X3_advance (p0 := tkE B t (tkE B t p0)) (tc_f hT hF2) hE2.2 hK2.2.1) ⟨Nat.le_of_ble_eq_true rfl, Nat.le_of_ble_eq_true rfl⟩ rfl rfl (Nat.le_of_ble_eq_true rfl) ⟨Nat.le_of_ble_eq_true rfl, Nat.le_of_ble_eq_true rfl⟩ (fun I3 J3 F3 w3 hpo3 => ?_)
      obtain ⟨rfl, rfl, rfl, hF3, hK3⟩ := hpo3
      refine a_aload_n X dX3_takesMember_37 (i := 0) rfl rfl ?_
      refine a_iconst X dX3_takesMember_38 (v := nI 0) (by decide +kernel) ?_
      refine a_bipush X dX3_takesMember_39 (v := nI 9) (by decide +kernel) ?_
      refine s_callV_R X dX3_takesMember_41 lk_X3_62 ko_31 rfl rfl c_X3_atNumber ⟨Nat.le_of_ble_eq_true rfl, Nat.le_of_ble_eq_true rfl⟩ rfl rfl (Nat.le_of_ble_eq_true rfl) ⟨Nat.le_of_ble_eq_true rfl, Nat.le_of_ble_eq_true rfl⟩ ?_
      rw [wc hK3 (by decide) (by decide)]
      refine a_if_ne X dX3_takesMember_44 (tgt := 49) (by decide) (fun hc44 => ?_) (fun hc44 => ?_)
      · skip
        try simp only [bI_0, Bool.not_eq_false] at hc44
        obtain ⟨v2, -, l2⟩ := wcV hK3 hc44
        refine a_aload_n X dX3_takesMember_49 (i := 0) rfl rfl ?_
        refine s_geti X dX3_takesMember_50 fl_X3_30 ko_31 rfl ?_
        rw [v2]
        refine a_istore X dX3_takesMember_53 (by decide) rfl ?_
        refine a_aload_n X dX3_takesMember_55 (i := 0) rfl rfl ?_
        refine s_callV_Y X dX3_takesMember_56 lk_X3_33 ko_31 rfl rfl (c_X3_advance (p0 := tkE B t (tkE B t (tkE B t p0))) (tc_f hT (frc_t hF2 hF3)) hE3.2 hK3.2.1) ⟨Nat.le_of_ble_eq_true rfl, Nat.le_of_ble_eq_true rfl⟩ rfl rfl (Nat.le_of_ble_eq_true rfl) ⟨Nat.le_of_ble_eq_true rfl, Nat.le_of_ble_eq_true rfl⟩ (fun I4 J4 F4 w4 hpo4 => ?_)
        obtain ⟨rfl, rfl, rfl, hF4, hK4⟩ := hpo4
        refine a_iconst X dX3_takesMember_59 (v := nI 5) (by decide +kernel) ?_
        refine a_istore X dX3_takesMember_60 (by decide) rfl ?_
        refine a_aload_n X dX3_takesMember_62 (i := 0) rfl rfl ?_
        refine s_geti X dX3_takesMember_63 fl_X3_27 ko_31 rfl ?_
        rw [hK4.2.2.1]
        refine a_iconst X dX3_takesMember_66 (v := nI 1) (by decide +kernel) ?_
        refine s_icmp_neN X dX3_takesMember_67 (tgt := 105) (by decide) (by have := tkK_5 B t (tkE B t (tkE B t (tkE B t p0))); omega) (by omega) (fun hc67 => ?_) (fun hc67 => ?_)
        · skip
          have hno : ¬ (tkK B t (tkE B t (tkE B t (tkE B t p0))) = 1 ∧ tkV B t (tkE B t (tkE B t (tkE B t p0))) = 8) := fun q => hc67 q.1
          refine a_aload_n X dX3_takesMember_105 (i := 1) rfl rfl ?_
          refine a_iload_n X dX3_takesMember_106 (i := 2) rfl rfl ?_
          refine a_iload_n X dX3_takesMember_107 (i := 3) rfl rfl ?_
          refine a_iload X dX3_takesMember_108 rfl ?_
          refine a_iload X dX3_takesMember_110 rfl ?_
          refine s_callV_R X dX3_takesMember_112 lk_X3_66 ko_11 rfl rfl (c_X0_add (b := 11) (Or.inr (Or.inl rfl)) ok (ch_frc hC (frc_t (frc_t hF2 hF3) hF4) (by decide)) (by omega) l1) ⟨Nat.le_of_ble_eq_true rfl, Nat.le_of_ble_eq_true rfl⟩ rfl rfl (Nat.le_of_ble_eq_true rfl) ⟨Nat.le_of_ble_eq_true rfl, Nat.le_of_ble_eq_true rfl⟩ ?_
          refine a_pop X dX3_takesMember_115 rfl ?_
          refine a_iconst X dX3_takesMember_116 (v := nI 1) (by decide +kernel) ?_
          refine a_zret X hA dX3_takesMember_117 (by first | exact nar_bI _ | decide +kernel) ?_
          have em : mwS B t (tkE B t (tkE B t (tkE B t p0))) = (true, 5, (tkE B t (tkE B t (tkE B t p0)))) := by rw [mwS, if_neg hno]
          have e1 : memS B t R p0 k = (true, addN R k (tkV B t (tkE B t p0)) (tkV B t (tkE B t (tkE B t p0))) 5, (tkE B t (tkE B t (tkE B t p0)))) := by rw [memS, if_neg hc4, if_pos hc23, if_pos hc44, em, if_pos rfl]
          rw [e1]
          have hadd := ch_add (k := k) (v := tkV B t (tkE B t (tkE B t p0))) (d := 5) ok (ch_frc hC (frc_t (frc_t hF2 hF3) hF4) (by decide)) (by omega) l1 hc23.2
          exact ⟨_, _, _, _, _, rfl, rfl, rfl, hadd, fun Q hQ => by rw [up_n _ _ (by omega), up_n _ _ (by omega), up_n _ _ (by omega), up_n _ _ (by omega), up_n _ _ (by omega), up_n _ _ (by omega), up_n _ _ (by omega)], fun Q hQ h31 => by rw [up_n _ _ (by omega)]; exact (frc_t (frc_t hF2 hF3) hF4).1 Q h31, by rw [up_n _ _ (by decide)]; exact (frc_t (frc_t hF2 hF3) hF4).2, rfl, rfl, tkc_u hK4 (by decide)⟩
        · skip
          have hK1 : tkK B t (tkE B t (tkE B t (tkE B t p0))) = 1 := hc67
          refine a_aload_n X dX3_takesMember_70 (i := 0) rfl rfl ?_
          refine s_geti X dX3_takesMember_71 fl_X3_30 ko_31 rfl ?_
          refine a_bipush X dX3_takesMember_74 (v := nI 8) (by decide +kernel) ?_
          refine a_icmp_ne X dX3_takesMember_76 (tgt := 105) (by decide) (fun hc76 => ?_) (fun hc76 => ?_)
          · skip
            have hno : ¬ (tkK B t (tkE B t (tkE B t (tkE B t p0))) = 1 ∧ tkV B t (tkE B t (tkE B t (tkE B t p0))) = 8) := fun q => hc76 ((wcW hK4 hK1 (by decide)).mpr q.2)
            refine a_aload_n X dX3_takesMember_105 (i := 1) rfl rfl ?_
            refine a_iload_n X dX3_takesMember_106 (i := 2) rfl rfl ?_
            refine a_iload_n X dX3_takesMember_107 (i := 3) rfl rfl ?_
            refine a_iload X dX3_takesMember_108 rfl ?_
            refine a_iload X dX3_takesMember_110 rfl ?_
            refine s_callV_R X dX3_takesMember_112 lk_X3_66 ko_11 rfl rfl (c_X0_add (b := 11) (Or.inr (Or.inl rfl)) ok (ch_frc hC (frc_t (frc_t hF2 hF3) hF4) (by decide)) (by omega) l1) ⟨Nat.le_of_ble_eq_true rfl, Nat.le_of_ble_eq_true rfl⟩ rfl rfl (Nat.le_of_ble_eq_true rfl) ⟨Nat.le_of_ble_eq_true rfl, Nat.le_of_ble_eq_true rfl⟩ ?_
            refine a_pop X dX3_takesMember_115 rfl ?_
            refine a_iconst X dX3_takesMember_116 (v := nI 1) (by decide +kernel) ?_
            refine a_zret X hA dX3_takesMember_117 (by first | exact nar_bI _ | decide +kernel) ?_
            have em : mwS B t (tkE B t (tkE B t (tkE B t p0))) = (true, 5, (tkE B t (tkE B t (tkE B t p0)))) := by rw [mwS, if_neg hno]
            have e1 : memS B t R p0 k = (true, addN R k (tkV B t (tkE B t p0)) (tkV B t (tkE B t (tkE B t p0))) 5, (tkE B t (tkE B t (tkE B t p0)))) := by rw [memS, if_neg hc4, if_pos hc23, if_pos hc44, em, if_pos rfl]
            rw [e1]
            have hadd := ch_add (k := k) (v := tkV B t (tkE B t (tkE B t p0))) (d := 5) ok (ch_frc hC (frc_t (frc_t hF2 hF3) hF4) (by decide)) (by omega) l1 hc23.2
            exact ⟨_, _, _, _, _, rfl, rfl, rfl, hadd, fun Q hQ => by rw [up_n _ _ (by omega), up_n _ _ (by omega), up_n _ _ (by omega), up_n _ _ (by omega), up_n _ _ (by omega), up_n _ _ (by omega), up_n _ _ (by omega)], fun Q hQ h31 => by rw [up_n _ _ (by omega)]; exact (frc_t (frc_t hF2 hF3) hF4).1 Q h31, by rw [up_n _ _ (by decide)]; exact (frc_t (frc_t hF2 hF3) hF4).2, rfl, rfl, tkc_u hK4 (by decide)⟩
          · skip
            have hV8 : tkV B t (tkE B t (tkE B t (tkE B t p0))) = 8 := (wcW hK4 hK1 (by decide)).mp hc76
            have hE5 := tkE_le (B := B) hE4.2
            refine a_aload_n X dX3_takesMember_79 (i := 0) rfl rfl ?_
            refine s_callV_Y X dX3_takesMember_80 lk_X3_33 ko_31 rfl rfl (c_X3_advance (p0 := tkE B t (tkE B t (tkE B t (tkE B t p0)))) (tc_f hT (frc_t (frc_t hF2 hF3) hF4)) hE4.2 hK4.2.1) ⟨Nat.le_of_ble_eq_true rfl, Nat.le_of_ble_eq_true rfl⟩ rfl rfl (Nat.le_of_ble_eq_true rfl) ⟨Nat.le_of_ble_eq_true rfl, Nat.le_of_ble_eq_true rfl⟩ (fun I5 J5 F5 w5 hpo5 => ?_)
            obtain ⟨rfl, rfl, rfl, hF5, hK5⟩ := hpo5
            refine a_aload_n X dX3_takesMember_83 (i := 0) rfl rfl ?_
            refine a_iconst X dX3_takesMember_84 (v := nI 1) (by decide +kernel) ?_
            refine a_bipush X dX3_takesMember_85 (v := nI 9) (by decide +kernel) ?_
            refine s_callV_R X dX3_takesMember_87 lk_X3_62 ko_31 rfl rfl c_X3_atNumber ⟨Nat.le_of_ble_eq_true rfl, Nat.le_of_ble_eq_true rfl⟩ rfl rfl (Nat.le_of_ble_eq_true rfl) ⟨Nat.le_of_ble_eq_true rfl, Nat.le_of_ble_eq_true rfl⟩ ?_
            rw [wc hK5 (by decide) (by decide)]
            refine a_if_ne X dX3_takesMember_90 (tgt := 95) (by decide) (fun hc90 => ?_) (fun hc90 => ?_)
            · skip
              try simp only [bI_0, Bool.not_eq_false] at hc90
              obtain ⟨v4, -, l4⟩ := wcV hK5 hc90
              refine a_aload_n X dX3_takesMember_95 (i := 0) rfl rfl ?_
              refine s_geti X dX3_takesMember_96 fl_X3_30 ko_31 rfl ?_
              rw [v4]
              refine a_istore X dX3_takesMember_99 (by decide) rfl ?_
              refine a_aload_n X dX3_takesMember_101 (i := 0) rfl rfl ?_
              refine s_callV_Y X dX3_takesMember_102 lk_X3_33 ko_31 rfl rfl (c_X3_advance (p0 := tkE B t (tkE B t (tkE B t (tkE B t (tkE B t p0))))) (tc_f hT (frc_t (frc_t (frc_t hF2 hF3) hF4) hF5)) hE5.2 hK5.2.1) ⟨Nat.le_of_ble_eq_true rfl, Nat.le_of_ble_eq_true rfl⟩ rfl rfl (Nat.le_of_ble_eq_true rfl) ⟨Nat.le_of_ble_eq_true rfl, Nat.le_of_ble_eq_true rfl⟩ (fun I6 J6 F6 w6 hpo6 => ?_)
              obtain ⟨rfl, rfl, rfl, hF6, hK6⟩ := hpo6
              refine a_aload_n X dX3_takesMember_105 (i := 1) rfl rfl ?_
              refine a_iload_n X dX3_takesMember_106 (i := 2) rfl rfl ?_
              refine a_iload_n X dX3_takesMember_107 (i := 3) rfl rfl ?_
              refine a_iload X dX3_takesMember_108 rfl ?_
              refine a_iload X dX3_takesMember_110 rfl ?_
              refine s_callV_R X dX3_takesMember_112 lk_X3_66 ko_11 rfl rfl (c_X0_add (b := 11) (Or.inr (Or.inl rfl)) ok (ch_frc hC (frc_t (frc_t (frc_t (frc_t hF2 hF3) hF4) hF5) hF6) (by decide)) (by omega) l1) ⟨Nat.le_of_ble_eq_true rfl, Nat.le_of_ble_eq_true rfl⟩ rfl rfl (Nat.le_of_ble_eq_true rfl) ⟨Nat.le_of_ble_eq_true rfl, Nat.le_of_ble_eq_true rfl⟩ ?_
              refine a_pop X dX3_takesMember_115 rfl ?_
              refine a_iconst X dX3_takesMember_116 (v := nI 1) (by decide +kernel) ?_
              refine a_zret X hA dX3_takesMember_117 (by first | exact nar_bI _ | decide +kernel) ?_
              have em : mwS B t (tkE B t (tkE B t (tkE B t p0))) = (true, tkV B t (tkE B t (tkE B t (tkE B t (tkE B t p0)))), (tkE B t (tkE B t (tkE B t (tkE B t (tkE B t p0)))))) := by rw [mwS, if_pos ⟨hK1, hV8⟩, if_pos hc90]
              have e1 : memS B t R p0 k = (true, addN R k (tkV B t (tkE B t p0)) (tkV B t (tkE B t (tkE B t p0))) (tkV B t (tkE B t (tkE B t (tkE B t (tkE B t p0))))), (tkE B t (tkE B t (tkE B t (tkE B t (tkE B t p0)))))) := by rw [memS, if_neg hc4, if_pos hc23, if_pos hc44, em, if_pos rfl]
              rw [e1]
              have hadd := ch_add (k := k) (v := tkV B t (tkE B t (tkE B t p0))) (d := (tkV B t (tkE B t (tkE B t (tkE B t (tkE B t p0)))))) ok (ch_frc hC (frc_t (frc_t (frc_t (frc_t hF2 hF3) hF4) hF5) hF6) (by decide)) (by omega) l1 hc23.2
              exact ⟨_, _, _, _, _, rfl, rfl, rfl, hadd, fun Q hQ => by rw [up_n _ _ (by omega), up_n _ _ (by omega), up_n _ _ (by omega), up_n _ _ (by omega), up_n _ _ (by omega), up_n _ _ (by omega), up_n _ _ (by omega)], fun Q hQ h31 => by rw [up_n _ _ (by omega)]; exact (frc_t (frc_t (frc_t (frc_t hF2 hF3) hF4) hF5) hF6).1 Q h31, by rw [up_n _ _ (by decide)]; exact (frc_t (frc_t (frc_t (frc_t hF2 hF3) hF4) hF5) hF6).2, rfl, rfl, tkc_u hK6 (by decide)⟩
            · skip
              try simp only [bI_0, Bool.not_eq_false] at hc90
              refine a_iconst X dX3_takesMember_93 (v := nI 0) (by decide +kernel) ?_
              refine a_zret X hA dX3_takesMember_94 (by first | exact nar_bI _ | decide +kernel) ?_
              have em : mwS B t (tkE B t (tkE B t (tkE B t p0))) = (false, 0, (tkE B t (tkE B t (tkE B t (tkE B t p0))))) := by rw [mwS, if_pos ⟨hK1, hV8⟩, if_neg (by rw [hc90]; decide)]
              exact ⟨_, _, _, _, _, rfl, rfl, itc_f hC (frc_t (frc_t (frc_t hF2 hF3) hF4) hF5) hK5 (show memS B t R p0 k = (false, R, (tkE B t (tkE B t (tkE B t (tkE B t p0))))) from by rw [memS, if_neg hc4, if_pos hc23, if_pos hc44, em, if_neg Bool.false_ne_true]) rfl⟩
      · skip
        try simp only [bI_0, Bool.not_eq_false] at hc44
        refine a_iconst X dX3_takesMember_47 (v := nI 0) (by decide +kernel) ?_
        refine a_zret X hA dX3_takesMember_48 (by first | exact nar_bI _ | decide +kernel) ?_
        exact ⟨_, _, _, _, _, rfl, rfl, itc_f hC (frc_t hF2 hF3) hK3 (show memS B t R p0 k = (false, R, (tkE B t (tkE B t p0))) from by rw [memS, if_neg hc4, if_pos hc23, if_neg (by rw [hc44]; decide)]) rfl⟩
    · skip
      try simp only [bI_0, Bool.not_eq_false] at hc23
      refine a_iconst X dX3_takesMember_26 (v := nI 0) (by decide +kernel) ?_
      refine a_zret X hA dX3_takesMember_27 (by first | exact nar_bI _ | decide +kernel) ?_
      exact ⟨_, _, _, _, _, rfl, rfl, itc_f hC (hF2) hK2 (show memS B t R p0 k = (false, R, (tkE B t p0)) from by rw [memS, if_neg hc4, if_neg (fun q => by simp [q.1, q.2] at hc23)]) rfl⟩
  · skip
    simp only [bI_0, Bool.not_eq_false, decide_eq_true_eq, decide_eq_false_iff_not, Classical.not_not] at hc4
    refine a_iconst X dX3_takesMember_7 (v := nI 0) (by decide +kernel) ?_
    refine a_zret X hA dX3_takesMember_8 (by first | exact nar_bI _ | decide +kernel) ?_
    exact ⟨_, _, _, _, _, rfl, rfl, itc_f hC (frc_0 _) hK (show memS B t R p0 k = (false, R, p0) from by rw [memS, if_pos hc4]) rfl⟩
set_option maxRecDepth 100000 in
set_option maxHeartbeats 4000000 in
theorem c_X3_takesItem {l : Launch} {g : GG} {I : TI} {J : TJ} {F : TI} {w : Int64} {B : Nat → Nat} {t : Nat} (hT : TpC I F B t) {p0 : Nat} (hp0 : p0 ≤ t) (hK : TkC B t p0 F) {R : Nat → Nat} (ok : okR R) (hC : Ch I F 11 R) : RV l g mX3_takesItem [.ref (ga g 31), .ref (ga g 11)] I J F w (ItC I J F w B t (itmS B t R p0)) := by
  have h5 := tkK_5 B t p0
  refine ct_start (M := mX3_takesItem) (by decide +kernel) (Nat.le_of_ble_eq_true rfl) ?_
  intro p e s m args below meth c A X hA
  have X : AX p s m args meth c g A cX3_takesItem 2 RX3 (Cond.code yX3_takesItem cX3_takesItem 2 (some .boolean)) (some .boolean) := X
  show AW p l e (rmM 9 194) s m args below meth c g A 2 0 0 (MQ below (CQ g (hp g I J F w) s.heap.size (fun vv0 hh0 => ∃ xx0 II0 JJ0 FF0 ww0, vv0 = some xx0 ∧ hh0 = hp g II0 JJ0 FF0 ww0 ∧ (ItC I J F w B t (itmS B t R p0)) xx0 II0 JJ0 FF0 ww0)) args s 0 0 A) 0 [some (.ref (ga g 31)), some (.ref (ga g 11))] [] (hp g I J F w)
  refine a_aload_n X dX3_takesItem_0 (i := 0) rfl rfl ?_
  refine s_geti X dX3_takesItem_1 fl_X3_27 ko_31 rfl ?_
  rw [hK.2.2.1]
  refine a_iconst X dX3_takesItem_4 (v := nI 1) (by decide +kernel) ?_
  refine s_icmp_eqN X dX3_takesItem_5 (tgt := 10) (by decide) (by omega) (by omega) (fun hc5 => ?_) (fun hc5 => ?_)
  · skip
    have hK1 : tkK B t p0 = 1 := hc5
    refine a_aload_n X dX3_takesItem_10 (i := 0) rfl rfl ?_
    refine s_geti X dX3_takesItem_11 fl_X3_30 ko_31 rfl ?_
    refine a_bipush X dX3_takesItem_14 (v := nI 6) (by decide +kernel) ?_
    refine a_icmp_ne X dX3_takesItem_16 (tgt := 25) (by decide) (fun hc16 => ?_) (fun hc16 => ?_)
    · skip
      have hn6 : ¬ tkV B t p0 = 6 := fun q => hc16 ((wcW hK hK1 (by decide)).mpr q)
      refine a_aload_n X dX3_takesItem_25 (i := 0) rfl rfl ?_
      refine s_geti X dX3_takesItem_26 fl_X3_30 ko_31 rfl ?_
      refine a_bipush X dX3_takesItem_29 (v := nI 7) (by decide +kernel) ?_
      refine a_icmp_ne X dX3_takesItem_31 (tgt := 40) (by decide) (fun hc31 => ?_) (fun hc31 => ?_)
      · skip
        have hn7 : ¬ tkV B t p0 = 7 := fun q => hc31 ((wcW hK hK1 (by decide)).mpr q)
        refine a_aload_n X dX3_takesItem_40 (i := 0) rfl rfl ?_
        refine s_geti X dX3_takesItem_41 fl_X3_30 ko_31 rfl ?_
        refine s_callS_R X dX3_takesItem_44 lk_X3_46 c_X1_isKind ⟨Nat.le_of_ble_eq_true rfl, Nat.le_of_ble_eq_true rfl⟩ rfl rfl (Nat.le_of_ble_eq_true rfl) ⟨Nat.le_of_ble_eq_true rfl, Nat.le_of_ble_eq_true rfl⟩ ?_
        rw [wcK hK hK1]
        refine a_if_eq X dX3_takesItem_47 (tgt := 62) (by decide) (fun hc47 => ?_) (fun hc47 => ?_)
        · skip
          simp only [bI_0, Bool.not_eq_false, decide_eq_true_eq, decide_eq_false_iff_not, Classical.not_not] at hc47
          refine a_iconst X dX3_takesItem_62 (v := nI 0) (by decide +kernel) ?_
          refine a_zret X hA dX3_takesItem_63 (by first | exact nar_bI _ | decide +kernel) ?_
          exact ⟨_, _, _, _, _, rfl, rfl, itc_f hC (frc_0 _) hK (show itmS B t R p0 = (false, R, p0) from by rw [itmS, if_neg (fun q => by simp [q.2] at hc47), if_neg (fun q => hn6 q.2), if_neg (fun q => hn7 q.2)]) rfl⟩
        · skip
          simp only [bI_0, Bool.not_eq_false, decide_eq_true_eq, decide_eq_false_iff_not, Classical.not_not] at hc47
          have hv5 := (wcW hK hK1 (i := tkV B t p0) (by omega)).mpr rfl
          refine a_aload_n X dX3_takesItem_50 (i := 0) rfl rfl ?_
          refine a_aload_n X dX3_takesItem_51 (i := 1) rfl rfl ?_
          refine s_callV_X X dX3_takesItem_52 lk_X3_50 ko_31 rfl rfl (c_X3_takesMember (k := tkV B t p0) hT hp0 hK ok hC hv5) ⟨Nat.le_of_ble_eq_true rfl, Nat.le_of_ble_eq_true rfl⟩ rfl rfl (Nat.le_of_ble_eq_true rfl) ⟨Nat.le_of_ble_eq_true rfl, Nat.le_of_ble_eq_true rfl⟩ (fun x2 I2 J2 F2 w2 hpo => ?_)
          have e2 := hpo.1
          rw [e2]
          refine a_if_eq X dX3_takesItem_55 (tgt := 62) (by decide) (fun hc55 => ?_) (fun hc55 => ?_)
          · skip
            simp only [bI_0, Bool.not_eq_false] at hc55
            refine a_iconst X dX3_takesItem_62 (v := nI 0) (by decide +kernel) ?_
            refine a_zret X hA dX3_takesItem_63 (by first | exact nar_bI _ | decide +kernel) ?_
            refine ⟨_, _, _, _, _, rfl, rfl, ?_⟩
            rw [itmS, if_pos ⟨hK1, hc47⟩]
            obtain ⟨rfl, y1⟩ := hpo
            exact ⟨by rw [hc55]; rfl, y1⟩
          · skip
            simp only [bI_0, Bool.not_eq_false] at hc55
            refine a_iconst X dX3_takesItem_58 (v := nI 1) (by decide +kernel) ?_
            refine a_goto X dX3_takesItem_59 (tgt := 63) (by decide) ?_
            refine a_zret X hA dX3_takesItem_63 (by first | exact nar_bI _ | decide +kernel) ?_
            refine ⟨_, _, _, _, _, rfl, rfl, ?_⟩
            rw [itmS, if_pos ⟨hK1, hc47⟩]
            obtain ⟨rfl, y1⟩ := hpo
            exact ⟨by rw [hc55]; rfl, y1⟩
      · skip
        have h7 := (wcW hK hK1 (by decide)).mp hc31
        refine a_aload_n X dX3_takesItem_34 (i := 0) rfl rfl ?_
        refine a_aload_n X dX3_takesItem_35 (i := 1) rfl rfl ?_
        refine s_callV_X X dX3_takesItem_36 lk_X3_43 ko_31 rfl rfl (c_X3_takesMove hT hp0 hK ok hC) ⟨Nat.le_of_ble_eq_true rfl, Nat.le_of_ble_eq_true rfl⟩ rfl rfl (Nat.le_of_ble_eq_true rfl) ⟨Nat.le_of_ble_eq_true rfl, Nat.le_of_ble_eq_true rfl⟩ (fun x2 I2 J2 F2 w2 hpo => ?_)
        obtain ⟨e2, hpo⟩ := hpo
        rw [e2]
        refine a_zret X hA dX3_takesItem_39 (by first | exact nar_bI _ | decide +kernel) ?_
        refine ⟨_, _, _, _, _, rfl, rfl, ?_⟩
        rw [itmS, if_neg (by omega), if_neg (by omega), if_pos ⟨hK1, h7⟩]
        exact ⟨rfl, hpo⟩
    · skip
      have h6 := (wcW hK hK1 (by decide)).mp hc16
      refine a_aload_n X dX3_takesItem_19 (i := 0) rfl rfl ?_
      refine a_aload_n X dX3_takesItem_20 (i := 1) rfl rfl ?_
      refine s_callV_X X dX3_takesItem_21 lk_X3_40 ko_31 rfl rfl (c_X3_takesKnows hT hp0 hK ok hC) ⟨Nat.le_of_ble_eq_true rfl, Nat.le_of_ble_eq_true rfl⟩ rfl rfl (Nat.le_of_ble_eq_true rfl) ⟨Nat.le_of_ble_eq_true rfl, Nat.le_of_ble_eq_true rfl⟩ (fun x2 I2 J2 F2 w2 hpo => ?_)
      obtain ⟨e2, hpo⟩ := hpo
      rw [e2]
      refine a_zret X hA dX3_takesItem_24 (by first | exact nar_bI _ | decide +kernel) ?_
      refine ⟨_, _, _, _, _, rfl, rfl, ?_⟩
      rw [itmS, if_neg (by omega), if_pos ⟨hK1, h6⟩]
      exact ⟨rfl, hpo⟩
  · skip
    refine a_iconst X dX3_takesItem_8 (v := nI 0) (by decide +kernel) ?_
    refine a_zret X hA dX3_takesItem_9 (by first | exact nar_bI _ | decide +kernel) ?_
    exact ⟨_, _, _, _, _, rfl, rfl, itc_f hC (frc_0 _) hK (show itmS B t R p0 = (false, R, p0) from by rw [itmS, if_neg (fun q => hc5 q.1), if_neg (fun q => hc5 q.1), if_neg (fun q => hc5 q.1)]) rfl⟩
set_option maxRecDepth 100000 in
set_option maxHeartbeats 4000000 in
theorem c_X3_parse {l : Launch} {g : GG} {I : TI} {J : TJ} {F : TI} {w : Int64} {B : Nat → Nat} {t : Nat} (hT : TpC I F B t) {R : Nat → Nat} (ok : okR R) (hC : Ch I F 11 R) : RV l g mX3_parse [.ref (ga g 31), .ref (ga g 11)] I J F w (PaC I J F w (chpS B t (t + 1) R 0 0)) := by
  have h120 := hT.2.1
  refine ct_start (M := mX3_parse) (by decide +kernel) (Nat.le_of_ble_eq_true rfl) ?_
  intro p e s m args below meth c A X hA
  have X : AX p s m args meth c g A cX3_parse 3 RX3 (Cond.code yX3_parse cX3_parse 3 (some .int)) (some .int) := X
  show AW p l e (rmM 10 215) s m args below meth c g A 3 0 0 (MQ below (CQ g (hp g I J F w) s.heap.size (fun vv0 hh0 => ∃ xx0 II0 JJ0 FF0 ww0, vv0 = some xx0 ∧ hh0 = hp g II0 JJ0 FF0 ww0 ∧ (PaC I J F w (chpS B t (t + 1) R 0 0)) xx0 II0 JJ0 FF0 ww0)) args s 0 0 A) 0 [some (.ref (ga g 31)), some (.ref (ga g 11)), none] [] (hp g I J F w)
  have L11 : ∀ (fu : Nat) (n : Nat) (p1 : Nat) (fl : Nat) (R1 : Nat → Nat) (I1 : TI) (F1 : TI), t - p1 < fu → (1 ≤ n ∧ 2 * n ≤ p1 + 2) → (p1 ≤ t) → (TkC B t p1 F1) → (okR R1) → (Ch I1 F1 11 R1) → (∀ Q, ¬ (11 ≤ Q ∧ Q ≤ 20) → I1 Q = I Q) → (∀ Q, ¬ (11 ≤ Q ∧ Q ≤ 20) → Q ≠ 31 → F1 Q = F Q) → (F1 31 0 = F 31 0) → (t < fl + p1) → (chpS B t fl R1 p1 (n - 1) = chpS B t (t + 1) R 0 0) → AW p l e (rmM 10 215) s m args below meth c g A 3 0 0 (MQ below (CQ g (hp g I J F w) s.heap.size (fun vv0 hh0 => ∃ xx0 II0 JJ0 FF0 ww0, vv0 = some xx0 ∧ hh0 = hp g II0 JJ0 FF0 ww0 ∧ (PaC I J F w (chpS B t (t + 1) R 0 0)) xx0 II0 JJ0 FF0 ww0)) args s 0 0 A) 11 [some (.ref (ga g 31)), some (.ref (ga g 11)), some (.int (nI n))] [] (hp g I1 J F1 w) := by
    intro fu
    induction fu with
    | zero => intro n p1 fl R1 I1 F1 hfu; exact absurd hfu (by omega)
    | succ fu ih =>
      intro n p1 fl R1 I1 F1 hfu hn hp1 hK1 okk hC1 hI hF1 hF0 hfl hch
      have G := itm_G (B := B) hp1 okk
      have g3 := G.2.2.1
      have g4 := G.2.2.2
      have hle := tkE_le (B := B) G.2.1
      have hls := tkS_le (B := B) G.2.1
      have h5 := tkK_5 B t (itmS B t R1 p1).2.2
      refine a_iload_n X dX3_parse_11 (i := 2) rfl rfl ?_
      refine a_bipush X dX3_parse_12 (v := nI 120) (by decide +kernel) ?_
      refine s_icmp_gtN X dX3_parse_14 (tgt := 66) (by decide) (by omega) (by omega) (fun hc14 => ?_) (fun hc14 => ?_)
      · skip
        omega
      · skip
        refine a_aload_n X dX3_parse_17 (i := 0) rfl rfl ?_
        refine a_aload_n X dX3_parse_18 (i := 1) rfl rfl ?_
        refine s_callV_X X dX3_parse_19 lk_X3_36 ko_31 rfl rfl (c_X3_takesItem (tpc_k hT (hI 32 (by decide)) hF0) hp1 hK1 okk hC1) ⟨Nat.le_of_ble_eq_true rfl, Nat.le_of_ble_eq_true rfl⟩ rfl rfl (Nat.le_of_ble_eq_true rfl) ⟨Nat.le_of_ble_eq_true rfl, Nat.le_of_ble_eq_true rfl⟩ (fun x2 I2 J2 F2 w2 hpo => ?_)
        obtain ⟨rfl, y1, y2, y3, y4, rfl, rfl, y7⟩ := hpo
        refine a_if_ne X dX3_parse_22 (tgt := 32) (by decide) (fun hc22 => ?_) (fun hc22 => ?_)
        · skip
          try simp only [bI_0, Bool.not_eq_false] at hc22
          refine a_aload_n X dX3_parse_32 (i := 0) rfl rfl ?_
          refine s_geti X dX3_parse_33 fl_X3_27 ko_31 rfl ?_
          rw [y7.2.2.1]
          refine a_if_ne X dX3_parse_36 (tgt := 41) (by decide) (fun hc36 => ?_) (fun hc36 => ?_)
          · skip
            have hz : ¬ tkK B t (itmS B t R1 p1).2.2 = 0 := fun q => hc36 (by rw [q]; rfl)
            refine a_aload_n X dX3_parse_41 (i := 0) rfl rfl ?_
            refine s_geti X dX3_parse_42 fl_X3_27 ko_31 rfl ?_
            rw [y7.2.2.1]
            refine a_iconst X dX3_parse_45 (v := nI 3) (by decide +kernel) ?_
            refine s_icmp_eqN X dX3_parse_46 (tgt := 56) (by decide) (by omega) (by omega) (fun hc46 => ?_) (fun hc46 => ?_)
            · skip
              refine a_aload_n X dX3_parse_56 (i := 0) rfl rfl ?_
              refine s_callV_Y X dX3_parse_57 lk_X3_33 ko_31 rfl rfl (c_X3_advance (p0 := tkE B t (itmS B t R1 p1).2.2) (tpc_k hT ((y2 32 (by decide)).trans (hI 32 (by decide))) (y4.trans hF0)) hle.2 y7.2.1) ⟨Nat.le_of_ble_eq_true rfl, Nat.le_of_ble_eq_true rfl⟩ rfl rfl (Nat.le_of_ble_eq_true rfl) ⟨Nat.le_of_ble_eq_true rfl, Nat.le_of_ble_eq_true rfl⟩ (fun I3 J3 F3 w3 hpo3 => ?_)
              obtain ⟨rfl, rfl, rfl, hF3, hK3⟩ := hpo3
              refine a_iinc X dX3_parse_60 rfl (v := nI (_ + 1)) (iincN _ 1) (by decide) rfl ?_
              refine a_goto X dX3_parse_63 (tgt := 11) (by decide) ?_
              have hgt := tkE_gt (B := B) G.2.1 (by omega)
              have g5 := g4 hc22
              exact ih (n + 1) (tkE B t (itmS B t R1 p1).2.2) (fl - 1) _ _ _ (by omega) (by omega) hle.2 hK3 G.1.1 (ch_frc y1 hF3 (by decide)) (fun Q hQ => (y2 Q hQ).trans (hI Q hQ)) (fun Q hQ h31 => (hF3.1 Q h31).trans ((y3 Q hQ h31).trans (hF1 Q hQ h31))) (hF3.2.trans (y4.trans hF0)) (by omega) ((show chpS B t (fl - 1) (itmS B t R1 p1).2.1 (tkE B t (itmS B t R1 p1).2.2) (n + 1 - 1) = chpS B t fl R1 p1 (n - 1) from by rw [chp_f3 (by omega) hc22 hc46, show n - 1 + 1 = n + 1 - 1 by omega]).trans hch)
            · skip
              refine a_iconst X dX3_parse_49 (v := (-1)) (by decide +kernel) ?_
              refine a_aload_n X dX3_parse_50 (i := 0) rfl rfl ?_
              refine s_geti X dX3_parse_51 fl_X3_21 ko_31 rfl ?_
              rw [y7.1]
              refine a_isub X dX3_parse_54 ?_
              refine a_iret X hA dX3_parse_55 ?_
              have e1 := hch.symm.trans (chp_f2 (by omega) hc22 hz hc46)
              refine ⟨_, _, _, _, _, rfl, rfl, ?_⟩
              rw [e1]
              exact ⟨by rw [if_neg Bool.false_ne_true], fun q => absurd q Bool.false_ne_true, fun Q hQ => (y2 Q hQ).trans (hI Q hQ), fun Q hQ h31 => (y3 Q hQ h31).trans (hF1 Q hQ h31), y4.trans hF0, rfl, rfl⟩
          · skip
            have hz := nI_z (by omega) hc36
            refine a_iload_n X dX3_parse_39 (i := 2) rfl rfl ?_
            refine a_iret X hA dX3_parse_40 ?_
            have e1 := hch.symm.trans (chp_f1 (by omega) hc22 hz)
            refine ⟨_, _, _, _, _, rfl, rfl, ?_⟩
            rw [e1]
            exact ⟨by rw [if_pos rfl, show n - 1 + 1 = n by omega], fun _ => y1, fun Q hQ => (y2 Q hQ).trans (hI Q hQ), fun Q hQ h31 => (y3 Q hQ h31).trans (hF1 Q hQ h31), y4.trans hF0, rfl, rfl⟩
        · skip
          try simp only [bI_0, Bool.not_eq_false] at hc22
          refine a_iconst X dX3_parse_25 (v := (-1)) (by decide +kernel) ?_
          refine a_aload_n X dX3_parse_26 (i := 0) rfl rfl ?_
          refine s_geti X dX3_parse_27 fl_X3_21 ko_31 rfl ?_
          rw [y7.1]
          refine a_isub X dX3_parse_30 ?_
          refine a_iret X hA dX3_parse_31 ?_
          have e1 := hch.symm.trans (chp_f0 (by omega) hc22)
          refine ⟨_, _, _, _, _, rfl, rfl, ?_⟩
          rw [e1]
          exact ⟨by rw [if_neg Bool.false_ne_true], fun q => absurd q Bool.false_ne_true, fun Q hQ => (y2 Q hQ).trans (hI Q hQ), fun Q hQ h31 => (y3 Q hQ h31).trans (hF1 Q hQ h31), y4.trans hF0, rfl, rfl⟩
  refine a_aload_n X dX3_parse_0 (i := 0) rfl rfl ?_
  refine a_iconst X dX3_parse_1 (v := nI 0) (by decide +kernel) ?_
  refine s_puti X dX3_parse_2 fp_X3_24 ko_31 rfl rfl rfl ?_
  refine a_aload_n X dX3_parse_5 (i := 0) rfl rfl ?_
  refine s_callV_Y X dX3_parse_6 lk_X3_33 ko_31 rfl rfl (c_X3_advance (p0 := 0) (tc_f hT (frc_u (frc_0 F) (by decide))) (by omega) (by rw [ug, if_pos rfl])) ⟨Nat.le_of_ble_eq_true rfl, Nat.le_of_ble_eq_true rfl⟩ rfl rfl (Nat.le_of_ble_eq_true rfl) ⟨Nat.le_of_ble_eq_true rfl, Nat.le_of_ble_eq_true rfl⟩ (fun I2 J2 F2 w2 hpo => ?_)
  obtain ⟨rfl, rfl, rfl, hF2, hK2⟩ := hpo
  refine a_iconst X dX3_parse_9 (v := nI 1) (by decide +kernel) ?_
  refine a_istore_n X dX3_parse_10 (i := 2) rfl (by decide) rfl ?_
  exact L11 (t + 1) 1 0 (t + 1) R _ _ (by omega) (by omega) (by omega) hK2 ok (ch_frc hC (frc_t (frc_u (frc_0 F) (by decide)) hF2) (by decide)) (fun _ _ => rfl) (fun Q _ h31 => (frc_t (frc_u (frc_0 F) (by decide)) hF2).1 Q h31) (frc_t (frc_u (frc_0 F) (by decide)) hF2).2 (by omega) rfl
set_option maxRecDepth 100000 in
set_option maxHeartbeats 4000000 in
theorem c_X4_chapel {l : Launch} {g : GG} {I : TI} {J : TJ} {F : TI} {w : Int64} {B : Nat → Nat} {t : Nat} (hT : TpC I F B t) {R : Nat → Nat} (ok : okR R) (hC : Ch I F 1 R) : RV l g mX4_chapel [.ref (ga g 0)] I J F w (ChC I J F w (sp_chapel R B t)) := by
  have h120 := hT.2.1
  have hcn := chp_n (B := B) (t := t) (t + 1) (p := 0) (n := 0) (by omega) ok
  have hcg := chp_G (B := B) (t := t) (t + 1) (p := 0) (n := 0) (by omega) ok
  refine ct_start (M := mX4_chapel) (by decide +kernel) (Nat.le_of_ble_eq_true rfl) ?_
  intro p e s m args below meth c A X hA
  have X : AX p s m args meth c g A cX4_chapel 2 RX4 (Cond.code yX4_chapel cX4_chapel 2 (some .int)) (some .int) := X
  show AW p l e (rmM 11 237) s m args below meth c g A 2 0 0 (MQ below (CQ g (hp g I J F w) s.heap.size (fun vv0 hh0 => ∃ xx0 II0 JJ0 FF0 ww0, vv0 = some xx0 ∧ hh0 = hp g II0 JJ0 FF0 ww0 ∧ (ChC I J F w (sp_chapel R B t)) xx0 II0 JJ0 FF0 ww0)) args s 0 0 A) 0 [some (.ref (ga g 0)), none] [] (hp g I J F w)
  refine a_aload_n X dX4_chapel_0 (i := 0) rfl rfl ?_
  refine s_getr X dX4_chapel_1 fl_X4_16 ko_0 rfl ?_
  refine a_aload_n X dX4_chapel_4 (i := 0) rfl rfl ?_
  refine s_getr X dX4_chapel_5 fl_X4_10 ko_0 rfl ?_
  refine s_callV_Y X dX4_chapel_8 lk_X4_155 ko_11 rfl rfl (c_X0_become (b := 11) (b2 := 1) (Or.inr (Or.inl rfl)) (Or.inl rfl) (by decide) ok hC) ⟨Nat.le_of_ble_eq_true rfl, Nat.le_of_ble_eq_true rfl⟩ rfl rfl (Nat.le_of_ble_eq_true rfl) ⟨Nat.le_of_ble_eq_true rfl, Nat.le_of_ble_eq_true rfl⟩ (fun I2 J2 F2 w2 hpo => ?_)
  have q2 := hpo
  obtain ⟨-, -, rfl, rfl⟩ := hpo
  refine a_aload_n X dX4_chapel_11 (i := 0) rfl rfl ?_
  refine s_getr X dX4_chapel_12 fl_X4_29 ko_0 rfl ?_
  refine a_aload_n X dX4_chapel_15 (i := 0) rfl rfl ?_
  refine s_getr X dX4_chapel_16 fl_X4_16 ko_0 rfl ?_
  refine s_callV_X X dX4_chapel_19 lk_X4_186 ko_31 rfl rfl (c_X3_parse (tpc_k hT (q2.2.1 32 (by decide)).1 (by rw [(q2.2.1 31 (by decide)).2])) ok q2.1) ⟨Nat.le_of_ble_eq_true rfl, Nat.le_of_ble_eq_true rfl⟩ rfl rfl (Nat.le_of_ble_eq_true rfl) ⟨Nat.le_of_ble_eq_true rfl, Nat.le_of_ble_eq_true rfl⟩ (fun x3 I3 J3 F3 w3 hpo3 => ?_)
  obtain ⟨rfl, y1, y2, y3, y4, rfl, rfl⟩ := hpo3
  refine a_istore_n X dX4_chapel_22 (i := 1) rfl (by decide) rfl ?_
  refine a_aload_n X dX4_chapel_23 (i := 0) rfl rfl ?_
  refine s_getr X dX4_chapel_24 fl_X4_29 ko_0 rfl ?_
  refine a_iconst X dX4_chapel_27 (v := nI 0) (by decide +kernel) ?_
  refine s_puti X dX4_chapel_28 fp_X4_180 ko_31 rfl rfl rfl ?_
  refine a_iload_n X dX4_chapel_31 (i := 1) rfl rfl ?_
  refine a_if_lt X dX4_chapel_32 (tgt := 46) (by decide) (fun hc32 => ?_) (fun hc32 => ?_)
  · skip
    refine a_iload_n X dX4_chapel_46 (i := 1) rfl rfl ?_
    refine a_iret X hA dX4_chapel_47 ?_
    have hq : (chpS B t (t + 1) R 0 0).1 = false := (by
      cases hb : (chpS B t (t + 1) R 0 0).1 with
      | false => rfl
      | true => rw [if_pos hb] at hc32; exact absurd hc32 (nI_pos (by omega)))
    exact ⟨_, _, _, _, _, rfl, rfl, by rw [sp_chapel, if_neg (by rw [hq]; decide), if_neg (by rw [hq]; decide)], by rw [sp_chapel, if_neg (by rw [hq]; decide)]; exact ch_31 (ch_cc (ch_keep hC q2.2.1 (by omega)) y2 y3 (by decide) (by decide)), fun Q hQ => (y2 Q (by omega)).trans (q2.2.1 Q (by omega)).1, fun Q hQ h31 => by rw [up_n _ _ h31]; exact (y3 Q (by omega) h31).trans (q2.2.1 Q (by omega)).2, by rw [ug, if_pos rfl], rfl, rfl⟩
  · skip
    have hq : (chpS B t (t + 1) R 0 0).1 = true := by
      cases hb : (chpS B t (t + 1) R 0 0).1 with
      | true => rfl
      | false => rw [if_neg (by rw [hb]; decide)] at hc32; exact absurd (m1_neg (by omega)) hc32
    refine a_aload_n X dX4_chapel_35 (i := 0) rfl rfl ?_
    refine s_getr X dX4_chapel_36 fl_X4_10 ko_0 rfl ?_
    refine a_aload_n X dX4_chapel_39 (i := 0) rfl rfl ?_
    refine s_getr X dX4_chapel_40 fl_X4_16 ko_0 rfl ?_
    refine s_callV_Y X dX4_chapel_43 lk_X4_155 ko_1 rfl rfl (c_X0_become (b := 1) (b2 := 11) (Or.inl rfl) (Or.inr (Or.inl rfl)) (by decide) (hcg hq).1 (ch_31 (y1 hq))) ⟨Nat.le_of_ble_eq_true rfl, Nat.le_of_ble_eq_true rfl⟩ rfl rfl (Nat.le_of_ble_eq_true rfl) ⟨Nat.le_of_ble_eq_true rfl, Nat.le_of_ble_eq_true rfl⟩ (fun I4 J4 F4 w4 hpo4 => ?_)
    have z := hpo4
    obtain ⟨-, -, rfl, rfl⟩ := hpo4
    refine a_iload_n X dX4_chapel_46 (i := 1) rfl rfl ?_
    refine a_iret X hA dX4_chapel_47 ?_
    exact ⟨_, _, _, _, _, rfl, rfl, by rw [sp_chapel, if_pos hq, if_pos hq], by rw [sp_chapel, if_pos hq]; exact z.1, fun Q hQ => (z.2.1 Q (by omega)).1.trans ((y2 Q (by omega)).trans (q2.2.1 Q (by omega)).1), fun Q hQ h31 => (z.2.1 Q (by omega)).2.trans (by rw [up_n _ _ h31]; exact (y3 Q (by omega) h31).trans (q2.2.1 Q (by omega)).2), by rw [(z.2.1 31 (by decide)).2, ug, if_pos rfl], rfl, rfl⟩
