set_option maxRecDepth 100000 in
set_option maxHeartbeats 4000000 in
theorem c_X4_trialGoesAs {l : Launch} {g : GG} {I : TI} {J : TJ} {F : TI} {w : Int64} {Rt : Nat → Nat} (okt : okR Rt) (ht : Ch I F 11 Rt) {a b z : Nat} (ha : a < 4) (hb : b < Rt 1) (hN : Rt 0 < 1000000) (hz : F (34 + 2 * a) 1 = nI z ∧ z ≤ 40) : RV l g mX4_trialGoesAs [.ref (ga g 0), .ref (ga g (34 + 2 * a)), .int (nI b)] I J F w (fun x I2 J2 F2 w2 => x = .int (bI (allB (soF Rt b (J (35 + 2 * a))) z)) ∧ ∃ R2, ChP I J F w 11 R2 I2 J2 F2 w2) := by
  have hn10 := okt.1
  refine ct_start (M := mX4_trialGoesAs) (by decide +kernel) (Nat.le_of_ble_eq_true rfl) ?_
  intro p e s m args below meth c A X hA
  have X : AX p s m args meth c g A cX4_trialGoesAs 4 RX4 (Cond.code yX4_trialGoesAs cX4_trialGoesAs 4 (some .boolean)) (some .boolean) := X
  show AW p l e (rmM 5 113) s m args below meth c g A 4 0 0 (MQ below (CQ g (hp g I J F w) s.heap.size (fun vv0 hh0 => ∃ xx0 II0 JJ0 FF0 ww0, vv0 = some xx0 ∧ hh0 = hp g II0 JJ0 FF0 ww0 ∧ (fun x I2 J2 F2 w2 => x = .int (bI (allB (soF Rt b (J (35 + 2 * a))) z)) ∧ ∃ R2, ChP I J F w 11 R2 I2 J2 F2 w2) xx0 II0 JJ0 FF0 ww0)) args s 0 0 A) 0 [some (.ref (ga g 0)), some (.ref (ga g (34 + 2 * a))), some (.int (nI b)), none] [] (hp g I J F w)
  have L2 : ∀ (fu : Nat) (k : Nat) (I1 : TI) (F1 : TI), 50 - k < fu → (k ≤ z) → (allB (soF Rt b (J (35 + 2 * a))) k = true) → (ChP I J F w 11 (pasN Rt k) I1 J F1 w) → AW p l e (rmM 5 113) s m args below meth c g A 4 0 0 (MQ below (CQ g (hp g I J F w) s.heap.size (fun vv0 hh0 => ∃ xx0 II0 JJ0 FF0 ww0, vv0 = some xx0 ∧ hh0 = hp g II0 JJ0 FF0 ww0 ∧ (fun x I2 J2 F2 w2 => x = .int (bI (allB (soF Rt b (J (35 + 2 * a))) z)) ∧ ∃ R2, ChP I J F w 11 R2 I2 J2 F2 w2) xx0 II0 JJ0 FF0 ww0)) args s 0 0 A) 2 [some (.ref (ga g 0)), some (.ref (ga g (34 + 2 * a))), some (.int (nI b)), some (.int (nI k))] [] (hp g I1 J F1 w) := by
    intro fu
    induction fu with
    | zero => intro k I1 F1 hfu; exact absurd hfu (by omega)
    | succ fu ih =>
      intro k I1 F1 hfu hk hal K
      have t4 : I1 16 b = nI (pasN Rt k (2 + 6 * b + 4)) := (K.1.2.2.1 b (by rw [pas_1]; exact hb)).2.2.2.2.1
      refine a_iload_n X dX4_trialGoesAs_2 (i := 3) rfl rfl ?_
      refine a_aload_n X dX4_trialGoesAs_3 (i := 1) rfl rfl ?_
      refine s_geti X dX4_trialGoesAs_4 fl_X4_197 (ko_sh ha) rfl ?_
      rw [(K.2.1 (34 + 2 * a) (by omega)).2, hz.1]
      refine s_icmp_geN X dX4_trialGoesAs_7 (tgt := 45) (by decide) (by omega) (by omega) (fun hc7 => ?_) (fun hc7 => ?_)
      · skip
        refine a_iconst X dX4_trialGoesAs_45 (v := nI 1) (by decide +kernel) ?_
        refine a_zret X hA dX4_trialGoesAs_46 (by first | exact nar_bI _ | decide +kernel) ?_
        exact ⟨_, _, _, _, _, rfl, rfl, by rw [show z = k by omega, hal]; rfl, _, K⟩
      · skip
        refine a_aload_n X dX4_trialGoesAs_10 (i := 1) rfl rfl ?_
        refine s_getr X dX4_trialGoesAs_11 fl_X4_202 (ko_sh ha) rfl ?_
        refine a_iload_n X dX4_trialGoesAs_14 (i := 3) rfl rfl ?_
        refine s_lld X dX4_trialGoesAs_15 (kj_sh ha) (by omega) (by decide) ?_
        refine a_aload_n X dX4_trialGoesAs_16 (i := 0) rfl rfl ?_
        refine s_getr X dX4_trialGoesAs_17 fl_X4_16 ko_0 rfl ?_
        refine s_getr X dX4_trialGoesAs_20 fl_X4_115 ko_11 rfl ?_
        refine a_iload_n X dX4_trialGoesAs_23 (i := 2) rfl rfl ?_
        refine s_ild X dX4_trialGoesAs_24 ki_16 (by omega) (by decide) ?_
        rw [t4]
        refine a_i2l X dX4_trialGoesAs_25 rfl ?_
        refine a_lcmp X dX4_trialGoesAs_26 ?_
        refine a_if_eq X dX4_trialGoesAs_27 (tgt := 32) (by decide) (fun hc27 => ?_) (fun hc27 => ?_)
        · skip
          refine a_aload_n X dX4_trialGoesAs_32 (i := 0) rfl rfl ?_
          refine s_getr X dX4_trialGoesAs_33 fl_X4_16 ko_0 rfl ?_
          refine s_callV_Y X dX4_trialGoesAs_36 lk_X4_162 ko_11 rfl rfl (c_X0_passNight (b := 11) (Or.inr (Or.inl rfl)) (okR_pas okt k) K.1 (by rw [pas_0]; omega)) ⟨Nat.le_of_ble_eq_true rfl, Nat.le_of_ble_eq_true rfl⟩ rfl rfl (Nat.le_of_ble_eq_true rfl) ⟨Nat.le_of_ble_eq_true rfl, Nat.le_of_ble_eq_true rfl⟩ (fun I2 J2 F2 w2 hpo => ?_)
          refine a_iinc X dX4_trialGoesAs_39 rfl (v := nI (_ + 1)) (iincN _ 1) (by decide) rfl ?_
          refine a_goto X dX4_trialGoesAs_42 (tgt := 2) (by decide) ?_
          have K2 := chp_r K hpo
          obtain ⟨-, -, eJ, ew⟩ := hpo
          have eJ := eJ.symm
          have ew := ew.symm
          subst eJ; subst ew
          exact ih (k + 1) I2 F2 (by omega) (by omega) (by rw [allB, hal]; simp only [soF, Bool.true_and, decide_eq_true_eq]; exact (lg_cmp_eq _ _).mp hc27) K2
        · skip
          refine a_iconst X dX4_trialGoesAs_30 (v := nI 0) (by decide +kernel) ?_
          refine a_zret X hA dX4_trialGoesAs_31 (by first | exact nar_bI _ | decide +kernel) ?_
          have hf : allB (soF Rt b (J (35 + 2 * a))) (k + 1) = false := by rw [allB, hal]; simp only [soF, Bool.true_and, decide_eq_false_iff_not]; exact fun q => hc27 ((lg_cmp_eq _ _).mpr q)
          exact ⟨_, _, _, _, _, rfl, rfl, by rw [all_f hf z (by omega)]; rfl, _, K⟩
  refine a_iconst X dX4_trialGoesAs_0 (v := nI 0) (by decide +kernel) ?_
  refine a_istore_n X dX4_trialGoesAs_1 (i := 3) rfl (by decide) rfl ?_
  exact L2 51 0 I F (by omega) (Nat.zero_le _) rfl ⟨ht, fun _ _ => ⟨rfl, rfl⟩, rfl, rfl⟩
