set_option maxRecDepth 100000 in
set_option maxHeartbeats 4000000 in
theorem c_X5_wantOne {l : Launch} {g : GG} {I : TI} {J : TJ} {F : TI} {w : Int64} {B : Nat → Nat} {t : Nat} (hT : TpM I F B t) {p0 : Nat} (hp0 : p0 ≤ t) (hK : TkM B t p0 F w) {R : Nat → Nat} (hR : I 44 = nr R) (ok : okR R) {k : Nat} : VV l g mX5_wantOne [.ref (ga g 43), .int (nI k)] I J F w (ItM I J F B t (memS B t R p0 k)) := by
  have hE1 := tkE_le (B := B) hp0
  have hE2 := tkE_le (B := B) hE1.2
  have hE3 := tkE_le (B := B) hE2.2
  have h44 : I 44 1 = nI (R 1) := by rw [hR]; rfl
  have hn := ok.1
  refine ct_start (M := mX5_wantOne) (by decide +kernel) (Nat.le_of_ble_eq_true rfl) ?_
  intro p e s m args below meth c A X hA
  have X : AX p s m args meth c g A cX5_wantOne 5 RX5 (Cond.code yX5_wantOne cX5_wantOne 5 none) none := X
  show AW p l e (rmM 5 111) s m args below meth c g A 5 0 0 (MQ below (CQ g (hp g I J F w) s.heap.size (fun vv0 hh0 => ∃ II0 JJ0 FF0 ww0, vv0 = none ∧ hh0 = hp g II0 JJ0 FF0 ww0 ∧ (ItM I J F B t (memS B t R p0 k)) II0 JJ0 FF0 ww0)) args s 0 0 A) 0 [some (.ref (ga g 43)), some (.int (nI k)), none, none, none] [] (hp g I J F w)
  refine a_aload_n X dX5_wantOne_0 (i := 0) rfl rfl ?_
  refine a_aload_n X dX5_wantOne_1 (i := 0) rfl rfl ?_
  refine s_getr X dX5_wantOne_2 fl_X5_7 ko_43 rfl ?_
  refine a_iconst X dX5_wantOne_5 (v := nI 1) (by decide +kernel) ?_
  refine s_ild X dX5_wantOne_6 ki_44 (by omega) (by decide) ?_
  rw [h44]
  refine a_bipush X dX5_wantOne_7 (v := nI 10) (by decide +kernel) ?_
  refine s_icmp_geN X dX5_wantOne_9 (tgt := 16) (by decide) (by omega) (by omega) (fun hc9 => ?_) (fun hc9 => ?_)
  · skip
    refine a_iconst X dX5_wantOne_16 (v := nI 0) (by decide +kernel) ?_
    refine s_puti X dX5_wantOne_17 fp_X5_224 ko_43 rfl (by decide +kernel) (by decide +kernel) ?_
    refine a_aload_n X dX5_wantOne_20 (i := 0) rfl rfl ?_
    refine s_geti X dX5_wantOne_21 fl_X5_224 ko_43 rfl ?_
    rw [ug, if_pos rfl]
    refine a_if_ne X dX5_wantOne_24 (tgt := 28) (by decide) (fun hc24 => ?_) (fun hc24 => ?_)
    · skip
      exact absurd (by decide +kernel) hc24
    · skip
      refine a_vret X hA dX5_wantOne_27 ?_
      have e1 : memS B t R p0 k = (false, R, p0) := by rw [memS, if_pos (by omega)]
      rw [e1]
      exact ⟨_, _, _, _, rfl, rfl, hR, fun _ _ => rfl, rfl, frf_u (frf_0 F) (by decide), by rw [ug, if_pos rfl]; rfl, tk_g hK⟩
  · skip
    refine a_iconst X dX5_wantOne_12 (v := nI 1) (by decide +kernel) ?_
    refine a_goto X dX5_wantOne_13 (tgt := 17) (by decide) ?_
    refine s_puti X dX5_wantOne_17 fp_X5_224 ko_43 rfl (by decide +kernel) (by decide +kernel) ?_
    refine a_aload_n X dX5_wantOne_20 (i := 0) rfl rfl ?_
    refine s_geti X dX5_wantOne_21 fl_X5_224 ko_43 rfl ?_
    rw [ug, if_pos rfl]
    refine a_if_ne X dX5_wantOne_24 (tgt := 28) (by decide) (fun hc24 => ?_) (fun hc24 => ?_)
    · skip
      refine a_aload_n X dX5_wantOne_28 (i := 0) rfl rfl ?_
      refine s_callV_Y X dX5_wantOne_29 lk_X5_228 ko_43 rfl rfl (c_X5_advance (p0 := tkE B t p0) (tp_f hT (frf_u (frf_0 F) (by decide))) hE1.2 (by simp [ug, hK.2.1])) ⟨Nat.le_of_ble_eq_true rfl, Nat.le_of_ble_eq_true rfl⟩ rfl rfl (Nat.le_of_ble_eq_true rfl) ⟨Nat.le_of_ble_eq_true rfl, Nat.le_of_ble_eq_true rfl⟩ (fun I2 J2 F2 w2 hpo => ?_)
      obtain ⟨rfl, rfl, hF2, hK2⟩ := hpo
      have hfr2 : FrF F F2 := frf_t (frf_u (frf_0 F) (by decide)) hF2.1
      have hT2 := tp_f hT hfr2
      have hg2 : F2 43 13 = nI 1 := by rw [hF2.2, ug, if_pos rfl]
      refine a_aload_n X dX5_wantOne_32 (i := 0) rfl rfl ?_
      refine s_callV_X X dX5_wantOne_33 lk_X5_234 ko_43 rfl rfl (c_X5_wantSeat hT2 hE1.2 hK2 hR ok hg2) ⟨Nat.le_of_ble_eq_true rfl, Nat.le_of_ble_eq_true rfl⟩ rfl rfl (Nat.le_of_ble_eq_true rfl) ⟨Nat.le_of_ble_eq_true rfl, Nat.le_of_ble_eq_true rfl⟩ (fun x3 I3 J3 F3 w3 hpo3 => ?_)
      obtain ⟨rfl, rfl, rfl, hF3, hg3, hK3⟩ := hpo3
      refine a_istore_n X dX5_wantOne_36 (i := 2) rfl (by decide) rfl ?_
      refine a_aload_n X dX5_wantOne_37 (i := 0) rfl rfl ?_
      refine s_geti X dX5_wantOne_38 fl_X5_224 ko_43 rfl ?_
      rw [hg3]
      refine a_if_eq X dX5_wantOne_41 (tgt := 54) (by decide) (fun hc41 => ?_) (fun hc41 => ?_)
      · skip
        try simp only [bI_0, Bool.not_eq_false] at hc41
        rw [if_neg (by rw [hc41]; decide)] at hK3
        refine a_iconst X dX5_wantOne_54 (v := nI 0) (by decide +kernel) ?_
        refine a_istore_n X dX5_wantOne_55 (i := 3) rfl (by decide) rfl ?_
        refine a_aload_n X dX5_wantOne_56 (i := 0) rfl rfl ?_
        refine a_ldc2 X dX5_wantOne_57 kc_X5_237 ?_
        refine a_iconst X dX5_wantOne_60 (v := nI 1) (by decide +kernel) ?_
        refine a_bipush X dX5_wantOne_61 (v := nI 9) (by decide +kernel) ?_
        refine a_iconst X dX5_wantOne_63 (v := nI 5) (by decide +kernel) ?_
        refine s_callV_R X dX5_wantOne_64 lk_X5_239 ko_43 rfl rfl (c_X5_mayWant_f (by rw [hg3, hc41]; rfl)) ⟨Nat.le_of_ble_eq_true rfl, Nat.le_of_ble_eq_true rfl⟩ rfl rfl (Nat.le_of_ble_eq_true rfl) ⟨Nat.le_of_ble_eq_true rfl, Nat.le_of_ble_eq_true rfl⟩ ?_
        refine a_istore X dX5_wantOne_67 (by decide) rfl ?_
        refine a_aload_n X dX5_wantOne_69 (i := 0) rfl rfl ?_
        refine s_geti X dX5_wantOne_70 fl_X5_224 ko_43 rfl ?_
        rw [hg3, hc41]
        refine a_if_eq X dX5_wantOne_73 (tgt := 85) (by decide) (fun hc73 => ?_) (fun hc73 => ?_)
        · skip
          refine a_vret X hA dX5_wantOne_85 ?_
          have e1 : memS B t R p0 k = (false, R, (tkE B t p0)) := by rw [memS, if_neg (by omega), if_neg (fun q => by simp [q.1, q.2] at hc41)]
          rw [e1]
          exact ⟨_, _, _, _, rfl, rfl, hR, fun _ _ => rfl, rfl, frf_t hfr2 hF3, by rw [hg3, hc41], hK3⟩
        · skip
          exact absurd (by decide +kernel) hc73
      · skip
        try simp only [bI_0, Bool.not_eq_false] at hc41
        rw [if_pos hc41] at hK3
        rw [hc41] at hg3
        simp only [Bool.and_eq_true, decide_eq_true_eq] at hc41
        have hv1 := wnV hK2 (by decide) hc41.1
        rw [hv1.1]
        refine a_aload_n X dX5_wantOne_44 (i := 0) rfl rfl ?_
        refine a_iconst X dX5_wantOne_45 (v := nI 0) (by decide +kernel) ?_
        refine a_bipush X dX5_wantOne_46 (v := nI 9) (by decide +kernel) ?_
        refine s_callV_X X dX5_wantOne_48 lk_X5_231 ko_43 rfl rfl (c_X5_wantNumber (tp_f hT2 hF3) hE2.2 hK3 (gd := true) (wn hK3 (by decide) (by decide)) hg3) ⟨Nat.le_of_ble_eq_true rfl, Nat.le_of_ble_eq_true rfl⟩ rfl rfl (Nat.le_of_ble_eq_true rfl) ⟨Nat.le_of_ble_eq_true rfl, Nat.le_of_ble_eq_true rfl⟩ (fun x4 I4 J4 F4 w4 hpo4 => ?_)
        obtain ⟨rfl, rfl, rfl, hF4, hg4, hK4⟩ := hpo4
        rw [Bool.true_and] at hg4 hK4
        refine a_goto X dX5_wantOne_51 (tgt := 55) (by decide) ?_
        refine a_istore_n X dX5_wantOne_55 (i := 3) rfl (by decide) rfl ?_
        rcases Bool.eq_false_or_eq_true (txN B t (tkE B t (tkE B t p0)) 0 10) with hcN | hcN
        · skip
          rw [hcN] at hg4 hK4
          rw [if_pos rfl] at hK4
          have hv2 := wnV hK3 (by decide) hcN
          rw [hv2.1]
          refine a_aload_n X dX5_wantOne_56 (i := 0) rfl rfl ?_
          refine a_ldc2 X dX5_wantOne_57 kc_X5_237 ?_
          refine a_iconst X dX5_wantOne_60 (v := nI 1) (by decide +kernel) ?_
          refine a_bipush X dX5_wantOne_61 (v := nI 9) (by decide +kernel) ?_
          refine a_iconst X dX5_wantOne_63 (v := nI 5) (by decide +kernel) ?_
          refine s_callV_X X dX5_wantOne_64 lk_X5_239 ko_43 rfl rfl (c_X5_mayWant (tp_f hT2 (frf_t hF3 hF4)) hE3.2 hK4 (by rw [hg4]; rfl) (by decide +kernel)) ⟨Nat.le_of_ble_eq_true rfl, Nat.le_of_ble_eq_true rfl⟩ rfl rfl (Nat.le_of_ble_eq_true rfl) ⟨Nat.le_of_ble_eq_true rfl, Nat.le_of_ble_eq_true rfl⟩ (fun x5 I5 J5 F5 w5 hpo5 => ?_)
          obtain ⟨y5, rfl, rfl, rfl, hF5, hg5, hK5, hy5⟩ := hpo5
          refine a_istore X dX5_wantOne_67 (by decide) rfl ?_
          refine a_aload_n X dX5_wantOne_69 (i := 0) rfl rfl ?_
          refine s_geti X dX5_wantOne_70 fl_X5_224 ko_43 rfl ?_
          rw [hg5]
          refine a_if_eq X dX5_wantOne_73 (tgt := 85) (by decide) (fun hc73 => ?_) (fun hc73 => ?_)
          · skip
            try simp only [bI_0, Bool.not_eq_false] at hc73
            refine a_vret X hA dX5_wantOne_85 ?_
            have e1 : memS B t R p0 k = (false, R, (mwS B t (tkE B t (tkE B t (tkE B t p0)))).2.2) := by rw [memS, if_neg (by omega), if_pos hc41, if_pos hcN, if_neg (by rw [hc73]; decide)]
            rw [e1]
            exact ⟨_, _, _, _, rfl, rfl, hR, fun _ _ => rfl, rfl, frf_t (frf_t (frf_t hfr2 hF3) hF4) hF5, by rw [hg5, hc73], hK5⟩
          · skip
            try simp only [bI_0, Bool.not_eq_false] at hc73
            rw [hy5 hc73]
            refine a_aload_n X dX5_wantOne_76 (i := 0) rfl rfl ?_
            refine a_iload_n X dX5_wantOne_77 (i := 1) rfl rfl ?_
            refine a_iload_n X dX5_wantOne_78 (i := 2) rfl rfl ?_
            refine a_iload_n X dX5_wantOne_79 (i := 3) rfl rfl ?_
            refine a_iload X dX5_wantOne_80 rfl ?_
            refine s_callV_V X dX5_wantOne_82 lk_X5_120 ko_43 rfl rfl (c_X5_adds hR ok (by omega)) ⟨Nat.le_of_ble_eq_true rfl, Nat.le_of_ble_eq_true rfl⟩ rfl rfl (Nat.le_of_ble_eq_true rfl) ⟨Nat.le_of_ble_eq_true rfl, Nat.le_of_ble_eq_true rfl⟩ ?_
            refine a_vret X hA dX5_wantOne_85 ?_
            have e1 : memS B t R p0 k = (true, addN R k (tkV B t (tkE B t p0)) (tkV B t (tkE B t (tkE B t p0))) (mwS B t (tkE B t (tkE B t (tkE B t p0)))).2.1, (mwS B t (tkE B t (tkE B t (tkE B t p0)))).2.2) := by rw [memS, if_neg (by omega), if_pos hc41, if_pos hcN, if_pos hc73]
            rw [e1]
            exact ⟨_, _, _, _, rfl, rfl, up_s _ _ _, fun P hP => up_n _ _ hP, rfl, frf_t (frf_t (frf_t hfr2 hF3) hF4) hF5, by rw [hg5, hc73], hK5⟩
        · skip
          rw [hcN] at hg4 hK4
          rw [if_neg (by decide)] at hK4
          refine a_aload_n X dX5_wantOne_56 (i := 0) rfl rfl ?_
          refine a_ldc2 X dX5_wantOne_57 kc_X5_237 ?_
          refine a_iconst X dX5_wantOne_60 (v := nI 1) (by decide +kernel) ?_
          refine a_bipush X dX5_wantOne_61 (v := nI 9) (by decide +kernel) ?_
          refine a_iconst X dX5_wantOne_63 (v := nI 5) (by decide +kernel) ?_
          refine s_callV_R X dX5_wantOne_64 lk_X5_239 ko_43 rfl rfl (c_X5_mayWant_f (by rw [hg4]; rfl)) ⟨Nat.le_of_ble_eq_true rfl, Nat.le_of_ble_eq_true rfl⟩ rfl rfl (Nat.le_of_ble_eq_true rfl) ⟨Nat.le_of_ble_eq_true rfl, Nat.le_of_ble_eq_true rfl⟩ ?_
          refine a_istore X dX5_wantOne_67 (by decide) rfl ?_
          refine a_aload_n X dX5_wantOne_69 (i := 0) rfl rfl ?_
          refine s_geti X dX5_wantOne_70 fl_X5_224 ko_43 rfl ?_
          rw [hg4]
          refine a_if_eq X dX5_wantOne_73 (tgt := 85) (by decide) (fun hc73 => ?_) (fun hc73 => ?_)
          · skip
            refine a_vret X hA dX5_wantOne_85 ?_
            have e1 : memS B t R p0 k = (false, R, (tkE B t (tkE B t p0))) := by rw [memS, if_neg (by omega), if_pos hc41, if_neg (by rw [hcN]; decide)]
            rw [e1]
            exact ⟨_, _, _, _, rfl, rfl, hR, fun _ _ => rfl, rfl, frf_t (frf_t hfr2 hF3) hF4, hg4, hK4⟩
          · skip
            exact absurd (by decide +kernel) hc73
    · skip
      exact absurd hc24 (by decide +kernel)
set_option maxRecDepth 100000 in
set_option maxHeartbeats 4000000 in
theorem c_X5_wantKnowing {l : Launch} {g : GG} {I : TI} {J : TJ} {F : TI} {w : Int64} {B : Nat → Nat} {t : Nat} (hT : TpM I F B t) {p0 : Nat} (hp0 : p0 ≤ t) (hK : TkM B t p0 F w) {R : Nat → Nat} (hR : I 44 = nr R) (ok : okR R) (hg : F 43 13 = nI 1) : VV l g mX5_wantKnowing [.ref (ga g 43)] I J F w (ItM I J F B t (knwS B t R p0)) := by
  have hE1 := tkE_le (B := B) hp0
  have hE2 := tkE_le (B := B) hE1.2
  have hE3 := tkE_le (B := B) hE2.2
  have h44 : I 44 1 = nI (R 1) := by rw [hR]; rfl
  have hn := ok.1
  refine ct_start (M := mX5_wantKnowing) (by decide +kernel) (Nat.le_of_ble_eq_true rfl) ?_
  intro p e s m args below meth c A X hA
  have X : AX p s m args meth c g A cX5_wantKnowing 3 RX5 (Cond.code yX5_wantKnowing cX5_wantKnowing 3 none) none := X
  show AW p l e (rmM 4 86) s m args below meth c g A 3 0 0 (MQ below (CQ g (hp g I J F w) s.heap.size (fun vv0 hh0 => ∃ II0 JJ0 FF0 ww0, vv0 = none ∧ hh0 = hp g II0 JJ0 FF0 ww0 ∧ (ItM I J F B t (knwS B t R p0)) II0 JJ0 FF0 ww0)) args s 0 0 A) 0 [some (.ref (ga g 43)), none, none] [] (hp g I J F w)
  refine a_aload_n X dX5_wantKnowing_0 (i := 0) rfl rfl ?_
  refine s_callV_Y X dX5_wantKnowing_1 lk_X5_228 ko_43 rfl rfl (c_X5_advance (p0 := tkE B t p0) hT hE1.2 hK.2.1) ⟨Nat.le_of_ble_eq_true rfl, Nat.le_of_ble_eq_true rfl⟩ rfl rfl (Nat.le_of_ble_eq_true rfl) ⟨Nat.le_of_ble_eq_true rfl, Nat.le_of_ble_eq_true rfl⟩ (fun I2 J2 F2 w2 hpo => ?_)
  obtain ⟨rfl, rfl, hF2, hK2⟩ := hpo
  refine a_aload_n X dX5_wantKnowing_4 (i := 0) rfl rfl ?_
  refine a_iconst X dX5_wantKnowing_5 (v := nI 0) (by decide +kernel) ?_
  refine a_aload_n X dX5_wantKnowing_6 (i := 0) rfl rfl ?_
  refine s_getr X dX5_wantKnowing_7 fl_X5_7 ko_43 rfl ?_
  refine a_iconst X dX5_wantKnowing_10 (v := nI 1) (by decide +kernel) ?_
  refine s_ild X dX5_wantKnowing_11 ki_44 (by omega) (by decide) ?_
  rw [h44]
  refine a_iconst X dX5_wantKnowing_12 (v := nI 1) (by decide +kernel) ?_
  refine a_isub X dX5_wantKnowing_13 ?_
  refine s_callV_X X dX5_wantKnowing_14 lk_X5_231 ko_43 rfl rfl (c_X5_wantNumber (tp_f hT hF2.1) hE1.2 hK2 (gd := true) (wnM hK2 ok.1) (by rw [hF2.2, hg]; rfl)) ⟨Nat.le_of_ble_eq_true rfl, Nat.le_of_ble_eq_true rfl⟩ rfl rfl (Nat.le_of_ble_eq_true rfl) ⟨Nat.le_of_ble_eq_true rfl, Nat.le_of_ble_eq_true rfl⟩ (fun x3 I3 J3 F3 w3 hpo3 => ?_)
  obtain ⟨rfl, rfl, rfl, hF3, hg3, hK3⟩ := hpo3
  rw [Bool.true_and] at hg3 hK3
  refine a_istore_n X dX5_wantKnowing_17 (i := 1) rfl (by decide) rfl ?_
  refine a_aload_n X dX5_wantKnowing_18 (i := 0) rfl rfl ?_
  refine s_geti X dX5_wantKnowing_19 fl_X5_224 ko_43 rfl ?_
  rw [hg3]
  refine a_if_eq X dX5_wantKnowing_22 (tgt := 35) (by decide) (fun hc22 => ?_) (fun hc22 => ?_)
  · skip
    try simp only [bI_0, Bool.not_eq_false] at hc22
    refine a_iconst X dX5_wantKnowing_35 (v := nI 0) (by decide +kernel) ?_
    refine a_istore_n X dX5_wantKnowing_36 (i := 2) rfl (by decide) rfl ?_
    refine a_aload_n X dX5_wantKnowing_37 (i := 0) rfl rfl ?_
    refine s_geti X dX5_wantKnowing_38 fl_X5_224 ko_43 rfl ?_
    rw [hg3, hc22]
    refine a_if_eq X dX5_wantKnowing_41 (tgt := 60) (by decide) (fun hc41 => ?_) (fun hc41 => ?_)
    · skip
      refine a_vret X hA dX5_wantKnowing_60 ?_
      have e1 : knwS B t R p0 = (false, R, (tkE B t p0)) := by rw [knwS, if_neg (by rw [hc22]; decide)]
      rw [e1]
      exact ⟨_, _, _, _, rfl, rfl, hR, fun _ _ => rfl, rfl, frf_t hF2.1 hF3, by rw [hg3, hc22], by rw [hc22, if_neg (by decide)] at hK3; exact hK3⟩
    · skip
      exact absurd (by decide +kernel) hc41
  · skip
    try simp only [bI_0, Bool.not_eq_false] at hc22
    rw [hc22] at hg3 hK3
    rw [if_pos rfl] at hK3
    obtain ⟨v1, -, l1⟩ := wnV hK2 (by omega) hc22
    rw [v1]
    refine a_aload_n X dX5_wantKnowing_25 (i := 0) rfl rfl ?_
    refine a_iconst X dX5_wantKnowing_26 (v := nI 0) (by decide +kernel) ?_
    refine a_bipush X dX5_wantKnowing_27 (v := nI 9) (by decide +kernel) ?_
    refine s_callV_X X dX5_wantKnowing_29 lk_X5_231 ko_43 rfl rfl (c_X5_wantNumber (tp_f hT (frf_t hF2.1 hF3)) hE2.2 hK3 (gd := true) (wn hK3 (by decide) (by decide)) hg3) ⟨Nat.le_of_ble_eq_true rfl, Nat.le_of_ble_eq_true rfl⟩ rfl rfl (Nat.le_of_ble_eq_true rfl) ⟨Nat.le_of_ble_eq_true rfl, Nat.le_of_ble_eq_true rfl⟩ (fun x4 I4 J4 F4 w4 hpo4 => ?_)
    obtain ⟨rfl, rfl, rfl, hF4, hg4, hK4⟩ := hpo4
    rw [Bool.true_and] at hg4 hK4
    refine a_goto X dX5_wantKnowing_32 (tgt := 36) (by decide) ?_
    refine a_istore_n X dX5_wantKnowing_36 (i := 2) rfl (by decide) rfl ?_
    refine a_aload_n X dX5_wantKnowing_37 (i := 0) rfl rfl ?_
    refine s_geti X dX5_wantKnowing_38 fl_X5_224 ko_43 rfl ?_
    rw [hg4]
    refine a_if_eq X dX5_wantKnowing_41 (tgt := 60) (by decide) (fun hc41 => ?_) (fun hc41 => ?_)
    · skip
      try simp only [bI_0, Bool.not_eq_false] at hc41
      refine a_vret X hA dX5_wantKnowing_60 ?_
      have e1 : knwS B t R p0 = (false, R, (tkE B t (tkE B t p0))) := by rw [knwS, if_pos hc22, if_neg (by rw [hc41]; decide)]
      rw [e1]
      exact ⟨_, _, _, _, rfl, rfl, hR, fun _ _ => rfl, rfl, frf_t (frf_t hF2.1 hF3) hF4, by rw [hg4, hc41], by rw [hc41, if_neg (by decide)] at hK4; exact hK4⟩
    · skip
      try simp only [bI_0, Bool.not_eq_false] at hc41
      rw [hc41] at hg4 hK4
      rw [if_pos rfl] at hK4
      obtain ⟨v2, -, l2⟩ := wnV hK3 (by decide) hc41
      rw [v2]
      refine a_aload_n X dX5_wantKnowing_44 (i := 0) rfl rfl ?_
      refine a_iload_n X dX5_wantKnowing_45 (i := 1) rfl rfl ?_
      refine a_iconst X dX5_wantKnowing_46 (v := nI 4) (by decide +kernel) ?_
      refine a_aload_n X dX5_wantKnowing_47 (i := 0) rfl rfl ?_
      refine a_iload_n X dX5_wantKnowing_48 (i := 1) rfl rfl ?_
      refine a_iconst X dX5_wantKnowing_49 (v := nI 4) (by decide +kernel) ?_
      refine s_callV_R X dX5_wantKnowing_50 lk_X5_55 ko_43 rfl rfl (c_X5_its hR (by omega)) ⟨Nat.le_of_ble_eq_true rfl, Nat.le_of_ble_eq_true rfl⟩ rfl rfl (Nat.le_of_ble_eq_true rfl) ⟨Nat.le_of_ble_eq_true rfl, Nat.le_of_ble_eq_true rfl⟩ ?_
      refine a_iconst X dX5_wantKnowing_53 (v := nI 1) (by decide +kernel) ?_
      refine a_iload_n X dX5_wantKnowing_54 (i := 2) rfl rfl ?_
      refine a_ishl X dX5_wantKnowing_55 ?_
      refine a_ior X dX5_wantKnowing_56 ?_
      rw [(shl_v _ l2).1, nI_or]
      refine s_callV_V X dX5_wantKnowing_57 lk_X5_108 ko_43 rfl rfl (c_X5_puts hR (by omega)) ⟨Nat.le_of_ble_eq_true rfl, Nat.le_of_ble_eq_true rfl⟩ rfl rfl (Nat.le_of_ble_eq_true rfl) ⟨Nat.le_of_ble_eq_true rfl, Nat.le_of_ble_eq_true rfl⟩ ?_
      refine a_vret X hA dX5_wantKnowing_60 ?_
      have e1 : knwS B t R p0 = (true, va_up R (2 + 6 * tkV B t (tkE B t p0) + 4) (R (2 + 6 * tkV B t (tkE B t p0) + 4) ||| 2 ^ tkV B t (tkE B t (tkE B t p0))), (tkE B t (tkE B t (tkE B t p0)))) := by rw [knwS, if_pos hc22, if_pos hc41]
      rw [e1]
      exact ⟨_, _, _, _, rfl, rfl, up_s _ _ _, fun P hP => up_n _ _ hP, rfl, frf_t (frf_t hF2.1 hF3) hF4, hg4, hK4⟩
set_option maxRecDepth 100000 in
set_option maxHeartbeats 4000000 in
theorem c_X5_wantMove {l : Launch} {g : GG} {I : TI} {J : TJ} {F : TI} {w : Int64} {B : Nat → Nat} {t : Nat} (hT : TpM I F B t) {p0 : Nat} (hp0 : p0 ≤ t) (hK : TkM B t p0 F w) {R : Nat → Nat} (hR : I 44 = nr R) (ok : okR R) (hg : F 43 13 = nI 1) : VV l g mX5_wantMove [.ref (ga g 43)] I J F w (ItM I J F B t (movS B t R p0)) := by
  have hE1 := tkE_le (B := B) hp0
  have hE2 := tkE_le (B := B) hE1.2
  have hE3 := tkE_le (B := B) hE2.2
  have h44 : I 44 1 = nI (R 1) := by rw [hR]; rfl
  have hn := ok.1
  refine ct_start (M := mX5_wantMove) (by decide +kernel) (Nat.le_of_ble_eq_true rfl) ?_
  intro p e s m args below meth c A X hA
  have X : AX p s m args meth c g A cX5_wantMove 3 RX5 (Cond.code yX5_wantMove cX5_wantMove 3 none) none := X
  show AW p l e (rmM 5 106) s m args below meth c g A 3 0 0 (MQ below (CQ g (hp g I J F w) s.heap.size (fun vv0 hh0 => ∃ II0 JJ0 FF0 ww0, vv0 = none ∧ hh0 = hp g II0 JJ0 FF0 ww0 ∧ (ItM I J F B t (movS B t R p0)) II0 JJ0 FF0 ww0)) args s 0 0 A) 0 [some (.ref (ga g 43)), none, none] [] (hp g I J F w)
  refine a_aload_n X dX5_wantMove_0 (i := 0) rfl rfl ?_
  refine s_callV_Y X dX5_wantMove_1 lk_X5_228 ko_43 rfl rfl (c_X5_advance (p0 := tkE B t p0) hT hE1.2 hK.2.1) ⟨Nat.le_of_ble_eq_true rfl, Nat.le_of_ble_eq_true rfl⟩ rfl rfl (Nat.le_of_ble_eq_true rfl) ⟨Nat.le_of_ble_eq_true rfl, Nat.le_of_ble_eq_true rfl⟩ (fun I2 J2 F2 w2 hpo => ?_)
  obtain ⟨rfl, rfl, hF2, hK2⟩ := hpo
  refine a_aload_n X dX5_wantMove_4 (i := 0) rfl rfl ?_
  refine a_iconst X dX5_wantMove_5 (v := nI 0) (by decide +kernel) ?_
  refine a_aload_n X dX5_wantMove_6 (i := 0) rfl rfl ?_
  refine s_getr X dX5_wantMove_7 fl_X5_7 ko_43 rfl ?_
  refine a_iconst X dX5_wantMove_10 (v := nI 1) (by decide +kernel) ?_
  refine s_ild X dX5_wantMove_11 ki_44 (by omega) (by decide) ?_
  rw [h44]
  refine a_iconst X dX5_wantMove_12 (v := nI 1) (by decide +kernel) ?_
  refine a_isub X dX5_wantMove_13 ?_
  refine s_callV_X X dX5_wantMove_14 lk_X5_231 ko_43 rfl rfl (c_X5_wantNumber (tp_f hT hF2.1) hE1.2 hK2 (gd := true) (wnM hK2 ok.1) (by rw [hF2.2, hg]; rfl)) ⟨Nat.le_of_ble_eq_true rfl, Nat.le_of_ble_eq_true rfl⟩ rfl rfl (Nat.le_of_ble_eq_true rfl) ⟨Nat.le_of_ble_eq_true rfl, Nat.le_of_ble_eq_true rfl⟩ (fun x3 I3 J3 F3 w3 hpo3 => ?_)
  obtain ⟨rfl, rfl, rfl, hF3, hg3, hK3⟩ := hpo3
  rw [Bool.true_and] at hg3 hK3
  refine a_istore_n X dX5_wantMove_17 (i := 1) rfl (by decide) rfl ?_
  refine a_aload_n X dX5_wantMove_18 (i := 0) rfl rfl ?_
  refine s_geti X dX5_wantMove_19 fl_X5_224 ko_43 rfl ?_
  rw [hg3]
  refine a_if_eq X dX5_wantMove_22 (tgt := 32) (by decide) (fun hc22 => ?_) (fun hc22 => ?_)
  · skip
    try simp only [bI_0, Bool.not_eq_false] at hc22
    refine a_iconst X dX5_wantMove_32 (v := nI 0) (by decide +kernel) ?_
    refine a_istore_n X dX5_wantMove_33 (i := 2) rfl (by decide) rfl ?_
    refine a_aload_n X dX5_wantMove_34 (i := 0) rfl rfl ?_
    refine s_geti X dX5_wantMove_35 fl_X5_224 ko_43 rfl ?_
    rw [hg3, hc22]
    refine a_if_eq X dX5_wantMove_38 (tgt := 48) (by decide) (fun hc38 => ?_) (fun hc38 => ?_)
    · skip
      refine a_vret X hA dX5_wantMove_48 ?_
      have e1 : movS B t R p0 = (false, R, (tkE B t p0)) := by rw [movS, if_neg (by rw [hc22]; decide)]
      rw [e1]
      exact ⟨_, _, _, _, rfl, rfl, hR, fun _ _ => rfl, rfl, frf_t hF2.1 hF3, by rw [hg3, hc22], by rw [hc22, if_neg (by decide)] at hK3; exact hK3⟩
    · skip
      exact absurd (by decide +kernel) hc38
  · skip
    try simp only [bI_0, Bool.not_eq_false] at hc22
    rw [hc22] at hg3 hK3
    rw [if_pos rfl] at hK3
    obtain ⟨v1, -, l1⟩ := wnV hK2 (by omega) hc22
    rw [v1]
    refine a_aload_n X dX5_wantMove_25 (i := 0) rfl rfl ?_
    refine s_callV_X X dX5_wantMove_26 lk_X5_234 ko_43 rfl rfl (c_X5_wantSeat (tp_f hT (frf_t hF2.1 hF3)) hE2.2 hK3 hR ok (by rw [hg3]; rfl)) ⟨Nat.le_of_ble_eq_true rfl, Nat.le_of_ble_eq_true rfl⟩ rfl rfl (Nat.le_of_ble_eq_true rfl) ⟨Nat.le_of_ble_eq_true rfl, Nat.le_of_ble_eq_true rfl⟩ (fun x4 I4 J4 F4 w4 hpo4 => ?_)
    obtain ⟨rfl, rfl, rfl, hF4, hg4, hK4⟩ := hpo4
    refine a_goto X dX5_wantMove_29 (tgt := 33) (by decide) ?_
    refine a_istore_n X dX5_wantMove_33 (i := 2) rfl (by decide) rfl ?_
    refine a_aload_n X dX5_wantMove_34 (i := 0) rfl rfl ?_
    refine s_geti X dX5_wantMove_35 fl_X5_224 ko_43 rfl ?_
    rw [hg4]
    refine a_if_eq X dX5_wantMove_38 (tgt := 48) (by decide) (fun hc38 => ?_) (fun hc38 => ?_)
    · skip
      try simp only [bI_0, Bool.not_eq_false] at hc38
      refine a_vret X hA dX5_wantMove_48 ?_
      have e1 : movS B t R p0 = (false, R, (tkE B t (tkE B t p0))) := by rw [movS, if_pos hc22, if_neg (fun q => by simp [q.1, q.2] at hc38)]
      rw [e1]
      exact ⟨_, _, _, _, rfl, rfl, hR, fun _ _ => rfl, rfl, frf_t (frf_t hF2.1 hF3) hF4, by rw [hg4, hc38], by rw [hc38, if_neg (by decide)] at hK4; exact hK4⟩
    · skip
      try simp only [bI_0, Bool.not_eq_false] at hc38
      rw [if_pos hc38] at hK4
      rw [hc38] at hg4
      simp only [Bool.and_eq_true, decide_eq_true_eq] at hc38
      obtain ⟨v2, -, l2⟩ := wnV hK3 (by decide) hc38.1
      rw [v2]
      refine a_aload_n X dX5_wantMove_41 (i := 0) rfl rfl ?_
      refine a_iload_n X dX5_wantMove_42 (i := 1) rfl rfl ?_
      refine a_iconst X dX5_wantMove_43 (v := nI 1) (by decide +kernel) ?_
      refine a_iload_n X dX5_wantMove_44 (i := 2) rfl rfl ?_
      refine s_callV_V X dX5_wantMove_45 lk_X5_108 ko_43 rfl rfl (c_X5_puts hR (by omega)) ⟨Nat.le_of_ble_eq_true rfl, Nat.le_of_ble_eq_true rfl⟩ rfl rfl (Nat.le_of_ble_eq_true rfl) ⟨Nat.le_of_ble_eq_true rfl, Nat.le_of_ble_eq_true rfl⟩ ?_
      refine a_vret X hA dX5_wantMove_48 ?_
      have e1 : movS B t R p0 = (true, va_up R (2 + 6 * tkV B t (tkE B t p0) + 1) (tkV B t (tkE B t (tkE B t p0))), (tkE B t (tkE B t (tkE B t p0)))) := by rw [movS, if_pos hc22, if_pos hc38]
      rw [e1]
      exact ⟨_, _, _, _, rfl, rfl, up_s _ _ _, fun P hP => up_n _ _ hP, rfl, frf_t (frf_t hF2.1 hF3) hF4, hg4, hK4⟩
set_option maxRecDepth 100000 in
set_option maxHeartbeats 4000000 in
theorem c_X5_wantItem {l : Launch} {g : GG} {I : TI} {J : TJ} {F : TI} {w : Int64} {B : Nat → Nat} {t : Nat} (hT : TpM I F B t) {p0 : Nat} (hp0 : p0 ≤ t) (hK : TkM B t p0 F w) {R : Nat → Nat} (hR : I 44 = nr R) (ok : okR R) (hg : F 43 13 = nI 1) : VV l g mX5_wantItem [.ref (ga g 43)] I J F w (ItM I J F B t (itmS B t R p0)) := by
  refine ct_start (M := mX5_wantItem) (by decide +kernel) (Nat.le_of_ble_eq_true rfl) ?_
  intro p e s m args below meth c A X hA
  have X : AX p s m args meth c g A cX5_wantItem 1 RX5 (Cond.code yX5_wantItem cX5_wantItem 1 none) none := X
  show AW p l e (rmM 6 135) s m args below meth c g A 1 0 0 (MQ below (CQ g (hp g I J F w) s.heap.size (fun vv0 hh0 => ∃ II0 JJ0 FF0 ww0, vv0 = none ∧ hh0 = hp g II0 JJ0 FF0 ww0 ∧ (ItM I J F B t (itmS B t R p0)) II0 JJ0 FF0 ww0)) args s 0 0 A) 0 [some (.ref (ga g 43))] [] (hp g I J F w)
  refine a_aload_n X dX5_wantItem_0 (i := 0) rfl rfl ?_
  refine s_callV_R X dX5_wantItem_1 lk_X5_243 ko_43 rfl rfl (c_X5_kindHere hK) ⟨Nat.le_of_ble_eq_true rfl, Nat.le_of_ble_eq_true rfl⟩ rfl rfl (Nat.le_of_ble_eq_true rfl) ⟨Nat.le_of_ble_eq_true rfl, Nat.le_of_ble_eq_true rfl⟩ ?_
  refine a_if_lt X dX5_wantItem_4 (tgt := 18) (by decide) (fun hc4 => ?_) (fun hc4 => ?_)
  · skip
    have hk6 := kd_neg hc4
    refine a_aload_n X dX5_wantItem_18 (i := 0) rfl rfl ?_
    refine a_ldc2 X dX5_wantItem_19 kc_X5_249 ?_
    refine s_callV_R X dX5_wantItem_22 lk_X5_210 ko_43 rfl rfl (c_X5_isWord hK (i := 6) (by decide) (by decide +kernel)) ⟨Nat.le_of_ble_eq_true rfl, Nat.le_of_ble_eq_true rfl⟩ rfl rfl (Nat.le_of_ble_eq_true rfl) ⟨Nat.le_of_ble_eq_true rfl, Nat.le_of_ble_eq_true rfl⟩ ?_
    refine a_if_eq X dX5_wantItem_25 (tgt := 35) (by decide) (fun hc25 => ?_) (fun hc25 => ?_)
    · skip
      simp only [bI_0, Bool.not_eq_false, txwB, Bool.and_eq_true, Bool.and_eq_false_iff, decide_eq_true_eq, decide_eq_false_iff_not] at hc25
      refine a_aload_n X dX5_wantItem_35 (i := 0) rfl rfl ?_
      refine a_ldc2 X dX5_wantItem_36 kc_X5_254 ?_
      refine s_callV_R X dX5_wantItem_39 lk_X5_210 ko_43 rfl rfl (c_X5_isWord hK (i := 7) (by decide) (by decide +kernel)) ⟨Nat.le_of_ble_eq_true rfl, Nat.le_of_ble_eq_true rfl⟩ rfl rfl (Nat.le_of_ble_eq_true rfl) ⟨Nat.le_of_ble_eq_true rfl, Nat.le_of_ble_eq_true rfl⟩ ?_
      refine a_if_eq X dX5_wantItem_42 (tgt := 52) (by decide) (fun hc42 => ?_) (fun hc42 => ?_)
      · skip
        simp only [bI_0, Bool.not_eq_false, txwB, Bool.and_eq_true, Bool.and_eq_false_iff, decide_eq_true_eq, decide_eq_false_iff_not] at hc42
        refine a_aload_n X dX5_wantItem_52 (i := 0) rfl rfl ?_
        refine a_iconst X dX5_wantItem_53 (v := nI 0) (by decide +kernel) ?_
        refine s_puti X dX5_wantItem_54 fp_X5_224 ko_43 rfl (by decide +kernel) (by decide +kernel) ?_
        refine a_vret X hA dX5_wantItem_57 ?_
        have e1 : itmS B t R p0 = (false, R, p0) := by rw [itmS, if_neg hk6, if_neg (by omega), if_neg (by omega)]
        rw [e1]
        exact ⟨_, _, _, _, rfl, rfl, hR, fun _ _ => rfl, rfl, frf_u (frf_0 F) (by decide), by rw [ug, if_pos rfl]; rfl, tk_g hK⟩
      · skip
        simp only [bI_0, Bool.not_eq_false, txwB, Bool.and_eq_true, Bool.and_eq_false_iff, decide_eq_true_eq, decide_eq_false_iff_not] at hc42
        refine a_aload_n X dX5_wantItem_45 (i := 0) rfl rfl ?_
        refine s_callV_Y X dX5_wantItem_46 lk_X5_256 ko_43 rfl rfl (c_X5_wantMove hT hp0 hK hR ok hg) ⟨Nat.le_of_ble_eq_true rfl, Nat.le_of_ble_eq_true rfl⟩ rfl rfl (Nat.le_of_ble_eq_true rfl) ⟨Nat.le_of_ble_eq_true rfl, Nat.le_of_ble_eq_true rfl⟩ (fun I2 J2 F2 w2 hpo => ?_)
        refine a_goto X dX5_wantItem_49 (tgt := 57) (by decide) ?_
        refine a_vret X hA dX5_wantItem_57 ?_
        exact ⟨_, _, _, _, rfl, rfl, by rw [itmS, if_neg hk6, if_neg (by omega), if_pos (by omega)]; exact hpo⟩
    · skip
      simp only [bI_0, Bool.not_eq_false, txwB, Bool.and_eq_true, Bool.and_eq_false_iff, decide_eq_true_eq, decide_eq_false_iff_not] at hc25
      refine a_aload_n X dX5_wantItem_28 (i := 0) rfl rfl ?_
      refine s_callV_Y X dX5_wantItem_29 lk_X5_251 ko_43 rfl rfl (c_X5_wantKnowing hT hp0 hK hR ok hg) ⟨Nat.le_of_ble_eq_true rfl, Nat.le_of_ble_eq_true rfl⟩ rfl rfl (Nat.le_of_ble_eq_true rfl) ⟨Nat.le_of_ble_eq_true rfl, Nat.le_of_ble_eq_true rfl⟩ (fun I2 J2 F2 w2 hpo => ?_)
      refine a_goto X dX5_wantItem_32 (tgt := 57) (by decide) ?_
      refine a_vret X hA dX5_wantItem_57 ?_
      exact ⟨_, _, _, _, rfl, rfl, by rw [itmS, if_neg hk6, if_pos (by omega)]; exact hpo⟩
  · skip
    have hk6 := kd_pos hc4
    refine a_aload_n X dX5_wantItem_7 (i := 0) rfl rfl ?_
    refine a_aload_n X dX5_wantItem_8 (i := 0) rfl rfl ?_
    refine s_callV_R X dX5_wantItem_9 lk_X5_243 ko_43 rfl rfl (c_X5_kindHere hK) ⟨Nat.le_of_ble_eq_true rfl, Nat.le_of_ble_eq_true rfl⟩ rfl rfl (Nat.le_of_ble_eq_true rfl) ⟨Nat.le_of_ble_eq_true rfl, Nat.le_of_ble_eq_true rfl⟩ ?_
    rw [hk6.2]
    refine s_callV_Y X dX5_wantItem_12 lk_X5_246 ko_43 rfl rfl (c_X5_wantOne hT hp0 hK hR ok) ⟨Nat.le_of_ble_eq_true rfl, Nat.le_of_ble_eq_true rfl⟩ rfl rfl (Nat.le_of_ble_eq_true rfl) ⟨Nat.le_of_ble_eq_true rfl, Nat.le_of_ble_eq_true rfl⟩ (fun I2 J2 F2 w2 hpo => ?_)
    refine a_goto X dX5_wantItem_15 (tgt := 57) (by decide) ?_
    refine a_vret X hA dX5_wantItem_57 ?_
    exact ⟨_, _, _, _, rfl, rfl, by rw [itmS, if_pos hk6.1]; exact hpo⟩
set_option maxRecDepth 100000 in
set_option maxHeartbeats 4000000 in
theorem c_X5_chapel {l : Launch} {g : GG} {I : TI} {J : TJ} {F : TI} {w : Int64} {B : Nat → Nat} {t : Nat} (hT : TpM I F B t) {R : Nat → Nat} (hR : I 44 = nr R) (ok : okR R) : RV l g mX5_chapel [.ref (ga g 43)] I J F w (ChM I J F (sp_chapel R B t)) := by
  have h120 := hT.2.1
  have hB : ∀ k, k < t → B k < 256 := fun k hk => (hT.2.2 k hk).2
  refine ct_start (M := mX5_chapel) (by decide +kernel) (Nat.le_of_ble_eq_true rfl) ?_
  intro p e s m args below meth c A X hA
  have X : AX p s m args meth c g A cX5_chapel 3 RX5 (Cond.code yX5_chapel cX5_chapel 3 (some .int)) (some .int) := X
  show AW p l e (rmM 7 155) s m args below meth c g A 3 0 0 (MQ below (CQ g (hp g I J F w) s.heap.size (fun vv0 hh0 => ∃ xx0 II0 JJ0 FF0 ww0, vv0 = some xx0 ∧ hh0 = hp g II0 JJ0 FF0 ww0 ∧ (ChM I J F (sp_chapel R B t)) xx0 II0 JJ0 FF0 ww0)) args s 0 0 A) 0 [some (.ref (ga g 43)), none, none] [] (hp g I J F w)
  have L27 : ∀ (fu : Nat) (n : Nat) (p1 : Nat) (fl : Nat) (R1 : Nat → Nat) (I1 : TI) (F1 : TI) (w1 : Int64), t - p1 < fu → (p1 ≤ t) → (F1 43 10 = nI p1) → (F1 43 13 = nI 1) → (FrF F F1) → (I1 44 = nr R1 ∧ (∀ P, P ≠ 44 → P ≠ 56 → I1 P = I P) ∧ ∀ j, j < 62 → I1 56 j = nI (R j)) → (okR R1) → (t < fl + p1) → (chpS B t fl R1 p1 n = chpS B t (t + 1) R 0 0) → AW p l e (rmM 7 155) s m args below meth c g A 3 0 0 (MQ below (CQ g (hp g I J F w) s.heap.size (fun vv0 hh0 => ∃ xx0 II0 JJ0 FF0 ww0, vv0 = some xx0 ∧ hh0 = hp g II0 JJ0 FF0 ww0 ∧ (ChM I J F (sp_chapel R B t)) xx0 II0 JJ0 FF0 ww0)) args s 0 0 A) 27 [some (.ref (ga g 43)), some (.int (nI n)), some (.int (nI 1))] [] (hp g I1 J F1 w1) := by
    intro fu
    induction fu with
    | zero => intro n p1 fl R1 I1 F1 w1 hfu; exact absurd hfu (by omega)
    | succ fu ih =>
      intro n p1 fl R1 I1 F1 w1 hfu hp1 hen hg1 hFr hI okk hfl hch
      have G := itm_G (B := B) hp1 okk
      have hS9 := tkS_le (B := B) G.2.1
      refine a_aload_n X dX5_chapel_27 (i := 0) rfl rfl ?_
      refine s_callV_Y X dX5_chapel_28 lk_X5_228 ko_43 rfl rfl (c_X5_advance (p0 := p1) (tp_i (tp_f hT hFr) (hI.2.1 50 (by decide) (by decide))) hp1 hen) ⟨Nat.le_of_ble_eq_true rfl, Nat.le_of_ble_eq_true rfl⟩ rfl rfl (Nat.le_of_ble_eq_true rfl) ⟨Nat.le_of_ble_eq_true rfl, Nat.le_of_ble_eq_true rfl⟩ (fun I2 J2 F2 w2 hpo => ?_)
      obtain ⟨rfl, rfl, hF2, hK2⟩ := hpo
      refine a_aload_n X dX5_chapel_31 (i := 0) rfl rfl ?_
      refine s_callV_Y X dX5_chapel_32 lk_X5_259 ko_43 rfl rfl (c_X5_wantItem (tp_i (tp_f hT (frf_t hFr hF2.1)) (hI.2.1 50 (by decide) (by decide))) hp1 hK2 hI.1 okk (by rw [hF2.2]; exact hg1)) ⟨Nat.le_of_ble_eq_true rfl, Nat.le_of_ble_eq_true rfl⟩ rfl rfl (Nat.le_of_ble_eq_true rfl) ⟨Nat.le_of_ble_eq_true rfl, Nat.le_of_ble_eq_true rfl⟩ (fun I3 J3 F3 w3 hpo3 => ?_)
      obtain ⟨q1, q2, rfl, q3, q4, q5⟩ := hpo3
      refine a_iinc X dX5_chapel_35 rfl (v := nI (_ + 1)) (iincN _ 1) (by decide) rfl ?_
      refine a_aload_n X dX5_chapel_38 (i := 0) rfl rfl ?_
      refine s_geti X dX5_chapel_39 fl_X5_224 ko_43 rfl ?_
      rw [q4]
      refine a_if_eq X dX5_chapel_42 (tgt := 66) (by decide) (fun hc42 => ?_) (fun hc42 => ?_)
      · skip
        try simp only [bI_0, Bool.not_eq_false] at hc42
        refine a_iconst X dX5_chapel_66 (v := nI 0) (by decide +kernel) ?_
        refine a_istore_n X dX5_chapel_67 (i := 2) rfl (by decide) rfl ?_
        refine a_goto X dX5_chapel_68 (tgt := 23) (by decide) ?_
        refine a_iload_n X dX5_chapel_23 (i := 2) rfl rfl ?_
        refine a_if_eq X dX5_chapel_24 (tgt := 71) (by decide) (fun hc24 => ?_) (fun hc24 => ?_)
        · skip
          refine a_aload_n X dX5_chapel_71 (i := 0) rfl rfl ?_
          refine a_aload_n X dX5_chapel_72 (i := 0) rfl rfl ?_
          refine s_geti X dX5_chapel_73 fl_X5_224 ko_43 rfl ?_
          rw [q4, hc42]
          refine a_if_eq X dX5_chapel_76 (tgt := 90) (by decide) (fun hc76 => ?_) (fun hc76 => ?_)
          · skip
            refine a_iconst X dX5_chapel_90 (v := nI 0) (by decide +kernel) ?_
            refine s_puti X dX5_chapel_91 fp_X5_224 ko_43 rfl (by decide +kernel) (by decide +kernel) ?_
            refine a_aload_n X dX5_chapel_94 (i := 0) rfl rfl ?_
            refine a_iconst X dX5_chapel_95 (v := nI 0) (by decide +kernel) ?_
            refine s_puti X dX5_chapel_96 fp_X5_173 ko_43 rfl rfl rfl ?_
            refine a_aload_n X dX5_chapel_99 (i := 0) rfl rfl ?_
            refine s_geti X dX5_chapel_100 fl_X5_224 ko_43 rfl ?_
            simp only [ug]
            rw [if_neg (by decide), if_pos trivial]
            refine a_if_ne X dX5_chapel_103 (tgt := 122) (by decide) (fun hc103 => ?_) (fun hc103 => ?_)
            · skip
              exact absurd (by decide +kernel) hc103
            · skip
              refine a_aload_n X dX5_chapel_106 (i := 0) rfl rfl ?_
              refine a_iconst X dX5_chapel_107 (v := nI 0) (by decide +kernel) ?_
              refine a_aload_n X dX5_chapel_108 (i := 0) rfl rfl ?_
              refine s_getr X dX5_chapel_109 fl_X5_47 ko_43 rfl ?_
              refine s_callV_V X dX5_chapel_112 lk_X5_156 ko_43 rfl rfl (c_X5_moveAll_f q1 ki_56 (by decide) (fun j hj => by rw [q2 56 (by decide)]; exact hI.2.2 j hj) (fun j hj => (ok.2.2.2 j hj).trans (G.1.1.2.2.2 j hj).symm)) ⟨Nat.le_of_ble_eq_true rfl, Nat.le_of_ble_eq_true rfl⟩ rfl rfl (Nat.le_of_ble_eq_true rfl) ⟨Nat.le_of_ble_eq_true rfl, Nat.le_of_ble_eq_true rfl⟩ ?_
              refine a_iconst X dX5_chapel_115 (v := (-1)) (by decide +kernel) ?_
              refine a_aload_n X dX5_chapel_116 (i := 0) rfl rfl ?_
              refine s_geti X dX5_chapel_117 fl_X5_180 ko_43 rfl ?_
              simp only [ug]
              rw [if_neg (by decide), if_neg (by decide), q5.1]
              refine a_isub X dX5_chapel_120 ?_
              refine a_iret X hA dX5_chapel_121 ?_
              have e1 := spc_f (hch.symm.trans (chp_f0 (by omega) hc42))
              rw [e1]
              exact ⟨_, _, _, _, _, rfl, rfl, rfl, up_s _ _ _, fun P h1 h2 => by rw [up_n _ _ h1]; exact (q2 P h1).trans (hI.2.1 P h1 h2), rfl, fun Q hQ => by rw [up_n _ _ hQ, up_n _ _ hQ]; exact (frf_t (frf_t hFr hF2.1) q3).1 Q hQ, by rw [ug, if_pos rfl], by simp only [ug]; exact (frf_t (frf_t hFr hF2.1) q3).2.2⟩
          · skip
            exact absurd (by decide +kernel) hc76
        · skip
          exact absurd (by decide +kernel) hc24
      · skip
        try simp only [bI_0, Bool.not_eq_false] at hc42
        refine a_aload_n X dX5_chapel_45 (i := 0) rfl rfl ?_
        refine s_geti X dX5_chapel_46 fl_X5_192 ko_43 rfl ?_
        rw [q5.2.2.1]
        refine a_iconst X dX5_chapel_49 (v := nI 3) (by decide +kernel) ?_
        refine s_icmp_neN X dX5_chapel_50 (tgt := 66) (by decide) (by omega) (by omega) (fun hc50 => ?_) (fun hc50 => ?_)
        · skip
          refine a_iconst X dX5_chapel_66 (v := nI 0) (by decide +kernel) ?_
          refine a_istore_n X dX5_chapel_67 (i := 2) rfl (by decide) rfl ?_
          refine a_goto X dX5_chapel_68 (tgt := 23) (by decide) ?_
          refine a_iload_n X dX5_chapel_23 (i := 2) rfl rfl ?_
          refine a_if_eq X dX5_chapel_24 (tgt := 71) (by decide) (fun hc24 => ?_) (fun hc24 => ?_)
          · skip
            refine a_aload_n X dX5_chapel_71 (i := 0) rfl rfl ?_
            refine a_aload_n X dX5_chapel_72 (i := 0) rfl rfl ?_
            refine s_geti X dX5_chapel_73 fl_X5_224 ko_43 rfl ?_
            rw [q4, hc42]
            refine a_if_eq X dX5_chapel_76 (tgt := 90) (by decide) (fun hc76 => ?_) (fun hc76 => ?_)
            · skip
              exact absurd hc76 (by decide +kernel)
            · skip
              refine a_aload_n X dX5_chapel_79 (i := 0) rfl rfl ?_
              refine s_geti X dX5_chapel_80 fl_X5_192 ko_43 rfl ?_
              rw [q5.2.2.1]
              refine a_if_ne X dX5_chapel_83 (tgt := 90) (by decide) (fun hc83 => ?_) (fun hc83 => ?_)
              · skip
                have hz : ¬ min 3 (tkK B t (itmS B t R1 p1).2.2) = 0 := fun q => hc83 (by rw [q]; rfl)
                refine a_iconst X dX5_chapel_90 (v := nI 0) (by decide +kernel) ?_
                refine s_puti X dX5_chapel_91 fp_X5_224 ko_43 rfl (by decide +kernel) (by decide +kernel) ?_
                refine a_aload_n X dX5_chapel_94 (i := 0) rfl rfl ?_
                refine a_iconst X dX5_chapel_95 (v := nI 0) (by decide +kernel) ?_
                refine s_puti X dX5_chapel_96 fp_X5_173 ko_43 rfl rfl rfl ?_
                refine a_aload_n X dX5_chapel_99 (i := 0) rfl rfl ?_
                refine s_geti X dX5_chapel_100 fl_X5_224 ko_43 rfl ?_
                simp only [ug]
                rw [if_neg (by decide), if_pos trivial]
                refine a_if_ne X dX5_chapel_103 (tgt := 122) (by decide) (fun hc103 => ?_) (fun hc103 => ?_)
                · skip
                  exact absurd (by decide +kernel) hc103
                · skip
                  refine a_aload_n X dX5_chapel_106 (i := 0) rfl rfl ?_
                  refine a_iconst X dX5_chapel_107 (v := nI 0) (by decide +kernel) ?_
                  refine a_aload_n X dX5_chapel_108 (i := 0) rfl rfl ?_
                  refine s_getr X dX5_chapel_109 fl_X5_47 ko_43 rfl ?_
                  refine s_callV_V X dX5_chapel_112 lk_X5_156 ko_43 rfl rfl (c_X5_moveAll_f q1 ki_56 (by decide) (fun j hj => by rw [q2 56 (by decide)]; exact hI.2.2 j hj) (fun j hj => (ok.2.2.2 j hj).trans (G.1.1.2.2.2 j hj).symm)) ⟨Nat.le_of_ble_eq_true rfl, Nat.le_of_ble_eq_true rfl⟩ rfl rfl (Nat.le_of_ble_eq_true rfl) ⟨Nat.le_of_ble_eq_true rfl, Nat.le_of_ble_eq_true rfl⟩ ?_
                  refine a_iconst X dX5_chapel_115 (v := (-1)) (by decide +kernel) ?_
                  refine a_aload_n X dX5_chapel_116 (i := 0) rfl rfl ?_
                  refine s_geti X dX5_chapel_117 fl_X5_180 ko_43 rfl ?_
                  simp only [ug]
                  rw [if_neg (by decide), if_neg (by decide), q5.1]
                  refine a_isub X dX5_chapel_120 ?_
                  refine a_iret X hA dX5_chapel_121 ?_
                  have e1 := spc_f (hch.symm.trans (chp_f2 (by omega) hc42 (by omega) (by omega)))
                  rw [e1]
                  exact ⟨_, _, _, _, _, rfl, rfl, rfl, up_s _ _ _, fun P h1 h2 => by rw [up_n _ _ h1]; exact (q2 P h1).trans (hI.2.1 P h1 h2), rfl, fun Q hQ => by rw [up_n _ _ hQ, up_n _ _ hQ]; exact (frf_t (frf_t hFr hF2.1) q3).1 Q hQ, by rw [ug, if_pos rfl], by simp only [ug]; exact (frf_t (frf_t hFr hF2.1) q3).2.2⟩
              · skip
                have hz := nI_z (by omega) hc83
                refine a_iconst X dX5_chapel_86 (v := nI 1) (by decide +kernel) ?_
                refine a_goto X dX5_chapel_87 (tgt := 91) (by decide) ?_
                refine s_puti X dX5_chapel_91 fp_X5_224 ko_43 rfl (by decide +kernel) (by decide +kernel) ?_
                refine a_aload_n X dX5_chapel_94 (i := 0) rfl rfl ?_
                refine a_iconst X dX5_chapel_95 (v := nI 0) (by decide +kernel) ?_
                refine s_puti X dX5_chapel_96 fp_X5_173 ko_43 rfl rfl rfl ?_
                refine a_aload_n X dX5_chapel_99 (i := 0) rfl rfl ?_
                refine s_geti X dX5_chapel_100 fl_X5_224 ko_43 rfl ?_
                simp only [ug]
                rw [if_neg (by decide), if_pos trivial]
                refine a_if_ne X dX5_chapel_103 (tgt := 122) (by decide) (fun hc103 => ?_) (fun hc103 => ?_)
                · skip
                  refine a_iload_n X dX5_chapel_122 (i := 1) rfl rfl ?_
                  refine a_iret X hA dX5_chapel_123 ?_
                  have e1 := spc_t (hch.symm.trans (chp_f1 (by omega) hc42 (by omega)))
                  rw [e1]
                  exact ⟨_, _, _, _, _, rfl, rfl, rfl, q1, fun P h1 h2 => (q2 P h1).trans (hI.2.1 P h1 h2), rfl, fun Q hQ => by rw [up_n _ _ hQ, up_n _ _ hQ]; exact (frf_t (frf_t hFr hF2.1) q3).1 Q hQ, by rw [ug, if_pos rfl], by simp only [ug]; exact (frf_t (frf_t hFr hF2.1) q3).2.2⟩
                · skip
                  exact absurd hc103 (by decide +kernel)
          · skip
            exact absurd (by decide +kernel) hc24
        · skip
          have hbs := hB _ (tkK_lt (B := B) (t := t) (p := (itmS B t R1 p1).2.2) (by omega))
          refine a_aload_n X dX5_chapel_53 (i := 0) rfl rfl ?_
          refine s_geti X dX5_chapel_54 fl_X5_199 ko_43 rfl ?_
          rw [q5.2.2.2.2.2 (by omega)]
          refine a_bipush X dX5_chapel_57 (v := nI 59) (by decide +kernel) ?_
          refine s_icmp_neN X dX5_chapel_59 (tgt := 66) (by decide) (by omega) (by omega) (fun hc59 => ?_) (fun hc59 => ?_)
          · skip
            have hk4 := mt (tkK_59 (B := B) (t := t) (p := (itmS B t R1 p1).2.2) (by omega)).mp hc59
            refine a_iconst X dX5_chapel_66 (v := nI 0) (by decide +kernel) ?_
            refine a_istore_n X dX5_chapel_67 (i := 2) rfl (by decide) rfl ?_
            refine a_goto X dX5_chapel_68 (tgt := 23) (by decide) ?_
            refine a_iload_n X dX5_chapel_23 (i := 2) rfl rfl ?_
            refine a_if_eq X dX5_chapel_24 (tgt := 71) (by decide) (fun hc24 => ?_) (fun hc24 => ?_)
            · skip
              refine a_aload_n X dX5_chapel_71 (i := 0) rfl rfl ?_
              refine a_aload_n X dX5_chapel_72 (i := 0) rfl rfl ?_
              refine s_geti X dX5_chapel_73 fl_X5_224 ko_43 rfl ?_
              rw [q4, hc42]
              refine a_if_eq X dX5_chapel_76 (tgt := 90) (by decide) (fun hc76 => ?_) (fun hc76 => ?_)
              · skip
                exact absurd hc76 (by decide +kernel)
              · skip
                refine a_aload_n X dX5_chapel_79 (i := 0) rfl rfl ?_
                refine s_geti X dX5_chapel_80 fl_X5_192 ko_43 rfl ?_
                rw [q5.2.2.1]
                refine a_if_ne X dX5_chapel_83 (tgt := 90) (by decide) (fun hc83 => ?_) (fun hc83 => ?_)
                · skip
                  have hz : ¬ min 3 (tkK B t (itmS B t R1 p1).2.2) = 0 := fun q => hc83 (by rw [q]; rfl)
                  refine a_iconst X dX5_chapel_90 (v := nI 0) (by decide +kernel) ?_
                  refine s_puti X dX5_chapel_91 fp_X5_224 ko_43 rfl (by decide +kernel) (by decide +kernel) ?_
                  refine a_aload_n X dX5_chapel_94 (i := 0) rfl rfl ?_
                  refine a_iconst X dX5_chapel_95 (v := nI 0) (by decide +kernel) ?_
                  refine s_puti X dX5_chapel_96 fp_X5_173 ko_43 rfl rfl rfl ?_
                  refine a_aload_n X dX5_chapel_99 (i := 0) rfl rfl ?_
                  refine s_geti X dX5_chapel_100 fl_X5_224 ko_43 rfl ?_
                  simp only [ug]
                  rw [if_neg (by decide), if_pos trivial]
                  refine a_if_ne X dX5_chapel_103 (tgt := 122) (by decide) (fun hc103 => ?_) (fun hc103 => ?_)
                  · skip
                    exact absurd (by decide +kernel) hc103
                  · skip
                    refine a_aload_n X dX5_chapel_106 (i := 0) rfl rfl ?_
                    refine a_iconst X dX5_chapel_107 (v := nI 0) (by decide +kernel) ?_
                    refine a_aload_n X dX5_chapel_108 (i := 0) rfl rfl ?_
                    refine s_getr X dX5_chapel_109 fl_X5_47 ko_43 rfl ?_
                    refine s_callV_V X dX5_chapel_112 lk_X5_156 ko_43 rfl rfl (c_X5_moveAll_f q1 ki_56 (by decide) (fun j hj => by rw [q2 56 (by decide)]; exact hI.2.2 j hj) (fun j hj => (ok.2.2.2 j hj).trans (G.1.1.2.2.2 j hj).symm)) ⟨Nat.le_of_ble_eq_true rfl, Nat.le_of_ble_eq_true rfl⟩ rfl rfl (Nat.le_of_ble_eq_true rfl) ⟨Nat.le_of_ble_eq_true rfl, Nat.le_of_ble_eq_true rfl⟩ ?_
                    refine a_iconst X dX5_chapel_115 (v := (-1)) (by decide +kernel) ?_
                    refine a_aload_n X dX5_chapel_116 (i := 0) rfl rfl ?_
                    refine s_geti X dX5_chapel_117 fl_X5_180 ko_43 rfl ?_
                    simp only [ug]
                    rw [if_neg (by decide), if_neg (by decide), q5.1]
                    refine a_isub X dX5_chapel_120 ?_
                    refine a_iret X hA dX5_chapel_121 ?_
                    have e1 := spc_f (hch.symm.trans (chp_f2 (by omega) hc42 (by omega) (by omega)))
                    rw [e1]
                    exact ⟨_, _, _, _, _, rfl, rfl, rfl, up_s _ _ _, fun P h1 h2 => by rw [up_n _ _ h1]; exact (q2 P h1).trans (hI.2.1 P h1 h2), rfl, fun Q hQ => by rw [up_n _ _ hQ, up_n _ _ hQ]; exact (frf_t (frf_t hFr hF2.1) q3).1 Q hQ, by rw [ug, if_pos rfl], by simp only [ug]; exact (frf_t (frf_t hFr hF2.1) q3).2.2⟩
                · skip
                  have hz := nI_z (by omega) hc83
                  omega
            · skip
              exact absurd (by decide +kernel) hc24
          · skip
            refine a_iconst X dX5_chapel_62 (v := nI 1) (by decide +kernel) ?_
            refine a_goto X dX5_chapel_63 (tgt := 67) (by decide) ?_
            refine a_istore_n X dX5_chapel_67 (i := 2) rfl (by decide) rfl ?_
            refine a_goto X dX5_chapel_68 (tgt := 23) (by decide) ?_
            refine a_iload_n X dX5_chapel_23 (i := 2) rfl rfl ?_
            refine a_if_eq X dX5_chapel_24 (tgt := 71) (by decide) (fun hc24 => ?_) (fun hc24 => ?_)
            · skip
              exact absurd hc24 (by decide +kernel)
            · skip
              have g3 := G.2.2.1
              have hk3 := (tkK_59 (B := B) (t := t) (p := (itmS B t R1 p1).2.2) (by omega)).mpr hc59
              have hgt := tkE_gt (B := B) G.2.1 (by omega)
              have hle := tkE_le (B := B) G.2.1
              have hls := tkS_le (B := B) G.2.1
              exact ih (n + 1) (tkE B t (itmS B t R1 p1).2.2) (fl - 1) _ _ _ _ (by omega) hle.2 q5.2.1 (by rw [q4, hc42]; rfl) (frf_t (frf_t hFr hF2.1) q3) ⟨q1, fun P h1 h2 => (q2 P h1).trans (hI.2.1 P h1 h2), fun j hj => by rw [q2 56 (by decide)]; exact hI.2.2 j hj⟩ G.1.1 (by omega) ((chp_f3 (by omega) hc42 hk3).symm.trans hch)
  refine a_aload_n X dX5_chapel_0 (i := 0) rfl rfl ?_
  refine a_iconst X dX5_chapel_1 (v := nI 1) (by decide +kernel) ?_
  refine a_aload_n X dX5_chapel_2 (i := 0) rfl rfl ?_
  refine s_getr X dX5_chapel_3 fl_X5_47 ko_43 rfl ?_
  refine s_callV_V X dX5_chapel_6 lk_X5_156 ko_43 rfl rfl (c_X5_moveAll_t ki_56 (by decide)) ⟨Nat.le_of_ble_eq_true rfl, Nat.le_of_ble_eq_true rfl⟩ rfl rfl (Nat.le_of_ble_eq_true rfl) ⟨Nat.le_of_ble_eq_true rfl, Nat.le_of_ble_eq_true rfl⟩ ?_
  refine a_aload_n X dX5_chapel_9 (i := 0) rfl rfl ?_
  refine a_iconst X dX5_chapel_10 (v := nI 0) (by decide +kernel) ?_
  refine s_puti X dX5_chapel_11 fp_X5_177 ko_43 rfl rfl rfl ?_
  refine a_aload_n X dX5_chapel_14 (i := 0) rfl rfl ?_
  refine a_iconst X dX5_chapel_15 (v := nI 1) (by decide +kernel) ?_
  refine s_puti X dX5_chapel_16 fp_X5_224 ko_43 rfl (by decide +kernel) (by decide +kernel) ?_
  refine a_iconst X dX5_chapel_19 (v := nI 0) (by decide +kernel) ?_
  refine a_istore_n X dX5_chapel_20 (i := 1) rfl (by decide) rfl ?_
  refine a_iconst X dX5_chapel_21 (v := nI 1) (by decide +kernel) ?_
  refine a_istore_n X dX5_chapel_22 (i := 2) rfl (by decide) rfl ?_
  refine a_iload_n X dX5_chapel_23 (i := 2) rfl rfl ?_
  refine a_if_eq X dX5_chapel_24 (tgt := 71) (by decide) (fun hc24 => ?_) (fun hc24 => ?_)
  · skip
    exact absurd hc24 (by decide +kernel)
  · skip
    exact L27 (t + 1) 0 0 (t + 1) R _ _ _ (by omega) (by omega) (by simp [ug]) (by simp [ug]) (frf_u (frf_u (frf_0 F) (by decide)) (by decide)) ⟨by rw [up_n _ _ (by decide)]; exact hR, fun P h1 h2 => up_n _ _ h2, fun j hj => by rw [up_s, if_pos hj, hR]; rfl⟩ ok (by omega) rfl
