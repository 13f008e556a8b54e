set_option maxRecDepth 100000 in
set_option maxHeartbeats 4000000 in
theorem c_X5_isWord {l : Launch} {g : GG} {I : TI} {J : TJ} {F : TI} {w : Int64} {B : Nat → Nat} {t p0 i : Nat} (hK : TkM B t p0 F w) (hi : i < 9) {c0 : Int64} (hc0 : c0 = lN (tx_cdN.getD i 0)) : UR l g mX5_isWord [.ref (ga g 43), .long c0] I J F w (.int (bI (txwB B t p0 i))) I J F w := by
  refine ct_start (M := mX5_isWord) (by decide +kernel) (Nat.le_of_ble_eq_true rfl) ?_
  intro p e s m args below meth c A X hA
  have X : AX p s m args meth c g A cX5_isWord 3 RX5 (Cond.code yX5_isWord cX5_isWord 3 (some .boolean)) (some .boolean) := X
  show AW p l e (rmM 0 0) s m args below meth c g A 3 0 0 (MQ below (CQ g (hp g I J F w) s.heap.size (fun vv0 hh0 => vv0 = some (.int (bI (txwB B t p0 i))) ∧ hh0 = hp g I J F w)) args s 0 0 A) 0 [some (.ref (ga g 43)), some (.long c0), none] [] (hp g I J F w)
  refine a_aload_n X dX5_isWord_0 (i := 0) rfl rfl ?_
  refine s_geti X dX5_isWord_1 fl_X5_192 ko_43 rfl ?_
  refine a_iconst X dX5_isWord_4 (v := nI 1) (by decide +kernel) ?_
  refine a_icmp_ne X dX5_isWord_5 (tgt := 21) (by decide) (fun hc5 => ?_) (fun hc5 => ?_)
  · skip
    refine a_iconst X dX5_isWord_21 (v := nI 0) (by decide +kernel) ?_
    refine a_zret X hA dX5_isWord_22 (by first | exact nar_bI _ | decide +kernel) ⟨?_, ?_⟩
    · rw [← isw hK hi, ← hc0]; rw [show decide (F 43 8 = nI 1) = false by simp [hc5]]; rfl
    · rfl
  · skip
    refine a_aload_n X dX5_isWord_8 (i := 0) rfl rfl ?_
    refine s_getl X dX5_isWord_9 fl_X5_195 ko_43 rfl ?_
    refine a_lload_n X dX5_isWord_12 (i := 1) rfl rfl ?_
    refine a_lcmp X dX5_isWord_13 ?_
    refine a_if_ne X dX5_isWord_14 (tgt := 21) (by decide) (fun hc14 => ?_) (fun hc14 => ?_)
    · skip
      refine a_iconst X dX5_isWord_21 (v := nI 0) (by decide +kernel) ?_
      refine a_zret X hA dX5_isWord_22 (by first | exact nar_bI _ | decide +kernel) ⟨?_, ?_⟩
      · rw [← isw hK hi, ← hc0]; rw [show decide (F 43 8 = nI 1) = true by simp [hc5], show decide (w = c0) = false from decide_eq_false (fun q => hc14 ((lg_cmp_eq _ _).mpr q))]; rfl
      · rfl
    · skip
      refine a_iconst X dX5_isWord_17 (v := nI 1) (by decide +kernel) ?_
      refine a_goto X dX5_isWord_18 (tgt := 22) (by decide) ?_
      refine a_zret X hA dX5_isWord_22 (by first | exact nar_bI _ | decide +kernel) ⟨?_, ?_⟩
      · rw [← isw hK hi, ← hc0]; rw [show decide (F 43 8 = nI 1) = true by simp [hc5], show decide (w = c0) = true by simp [(lg_cmp_eq _ _).mp hc14]]; rfl
      · rfl
set_option maxRecDepth 100000 in
set_option maxHeartbeats 4000000 in
theorem c_X5_kindHere {l : Launch} {g : GG} {I : TI} {J : TJ} {F : TI} {w : Int64} {B : Nat → Nat} {t p0 : Nat} (hK : TkM B t p0 F w) : UR l g mX5_kindHere [.ref (ga g 43)] I J F w (.int (kdI B t p0)) I J F w := by
  refine ct_start (M := mX5_kindHere) (by decide +kernel) (Nat.le_of_ble_eq_true rfl) ?_
  intro p e s m args below meth c A X hA
  have X : AX p s m args meth c g A cX5_kindHere 1 RX5 (Cond.code yX5_kindHere cX5_kindHere 1 (some .int)) (some .int) := X
  show AW p l e (rmM 1 22) s m args below meth c g A 1 0 0 (MQ below (CQ g (hp g I J F w) s.heap.size (fun vv0 hh0 => vv0 = some (.int (kdI B t p0)) ∧ hh0 = hp g I J F w)) args s 0 0 A) 0 [some (.ref (ga g 43))] [] (hp g I J F w)
  refine a_aload_n X dX5_kindHere_0 (i := 0) rfl rfl ?_
  refine a_ldc2 X dX5_kindHere_1 kc_X5_208 ?_
  refine s_callV_R X dX5_kindHere_4 lk_X5_210 ko_43 rfl rfl (c_X5_isWord hK (i := 0) (by decide) (by decide +kernel)) ⟨Nat.le_of_ble_eq_true rfl, Nat.le_of_ble_eq_true rfl⟩ rfl rfl (Nat.le_of_ble_eq_true rfl) ⟨Nat.le_of_ble_eq_true rfl, Nat.le_of_ble_eq_true rfl⟩ ?_
  refine a_if_eq X dX5_kindHere_7 (tgt := 14) (by decide) (fun hc7 => ?_) (fun hc7 => ?_)
  · skip
    simp only [bI_0, Bool.not_eq_false, txwB, Bool.and_eq_true, Bool.and_eq_false_iff, decide_eq_true_eq, decide_eq_false_iff_not] at hc7
    refine a_aload_n X dX5_kindHere_14 (i := 0) rfl rfl ?_
    refine a_ldc2 X dX5_kindHere_15 kc_X5_214 ?_
    refine s_callV_R X dX5_kindHere_18 lk_X5_210 ko_43 rfl rfl (c_X5_isWord hK (i := 1) (by decide) (by decide +kernel)) ⟨Nat.le_of_ble_eq_true rfl, Nat.le_of_ble_eq_true rfl⟩ rfl rfl (Nat.le_of_ble_eq_true rfl) ⟨Nat.le_of_ble_eq_true rfl, Nat.le_of_ble_eq_true rfl⟩ ?_
    refine a_if_eq X dX5_kindHere_21 (tgt := 28) (by decide) (fun hc21 => ?_) (fun hc21 => ?_)
    · skip
      simp only [bI_0, Bool.not_eq_false, txwB, Bool.and_eq_true, Bool.and_eq_false_iff, decide_eq_true_eq, decide_eq_false_iff_not] at hc21
      refine a_aload_n X dX5_kindHere_28 (i := 0) rfl rfl ?_
      refine a_ldc2 X dX5_kindHere_29 kc_X5_216 ?_
      refine s_callV_R X dX5_kindHere_32 lk_X5_210 ko_43 rfl rfl (c_X5_isWord hK (i := 2) (by decide) (by decide +kernel)) ⟨Nat.le_of_ble_eq_true rfl, Nat.le_of_ble_eq_true rfl⟩ rfl rfl (Nat.le_of_ble_eq_true rfl) ⟨Nat.le_of_ble_eq_true rfl, Nat.le_of_ble_eq_true rfl⟩ ?_
      refine a_if_eq X dX5_kindHere_35 (tgt := 42) (by decide) (fun hc35 => ?_) (fun hc35 => ?_)
      · skip
        simp only [bI_0, Bool.not_eq_false, txwB, Bool.and_eq_true, Bool.and_eq_false_iff, decide_eq_true_eq, decide_eq_false_iff_not] at hc35
        refine a_aload_n X dX5_kindHere_42 (i := 0) rfl rfl ?_
        refine a_ldc2 X dX5_kindHere_43 kc_X5_218 ?_
        refine s_callV_R X dX5_kindHere_46 lk_X5_210 ko_43 rfl rfl (c_X5_isWord hK (i := 3) (by decide) (by decide +kernel)) ⟨Nat.le_of_ble_eq_true rfl, Nat.le_of_ble_eq_true rfl⟩ rfl rfl (Nat.le_of_ble_eq_true rfl) ⟨Nat.le_of_ble_eq_true rfl, Nat.le_of_ble_eq_true rfl⟩ ?_
        refine a_if_eq X dX5_kindHere_49 (tgt := 56) (by decide) (fun hc49 => ?_) (fun hc49 => ?_)
        · skip
          simp only [bI_0, Bool.not_eq_false, txwB, Bool.and_eq_true, Bool.and_eq_false_iff, decide_eq_true_eq, decide_eq_false_iff_not] at hc49
          refine a_aload_n X dX5_kindHere_56 (i := 0) rfl rfl ?_
          refine a_ldc2 X dX5_kindHere_57 kc_X5_220 ?_
          refine s_callV_R X dX5_kindHere_60 lk_X5_210 ko_43 rfl rfl (c_X5_isWord hK (i := 4) (by decide) (by decide +kernel)) ⟨Nat.le_of_ble_eq_true rfl, Nat.le_of_ble_eq_true rfl⟩ rfl rfl (Nat.le_of_ble_eq_true rfl) ⟨Nat.le_of_ble_eq_true rfl, Nat.le_of_ble_eq_true rfl⟩ ?_
          refine a_if_eq X dX5_kindHere_63 (tgt := 70) (by decide) (fun hc63 => ?_) (fun hc63 => ?_)
          · skip
            simp only [bI_0, Bool.not_eq_false, txwB, Bool.and_eq_true, Bool.and_eq_false_iff, decide_eq_true_eq, decide_eq_false_iff_not] at hc63
            refine a_aload_n X dX5_kindHere_70 (i := 0) rfl rfl ?_
            refine a_ldc2 X dX5_kindHere_71 kc_X5_222 ?_
            refine s_callV_R X dX5_kindHere_74 lk_X5_210 ko_43 rfl rfl (c_X5_isWord hK (i := 5) (by decide) (by decide +kernel)) ⟨Nat.le_of_ble_eq_true rfl, Nat.le_of_ble_eq_true rfl⟩ rfl rfl (Nat.le_of_ble_eq_true rfl) ⟨Nat.le_of_ble_eq_true rfl, Nat.le_of_ble_eq_true rfl⟩ ?_
            refine a_if_eq X dX5_kindHere_77 (tgt := 84) (by decide) (fun hc77 => ?_) (fun hc77 => ?_)
            · skip
              simp only [bI_0, Bool.not_eq_false, txwB, Bool.and_eq_true, Bool.and_eq_false_iff, decide_eq_true_eq, decide_eq_false_iff_not] at hc77
              refine a_iconst X dX5_kindHere_84 (v := (-1)) (by decide +kernel) ?_
              refine a_iret X hA dX5_kindHere_85 ⟨?_, ?_⟩
              · unfold kdI; first | (rw [if_pos (by omega)]; congr 3; omega) | (rw [if_neg (by omega)])
              · rfl
            · skip
              simp only [bI_0, Bool.not_eq_false, txwB, Bool.and_eq_true, Bool.and_eq_false_iff, decide_eq_true_eq, decide_eq_false_iff_not] at hc77
              refine a_iconst X dX5_kindHere_80 (v := nI 5) (by decide +kernel) ?_
              refine a_goto X dX5_kindHere_81 (tgt := 85) (by decide) ?_
              refine a_iret X hA dX5_kindHere_85 ⟨?_, ?_⟩
              · unfold kdI; first | (rw [if_pos (by omega)]; congr 3; omega) | (rw [if_neg (by omega)])
              · rfl
          · skip
            simp only [bI_0, Bool.not_eq_false, txwB, Bool.and_eq_true, Bool.and_eq_false_iff, decide_eq_true_eq, decide_eq_false_iff_not] at hc63
            refine a_iconst X dX5_kindHere_66 (v := nI 4) (by decide +kernel) ?_
            refine a_goto X dX5_kindHere_67 (tgt := 85) (by decide) ?_
            refine a_iret X hA dX5_kindHere_85 ⟨?_, ?_⟩
            · unfold kdI; first | (rw [if_pos (by omega)]; congr 3; omega) | (rw [if_neg (by omega)])
            · rfl
        · skip
          simp only [bI_0, Bool.not_eq_false, txwB, Bool.and_eq_true, Bool.and_eq_false_iff, decide_eq_true_eq, decide_eq_false_iff_not] at hc49
          refine a_iconst X dX5_kindHere_52 (v := nI 3) (by decide +kernel) ?_
          refine a_goto X dX5_kindHere_53 (tgt := 85) (by decide) ?_
          refine a_iret X hA dX5_kindHere_85 ⟨?_, ?_⟩
          · unfold kdI; first | (rw [if_pos (by omega)]; congr 3; omega) | (rw [if_neg (by omega)])
          · rfl
      · skip
        simp only [bI_0, Bool.not_eq_false, txwB, Bool.and_eq_true, Bool.and_eq_false_iff, decide_eq_true_eq, decide_eq_false_iff_not] at hc35
        refine a_iconst X dX5_kindHere_38 (v := nI 2) (by decide +kernel) ?_
        refine a_goto X dX5_kindHere_39 (tgt := 85) (by decide) ?_
        refine a_iret X hA dX5_kindHere_85 ⟨?_, ?_⟩
        · unfold kdI; first | (rw [if_pos (by omega)]; congr 3; omega) | (rw [if_neg (by omega)])
        · rfl
    · skip
      simp only [bI_0, Bool.not_eq_false, txwB, Bool.and_eq_true, Bool.and_eq_false_iff, decide_eq_true_eq, decide_eq_false_iff_not] at hc21
      refine a_iconst X dX5_kindHere_24 (v := nI 1) (by decide +kernel) ?_
      refine a_goto X dX5_kindHere_25 (tgt := 85) (by decide) ?_
      refine a_iret X hA dX5_kindHere_85 ⟨?_, ?_⟩
      · unfold kdI; first | (rw [if_pos (by omega)]; congr 3; omega) | (rw [if_neg (by omega)])
      · rfl
  · skip
    simp only [bI_0, Bool.not_eq_false, txwB, Bool.and_eq_true, Bool.and_eq_false_iff, decide_eq_true_eq, decide_eq_false_iff_not] at hc7
    refine a_iconst X dX5_kindHere_10 (v := nI 0) (by decide +kernel) ?_
    refine a_goto X dX5_kindHere_11 (tgt := 85) (by decide) ?_
    refine a_iret X hA dX5_kindHere_85 ⟨?_, ?_⟩
    · unfold kdI; first | (rw [if_pos (by omega)]; congr 3; omega) | (rw [if_neg (by omega)])
    · rfl
set_option maxRecDepth 100000 in
set_option maxHeartbeats 4000000 in
theorem c_X5_wantNumber {l : Launch} {g : GG} {I : TI} {J : TJ} {F : TI} {w : Int64} {B : Nat → Nat} {t : Nat} (hT : TpM I F B t) {p0 : Nat} (hp0 : p0 ≤ t) (hK : TkM B t p0 F w) {lo hi : Int32} {c0 gd : Bool} (hc0 : (decide (F 43 8 = nI 2) && inB (F 43 12) lo hi) = c0) (hg : F 43 13 = bI gd) : RV l g mX5_wantNumber [.ref (ga g 43), .int lo, .int hi] I J F w (WnM I J F B t p0 (F 43 12) (gd && c0)) := by
  have hE1 := tkE_le (B := B) hp0
  refine ct_start (M := mX5_wantNumber) (by decide +kernel) (Nat.le_of_ble_eq_true rfl) ?_
  intro p e s m args below meth c A X hA
  have X : AX p s m args meth c g A cX5_wantNumber 4 RX5 (Cond.code yX5_wantNumber cX5_wantNumber 4 (some .int)) (some .int) := X
  show AW p l e (rmM 3 63) s m args below meth c g A 4 0 0 (MQ below (CQ g (hp g I J F w) s.heap.size (fun vv0 hh0 => ∃ xx0 II0 JJ0 FF0 ww0, vv0 = some xx0 ∧ hh0 = hp g II0 JJ0 FF0 ww0 ∧ (WnM I J F B t p0 (F 43 12) (gd && c0)) xx0 II0 JJ0 FF0 ww0)) args s 0 0 A) 0 [some (.ref (ga g 43)), some (.int lo), some (.int hi), none] [] (hp g I J F w)
  have L38 : ∀ (c2 : Bool), (c2 = (gd && c0)) → AW p l e (rmM 3 63) s m args below meth c g A 4 0 0 (MQ below (CQ g (hp g I J F w) s.heap.size (fun vv0 hh0 => ∃ xx0 II0 JJ0 FF0 ww0, vv0 = some xx0 ∧ hh0 = hp g II0 JJ0 FF0 ww0 ∧ (WnM I J F B t p0 (F 43 12) (gd && c0)) xx0 II0 JJ0 FF0 ww0)) args s 0 0 A) 38 [some (.ref (ga g 43)), some (.int lo), some (.int hi), some (.int (F 43 12))] [] (hp g I J (va_up F 43 (va_up (F 43) 13 (bI c2))) w) := by
    intro c2 h2
    refine a_aload_n X dX5_wantNumber_38 (i := 0) rfl rfl ?_
    refine s_geti X dX5_wantNumber_39 fl_X5_224 ko_43 rfl ?_
    rw [ug, if_pos rfl]
    refine a_if_eq X dX5_wantNumber_42 (tgt := 49) (by decide) (fun hc42 => ?_) (fun hc42 => ?_)
    · skip
      try simp only [bI_0, Bool.not_eq_false] at hc42
      refine a_iload_n X dX5_wantNumber_49 (i := 3) rfl rfl ?_
      refine a_iret X hA dX5_wantNumber_50 ?_
      first
        | exact ⟨_, _, _, _, _, rfl, rfl, rfl, rfl, rfl, frf_t (frf_u (frf_0 F) (by decide)) hF2.1, by rw [hF2.2, ug, if_pos rfl, h2], by rw [← h2, if_pos hc42]; exact hK2⟩
        | exact ⟨_, _, _, _, _, rfl, rfl, rfl, rfl, rfl, frf_u (frf_0 F) (by decide), by rw [ug, if_pos rfl, h2], by rw [← h2, hc42]; exact tk_g hK⟩
    · skip
      try simp only [bI_0, Bool.not_eq_false] at hc42
      refine a_aload_n X dX5_wantNumber_45 (i := 0) rfl rfl ?_
      refine s_callV_Y X dX5_wantNumber_46 lk_X5_228 ko_43 rfl rfl (c_X5_advance (p0 := tkE B t p0) (tp_f hT (frf_u (frf_0 F) (by decide))) hE1.2 (by simp [ug, hK.2.1])) ⟨Nat.le_of_ble_eq_true rfl, Nat.le_of_ble_eq_true rfl⟩ rfl rfl (Nat.le_of_ble_eq_true rfl) ⟨Nat.le_of_ble_eq_true rfl, Nat.le_of_ble_eq_true rfl⟩ (fun I2 J2 F2 w2 hpo => ?_)
      obtain ⟨rfl, rfl, hF2, hK2⟩ := hpo
      refine a_iload_n X dX5_wantNumber_49 (i := 3) rfl rfl ?_
      refine a_iret X hA dX5_wantNumber_50 ?_
      first
        | exact ⟨_, _, _, _, _, rfl, rfl, rfl, rfl, rfl, frf_t (frf_u (frf_0 F) (by decide)) hF2.1, by rw [hF2.2, ug, if_pos rfl, h2], by rw [← h2, if_pos hc42]; exact hK2⟩
        | exact ⟨_, _, _, _, _, rfl, rfl, rfl, rfl, rfl, frf_u (frf_0 F) (by decide), by rw [ug, if_pos rfl, h2], by rw [← h2, hc42]; exact tk_g hK⟩
  refine a_aload_n X dX5_wantNumber_0 (i := 0) rfl rfl ?_
  refine s_geti X dX5_wantNumber_1 fl_X5_199 ko_43 rfl ?_
  refine a_istore_n X dX5_wantNumber_4 (i := 3) rfl (by decide) rfl ?_
  refine a_aload_n X dX5_wantNumber_5 (i := 0) rfl rfl ?_
  refine a_aload_n X dX5_wantNumber_6 (i := 0) rfl rfl ?_
  refine s_geti X dX5_wantNumber_7 fl_X5_224 ko_43 rfl ?_
  rw [hg]
  refine a_if_eq X dX5_wantNumber_10 (tgt := 34) (by decide) (fun hc10 => ?_) (fun hc10 => ?_)
  · skip
    try simp only [bI_0, Bool.not_eq_false] at hc10
    refine a_iconst X dX5_wantNumber_34 (v := nI 0) (by decide +kernel) ?_
    refine s_puti X dX5_wantNumber_35 fp_X5_224 ko_43 rfl (by decide +kernel) (by decide +kernel) ?_
    first
      | (have := L38 true (by rw [← hc0]; simp [*]); rw [bI_t] at this; exact this)
      | (have := L38 false (by rw [← hc0]; simp [*]); rw [bI_f] at this; exact this)
  · skip
    try simp only [bI_0, Bool.not_eq_false] at hc10
    refine a_aload_n X dX5_wantNumber_13 (i := 0) rfl rfl ?_
    refine s_geti X dX5_wantNumber_14 fl_X5_192 ko_43 rfl ?_
    refine a_iconst X dX5_wantNumber_17 (v := nI 2) (by decide +kernel) ?_
    refine a_icmp_ne X dX5_wantNumber_18 (tgt := 34) (by decide) (fun hc18 => ?_) (fun hc18 => ?_)
    · skip
      refine a_iconst X dX5_wantNumber_34 (v := nI 0) (by decide +kernel) ?_
      refine s_puti X dX5_wantNumber_35 fp_X5_224 ko_43 rfl (by decide +kernel) (by decide +kernel) ?_
      first
        | (have := L38 true (by rw [← hc0]; simp [*]); rw [bI_t] at this; exact this)
        | (have := L38 false (by rw [← hc0]; simp [*]); rw [bI_f] at this; exact this)
    · skip
      refine a_iload_n X dX5_wantNumber_21 (i := 3) rfl rfl ?_
      refine a_iload_n X dX5_wantNumber_22 (i := 1) rfl rfl ?_
      refine a_iload_n X dX5_wantNumber_23 (i := 2) rfl rfl ?_
      refine s_callS_R X dX5_wantNumber_24 lk_X5_51 c_X5_in ⟨Nat.le_of_ble_eq_true rfl, Nat.le_of_ble_eq_true rfl⟩ rfl rfl (Nat.le_of_ble_eq_true rfl) ⟨Nat.le_of_ble_eq_true rfl, Nat.le_of_ble_eq_true rfl⟩ ?_
      refine a_if_eq X dX5_wantNumber_27 (tgt := 34) (by decide) (fun hc27 => ?_) (fun hc27 => ?_)
      · skip
        try simp only [bI_0, Bool.not_eq_false] at hc27
        refine a_iconst X dX5_wantNumber_34 (v := nI 0) (by decide +kernel) ?_
        refine s_puti X dX5_wantNumber_35 fp_X5_224 ko_43 rfl (by decide +kernel) (by decide +kernel) ?_
        first
          | (have := L38 true (by rw [← hc0]; simp [*]); rw [bI_t] at this; exact this)
          | (have := L38 false (by rw [← hc0]; simp [*]); rw [bI_f] at this; exact this)
      · skip
        try simp only [bI_0, Bool.not_eq_false] at hc27
        refine a_iconst X dX5_wantNumber_30 (v := nI 1) (by decide +kernel) ?_
        refine a_goto X dX5_wantNumber_31 (tgt := 35) (by decide) ?_
        refine s_puti X dX5_wantNumber_35 fp_X5_224 ko_43 rfl (by decide +kernel) (by decide +kernel) ?_
        first
          | (have := L38 true (by rw [← hc0]; simp [*]); rw [bI_t] at this; exact this)
          | (have := L38 false (by rw [← hc0]; simp [*]); rw [bI_f] at this; exact this)
set_option maxRecDepth 100000 in
set_option maxHeartbeats 4000000 in
theorem c_X5_wantSeat {l : Launch} {g : GG} {I : TI} {J : TJ} {F : TI} {w : Int64} {B : Nat → Nat} {t : Nat} (hT : TpM I F B t) {p0 : Nat} (hp0 : p0 ≤ t) (hK : TkM B t p0 F w) {R : Nat → Nat} (hR : I 44 = nr R) (ok : okR R) (hg : F 43 13 = nI 1) : RV l g mX5_wantSeat [.ref (ga g 43)] I J F w (WnM I J F B t p0 (F 43 12) (txN B t p0 0 12 && decide (who R (tkV B t p0) (R 1) = none))) := by
  have h5 := tkK_5 B t p0
  refine ct_start (M := mX5_wantSeat) (by decide +kernel) (Nat.le_of_ble_eq_true rfl) ?_
  intro p e s m args below meth c A X hA
  have X : AX p s m args meth c g A cX5_wantSeat 1 RX5 (Cond.code yX5_wantSeat cX5_wantSeat 1 (some .int)) (some .int) := X
  show AW p l e (rmM 4 86) s m args below meth c g A 1 0 0 (MQ below (CQ g (hp g I J F w) s.heap.size (fun vv0 hh0 => ∃ xx0 II0 JJ0 FF0 ww0, vv0 = some xx0 ∧ hh0 = hp g II0 JJ0 FF0 ww0 ∧ (WnM I J F B t p0 (F 43 12) (txN B t p0 0 12 && decide (who R (tkV B t p0) (R 1) = none))) xx0 II0 JJ0 FF0 ww0)) args s 0 0 A) 0 [some (.ref (ga g 43))] [] (hp g I J F w)
  have L45 : ∀ (c2 : Bool), (c2 = !(decide (F 43 8 = nI 2) && (inB (F 43 12) (nI 0) (nI 11) && !decide (who R (cl (F 43 12)) (R 1) = none)))) → AW p l e (rmM 4 86) s m args below meth c g A 1 0 0 (MQ below (CQ g (hp g I J F w) s.heap.size (fun vv0 hh0 => ∃ xx0 II0 JJ0 FF0 ww0, vv0 = some xx0 ∧ hh0 = hp g II0 JJ0 FF0 ww0 ∧ (WnM I J F B t p0 (F 43 12) (txN B t p0 0 12 && decide (who R (tkV B t p0) (R 1) = none))) xx0 II0 JJ0 FF0 ww0)) args s 0 0 A) 45 [some (.ref (ga g 43))] [] (hp g I J (va_up F 43 (va_up (F 43) 13 (bI c2))) w) := by
    intro c2 h2
    refine a_aload_n X dX5_wantSeat_45 (i := 0) rfl rfl ?_
    refine a_iconst X dX5_wantSeat_46 (v := nI 0) (by decide +kernel) ?_
    refine a_bipush X dX5_wantSeat_47 (v := nI 11) (by decide +kernel) ?_
    refine s_callV_X X dX5_wantSeat_49 lk_X5_231 ko_43 rfl rfl (c_X5_wantNumber (tp_f hT (frf_u (frf_0 F) (by decide))) hp0 (tk_g hK) (gd := c2) rfl (by rw [ug, if_pos rfl])) ⟨Nat.le_of_ble_eq_true rfl, Nat.le_of_ble_eq_true rfl⟩ rfl rfl (Nat.le_of_ble_eq_true rfl) ⟨Nat.le_of_ble_eq_true rfl, Nat.le_of_ble_eq_true rfl⟩ (fun x2 I2 J2 F2 w2 hpo => ?_)
    obtain ⟨rfl, rfl, rfl, hF2, hg2, hK2⟩ := hpo
    refine a_iret X hA dX5_wantSeat_52 ?_
    have e1 : (c2 && (decide (va_up F 43 (va_up (F 43) 13 (bI c2)) 43 8 = nI 2) && inB (va_up F 43 (va_up (F 43) 13 (bI c2)) 43 12) (nI 0) (nI 11))) = (txN B t p0 0 12 && decide (who R (tkV B t p0) (R 1) = none)) := (by
      rw [wn (tk_g hK) (by decide) (by decide)]
      rw [← Bool.and_assoc, wn hK (by decide) (by decide)] at h2
      cases hc : txN B t p0 0 12 with
      | false => rw [hc] at h2; simp
      | true =>
        rw [(wnV hK (by decide) hc).1, cl_n (by have := (wnV hK (by decide) hc).2.2; omega), hc] at h2
        rw [h2]; simp)
    rw [e1] at hg2 hK2
    exact ⟨_, _, _, _, _, rfl, rfl, by rw [ug, if_neg (by decide)], rfl, rfl, frf_t (frf_u (frf_0 F) (by decide)) hF2, hg2, hK2⟩
  refine a_aload_n X dX5_wantSeat_0 (i := 0) rfl rfl ?_
  refine a_aload_n X dX5_wantSeat_1 (i := 0) rfl rfl ?_
  refine s_geti X dX5_wantSeat_2 fl_X5_224 ko_43 rfl ?_
  rw [hg]
  refine a_if_eq X dX5_wantSeat_5 (tgt := 41) (by decide) (fun hc5 => ?_) (fun hc5 => ?_)
  · skip
    exact absurd hc5 (by decide +kernel)
  · skip
    refine a_aload_n X dX5_wantSeat_8 (i := 0) rfl rfl ?_
    refine s_geti X dX5_wantSeat_9 fl_X5_192 ko_43 rfl ?_
    refine a_iconst X dX5_wantSeat_12 (v := nI 2) (by decide +kernel) ?_
    refine a_icmp_ne X dX5_wantSeat_13 (tgt := 37) (by decide) (fun hc13 => ?_) (fun hc13 => ?_)
    · skip
      refine a_iconst X dX5_wantSeat_37 (v := nI 1) (by decide +kernel) ?_
      refine a_goto X dX5_wantSeat_38 (tgt := 42) (by decide) ?_
      refine s_puti X dX5_wantSeat_42 fp_X5_224 ko_43 rfl (by decide +kernel) (by decide +kernel) ?_
      have := L45 true (by simp [*]); rw [bI_t] at this; exact this
    · skip
      refine a_aload_n X dX5_wantSeat_16 (i := 0) rfl rfl ?_
      refine s_geti X dX5_wantSeat_17 fl_X5_199 ko_43 rfl ?_
      refine s_callS_R X dX5_wantSeat_20 lk_X5_59 c_X5_isSeat ⟨Nat.le_of_ble_eq_true rfl, Nat.le_of_ble_eq_true rfl⟩ rfl rfl (Nat.le_of_ble_eq_true rfl) ⟨Nat.le_of_ble_eq_true rfl, Nat.le_of_ble_eq_true rfl⟩ ?_
      refine a_if_eq X dX5_wantSeat_23 (tgt := 37) (by decide) (fun hc23 => ?_) (fun hc23 => ?_)
      · skip
        try simp only [bI_0, Bool.not_eq_false] at hc23
        refine a_iconst X dX5_wantSeat_37 (v := nI 1) (by decide +kernel) ?_
        refine a_goto X dX5_wantSeat_38 (tgt := 42) (by decide) ?_
        refine s_puti X dX5_wantSeat_42 fp_X5_224 ko_43 rfl (by decide +kernel) (by decide +kernel) ?_
        have := L45 true (by simp [*]); rw [bI_t] at this; exact this
      · skip
        try simp only [bI_0, Bool.not_eq_false] at hc23
        obtain ⟨a, ha, hcv⟩ := inB_t (by decide) hc23
        refine a_aload_n X dX5_wantSeat_26 (i := 0) rfl rfl ?_
        refine a_aload_n X dX5_wantSeat_27 (i := 0) rfl rfl ?_
        refine s_geti X dX5_wantSeat_28 fl_X5_199 ko_43 rfl ?_
        rw [hcv] at L45 hc23 ⊢
        refine s_callV_R X dX5_wantSeat_31 lk_X5_63 ko_43 rfl rfl (c_X5_whoIn hR ok.1 (by omega) (fun m hm => by have := (ok.2.1 m hm).2.1; omega)) ⟨Nat.le_of_ble_eq_true rfl, Nat.le_of_ble_eq_true rfl⟩ rfl rfl (Nat.le_of_ble_eq_true rfl) ⟨Nat.le_of_ble_eq_true rfl, Nat.le_of_ble_eq_true rfl⟩ ?_
        refine a_if_ge X dX5_wantSeat_34 (tgt := 41) (by decide) (fun hc34 => ?_) (fun hc34 => ?_)
        · skip
          refine a_iconst X dX5_wantSeat_41 (v := nI 0) (by decide +kernel) ?_
          refine s_puti X dX5_wantSeat_42 fp_X5_224 ko_43 rfl (by decide +kernel) (by decide +kernel) ?_
          obtain ⟨q, hq⟩ := whoSome hc34
          have := L45 false (by rw [cl_n (by omega), hq, hc13, hc23]; rfl)
          rw [bI_f] at this
          exact this
        · skip
          refine a_iconst X dX5_wantSeat_37 (v := nI 1) (by decide +kernel) ?_
          refine a_goto X dX5_wantSeat_38 (tgt := 42) (by decide) ?_
          refine s_puti X dX5_wantSeat_42 fp_X5_224 ko_43 rfl (by decide +kernel) (by decide +kernel) ?_
          have hq := whoNone (who_b ok.1) hc34
          have := L45 true (by rw [cl_n (by omega), hq]; simp)
          rw [bI_t] at this
          exact this
set_option maxRecDepth 100000 in
set_option maxHeartbeats 4000000 in
theorem c_X5_mayWant_f {l : Launch} {g : GG} {I : TI} {J : TJ} {F : TI} {w : Int64} {c0 : Int64} (hg : F 43 13 = nI 0) : UR l g mX5_mayWant [.ref (ga g 43), .long c0, .int (nI 1), .int (nI 9), .int (nI 5)] I J F w (.int (nI 5)) I J F w := by
  refine ct_start (M := mX5_mayWant) (by decide +kernel) (Nat.le_of_ble_eq_true rfl) ?_
  intro p e s m args below meth c A X hA
  have X : AX p s m args meth c g A cX5_mayWant 6 RX5 (Cond.code yX5_mayWant cX5_mayWant 6 (some .int)) (some .int) := X
  show AW p l e (rmM 4 86) s m args below meth c g A 6 0 0 (MQ below (CQ g (hp g I J F w) s.heap.size (fun vv0 hh0 => vv0 = some (.int (nI 5)) ∧ hh0 = hp g I J F w)) args s 0 0 A) 0 [some (.ref (ga g 43)), some (.long c0), none, some (.int (nI 1)), some (.int (nI 9)), some (.int (nI 5))] [] (hp g I J F w)
  refine a_aload_n X dX5_mayWant_0 (i := 0) rfl rfl ?_
  refine s_geti X dX5_mayWant_1 fl_X5_224 ko_43 rfl ?_
  rw [hg]
  refine a_if_eq X dX5_mayWant_4 (tgt := 15) (by decide) (fun hc4 => ?_) (fun hc4 => ?_)
  · skip
    refine a_iload X dX5_mayWant_15 rfl ?_
    exact a_iret X hA dX5_mayWant_17 ⟨rfl, rfl⟩
  · skip
    exact absurd (by decide +kernel) hc4
set_option maxRecDepth 100000 in
set_option maxHeartbeats 4000000 in
theorem c_X5_mayWant {l : Launch} {g : GG} {I : TI} {J : TJ} {F : TI} {w : Int64} {B : Nat → Nat} {t : Nat} (hT : TpM I F B t) {p0 : Nat} (hp0 : p0 ≤ t) (hK : TkM B t p0 F w) (hg : F 43 13 = nI 1) {c0 : Int64} (hc0 : c0 = lN (tx_cdN.getD 8 0)) : RV l g mX5_mayWant [.ref (ga g 43), .long c0, .int (nI 1), .int (nI 9), .int (nI 5)] I J F w (MwM I J F B t p0) := by
  have hE1 := tkE_le (B := B) hp0
  refine ct_start (M := mX5_mayWant) (by decide +kernel) (Nat.le_of_ble_eq_true rfl) ?_
  intro p e s m args below meth c A X hA
  have X : AX p s m args meth c g A cX5_mayWant 6 RX5 (Cond.code yX5_mayWant cX5_mayWant 6 (some .int)) (some .int) := X
  show AW p l e (rmM 4 86) s m args below meth c g A 6 0 0 (MQ below (CQ g (hp g I J F w) s.heap.size (fun vv0 hh0 => ∃ xx0 II0 JJ0 FF0 ww0, vv0 = some xx0 ∧ hh0 = hp g II0 JJ0 FF0 ww0 ∧ (MwM I J F B t p0) xx0 II0 JJ0 FF0 ww0)) args s 0 0 A) 0 [some (.ref (ga g 43)), some (.long c0), none, some (.int (nI 1)), some (.int (nI 9)), some (.int (nI 5))] [] (hp g I J F w)
  refine a_aload_n X dX5_mayWant_0 (i := 0) rfl rfl ?_
  refine s_geti X dX5_mayWant_1 fl_X5_224 ko_43 rfl ?_
  rw [hg]
  refine a_if_eq X dX5_mayWant_4 (tgt := 15) (by decide) (fun hc4 => ?_) (fun hc4 => ?_)
  · skip
    exact absurd hc4 (by decide +kernel)
  · skip
    refine a_aload_n X dX5_mayWant_7 (i := 0) rfl rfl ?_
    refine a_lload_n X dX5_mayWant_8 (i := 1) rfl rfl ?_
    refine s_callV_R X dX5_mayWant_9 lk_X5_210 ko_43 rfl rfl (c_X5_isWord hK (i := 8) (by decide) hc0) ⟨Nat.le_of_ble_eq_true rfl, Nat.le_of_ble_eq_true rfl⟩ rfl rfl (Nat.le_of_ble_eq_true rfl) ⟨Nat.le_of_ble_eq_true rfl, Nat.le_of_ble_eq_true rfl⟩ ?_
    refine a_if_ne X dX5_mayWant_12 (tgt := 18) (by decide) (fun hc12 => ?_) (fun hc12 => ?_)
    · skip
      simp only [bI_0, Bool.not_eq_false, txwB, Bool.and_eq_true, Bool.and_eq_false_iff, decide_eq_true_eq, decide_eq_false_iff_not] at hc12
      refine a_aload_n X dX5_mayWant_18 (i := 0) rfl rfl ?_
      refine s_callV_Y X dX5_mayWant_19 lk_X5_228 ko_43 rfl rfl (c_X5_advance (p0 := tkE B t p0) hT hE1.2 hK.2.1) ⟨Nat.le_of_ble_eq_true rfl, Nat.le_of_ble_eq_true rfl⟩ rfl rfl (Nat.le_of_ble_eq_true rfl) ⟨Nat.le_of_ble_eq_true rfl, Nat.le_of_ble_eq_true rfl⟩ (fun I2 J2 F2 w2 hpo => ?_)
      obtain ⟨rfl, rfl, hF2, hK2⟩ := hpo
      refine a_aload_n X dX5_mayWant_22 (i := 0) rfl rfl ?_
      refine a_iload_n X dX5_mayWant_23 (i := 3) rfl rfl ?_
      refine a_iload X dX5_mayWant_24 rfl ?_
      refine s_callV_X X dX5_mayWant_26 lk_X5_231 ko_43 rfl rfl (c_X5_wantNumber (tp_f hT hF2.1) hE1.2 hK2 (gd := true) (wn hK2 (by decide) (by decide)) (by rw [hF2.2, hg]; rfl)) ⟨Nat.le_of_ble_eq_true rfl, Nat.le_of_ble_eq_true rfl⟩ rfl rfl (Nat.le_of_ble_eq_true rfl) ⟨Nat.le_of_ble_eq_true rfl, Nat.le_of_ble_eq_true rfl⟩ (fun x3 I3 J3 F3 w3 hpo3 => ?_)
      obtain ⟨rfl, rfl, rfl, hF3, hg3, hK3⟩ := hpo3
      rw [Bool.true_and] at hg3 hK3
      refine a_iret X hA dX5_mayWant_29 ?_
      rcases Bool.eq_false_or_eq_true (txN B t (tkE B t p0) 1 10) with hc | hc
      · have e1 : mwS B t p0 = (true, tkV B t (tkE B t p0), tkE B t (tkE B t p0)) := by rw [mwS, if_pos (by omega), if_pos hc]
        rw [hc] at hg3 hK3
        rw [if_pos rfl] at hK3
        exact ⟨_, _, _, _, _, rfl, rfl, _, rfl, rfl, rfl, frf_t hF2.1 hF3, by rw [e1]; exact hg3, by rw [e1]; exact hK3, fun _ => by rw [e1]; exact (wnV hK2 (by decide) hc).1⟩
      · have e1 : mwS B t p0 = (false, 0, tkE B t p0) := by rw [mwS, if_pos (by omega), if_neg (by rw [hc]; decide)]
        rw [hc] at hg3 hK3
        rw [if_neg (by decide)] at hK3
        exact ⟨_, _, _, _, _, rfl, rfl, _, rfl, rfl, rfl, frf_t hF2.1 hF3, by rw [e1]; exact hg3, by rw [e1]; exact hK3, fun q => by rw [e1] at q; exact absurd q Bool.false_ne_true⟩
    · skip
      simp only [bI_0, Bool.not_eq_false, txwB, Bool.and_eq_true, Bool.and_eq_false_iff, decide_eq_true_eq, decide_eq_false_iff_not] at hc12
      refine a_iload X dX5_mayWant_15 rfl ?_
      refine a_iret X hA dX5_mayWant_17 ?_
      exact ⟨_, _, _, _, _, rfl, rfl, _, rfl, rfl, rfl, frf_0 F, by rw [mwS, if_neg (by omega), hg]; rfl, by rw [mwS, if_neg (by omega)]; exact hK, fun _ => by rw [mwS, if_neg (by omega)]⟩
