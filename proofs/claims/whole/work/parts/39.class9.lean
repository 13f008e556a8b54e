set_option maxRecDepth 100000 in
set_option maxHeartbeats 4000000 in
theorem c_X4_isSheet {l : Launch} {g : GG} {I : TI} {J : TJ} {F : TI} {w : Int64} {x : Int32} : UR l g mX4_isSheet [.int x] I J F w (.int (bI (inB x (nI 0) (nI 3)))) I J F w := by
  refine ct_start (M := mX4_isSheet) (by decide +kernel) (Nat.le_of_ble_eq_true rfl) ?_
  intro p e s m args below meth c A X hA
  have X : AX p s m args meth c g A cX4_isSheet 1 RX4 (Cond.code yX4_isSheet cX4_isSheet 1 (some .boolean)) (some .boolean) := X
  show AW p l e (rmM 1 22) s m args below meth c g A 1 0 0 (MQ below (CQ g (hp g I J F w) s.heap.size (fun vv0 hh0 => vv0 = some (.int (bI (inB x (nI 0) (nI 3)))) ∧ hh0 = hp g I J F w)) args s 0 0 A) 0 [some (.int x)] [] (hp g I J F w)
  refine a_iload_n X dX4_isSheet_0 (i := 0) rfl rfl ?_
  refine a_iconst X dX4_isSheet_1 (v := nI 0) (by decide +kernel) ?_
  refine a_iconst X dX4_isSheet_2 (v := nI 3) (by decide +kernel) ?_
  refine s_callS_R X dX4_isSheet_3 lk_X4_44 c_X4_within ⟨Nat.le_of_ble_eq_true rfl, Nat.le_of_ble_eq_true rfl⟩ rfl rfl (Nat.le_of_ble_eq_true rfl) ⟨Nat.le_of_ble_eq_true rfl, Nat.le_of_ble_eq_true rfl⟩ ?_
  exact a_zret X hA dX4_isSheet_6 (by first | exact nar_bI _ | decide +kernel) ⟨rfl, rfl⟩
set_option maxRecDepth 100000 in
set_option maxHeartbeats 4000000 in
theorem c_X2_isMissing {l : Launch} {g : GG} {I : TI} {J : TJ} {F : TI} {w : Int64} {a : Nat} (ha : a < 4) : UR l g mX2_isMissing [.ref (ga g (34 + 2 * a))] I J F w (.int (bI (decide (F (34 + 2 * a) 0 = 0)))) I J F w := by
  refine ct_start (M := mX2_isMissing) (by decide +kernel) (Nat.le_of_ble_eq_true rfl) ?_
  intro p e s m args below meth c A X hA
  have X : AX p s m args meth c g A cX2_isMissing 1 RX2 (Cond.code yX2_isMissing cX2_isMissing 1 (some .boolean)) (some .boolean) := X
  show AW p l e (rmM 0 0) s m args below meth c g A 1 0 0 (MQ below (CQ g (hp g I J F w) s.heap.size (fun vv0 hh0 => vv0 = some (.int (bI (decide (F (34 + 2 * a) 0 = 0)))) ∧ hh0 = hp g I J F w)) args s 0 0 A) 0 [some (.ref (ga g (34 + 2 * a)))] [] (hp g I J F w)
  refine a_aload_n X dX2_isMissing_0 (i := 0) rfl rfl ?_
  refine s_geti X dX2_isMissing_1 fl_X2_9 (ko_sh ha) rfl ?_
  refine a_if_ne X dX2_isMissing_4 (tgt := 11) (by decide) (fun hc4 => ?_) (fun hc4 => ?_)
  · skip
    refine a_iconst X dX2_isMissing_11 (v := nI 0) (by decide +kernel) ?_
    refine a_zret X hA dX2_isMissing_12 (by first | exact nar_bI _ | decide +kernel) ⟨?_, ?_⟩
    · congr 2; first | exact b1 hc4 | exact b0 hc4
    · rfl
  · skip
    refine a_iconst X dX2_isMissing_7 (v := nI 1) (by decide +kernel) ?_
    refine a_goto X dX2_isMissing_8 (tgt := 12) (by decide) ?_
    refine a_zret X hA dX2_isMissing_12 (by first | exact nar_bI _ | decide +kernel) ⟨?_, ?_⟩
    · congr 2; first | exact b1 hc4 | exact b0 hc4
    · rfl
set_option maxRecDepth 100000 in
set_option maxHeartbeats 4000000 in
theorem c_X2_hasPart {l : Launch} {g : GG} {I : TI} {J : TJ} {F : TI} {w : Int64} {a : Nat} (ha : a < 4) {f n : Int32} : UR l g mX2_hasPart [.ref (ga g (34 + 2 * a)), .int f, .int n] I J F w (.int (bI (parB (F (34 + 2 * a) 1) f n))) I J F w := by
  refine ct_start (M := mX2_hasPart) (by decide +kernel) (Nat.le_of_ble_eq_true rfl) ?_
  intro p e s m args below meth c A X hA
  have X : AX p s m args meth c g A cX2_hasPart 3 RX2 (Cond.code yX2_hasPart cX2_hasPart 3 (some .boolean)) (some .boolean) := X
  show AW p l e (rmM 0 0) s m args below meth c g A 3 0 0 (MQ below (CQ g (hp g I J F w) s.heap.size (fun vv0 hh0 => vv0 = some (.int (bI (parB (F (34 + 2 * a) 1) f n))) ∧ hh0 = hp g I J F w)) args s 0 0 A) 0 [some (.ref (ga g (34 + 2 * a))), some (.int f), some (.int n)] [] (hp g I J F w)
  refine a_iload_n X dX2_hasPart_0 (i := 1) rfl rfl ?_
  refine a_if_lt X dX2_hasPart_1 (tgt := 30) (by decide) (fun hc1 => ?_) (fun hc1 => ?_)
  · skip
    refine a_iconst X dX2_hasPart_30 (v := nI 0) (by decide +kernel) ?_
    refine a_zret X hA dX2_hasPart_31 (by first | exact nar_bI _ | decide +kernel) ⟨?_, ?_⟩
    · congr 2; first | (refine bf0 ?_; simp only [parB, Bool.and_eq_false_iff, decide_eq_false_iff_not]; exact Or.inl (Int32.not_le.mpr hc1)) | (refine bf0 ?_; simp only [parB, Bool.and_eq_false_iff, decide_eq_false_iff_not]; exact Or.inr (Or.inl (Int32.not_le.mpr hc5))) | (refine bf0 ?_; simp only [parB, Bool.and_eq_false_iff, decide_eq_false_iff_not]; exact Or.inr (Or.inr (Or.inl (Int32.not_le.mpr hc13)))) | (refine bf0 ?_; simp only [parB, Bool.and_eq_false_iff, decide_eq_false_iff_not]; exact Or.inr (Or.inr (Or.inr (Int32.not_le.mpr hc23)))) | (refine bt1 ?_; simp only [parB, Bool.and_eq_true, decide_eq_true_eq]; exact ⟨Int32.not_lt.mp hc1, Int32.not_lt.mp hc5, Int32.not_lt.mp hc13, Int32.not_lt.mp hc23⟩)
    · rfl
  · skip
    refine a_iload_n X dX2_hasPart_4 (i := 2) rfl rfl ?_
    refine a_if_lt X dX2_hasPart_5 (tgt := 30) (by decide) (fun hc5 => ?_) (fun hc5 => ?_)
    · skip
      refine a_iconst X dX2_hasPart_30 (v := nI 0) (by decide +kernel) ?_
      refine a_zret X hA dX2_hasPart_31 (by first | exact nar_bI _ | decide +kernel) ⟨?_, ?_⟩
      · congr 2; first | (refine bf0 ?_; simp only [parB, Bool.and_eq_false_iff, decide_eq_false_iff_not]; exact Or.inl (Int32.not_le.mpr hc1)) | (refine bf0 ?_; simp only [parB, Bool.and_eq_false_iff, decide_eq_false_iff_not]; exact Or.inr (Or.inl (Int32.not_le.mpr hc5))) | (refine bf0 ?_; simp only [parB, Bool.and_eq_false_iff, decide_eq_false_iff_not]; exact Or.inr (Or.inr (Or.inl (Int32.not_le.mpr hc13)))) | (refine bf0 ?_; simp only [parB, Bool.and_eq_false_iff, decide_eq_false_iff_not]; exact Or.inr (Or.inr (Or.inr (Int32.not_le.mpr hc23)))) | (refine bt1 ?_; simp only [parB, Bool.and_eq_true, decide_eq_true_eq]; exact ⟨Int32.not_lt.mp hc1, Int32.not_lt.mp hc5, Int32.not_lt.mp hc13, Int32.not_lt.mp hc23⟩)
      · rfl
    · skip
      refine a_iload_n X dX2_hasPart_8 (i := 2) rfl rfl ?_
      refine a_aload_n X dX2_hasPart_9 (i := 0) rfl rfl ?_
      refine s_geti X dX2_hasPart_10 fl_X2_15 (ko_sh ha) rfl ?_
      refine a_icmp_gt X dX2_hasPart_13 (tgt := 30) (by decide) (fun hc13 => ?_) (fun hc13 => ?_)
      · skip
        refine a_iconst X dX2_hasPart_30 (v := nI 0) (by decide +kernel) ?_
        refine a_zret X hA dX2_hasPart_31 (by first | exact nar_bI _ | decide +kernel) ⟨?_, ?_⟩
        · congr 2; first | (refine bf0 ?_; simp only [parB, Bool.and_eq_false_iff, decide_eq_false_iff_not]; exact Or.inl (Int32.not_le.mpr hc1)) | (refine bf0 ?_; simp only [parB, Bool.and_eq_false_iff, decide_eq_false_iff_not]; exact Or.inr (Or.inl (Int32.not_le.mpr hc5))) | (refine bf0 ?_; simp only [parB, Bool.and_eq_false_iff, decide_eq_false_iff_not]; exact Or.inr (Or.inr (Or.inl (Int32.not_le.mpr hc13)))) | (refine bf0 ?_; simp only [parB, Bool.and_eq_false_iff, decide_eq_false_iff_not]; exact Or.inr (Or.inr (Or.inr (Int32.not_le.mpr hc23)))) | (refine bt1 ?_; simp only [parB, Bool.and_eq_true, decide_eq_true_eq]; exact ⟨Int32.not_lt.mp hc1, Int32.not_lt.mp hc5, Int32.not_lt.mp hc13, Int32.not_lt.mp hc23⟩)
        · rfl
      · skip
        refine a_iload_n X dX2_hasPart_16 (i := 1) rfl rfl ?_
        refine a_aload_n X dX2_hasPart_17 (i := 0) rfl rfl ?_
        refine s_geti X dX2_hasPart_18 fl_X2_15 (ko_sh ha) rfl ?_
        refine a_iload_n X dX2_hasPart_21 (i := 2) rfl rfl ?_
        refine a_isub X dX2_hasPart_22 ?_
        refine a_icmp_gt X dX2_hasPart_23 (tgt := 30) (by decide) (fun hc23 => ?_) (fun hc23 => ?_)
        · skip
          refine a_iconst X dX2_hasPart_30 (v := nI 0) (by decide +kernel) ?_
          refine a_zret X hA dX2_hasPart_31 (by first | exact nar_bI _ | decide +kernel) ⟨?_, ?_⟩
          · congr 2; first | (refine bf0 ?_; simp only [parB, Bool.and_eq_false_iff, decide_eq_false_iff_not]; exact Or.inl (Int32.not_le.mpr hc1)) | (refine bf0 ?_; simp only [parB, Bool.and_eq_false_iff, decide_eq_false_iff_not]; exact Or.inr (Or.inl (Int32.not_le.mpr hc5))) | (refine bf0 ?_; simp only [parB, Bool.and_eq_false_iff, decide_eq_false_iff_not]; exact Or.inr (Or.inr (Or.inl (Int32.not_le.mpr hc13)))) | (refine bf0 ?_; simp only [parB, Bool.and_eq_false_iff, decide_eq_false_iff_not]; exact Or.inr (Or.inr (Or.inr (Int32.not_le.mpr hc23)))) | (refine bt1 ?_; simp only [parB, Bool.and_eq_true, decide_eq_true_eq]; exact ⟨Int32.not_lt.mp hc1, Int32.not_lt.mp hc5, Int32.not_lt.mp hc13, Int32.not_lt.mp hc23⟩)
          · rfl
        · skip
          refine a_iconst X dX2_hasPart_26 (v := nI 1) (by decide +kernel) ?_
          refine a_goto X dX2_hasPart_27 (tgt := 31) (by decide) ?_
          refine a_zret X hA dX2_hasPart_31 (by first | exact nar_bI _ | decide +kernel) ⟨?_, ?_⟩
          · congr 2; first | (refine bf0 ?_; simp only [parB, Bool.and_eq_false_iff, decide_eq_false_iff_not]; exact Or.inl (Int32.not_le.mpr hc1)) | (refine bf0 ?_; simp only [parB, Bool.and_eq_false_iff, decide_eq_false_iff_not]; exact Or.inr (Or.inl (Int32.not_le.mpr hc5))) | (refine bf0 ?_; simp only [parB, Bool.and_eq_false_iff, decide_eq_false_iff_not]; exact Or.inr (Or.inr (Or.inl (Int32.not_le.mpr hc13)))) | (refine bf0 ?_; simp only [parB, Bool.and_eq_false_iff, decide_eq_false_iff_not]; exact Or.inr (Or.inr (Or.inr (Int32.not_le.mpr hc23)))) | (refine bt1 ?_; simp only [parB, Bool.and_eq_true, decide_eq_true_eq]; exact ⟨Int32.not_lt.mp hc1, Int32.not_lt.mp hc5, Int32.not_lt.mp hc13, Int32.not_lt.mp hc23⟩)
          · rfl
