set_option maxRecDepth 100000 in
set_option maxHeartbeats 4000000 in
theorem c_X3_spelling {l : Launch} {g : GG} {I : TI} {J : TJ} {F : TI} {w : Int64} {i : Nat} (hi : i < 9) : UR l g mX3_spelling [.int (nI i)] I J F w (.ref (gK g i)) I J F w := by
  refine ct_start (M := mX3_spelling) (by decide +kernel) (Nat.le_of_ble_eq_true rfl) ?_
  intro p e s m args below meth c A X hA
  have X : AX p s m args meth c g A cX3_spelling 1 RX3 (Cond.code yX3_spelling cX3_spelling 1 (some (.object "java/lang/String"))) (some (.object "java/lang/String")) := X
  show AW p l e (rmM 0 0) s m args below meth c g A 1 0 0 (MQ below (CQ g (hp g I J F w) s.heap.size (fun vv0 hh0 => vv0 = some (.ref (gK g i)) ∧ hh0 = hp g I J F w)) args s 0 0 A) 0 [some (.int (nI i))] [] (hp g I J F w)
  refine a_iload_n X dX3_spelling_0 (i := 0) rfl rfl ?_
  rcases lt9 hi with rfl | rfl | rfl | rfl | rfl | rfl | rfl | rfl | rfl
  · skip
    refine a_tsIn X dX3_spelling_1 (by decide +kernel) (by decide +kernel) (off := 47) (by decide +kernel) (tgt := 48) (by decide) ?_
    refine a_ldcS X dX3_spelling_48 (i := 0) (by decide) rfl rfl ?_
    exact a_aret X hA dX3_spelling_50 (by first | exact Or.inl ⟨_, rfl⟩ | exact Or.inr ⟨_, rfl⟩) ⟨rfl, rfl⟩
  · skip
    refine a_tsIn X dX3_spelling_1 (by decide +kernel) (by decide +kernel) (off := 50) (by decide +kernel) (tgt := 51) (by decide) ?_
    refine a_ldcS X dX3_spelling_51 (i := 1) (by decide) rfl rfl ?_
    exact a_aret X hA dX3_spelling_53 (by first | exact Or.inl ⟨_, rfl⟩ | exact Or.inr ⟨_, rfl⟩) ⟨rfl, rfl⟩
  · skip
    refine a_tsIn X dX3_spelling_1 (by decide +kernel) (by decide +kernel) (off := 53) (by decide +kernel) (tgt := 54) (by decide) ?_
    refine a_ldcS X dX3_spelling_54 (i := 2) (by decide) rfl rfl ?_
    exact a_aret X hA dX3_spelling_56 (by first | exact Or.inl ⟨_, rfl⟩ | exact Or.inr ⟨_, rfl⟩) ⟨rfl, rfl⟩
  · skip
    refine a_tsIn X dX3_spelling_1 (by decide +kernel) (by decide +kernel) (off := 56) (by decide +kernel) (tgt := 57) (by decide) ?_
    refine a_ldcS X dX3_spelling_57 (i := 3) (by decide) rfl rfl ?_
    exact a_aret X hA dX3_spelling_59 (by first | exact Or.inl ⟨_, rfl⟩ | exact Or.inr ⟨_, rfl⟩) ⟨rfl, rfl⟩
  · skip
    refine a_tsIn X dX3_spelling_1 (by decide +kernel) (by decide +kernel) (off := 59) (by decide +kernel) (tgt := 60) (by decide) ?_
    refine a_ldcS X dX3_spelling_60 (i := 4) (by decide) rfl rfl ?_
    exact a_aret X hA dX3_spelling_62 (by first | exact Or.inl ⟨_, rfl⟩ | exact Or.inr ⟨_, rfl⟩) ⟨rfl, rfl⟩
  · skip
    refine a_tsIn X dX3_spelling_1 (by decide +kernel) (by decide +kernel) (off := 62) (by decide +kernel) (tgt := 63) (by decide) ?_
    refine a_ldcS X dX3_spelling_63 (i := 5) (by decide) rfl rfl ?_
    exact a_aret X hA dX3_spelling_65 (by first | exact Or.inl ⟨_, rfl⟩ | exact Or.inr ⟨_, rfl⟩) ⟨rfl, rfl⟩
  · skip
    refine a_tsIn X dX3_spelling_1 (by decide +kernel) (by decide +kernel) (off := 65) (by decide +kernel) (tgt := 66) (by decide) ?_
    refine a_ldcS X dX3_spelling_66 (i := 6) (by decide) rfl rfl ?_
    exact a_aret X hA dX3_spelling_68 (by first | exact Or.inl ⟨_, rfl⟩ | exact Or.inr ⟨_, rfl⟩) ⟨rfl, rfl⟩
  · skip
    refine a_tsIn X dX3_spelling_1 (by decide +kernel) (by decide +kernel) (off := 68) (by decide +kernel) (tgt := 69) (by decide) ?_
    refine a_ldcS X dX3_spelling_69 (i := 7) (by decide) rfl rfl ?_
    exact a_aret X hA dX3_spelling_71 (by first | exact Or.inl ⟨_, rfl⟩ | exact Or.inr ⟨_, rfl⟩) ⟨rfl, rfl⟩
  · skip
    refine a_tsOut X dX3_spelling_1 (by decide +kernel) (tgt := 72) (by decide) ?_
    refine a_ldcS X dX3_spelling_72 (i := 8) (by decide) rfl rfl ?_
    exact a_aret X hA dX3_spelling_74 (by first | exact Or.inl ⟨_, rfl⟩ | exact Or.inr ⟨_, rfl⟩) ⟨rfl, rfl⟩
set_option maxRecDepth 100000 in
set_option maxHeartbeats 4000000 in
theorem c_J0_coder {l : Launch} {g : GG} {I : TI} {J : TJ} {F : TI} {w : Int64} {i : Nat} (hi : i < 9) : UR l g mJ0_coder_7d493 [.ref (gK g i)] I J F w (.int 0) I J F w := by
  refine ct_start (M := mJ0_coder_7d493) (by decide +kernel) (Nat.le_of_ble_eq_true rfl) ?_
  intro p e s m args below meth c A X hA
  have X : AX p s m args meth c g A cJ0_coder_7d493 1 RJ0 (Cond.code yJ0_coder_7d493 cJ0_coder_7d493 1 (some .byte)) (some .byte) := X
  show AW p l e (rmM 0 0) s m args below meth c g A 1 0 0 (MQ below (CQ g (hp g I J F w) s.heap.size (fun vv0 hh0 => vv0 = some (.int 0) ∧ hh0 = hp g I J F w)) args s 0 0 A) 0 [some (.ref (gK g i))] [] (hp g I J F w)
  refine a_gsC X dJ0_coder_7d493_0 fw_J0_38 ?_
  refine a_if_eq X dJ0_coder_7d493_3 (tgt := 13) (by decide) (fun hc3 => ?_) (fun hc3 => ?_)
  · skip
    exact absurd hc3 (by decide +kernel)
  · skip
    refine a_aload_n X dJ0_coder_7d493_6 (i := 0) rfl rfl ?_
    refine a_kcod X dJ0_coder_7d493_7 hi fw_J0_15 ?_
    refine a_goto X dJ0_coder_7d493_10 (tgt := 14) (by decide) ?_
    exact a_yret X hA dJ0_coder_7d493_14 (by decide +kernel) ⟨rfl, rfl⟩
set_option maxRecDepth 100000 in
set_option maxHeartbeats 4000000 in
theorem c_J0_isLatin1 {l : Launch} {g : GG} {I : TI} {J : TJ} {F : TI} {w : Int64} {i : Nat} (hi : i < 9) : UR l g mJ0_isLatin1_aae02 [.ref (gK g i)] I J F w (.int (nI 1)) I J F w := by
  refine ct_start (M := mJ0_isLatin1_aae02) (by decide +kernel) (Nat.le_of_ble_eq_true rfl) ?_
  intro p e s m args below meth c A X hA
  have X : AX p s m args meth c g A cJ0_isLatin1_aae02 1 RJ0 (Cond.code yJ0_isLatin1_aae02 cJ0_isLatin1_aae02 1 (some .boolean)) (some .boolean) := X
  show AW p l e (rmM 0 0) s m args below meth c g A 1 0 0 (MQ below (CQ g (hp g I J F w) s.heap.size (fun vv0 hh0 => vv0 = some (.int (nI 1)) ∧ hh0 = hp g I J F w)) args s 0 0 A) 0 [some (.ref (gK g i))] [] (hp g I J F w)
  refine a_gsC X dJ0_isLatin1_aae02_0 fw_J0_38 ?_
  refine a_if_eq X dJ0_isLatin1_aae02_3 (tgt := 17) (by decide) (fun hc3 => ?_) (fun hc3 => ?_)
  · skip
    exact absurd hc3 (by decide +kernel)
  · skip
    refine a_aload_n X dJ0_isLatin1_aae02_6 (i := 0) rfl rfl ?_
    refine a_kcod X dJ0_isLatin1_aae02_7 hi fw_J0_15 ?_
    refine a_if_ne X dJ0_isLatin1_aae02_10 (tgt := 17) (by decide) (fun hc10 => ?_) (fun hc10 => ?_)
    · skip
      exact absurd rfl hc10
    · skip
      refine a_iconst X dJ0_isLatin1_aae02_13 (v := nI 1) (by decide +kernel) ?_
      refine a_goto X dJ0_isLatin1_aae02_14 (tgt := 18) (by decide) ?_
      exact a_zret X hA dJ0_isLatin1_aae02_18 (by first | exact nar_bI _ | decide +kernel) ⟨rfl, rfl⟩
set_option maxRecDepth 100000 in
set_option maxHeartbeats 4000000 in
theorem c_J0_length {l : Launch} {g : GG} {I : TI} {J : TJ} {F : TI} {w : Int64} {i : Nat} (hi : i < 9) : UR l g mJ0_length_8abf5 [.ref (gK g i)] I J F w (.int (nI (txLen.getD i 0))) I J F w := by
  refine ct_start (M := mJ0_length_8abf5) (by decide +kernel) (Nat.le_of_ble_eq_true rfl) ?_
  intro p e s m args below meth c A X hA
  have X : AX p s m args meth c g A cJ0_length_8abf5 1 RJ0 (Cond.code yJ0_length_8abf5 cJ0_length_8abf5 1 (some .int)) (some .int) := X
  show AW p l e (rmM 1 20) s m args below meth c g A 1 0 0 (MQ below (CQ g (hp g I J F w) s.heap.size (fun vv0 hh0 => vv0 = some (.int (nI (txLen.getD i 0))) ∧ hh0 = hp g I J F w)) args s 0 0 A) 0 [some (.ref (gK g i))] [] (hp g I J F w)
  refine a_aload_n X dJ0_length_8abf5_0 (i := 0) rfl rfl ?_
  refine a_kval X dJ0_length_8abf5_1 hi fw_J0_9 ?_
  refine a_klen X dJ0_length_8abf5_4 hi ?_
  refine a_aload_n X dJ0_length_8abf5_5 (i := 0) rfl rfl ?_
  refine s_callK_R X hi dJ0_length_8abf5_6 lk_J0_335 rfl (c_J0_coder hi) ⟨Nat.le_of_ble_eq_true rfl, Nat.le_of_ble_eq_true rfl⟩ rfl rfl (Nat.le_of_ble_eq_true rfl) ⟨Nat.le_of_ble_eq_true rfl, Nat.le_of_ble_eq_true rfl⟩ ?_
  refine a_ishr X dJ0_length_8abf5_9 ?_
  refine a_iret X hA dJ0_length_8abf5_10 ⟨?_, ?_⟩
  · rw [tx_shr i hi]
  · rfl
set_option maxRecDepth 100000 in
set_option maxHeartbeats 4000000 in
theorem c_J3_checkIndex_n {l : Launch} {g : GG} {I : TI} {J : TJ} {F : TI} {w : Int64} {a n z : Nat} (ha : a < n) (hn : n < 2 ^ 31) : UR l g mJ3_checkIndex_8e157 [.int (nI a), .int (nI n), .null] I J F w (.int (nI a)) I J F w := by
  refine ct_start (M := mJ3_checkIndex_8e157) (by decide +kernel) (Nat.le_of_ble_eq_true rfl) ?_
  intro p e s m args below meth c A X hA
  have X : AX p s m args meth c g A cJ3_checkIndex_8e157 3 RJ3 (Cond.code yJ3_checkIndex_8e157 cJ3_checkIndex_8e157 3 (some .int)) (some .int) := X
  show AW p l e (rmM 0 0) s m args below meth c g A 3 0 0 (MQ below (CQ g (hp g I J F w) s.heap.size (fun vv0 hh0 => vv0 = some (.int (nI a)) ∧ hh0 = hp g I J F w)) args s 0 0 A) 0 [some (.int (nI a)), some (.int (nI n)), some (.null)] [] (hp g I J F w)
  refine a_iload_n X dJ3_checkIndex_8e157_0 (i := 0) rfl rfl ?_
  refine a_if_lt X dJ3_checkIndex_8e157_1 (tgt := 9) (by decide) (fun hc1 => ?_) (fun hc1 => ?_)
  · skip
    exact absurd hc1 (nI_pos (by omega))
  · skip
    refine a_iload_n X dJ3_checkIndex_8e157_4 (i := 0) rfl rfl ?_
    refine a_iload_n X dJ3_checkIndex_8e157_5 (i := 1) rfl rfl ?_
    refine s_icmp_ltN X dJ3_checkIndex_8e157_6 (tgt := 16) (by decide) (by omega) (by omega) (fun hc6 => ?_) (fun hc6 => ?_)
    · skip
      refine a_iload_n X dJ3_checkIndex_8e157_16 (i := 0) rfl rfl ?_
      exact a_iret X hA dJ3_checkIndex_8e157_17 ⟨rfl, rfl⟩
    · skip
      exact absurd ha hc6
set_option maxRecDepth 100000 in
set_option maxHeartbeats 4000000 in
theorem c_J3_checkIndex_r {l : Launch} {g : GG} {I : TI} {J : TJ} {F : TI} {w : Int64} {a n z : Nat} (ha : a < n) (hn : n < 2 ^ 31) : UR l g mJ3_checkIndex_8e157 [.int (nI a), .int (nI n), .ref z] I J F w (.int (nI a)) I J F w := by
  refine ct_start (M := mJ3_checkIndex_8e157) (by decide +kernel) (Nat.le_of_ble_eq_true rfl) ?_
  intro p e s m args below meth c A X hA
  have X : AX p s m args meth c g A cJ3_checkIndex_8e157 3 RJ3 (Cond.code yJ3_checkIndex_8e157 cJ3_checkIndex_8e157 3 (some .int)) (some .int) := X
  show AW p l e (rmM 0 0) s m args below meth c g A 3 0 0 (MQ below (CQ g (hp g I J F w) s.heap.size (fun vv0 hh0 => vv0 = some (.int (nI a)) ∧ hh0 = hp g I J F w)) args s 0 0 A) 0 [some (.int (nI a)), some (.int (nI n)), some (.ref z)] [] (hp g I J F w)
  refine a_iload_n X dJ3_checkIndex_8e157_0 (i := 0) rfl rfl ?_
  refine a_if_lt X dJ3_checkIndex_8e157_1 (tgt := 9) (by decide) (fun hc1 => ?_) (fun hc1 => ?_)
  · skip
    exact absurd hc1 (nI_pos (by omega))
  · skip
    refine a_iload_n X dJ3_checkIndex_8e157_4 (i := 0) rfl rfl ?_
    refine a_iload_n X dJ3_checkIndex_8e157_5 (i := 1) rfl rfl ?_
    refine s_icmp_ltN X dJ3_checkIndex_8e157_6 (tgt := 16) (by decide) (by omega) (by omega) (fun hc6 => ?_) (fun hc6 => ?_)
    · skip
      refine a_iload_n X dJ3_checkIndex_8e157_16 (i := 0) rfl rfl ?_
      exact a_iret X hA dJ3_checkIndex_8e157_17 ⟨rfl, rfl⟩
    · skip
      exact absurd ha hc6
set_option maxRecDepth 100000 in
set_option maxHeartbeats 4000000 in
theorem c_J0_checkIndex {l : Launch} {g : GG} {I : TI} {J : TJ} {F : TI} {w : Int64} {a n : Nat} (ha : a < n) (hn : n < 2 ^ 31) : UV l g mJ0_checkIndex_df160 [.int (nI a), .int (nI n)] I J F w I J F w := by
  refine ct_start (M := mJ0_checkIndex_df160) (by decide +kernel) (Nat.le_of_ble_eq_true rfl) ?_
  intro p e s m args below meth c A X hA
  have X : AX p s m args meth c g A cJ0_checkIndex_df160 2 RJ0 (Cond.code yJ0_checkIndex_df160 cJ0_checkIndex_df160 2 none) none := X
  show AW p l e (rmM 1 22) s m args below meth c g A 2 0 0 (MQ below (CQ g (hp g I J F w) s.heap.size (fun vv0 hh0 => vv0 = none ∧ hh0 = hp g I J F w)) args s 0 0 A) 0 [some (.int (nI a)), some (.int (nI n))] [] (hp g I J F w)
  refine a_iload_n X dJ0_checkIndex_df160_0 (i := 0) rfl rfl ?_
  refine a_iload_n X dJ0_checkIndex_df160_1 (i := 1) rfl rfl ?_
  rcases X.2.2.1.2.2.2.2.2.2.2 with hz | ⟨z, hz⟩
  · refine a_gsV X dJ0_checkIndex_df160_2 hz fw_J0_1053 ?_
    refine s_callS_R X dJ0_checkIndex_df160_5 lk_J0_1059 (c_J3_checkIndex_n (z := 0) ha hn) ⟨Nat.le_of_ble_eq_true rfl, Nat.le_of_ble_eq_true rfl⟩ rfl rfl (Nat.le_of_ble_eq_true rfl) ⟨Nat.le_of_ble_eq_true rfl, Nat.le_of_ble_eq_true rfl⟩ ?_
    refine a_pop X dJ0_checkIndex_df160_8 rfl ?_
    exact a_vret X hA dJ0_checkIndex_df160_9 ⟨rfl, rfl⟩
  · refine a_gsV X dJ0_checkIndex_df160_2 hz fw_J0_1053 ?_
    refine s_callS_R X dJ0_checkIndex_df160_5 lk_J0_1059 (c_J3_checkIndex_r (z := z) ha hn) ⟨Nat.le_of_ble_eq_true rfl, Nat.le_of_ble_eq_true rfl⟩ rfl rfl (Nat.le_of_ble_eq_true rfl) ⟨Nat.le_of_ble_eq_true rfl, Nat.le_of_ble_eq_true rfl⟩ ?_
    refine a_pop X dJ0_checkIndex_df160_8 rfl ?_
    exact a_vret X hA dJ0_checkIndex_df160_9 ⟨rfl, rfl⟩
set_option maxRecDepth 100000 in
set_option maxHeartbeats 4000000 in
theorem c_J1_charAt {l : Launch} {g : GG} {I : TI} {J : TJ} {F : TI} {w : Int64} {i : Nat} (hi : i < 9) {j : Nat} (hj : j < txLen.getD i 0) : UR l g mJ1_charAt_3b067 [.ref (gV g i), .int (nI j)] I J F w (.int (nI ((txW.getD i []).getD j 0))) I J F w := by
  have h31 := tx_31 hi
  have h8 := (tx_ln i hi).2
  have hch := tx_ch i hi j (by omega) hj
  refine ct_start (M := mJ1_charAt_3b067) (by decide +kernel) (Nat.le_of_ble_eq_true rfl) ?_
  intro p e s m args below meth c A X hA
  have X : AX p s m args meth c g A cJ1_charAt_3b067 2 RJ1 (Cond.code yJ1_charAt_3b067 cJ1_charAt_3b067 2 (some .char)) (some .char) := X
  show AW p l e (rmM 2 43) s m args below meth c g A 2 0 0 (MQ below (CQ g (hp g I J F w) s.heap.size (fun vv0 hh0 => vv0 = some (.int (nI ((txW.getD i []).getD j 0))) ∧ hh0 = hp g I J F w)) args s 0 0 A) 0 [some (.ref (gV g i)), some (.int (nI j))] [] (hp g I J F w)
  refine a_iload_n X dJ1_charAt_3b067_0 (i := 1) rfl rfl ?_
  refine a_aload_n X dJ1_charAt_3b067_1 (i := 0) rfl rfl ?_
  refine a_klen X dJ1_charAt_3b067_2 hi ?_
  refine s_callS_V X dJ1_charAt_3b067_3 lk_J1_9 (c_J0_checkIndex hj h31) ⟨Nat.le_of_ble_eq_true rfl, Nat.le_of_ble_eq_true rfl⟩ rfl rfl (Nat.le_of_ble_eq_true rfl) ⟨Nat.le_of_ble_eq_true rfl, Nat.le_of_ble_eq_true rfl⟩ ?_
  refine a_aload_n X dJ1_charAt_3b067_6 (i := 0) rfl rfl ?_
  refine a_iload_n X dJ1_charAt_3b067_7 (i := 1) rfl rfl ?_
  refine a_kb X dJ1_charAt_3b067_8 hi hj ?_
  refine a_sipush X dJ1_charAt_3b067_9 (v := nI 255) (by decide +kernel) ?_
  refine a_iand X dJ1_charAt_3b067_12 ?_
  refine a_i2c X dJ1_charAt_3b067_13 rfl ?_
  rw [hch.1]
  exact a_yret X hA dJ1_charAt_3b067_14 hch.2 ⟨rfl, rfl⟩
set_option maxRecDepth 100000 in
set_option maxHeartbeats 4000000 in
theorem c_J0_charAt {l : Launch} {g : GG} {I : TI} {J : TJ} {F : TI} {w : Int64} {i : Nat} (hi : i < 9) {j : Nat} (hj : j < txLen.getD i 0) : UR l g mJ0_charAt_5068e [.ref (gK g i), .int (nI j)] I J F w (.int (nI ((txW.getD i []).getD j 0))) I J F w := by
  have h8 := (tx_ln i hi).2
  have hch := tx_ch i hi j (by omega) hj
  refine ct_start (M := mJ0_charAt_5068e) (by decide +kernel) (Nat.le_of_ble_eq_true rfl) ?_
  intro p e s m args below meth c A X hA
  have X : AX p s m args meth c g A cJ0_charAt_5068e 2 RJ0 (Cond.code yJ0_charAt_5068e cJ0_charAt_5068e 2 (some .char)) (some .char) := X
  show AW p l e (rmM 4 85) s m args below meth c g A 2 0 0 (MQ below (CQ g (hp g I J F w) s.heap.size (fun vv0 hh0 => vv0 = some (.int (nI ((txW.getD i []).getD j 0))) ∧ hh0 = hp g I J F w)) args s 0 0 A) 0 [some (.ref (gK g i)), some (.int (nI j))] [] (hp g I J F w)
  refine a_aload_n X dJ0_charAt_5068e_0 (i := 0) rfl rfl ?_
  refine s_callK_R X hi dJ0_charAt_5068e_1 lk_J0_492 rfl (c_J0_isLatin1 hi) ⟨Nat.le_of_ble_eq_true rfl, Nat.le_of_ble_eq_true rfl⟩ rfl rfl (Nat.le_of_ble_eq_true rfl) ⟨Nat.le_of_ble_eq_true rfl, Nat.le_of_ble_eq_true rfl⟩ ?_
  refine a_if_eq X dJ0_charAt_5068e_4 (tgt := 16) (by decide) (fun hc4 => ?_) (fun hc4 => ?_)
  · skip
    exact absurd hc4 (by decide +kernel)
  · skip
    refine a_aload_n X dJ0_charAt_5068e_7 (i := 0) rfl rfl ?_
    refine a_kval X dJ0_charAt_5068e_8 hi fw_J0_9 ?_
    refine a_iload_n X dJ0_charAt_5068e_11 (i := 1) rfl rfl ?_
    refine s_callS_R X dJ0_charAt_5068e_12 lk_J0_495 (c_J1_charAt hi hj) ⟨Nat.le_of_ble_eq_true rfl, Nat.le_of_ble_eq_true rfl⟩ rfl rfl (Nat.le_of_ble_eq_true rfl) ⟨Nat.le_of_ble_eq_true rfl, Nat.le_of_ble_eq_true rfl⟩ ?_
    exact a_yret X hA dJ0_charAt_5068e_15 hch.2 ⟨rfl, rfl⟩
set_option maxRecDepth 100000 in
set_option maxHeartbeats 4000000 in
theorem c_X3_isLetter {l : Launch} {g : GG} {I : TI} {J : TJ} {F : TI} {w : Int64} {v : Int32} : UR l g mX3_isLetter [.int v] I J F w (.int (bI (inB v (nI 97) (nI 122)))) I J F w := by
  refine ct_start (M := mX3_isLetter) (by decide +kernel) (Nat.le_of_ble_eq_true rfl) ?_
  intro p e s m args below meth c A X hA
  have X : AX p s m args meth c g A cX3_isLetter 1 RX3 (Cond.code yX3_isLetter cX3_isLetter 1 (some .boolean)) (some .boolean) := X
  show AW p l e (rmM 0 0) s m args below meth c g A 1 0 0 (MQ below (CQ g (hp g I J F w) s.heap.size (fun vv0 hh0 => vv0 = some (.int (bI (inB v (nI 97) (nI 122)))) ∧ hh0 = hp g I J F w)) args s 0 0 A) 0 [some (.int v)] [] (hp g I J F w)
  refine a_iload_n X dX3_isLetter_0 (i := 0) rfl rfl ?_
  refine a_bipush X dX3_isLetter_1 (v := nI 97) (by decide +kernel) ?_
  refine a_icmp_lt X dX3_isLetter_3 (tgt := 16) (by decide) (fun hc3 => ?_) (fun hc3 => ?_)
  · skip
    refine a_iconst X dX3_isLetter_16 (v := nI 0) (by decide +kernel) ?_
    refine a_zret X hA dX3_isLetter_17 (by decide +kernel) ⟨?_, ?_⟩
    · first | (rw [inB_lt hc3]; rfl) | (rw [inB_gt hc9]; rfl) | (rw [inB_ok hc3 hc9]; rfl)
    · rfl
  · skip
    refine a_iload_n X dX3_isLetter_6 (i := 0) rfl rfl ?_
    refine a_bipush X dX3_isLetter_7 (v := nI 122) (by decide +kernel) ?_
    refine a_icmp_gt X dX3_isLetter_9 (tgt := 16) (by decide) (fun hc9 => ?_) (fun hc9 => ?_)
    · skip
      refine a_iconst X dX3_isLetter_16 (v := nI 0) (by decide +kernel) ?_
      refine a_zret X hA dX3_isLetter_17 (by decide +kernel) ⟨?_, ?_⟩
      · first | (rw [inB_lt hc3]; rfl) | (rw [inB_gt hc9]; rfl) | (rw [inB_ok hc3 hc9]; rfl)
      · rfl
    · skip
      refine a_iconst X dX3_isLetter_12 (v := nI 1) (by decide +kernel) ?_
      refine a_goto X dX3_isLetter_13 (tgt := 17) (by decide) ?_
      refine a_zret X hA dX3_isLetter_17 (by decide +kernel) ⟨?_, ?_⟩
      · first | (rw [inB_lt hc3]; rfl) | (rw [inB_gt hc9]; rfl) | (rw [inB_ok hc3 hc9]; rfl)
      · rfl
set_option maxRecDepth 100000 in
set_option maxHeartbeats 4000000 in
theorem c_X3_isDigit {l : Launch} {g : GG} {I : TI} {J : TJ} {F : TI} {w : Int64} {v : Int32} : UR l g mX3_isDigit [.int v] I J F w (.int (bI (inB v (nI 48) (nI 57)))) I J F w := by
  refine ct_start (M := mX3_isDigit) (by decide +kernel) (Nat.le_of_ble_eq_true rfl) ?_
  intro p e s m args below meth c A X hA
  have X : AX p s m args meth c g A cX3_isDigit 1 RX3 (Cond.code yX3_isDigit cX3_isDigit 1 (some .boolean)) (some .boolean) := X
  show AW p l e (rmM 0 0) s m args below meth c g A 1 0 0 (MQ below (CQ g (hp g I J F w) s.heap.size (fun vv0 hh0 => vv0 = some (.int (bI (inB v (nI 48) (nI 57)))) ∧ hh0 = hp g I J F w)) args s 0 0 A) 0 [some (.int v)] [] (hp g I J F w)
  refine a_iload_n X dX3_isDigit_0 (i := 0) rfl rfl ?_
  refine a_bipush X dX3_isDigit_1 (v := nI 48) (by decide +kernel) ?_
  refine a_icmp_lt X dX3_isDigit_3 (tgt := 16) (by decide) (fun hc3 => ?_) (fun hc3 => ?_)
  · skip
    refine a_iconst X dX3_isDigit_16 (v := nI 0) (by decide +kernel) ?_
    refine a_zret X hA dX3_isDigit_17 (by decide +kernel) ⟨?_, ?_⟩
    · first | (rw [inB_lt hc3]; rfl) | (rw [inB_gt hc9]; rfl) | (rw [inB_ok hc3 hc9]; rfl)
    · rfl
  · skip
    refine a_iload_n X dX3_isDigit_6 (i := 0) rfl rfl ?_
    refine a_bipush X dX3_isDigit_7 (v := nI 57) (by decide +kernel) ?_
    refine a_icmp_gt X dX3_isDigit_9 (tgt := 16) (by decide) (fun hc9 => ?_) (fun hc9 => ?_)
    · skip
      refine a_iconst X dX3_isDigit_16 (v := nI 0) (by decide +kernel) ?_
      refine a_zret X hA dX3_isDigit_17 (by decide +kernel) ⟨?_, ?_⟩
      · first | (rw [inB_lt hc3]; rfl) | (rw [inB_gt hc9]; rfl) | (rw [inB_ok hc3 hc9]; rfl)
      · rfl
    · skip
      refine a_iconst X dX3_isDigit_12 (v := nI 1) (by decide +kernel) ?_
      refine a_goto X dX3_isDigit_13 (tgt := 17) (by decide) ?_
      refine a_zret X hA dX3_isDigit_17 (by decide +kernel) ⟨?_, ?_⟩
      · first | (rw [inB_lt hc3]; rfl) | (rw [inB_gt hc9]; rfl) | (rw [inB_ok hc3 hc9]; rfl)
      · rfl
set_option maxRecDepth 100000 in
set_option maxHeartbeats 4000000 in
theorem c_X1_isUnder {l : Launch} {g : GG} {I : TI} {J : TJ} {F : TI} {w : Int64} {a b : Nat} (ha : a < 6) (hb : b < 6) : UR l g mX1_isUnder [.int (nI a), .int (nI b)] I J F w (.int (bI (undB a b))) I J F w := by
  refine ct_start (M := mX1_isUnder) (by decide +kernel) (Nat.le_of_ble_eq_true rfl) ?_
  intro p e s m args below meth c A X hA
  have X : AX p s m args meth c g A cX1_isUnder 4 RX1 (Cond.code yX1_isUnder cX1_isUnder 4 (some .boolean)) (some .boolean) := X
  show AW p l e (rmM 1 20) s m args below meth c g A 4 0 0 (MQ below (CQ g (hp g I J F w) s.heap.size (fun vv0 hh0 => vv0 = some (.int (bI (undB a b))) ∧ hh0 = hp g I J F w)) args s 0 0 A) 0 [some (.int (nI a)), some (.int (nI b)), none, none] [] (hp g I J F w)
  have L4 : ∀ (fu : Nat) (k : Nat) (q : Int32), 6 - k < fu → (k ≤ 6) → (upK a k = q) → (∀ j, j < k → ¬ upK a j = nI b) → AW p l e (rmM 1 20) s m args below meth c g A 4 0 0 (MQ below (CQ g (hp g I J F w) s.heap.size (fun vv0 hh0 => vv0 = some (.int (bI (undB a b))) ∧ hh0 = hp g I J F w)) args s 0 0 A) 4 [some (.int (nI a)), some (.int (nI b)), some (.int q), some (.int (nI k))] [] (hp g I J F w) := by
    intro fu
    induction fu with
    | zero => intro k q hfu; exact absurd hfu (by omega)
    | succ fu ih =>
      intro k q hfu hk hq hno
      refine a_iload_n X dX1_isUnder_4 (i := 3) rfl rfl ?_
      refine a_bipush X dX1_isUnder_5 (v := nI 6) (by decide +kernel) ?_
      refine s_icmp_geN X dX1_isUnder_7 (tgt := 36) (by decide) (by omega) (by omega) (fun hc7 => ?_) (fun hc7 => ?_)
      · skip
        refine a_iconst X dX1_isUnder_36 (v := nI 0) (by decide +kernel) ?_
        refine a_zret X hA dX1_isUnder_37 (by first | exact nar_bI _ | decide +kernel) ⟨?_, ?_⟩
        · rw [und_f ha hb (fun j hj => hno j (by omega))]; rfl
        · rfl
      · skip
        refine a_iload_n X dX1_isUnder_10 (i := 2) rfl rfl ?_
        refine s_callS_R X dX1_isUnder_11 lk_X1_11 c_X1_isKind ⟨Nat.le_of_ble_eq_true rfl, Nat.le_of_ble_eq_true rfl⟩ rfl rfl (Nat.le_of_ble_eq_true rfl) ⟨Nat.le_of_ble_eq_true rfl, Nat.le_of_ble_eq_true rfl⟩ ?_
        refine a_if_eq X dX1_isUnder_14 (tgt := 36) (by decide) (fun hc14 => ?_) (fun hc14 => ?_)
        · skip
          try simp only [bI_0, Bool.not_eq_false] at hc14
          refine a_iconst X dX1_isUnder_36 (v := nI 0) (by decide +kernel) ?_
          refine a_zret X hA dX1_isUnder_37 (by first | exact nar_bI _ | decide +kernel) ⟨?_, ?_⟩
          · rw [und_x ha hb (by omega) hq hno hc14]; rfl
          · rfl
        · skip
          try simp only [bI_0, Bool.not_eq_false] at hc14
          obtain ⟨x, hx, rfl⟩ := inB_t (by decide) hc14
          refine a_iload_n X dX1_isUnder_17 (i := 2) rfl rfl ?_
          refine a_iload_n X dX1_isUnder_18 (i := 1) rfl rfl ?_
          refine a_icmp_ne X dX1_isUnder_19 (tgt := 24) (by decide) (fun hc19 => ?_) (fun hc19 => ?_)
          · skip
            refine a_gsA X dX1_isUnder_24 fw_X1_15 ?_
            refine a_iload_n X dX1_isUnder_27 (i := 2) rfl rfl ?_
            refine a_ti X dX1_isUnder_28 (by omega) ?_
            refine a_istore_n X dX1_isUnder_29 (i := 2) rfl (by decide) rfl ?_
            refine a_iinc X dX1_isUnder_30 rfl (v := nI (_ + 1)) (iincN _ 1) (by decide) rfl ?_
            refine a_goto X dX1_isUnder_33 (tgt := 4) (by decide) ?_
            exact ih (k + 1) _ (by omega) (by omega) (by rw [upK, hq, upS_n (by omega)]) (fun j hj => by
  by_cases hjk : j = k
  · subst hjk; rw [hq]; exact hc19
  · exact hno j (by omega))
          · skip
            refine a_iconst X dX1_isUnder_22 (v := nI 1) (by decide +kernel) ?_
            refine a_zret X hA dX1_isUnder_23 (by first | exact nar_bI _ | decide +kernel) ⟨?_, ?_⟩
            · rw [und_t ha hb (by omega) (hq.trans hc19)]; rfl
            · rfl
  refine a_iload_n X dX1_isUnder_0 (i := 0) rfl rfl ?_
  refine a_istore_n X dX1_isUnder_1 (i := 2) rfl (by decide) rfl ?_
  refine a_iconst X dX1_isUnder_2 (v := nI 0) (by decide +kernel) ?_
  refine a_istore_n X dX1_isUnder_3 (i := 3) rfl (by decide) rfl ?_
  exact L4 7 0 _ (by omega) (by omega) rfl (fun j hj => absurd hj (by omega))
set_option maxRecDepth 100000 in
set_option maxHeartbeats 4000000 in
theorem c_X4_as {l : Launch} {g : GG} {I : TI} {J : TJ} {F : TI} {w : Int64} {R : Nat → Nat} (ok : okR R) (hC : Ch I F 1 R) {x y : Int32} : RV l g mX4_as [.ref (ga g 0), .int x, .int y] I J F w (BvR I J F w (sp_as R x y)) := by
  have hn10 := ok.1
  obtain ⟨c0, c1, cm, cs⟩ := id hC
  have cm : ∀ m, m < R 1 → I 2 m = nI (R (2 + 6 * m + 0)) ∧ I 3 m = nI (R (2 + 6 * m + 1)) ∧ I 4 m = nI (R (2 + 6 * m + 2)) ∧ I 5 m = nI (R (2 + 6 * m + 3)) ∧ I 6 m = nI (R (2 + 6 * m + 4)) ∧ I 7 m = nI (R (2 + 6 * m + 5)) := cm
  refine ct_start (M := mX4_as) (by decide +kernel) (Nat.le_of_ble_eq_true rfl) ?_
  intro p e s m args below meth c A X hA
  have X : AX p s m args meth c g A cX4_as 3 RX4 (Cond.code yX4_as cX4_as 3 (some .int)) (some .int) := X
  show AW p l e (rmM 2 44) s m args below meth c g A 3 0 0 (MQ below (CQ g (hp g I J F w) s.heap.size (fun vv0 hh0 => ∃ xx0 II0 JJ0 FF0 ww0, vv0 = some xx0 ∧ hh0 = hp g II0 JJ0 FF0 ww0 ∧ (BvR I J F w (sp_as R x y)) xx0 II0 JJ0 FF0 ww0)) args s 0 0 A) 0 [some (.ref (ga g 0)), some (.int x), some (.int y)] [] (hp g I J F w)
  refine a_aload_n X dX4_as_0 (i := 0) rfl rfl ?_
  refine s_getr X dX4_as_1 fl_X4_10 ko_0 rfl ?_
  refine a_iload_n X dX4_as_4 (i := 1) rfl rfl ?_
  refine s_callV_R X dX4_as_5 lk_X4_103 ko_1 rfl rfl (c_X0_has (b := 1) (Or.inl rfl) ok hC) ⟨Nat.le_of_ble_eq_true rfl, Nat.le_of_ble_eq_true rfl⟩ rfl rfl (Nat.le_of_ble_eq_true rfl) ⟨Nat.le_of_ble_eq_true rfl, Nat.le_of_ble_eq_true rfl⟩ ?_
  refine a_if_eq X dX4_as_8 (tgt := 18) (by decide) (fun hc8 => ?_) (fun hc8 => ?_)
  · skip
    try simp only [bI_0, Bool.not_eq_false] at hc8
    refine a_aload_n X dX4_as_18 (i := 0) rfl rfl ?_
    refine a_ldc X dX4_as_19 kc_X4_48 ?_
    refine s_callV_R X dX4_as_21 lk_X4_49 ko_0 rfl rfl (c_X4_found (k := 0) (by decide) (by decide +kernel)) ⟨Nat.le_of_ble_eq_true rfl, Nat.le_of_ble_eq_true rfl⟩ rfl rfl (Nat.le_of_ble_eq_true rfl) ⟨Nat.le_of_ble_eq_true rfl, Nat.le_of_ble_eq_true rfl⟩ ?_
    refine a_iret X hA dX4_as_24 ?_
    exact ⟨_, _, _, _, _, rfl, rfl, bv_find (bs_0 hC) (k := 0) (by decide +kernel) (by rw [sp_as, if_neg (by simp [*])])⟩
  · skip
    try simp only [bI_0, Bool.not_eq_false] at hc8
    refine a_iload_n X dX4_as_11 (i := 2) rfl rfl ?_
    refine s_callS_R X dX4_as_12 lk_X4_87 c_X1_isKind ⟨Nat.le_of_ble_eq_true rfl, Nat.le_of_ble_eq_true rfl⟩ rfl rfl (Nat.le_of_ble_eq_true rfl) ⟨Nat.le_of_ble_eq_true rfl, Nat.le_of_ble_eq_true rfl⟩ ?_
    refine a_if_ne X dX4_as_15 (tgt := 25) (by decide) (fun hc15 => ?_) (fun hc15 => ?_)
    · skip
      try simp only [bI_0, Bool.not_eq_false] at hc15
      obtain ⟨a, ha, rfl⟩ := isM_t (by omega) hc8
      obtain ⟨g0, g1, g2, g3, g4, g5⟩ := ok.2.1 a ha
      obtain ⟨m0, m1, m2, m3, m4, m5⟩ := cm a ha
      obtain ⟨b, hb0, hb, rfl⟩ := inB_r (by decide) (by decide) hc15
      refine a_aload_n X dX4_as_25 (i := 0) rfl rfl ?_
      refine s_getr X dX4_as_26 fl_X4_10 ko_0 rfl ?_
      refine s_getr X dX4_as_29 fl_X4_106 ko_1 rfl ?_
      refine a_iload_n X dX4_as_32 (i := 1) rfl rfl ?_
      refine s_ild X dX4_as_33 ki_2 (by omega) (by decide) ?_
      rw [m0]
      refine a_iload_n X dX4_as_34 (i := 2) rfl rfl ?_
      refine s_callS_R X dX4_as_35 lk_X4_146 (c_X1_isUnder (by omega) (by omega)) ⟨Nat.le_of_ble_eq_true rfl, Nat.le_of_ble_eq_true rfl⟩ rfl rfl (Nat.le_of_ble_eq_true rfl) ⟨Nat.le_of_ble_eq_true rfl, Nat.le_of_ble_eq_true rfl⟩ ?_
      refine a_if_ne X dX4_as_38 (tgt := 48) (by decide) (fun hc38 => ?_) (fun hc38 => ?_)
      · skip
        try simp only [bI_0, Bool.not_eq_false] at hc38
        refine a_aload_n X dX4_as_48 (i := 0) rfl rfl ?_
        refine s_getr X dX4_as_49 fl_X4_10 ko_0 rfl ?_
        refine s_getr X dX4_as_52 fl_X4_115 ko_1 rfl ?_
        refine a_iload_n X dX4_as_55 (i := 1) rfl rfl ?_
        refine s_ild X dX4_as_56 ki_6 (by omega) (by decide) ?_
        rw [m4]
        refine a_iret X hA dX4_as_57 ?_
        exact ⟨_, _, _, _, _, rfl, rfl, bv_val (bs_0 hC) (by rw [sp_as, if_pos ⟨hc8, hc15⟩, cl_n (show a < 2 ^ 31 by omega), cl_n (show b < 2 ^ 31 by omega), if_pos hc38])⟩
      · skip
        try simp only [bI_0, Bool.not_eq_false] at hc38
        refine a_aload_n X dX4_as_41 (i := 0) rfl rfl ?_
        refine a_ldc X dX4_as_42 kc_X4_149 ?_
        refine s_callV_R X dX4_as_44 lk_X4_49 ko_0 rfl rfl (c_X4_found (k := 2) (by decide) (by decide +kernel)) ⟨Nat.le_of_ble_eq_true rfl, Nat.le_of_ble_eq_true rfl⟩ rfl rfl (Nat.le_of_ble_eq_true rfl) ⟨Nat.le_of_ble_eq_true rfl, Nat.le_of_ble_eq_true rfl⟩ ?_
        refine a_iret X hA dX4_as_47 ?_
        exact ⟨_, _, _, _, _, rfl, rfl, bv_find (bs_0 hC) (k := 2) (by decide +kernel) (by rw [sp_as, if_pos ⟨hc8, hc15⟩, cl_n (show a < 2 ^ 31 by omega), cl_n (show b < 2 ^ 31 by omega), if_neg (by rw [hc38]; decide)])⟩
    · skip
      try simp only [bI_0, Bool.not_eq_false] at hc15
      refine a_aload_n X dX4_as_18 (i := 0) rfl rfl ?_
      refine a_ldc X dX4_as_19 kc_X4_48 ?_
      refine s_callV_R X dX4_as_21 lk_X4_49 ko_0 rfl rfl (c_X4_found (k := 0) (by decide) (by decide +kernel)) ⟨Nat.le_of_ble_eq_true rfl, Nat.le_of_ble_eq_true rfl⟩ rfl rfl (Nat.le_of_ble_eq_true rfl) ⟨Nat.le_of_ble_eq_true rfl, Nat.le_of_ble_eq_true rfl⟩ ?_
      refine a_iret X hA dX4_as_24 ?_
      exact ⟨_, _, _, _, _, rfl, rfl, bv_find (bs_0 hC) (k := 0) (by decide +kernel) (by rw [sp_as, if_neg (by simp [*])])⟩
