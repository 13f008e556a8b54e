set_option maxRecDepth 100000 in
set_option maxHeartbeats 4000000 in
theorem c_X3_isWord {l : Launch} {g : GG} {I : TI} {J : TJ} {F : TI} {w : Int64} {B : Nat → Nat} {t : Nat} (hT : TpC I F B t) {i s0 e0 : Nat} (hi : i < 9) (hs : F 31 2 = nI s0) (he : F 31 3 = nI e0) (hse : s0 ≤ e0) (het : e0 ≤ t) : UR l g mX3_isWord [.ref (ga g 31), .ref (gK g i)] I J F w (.int (bI (wdE B s0 (e0 - s0) i))) I J F w := by
  have h120 := hT.2.1
  have hB : ∀ k, k < t → B k < 256 := fun k hk => (hT.2.2 k hk).2
  have h31 := tx_31 hi
  have h8 := (tx_ln i hi).2
  refine ct_start (M := mX3_isWord) (by decide +kernel) (Nat.le_of_ble_eq_true rfl) ?_
  intro p e s m args below meth c A X hA
  have X : AX p s m args meth c g A cX3_isWord 3 RX3 (Cond.code yX3_isWord cX3_isWord 3 (some .boolean)) (some .boolean) := X
  show AW p l e (rmM 5 106) s m args below meth c g A 3 0 0 (MQ below (CQ g (hp g I J F w) s.heap.size (fun vv0 hh0 => vv0 = some (.int (bI (wdE B s0 (e0 - s0) i))) ∧ hh0 = hp g I J F w)) args s 0 0 A) 0 [some (.ref (ga g 31)), some (.ref (gK g i)), none] [] (hp g I J F w)
  have L20 : ∀ (fu : Nat) (k : Nat), 9 - k < fu → (txLen.getD i 0 = e0 - s0) → (k ≤ e0 - s0) → (∀ j, j < k → B (s0 + j) = (txW.getD i []).getD j 0) → AW p l e (rmM 5 106) s m args below meth c g A 3 0 0 (MQ below (CQ g (hp g I J F w) s.heap.size (fun vv0 hh0 => vv0 = some (.int (bI (wdE B s0 (e0 - s0) i))) ∧ hh0 = hp g I J F w)) args s 0 0 A) 20 [some (.ref (ga g 31)), some (.ref (gK g i)), some (.int (nI k))] [] (hp g I J F w) := by
    intro fu
    induction fu with
    | zero => intro k hfu; exact absurd hfu (by omega)
    | succ fu ih =>
      intro k hfu hl hk ha
      refine a_iload_n X dX3_isWord_20 (i := 2) rfl rfl ?_
      refine a_aload_n X dX3_isWord_21 (i := 1) rfl rfl ?_
      refine s_callK_R X hi dX3_isWord_22 lk_X3_114 rfl (c_J0_length hi) ⟨Nat.le_of_ble_eq_true rfl, Nat.le_of_ble_eq_true rfl⟩ rfl rfl (Nat.le_of_ble_eq_true rfl) ⟨Nat.le_of_ble_eq_true rfl, Nat.le_of_ble_eq_true rfl⟩ ?_
      refine s_icmp_geN X dX3_isWord_25 (tgt := 55) (by decide) (by omega) (by omega) (fun hc25 => ?_) (fun hc25 => ?_)
      · skip
        refine a_iconst X dX3_isWord_55 (v := nI 1) (by decide +kernel) ?_
        refine a_zret X hA dX3_isWord_56 (by first | exact nar_bI _ | decide +kernel) ⟨?_, ?_⟩
        · rw [wdE_ok hi hl (fun j hj => ha j (by omega))]; rfl
        · rfl
      · skip
        have hb1 := hB (s0 + k) (by omega)
        have hb2 := txw_b i hi k (by omega)
        refine a_aload_n X dX3_isWord_28 (i := 0) rfl rfl ?_
        refine s_getr X dX3_isWord_29 fl_X3_17 ko_31 rfl ?_
        refine a_aload_n X dX3_isWord_32 (i := 0) rfl rfl ?_
        refine s_geti X dX3_isWord_33 fl_X3_21 ko_31 rfl ?_
        rw [hs]
        refine a_iload_n X dX3_isWord_36 (i := 2) rfl rfl ?_
        refine s_iaddN X dX3_isWord_37 ?_
        refine s_ild X dX3_isWord_38 ki_32 (by omega) (by decide) ?_
        rw [(hT.2.2 (s0 + k) (by omega)).1]
        refine a_aload_n X dX3_isWord_39 (i := 1) rfl rfl ?_
        refine a_iload_n X dX3_isWord_40 (i := 2) rfl rfl ?_
        refine s_callK_R X hi dX3_isWord_41 lk_X3_119 rfl (c_J0_charAt hi (by omega)) ⟨Nat.le_of_ble_eq_true rfl, Nat.le_of_ble_eq_true rfl⟩ rfl rfl (Nat.le_of_ble_eq_true rfl) ⟨Nat.le_of_ble_eq_true rfl, Nat.le_of_ble_eq_true rfl⟩ ?_
        refine s_icmp_eqN X dX3_isWord_44 (tgt := 49) (by decide) (by omega) (by omega) (fun hc44 => ?_) (fun hc44 => ?_)
        · skip
          refine a_iinc X dX3_isWord_49 rfl (v := nI (_ + 1)) (iincN _ 1) (by decide) rfl ?_
          refine a_goto X dX3_isWord_52 (tgt := 20) (by decide) ?_
          exact ih (k + 1) (by omega) hl (by omega) (fun j hj => by
  by_cases hjk : j = k
  · rw [hjk]; exact hc44
  · exact ha j (by omega))
        · skip
          refine a_iconst X dX3_isWord_47 (v := nI 0) (by decide +kernel) ?_
          refine a_zret X hA dX3_isWord_48 (by first | exact nar_bI _ | decide +kernel) ⟨?_, ?_⟩
          · rw [wdE_ne (j := k) (by omega) hc44]; rfl
          · rfl
  refine a_aload_n X dX3_isWord_0 (i := 1) rfl rfl ?_
  refine s_callK_R X hi dX3_isWord_1 lk_X3_114 rfl (c_J0_length hi) ⟨Nat.le_of_ble_eq_true rfl, Nat.le_of_ble_eq_true rfl⟩ rfl rfl (Nat.le_of_ble_eq_true rfl) ⟨Nat.le_of_ble_eq_true rfl, Nat.le_of_ble_eq_true rfl⟩ ?_
  refine a_aload_n X dX3_isWord_4 (i := 0) rfl rfl ?_
  refine s_geti X dX3_isWord_5 fl_X3_24 ko_31 rfl ?_
  rw [he]
  refine a_aload_n X dX3_isWord_8 (i := 0) rfl rfl ?_
  refine s_geti X dX3_isWord_9 fl_X3_21 ko_31 rfl ?_
  rw [hs]
  refine s_isubN X dX3_isWord_12 hse ?_
  refine s_icmp_eqN X dX3_isWord_13 (tgt := 18) (by decide) (by omega) (by omega) (fun hc13 => ?_) (fun hc13 => ?_)
  · skip
    refine a_iconst X dX3_isWord_18 (v := nI 0) (by decide +kernel) ?_
    refine a_istore_n X dX3_isWord_19 (i := 2) rfl (by decide) rfl ?_
    exact L20 10 0 (by omega) hc13 (by omega) (fun j hj => absurd hj (by omega))
  · skip
    refine a_iconst X dX3_isWord_16 (v := nI 0) (by decide +kernel) ?_
    refine a_zret X hA dX3_isWord_17 (by first | exact nar_bI _ | decide +kernel) ⟨?_, ?_⟩
    · rw [wdE_len hc13 hi]; rfl
    · rfl
set_option maxRecDepth 100000 in
set_option maxHeartbeats 4000000 in
theorem c_X3_takeWord {l : Launch} {g : GG} {I : TI} {J : TJ} {F : TI} {w : Int64} {B : Nat → Nat} {t : Nat} (hT : TpC I F B t) {s0 : Nat} (hs : F 31 2 = nI s0) (he : F 31 3 = nI s0) (hst : s0 ≤ t) : VV l g mX3_takeWord [.ref (ga g 31)] I J F w (TwC I J F w 1 (tx_run (tkL B) t s0) (wvI (widK B s0 (tx_run (tkL B) t s0 - s0) 9))) := by
  have h120 := hT.2.1
  have hB : ∀ k, k < t → B k < 256 := fun k hk => (hT.2.2 k hk).2
  have hR1 := tx_le (q := tkL B) hst
  refine ct_start (M := mX3_takeWord) (by decide +kernel) (Nat.le_of_ble_eq_true rfl) ?_
  intro p e s m args below meth c A X hA
  have X : AX p s m args meth c g A cX3_takeWord 2 RX3 (Cond.code yX3_takeWord cX3_takeWord 2 none) none := X
  show AW p l e (rmM 6 128) s m args below meth c g A 2 0 0 (MQ below (CQ g (hp g I J F w) s.heap.size (fun vv0 hh0 => ∃ II0 JJ0 FF0 ww0, vv0 = none ∧ hh0 = hp g II0 JJ0 FF0 ww0 ∧ (TwC I J F w 1 (tx_run (tkL B) t s0) (wvI (widK B s0 (tx_run (tkL B) t s0 - s0) 9))) II0 JJ0 FF0 ww0)) args s 0 0 A) 0 [some (.ref (ga g 31)), none] [] (hp g I J F w)
  have L51 : ∀ (fu : Nat) (k : Nat) (F1 : TI), 9 - k < fu → (k ≤ 9) → (F1 31 2 = nI s0) → (F1 31 3 = nI (tx_run (tkL B) t s0)) → (F1 31 4 = nI 1) → (F1 31 5 = wvI (widK B s0 (tx_run (tkL B) t s0 - s0) k)) → (FrC F F1) → AW p l e (rmM 6 128) s m args below meth c g A 2 0 0 (MQ below (CQ g (hp g I J F w) s.heap.size (fun vv0 hh0 => ∃ II0 JJ0 FF0 ww0, vv0 = none ∧ hh0 = hp g II0 JJ0 FF0 ww0 ∧ (TwC I J F w 1 (tx_run (tkL B) t s0) (wvI (widK B s0 (tx_run (tkL B) t s0 - s0) 9))) II0 JJ0 FF0 ww0)) args s 0 0 A) 51 [some (.ref (ga g 31)), some (.int (nI k))] [] (hp g I J F1 w) := by
    intro fu
    induction fu with
    | zero => intro k F1 hfu; exact absurd hfu (by omega)
    | succ fu ih =>
      intro k F1 hfu hk f2 f3 f4 f5 hF
      refine a_iload_n X dX3_takeWord_51 (i := 1) rfl rfl ?_
      refine a_bipush X dX3_takeWord_52 (v := nI 9) (by decide +kernel) ?_
      refine s_icmp_geN X dX3_takeWord_54 (tgt := 79) (by decide) (by omega) (by omega) (fun hc54 => ?_) (fun hc54 => ?_)
      · skip
        refine a_vret X hA dX3_takeWord_79 ?_
        have hk9 : k = 9 := by omega
        rw [hk9] at f5
        exact ⟨_, _, _, _, rfl, rfl, rfl, rfl, rfl, hF, f2.trans hs.symm, f3, f4, f5⟩
      · skip
        refine a_aload_n X dX3_takeWord_57 (i := 0) rfl rfl ?_
        refine a_iload_n X dX3_takeWord_58 (i := 1) rfl rfl ?_
        refine s_callS_R X dX3_takeWord_59 lk_X3_100 (c_X3_spelling (by omega)) ⟨Nat.le_of_ble_eq_true rfl, Nat.le_of_ble_eq_true rfl⟩ rfl rfl (Nat.le_of_ble_eq_true rfl) ⟨Nat.le_of_ble_eq_true rfl, Nat.le_of_ble_eq_true rfl⟩ ?_
        refine s_callV_R X dX3_takeWord_62 lk_X3_104 ko_31 rfl rfl (c_X3_isWord (tc_f hT hF) (by omega) f2 f3 hR1.1 hR1.2) ⟨Nat.le_of_ble_eq_true rfl, Nat.le_of_ble_eq_true rfl⟩ rfl rfl (Nat.le_of_ble_eq_true rfl) ⟨Nat.le_of_ble_eq_true rfl, Nat.le_of_ble_eq_true rfl⟩ ?_
        refine a_if_eq X dX3_takeWord_65 (tgt := 73) (by decide) (fun hc65 => ?_) (fun hc65 => ?_)
        · skip
          try simp only [bI_0, Bool.not_eq_false] at hc65
          refine a_iinc X dX3_takeWord_73 rfl (v := nI (_ + 1)) (iincN _ 1) (by decide) rfl ?_
          refine a_goto X dX3_takeWord_76 (tgt := 51) (by decide) ?_
          have ws := wv_step (B := B) (s := s0) (n := tx_run (tkL B) t s0 - s0) (k := k) (by omega)
          rw [if_neg (by rw [hc65]; decide)] at ws
          exact ih (k + 1) _ (by omega) (by omega) f2 f3 f4 (f5.trans ws.symm) hF
        · skip
          try simp only [bI_0, Bool.not_eq_false] at hc65
          refine a_aload_n X dX3_takeWord_68 (i := 0) rfl rfl ?_
          refine a_iload_n X dX3_takeWord_69 (i := 1) rfl rfl ?_
          refine s_puti X dX3_takeWord_70 fp_X3_30 ko_31 rfl rfl rfl ?_
          refine a_iinc X dX3_takeWord_73 rfl (v := nI (_ + 1)) (iincN _ 1) (by decide) rfl ?_
          refine a_goto X dX3_takeWord_76 (tgt := 51) (by decide) ?_
          have ws := wv_step (B := B) (s := s0) (n := tx_run (tkL B) t s0 - s0) (k := k) (by omega)
          rw [if_pos hc65] at ws
          exact ih (k + 1) _ (by omega) (by omega) (by simp [ug, f2]) (by simp [ug, f3]) (by simp [ug, f4]) (by rw [ug, if_pos rfl, ws]) (frc_u hF (by decide))
  have L44 : ∀ (F1 : TI), (F1 31 2 = nI s0) → (F1 31 3 = nI (tx_run (tkL B) t s0)) → (F1 31 4 = nI 1) → (FrC F F1) → AW p l e (rmM 6 128) s m args below meth c g A 2 0 0 (MQ below (CQ g (hp g I J F w) s.heap.size (fun vv0 hh0 => ∃ II0 JJ0 FF0 ww0, vv0 = none ∧ hh0 = hp g II0 JJ0 FF0 ww0 ∧ (TwC I J F w 1 (tx_run (tkL B) t s0) (wvI (widK B s0 (tx_run (tkL B) t s0 - s0) 9))) II0 JJ0 FF0 ww0)) args s 0 0 A) 44 [some (.ref (ga g 31)), none] [] (hp g I J F1 w) := by
    intro F1 f2 f3 f4 hF
    refine a_aload_n X dX3_takeWord_44 (i := 0) rfl rfl ?_
    refine a_iconst X dX3_takeWord_45 (v := (-1)) (by decide +kernel) ?_
    refine s_puti X dX3_takeWord_46 fp_X3_30 ko_31 rfl rfl rfl ?_
    refine a_iconst X dX3_takeWord_49 (v := nI 0) (by decide +kernel) ?_
    refine a_istore_n X dX3_takeWord_50 (i := 1) rfl (by decide) rfl ?_
    exact L51 10 0 _ (by omega) (by omega) (by simp [ug, f2]) (by simp [ug, f3]) (by simp [ug, f4]) (by rw [ug, if_pos rfl]; rfl) (frc_u hF (by decide))
  have L5 : ∀ (fu : Nat) (k : Nat) (F1 : TI), t - k < fu → (s0 ≤ k ∧ k ≤ t) → (tx_run (tkL B) t k = tx_run (tkL B) t s0) → (F1 31 2 = nI s0) → (F1 31 3 = nI k) → (F1 31 4 = nI 1) → (FrC F F1) → AW p l e (rmM 6 128) s m args below meth c g A 2 0 0 (MQ below (CQ g (hp g I J F w) s.heap.size (fun vv0 hh0 => ∃ II0 JJ0 FF0 ww0, vv0 = none ∧ hh0 = hp g II0 JJ0 FF0 ww0 ∧ (TwC I J F w 1 (tx_run (tkL B) t s0) (wvI (widK B s0 (tx_run (tkL B) t s0 - s0) 9))) II0 JJ0 FF0 ww0)) args s 0 0 A) 5 [some (.ref (ga g 31)), none] [] (hp g I J F1 w) := by
    intro fu
    induction fu with
    | zero => intro k F1 hfu; exact absurd hfu (by omega)
    | succ fu ih =>
      intro k F1 hfu hk hr f2 f3 f4 hF
      refine a_aload_n X dX3_takeWord_5 (i := 0) rfl rfl ?_
      refine s_geti X dX3_takeWord_6 fl_X3_24 ko_31 rfl ?_
      rw [f3]
      refine a_aload_n X dX3_takeWord_9 (i := 0) rfl rfl ?_
      refine s_geti X dX3_takeWord_10 fl_X3_11 ko_31 rfl ?_
      rw [(tc_f hT hF).1]
      refine s_icmp_geN X dX3_takeWord_13 (tgt := 44) (by decide) (by omega) (by omega) (fun hc13 => ?_) (fun hc13 => ?_)
      · skip
        have e1 : k = tx_run (tkL B) t s0 := by rw [← hr]; exact (tx_en (by omega)).symm
        exact L44 _ f2 (by rw [← e1]; exact f3) f4 hF
      · skip
        have hbk := hB k (by omega)
        refine a_aload_n X dX3_takeWord_16 (i := 0) rfl rfl ?_
        refine s_getr X dX3_takeWord_17 fl_X3_17 ko_31 rfl ?_
        refine a_aload_n X dX3_takeWord_20 (i := 0) rfl rfl ?_
        refine s_geti X dX3_takeWord_21 fl_X3_24 ko_31 rfl ?_
        rw [f3]
        refine s_ild X dX3_takeWord_24 ki_32 (by omega) (by decide) ?_
        rw [(hT.2.2 (k) (by omega)).1]
        refine s_callS_R X dX3_takeWord_25 lk_X3_88 c_X3_isLetter ⟨Nat.le_of_ble_eq_true rfl, Nat.le_of_ble_eq_true rfl⟩ rfl rfl (Nat.le_of_ble_eq_true rfl) ⟨Nat.le_of_ble_eq_true rfl, Nat.le_of_ble_eq_true rfl⟩ ?_
        refine a_if_eq X dX3_takeWord_28 (tgt := 44) (by decide) (fun hc28 => ?_) (fun hc28 => ?_)
        · skip
          simp only [bI_0, Bool.not_eq_false] at hc28
          rw [inB_N (by omega) (by decide) (by decide)] at hc28
          have hc28 : tkL B k = false := hc28
          have e1 : k = tx_run (tkL B) t s0 := by rw [← hr]; exact (tx_st (by omega) hc28).symm
          exact L44 _ f2 (by rw [← e1]; exact f3) f4 hF
        · skip
          simp only [bI_0, Bool.not_eq_false] at hc28
          rw [inB_N (by omega) (by decide) (by decide)] at hc28
          have hc28 : tkL B k = true := hc28
          refine a_aload_n X dX3_takeWord_31 (i := 0) rfl rfl ?_
          refine a_dup X dX3_takeWord_32 rfl ?_
          refine s_geti X dX3_takeWord_33 fl_X3_24 ko_31 rfl ?_
          rw [f3]
          refine a_iconst X dX3_takeWord_36 (v := nI 1) (by decide +kernel) ?_
          refine s_iaddN X dX3_takeWord_37 ?_
          refine s_puti X dX3_takeWord_38 fp_X3_24 ko_31 rfl rfl rfl ?_
          refine a_goto X dX3_takeWord_41 (tgt := 5) (by decide) ?_
          exact ih (k + 1) _ (by omega) (by omega) ((tx_go (by omega) hc28).symm.trans hr) (by simp [ug, f2]) (by simp [ug]) (by simp [ug, f4]) (frc_u hF (by decide))
  refine a_aload_n X dX3_takeWord_0 (i := 0) rfl rfl ?_
  refine a_iconst X dX3_takeWord_1 (v := nI 1) (by decide +kernel) ?_
  refine s_puti X dX3_takeWord_2 fp_X3_27 ko_31 rfl rfl rfl ?_
  exact L5 (t + 1) s0 _ (by omega) (by omega) rfl (by simp [ug, hs]) (by simp [ug, he]) (by simp [ug]) (frc_u (frc_0 F) (by decide))
set_option maxRecDepth 100000 in
set_option maxHeartbeats 4000000 in
theorem c_X3_takeNumber {l : Launch} {g : GG} {I : TI} {J : TJ} {F : TI} {w : Int64} {B : Nat → Nat} {t : Nat} (hT : TpC I F B t) {s0 : Nat} (hs : F 31 2 = nI s0) (he : F 31 3 = nI s0) (hst : s0 ≤ t) : VV l g mX3_takeNumber [.ref (ga g 31)] I J F w (TwC I J F w 2 (tx_run (tkD B) t s0) (nI (nmv B s0 (tx_run (tkD B) t s0 - s0)))) := by
  have h120 := hT.2.1
  have hB : ∀ k, k < t → B k < 256 := fun k hk => (hT.2.2 k hk).2
  refine ct_start (M := mX3_takeNumber) (by decide +kernel) (Nat.le_of_ble_eq_true rfl) ?_
  intro p e s m args below meth c A X hA
  have X : AX p s m args meth c g A cX3_takeNumber 1 RX3 (Cond.code yX3_takeNumber cX3_takeNumber 1 none) none := X
  show AW p l e (rmM 1 21) s m args below meth c g A 1 0 0 (MQ below (CQ g (hp g I J F w) s.heap.size (fun vv0 hh0 => ∃ II0 JJ0 FF0 ww0, vv0 = none ∧ hh0 = hp g II0 JJ0 FF0 ww0 ∧ (TwC I J F w 2 (tx_run (tkD B) t s0) (nI (nmv B s0 (tx_run (tkD B) t s0 - s0)))) II0 JJ0 FF0 ww0)) args s 0 0 A) 0 [some (.ref (ga g 31))] [] (hp g I J F w)
  have L10 : ∀ (fu : Nat) (k : Nat) (F1 : TI), t - k < fu → (s0 ≤ k ∧ k ≤ t) → (tx_run (tkD B) t k = tx_run (tkD B) t s0) → (F1 31 2 = nI s0) → (F1 31 3 = nI k) → (F1 31 4 = nI 2) → (F1 31 5 = nI (nmv B s0 (k - s0))) → (FrC F F1) → AW p l e (rmM 1 21) s m args below meth c g A 1 0 0 (MQ below (CQ g (hp g I J F w) s.heap.size (fun vv0 hh0 => ∃ II0 JJ0 FF0 ww0, vv0 = none ∧ hh0 = hp g II0 JJ0 FF0 ww0 ∧ (TwC I J F w 2 (tx_run (tkD B) t s0) (nI (nmv B s0 (tx_run (tkD B) t s0 - s0)))) II0 JJ0 FF0 ww0)) args s 0 0 A) 10 [some (.ref (ga g 31))] [] (hp g I J F1 w) := by
    intro fu
    induction fu with
    | zero => intro k F1 hfu; exact absurd hfu (by omega)
    | succ fu ih =>
      intro k F1 hfu hk hr f2 f3 f4 f5 hF
      refine a_aload_n X dX3_takeNumber_10 (i := 0) rfl rfl ?_
      refine s_geti X dX3_takeNumber_11 fl_X3_24 ko_31 rfl ?_
      rw [f3]
      refine a_aload_n X dX3_takeNumber_14 (i := 0) rfl rfl ?_
      refine s_geti X dX3_takeNumber_15 fl_X3_11 ko_31 rfl ?_
      rw [(tc_f hT hF).1]
      refine s_icmp_geN X dX3_takeNumber_18 (tgt := 79) (by decide) (by omega) (by omega) (fun hc18 => ?_) (fun hc18 => ?_)
      · skip
        refine a_vret X hA dX3_takeNumber_79 ?_
        have e1 : k = tx_run (tkD B) t s0 := by rw [← hr]; exact (tx_en (by omega)).symm
        rw [← e1]
        exact ⟨_, _, _, _, rfl, rfl, rfl, rfl, rfl, hF, f2.trans hs.symm, f3, f4, f5⟩
      · skip
        have hbk := hB k (by omega)
        have hnv := nmv_le B s0 (k - s0)
        refine a_aload_n X dX3_takeNumber_21 (i := 0) rfl rfl ?_
        refine s_getr X dX3_takeNumber_22 fl_X3_17 ko_31 rfl ?_
        refine a_aload_n X dX3_takeNumber_25 (i := 0) rfl rfl ?_
        refine s_geti X dX3_takeNumber_26 fl_X3_24 ko_31 rfl ?_
        rw [f3]
        refine s_ild X dX3_takeNumber_29 ki_32 (by omega) (by decide) ?_
        rw [(hT.2.2 (k) (by omega)).1]
        refine s_callS_R X dX3_takeNumber_30 lk_X3_94 c_X3_isDigit ⟨Nat.le_of_ble_eq_true rfl, Nat.le_of_ble_eq_true rfl⟩ rfl rfl (Nat.le_of_ble_eq_true rfl) ⟨Nat.le_of_ble_eq_true rfl, Nat.le_of_ble_eq_true rfl⟩ ?_
        refine a_if_eq X dX3_takeNumber_33 (tgt := 79) (by decide) (fun hc33 => ?_) (fun hc33 => ?_)
        · skip
          simp only [bI_0, Bool.not_eq_false] at hc33
          rw [inB_N (by omega) (by decide) (by decide)] at hc33
          have hc33 : tkD B k = false := hc33
          refine a_vret X hA dX3_takeNumber_79 ?_
          have e1 : k = tx_run (tkD B) t s0 := by rw [← hr]; exact (tx_st (by omega) hc33).symm
          rw [← e1]
          exact ⟨_, _, _, _, rfl, rfl, rfl, rfl, rfl, hF, f2.trans hs.symm, f3, f4, f5⟩
        · skip
          simp only [bI_0, Bool.not_eq_false] at hc33
          rw [inB_N (by omega) (by decide) (by decide)] at hc33
          have hzd := hc33
          simp only [Bool.and_eq_true, decide_eq_true_eq] at hzd
          have hc33 : tkD B k = true := hc33
          refine a_aload_n X dX3_takeNumber_36 (i := 0) rfl rfl ?_
          refine a_sipush X dX3_takeNumber_37 (v := nI 1000) (by decide +kernel) ?_
          refine a_bipush X dX3_takeNumber_40 (v := nI 10) (by decide +kernel) ?_
          refine a_aload_n X dX3_takeNumber_42 (i := 0) rfl rfl ?_
          refine s_geti X dX3_takeNumber_43 fl_X3_30 ko_31 rfl ?_
          rw [f5]
          refine s_imulN X dX3_takeNumber_46 ?_
          refine a_aload_n X dX3_takeNumber_47 (i := 0) rfl rfl ?_
          refine s_getr X dX3_takeNumber_48 fl_X3_17 ko_31 rfl ?_
          refine a_aload_n X dX3_takeNumber_51 (i := 0) rfl rfl ?_
          refine s_geti X dX3_takeNumber_52 fl_X3_24 ko_31 rfl ?_
          rw [f3]
          refine s_ild X dX3_takeNumber_55 ki_32 (by omega) (by decide) ?_
          rw [(hT.2.2 (k) (by omega)).1]
          refine s_iaddN X dX3_takeNumber_56 ?_
          refine a_bipush X dX3_takeNumber_57 (v := nI 48) (by decide +kernel) ?_
          refine s_isubN X dX3_takeNumber_59 (by omega) ?_
          refine a_mmin X dX3_takeNumber_60 ml_X3_108 min_w ⟨Nat.le_of_ble_eq_true rfl, Nat.le_of_ble_eq_true rfl⟩ ⟨Nat.le_of_ble_eq_true rfl, Nat.le_of_ble_eq_true rfl⟩ ?_
          rw [mn_n (by decide) (by omega)]
          refine s_puti X dX3_takeNumber_63 fp_X3_30 ko_31 rfl rfl rfl ?_
          refine a_aload_n X dX3_takeNumber_66 (i := 0) rfl rfl ?_
          refine a_dup X dX3_takeNumber_67 rfl ?_
          refine s_geti X dX3_takeNumber_68 fl_X3_24 ko_31 rfl ?_
          rw [ug, if_neg (by decide), f3]
          refine a_iconst X dX3_takeNumber_71 (v := nI 1) (by decide +kernel) ?_
          refine s_iaddN X dX3_takeNumber_72 ?_
          refine s_puti X dX3_takeNumber_73 fp_X3_24 ko_31 rfl rfl rfl ?_
          refine a_goto X dX3_takeNumber_76 (tgt := 10) (by decide) ?_
          exact ih (k + 1) _ (by omega) (by omega) ((tx_go (by omega) hc33).symm.trans hr) (by simp [ug, f2]) (by simp [ug]) (by simp [ug, f4]) (by rw [ug, if_neg (by decide), ug, if_pos rfl, show k + 1 - s0 = (k - s0) + 1 by omega, nmv, show s0 + (k - s0) = k by omega]; congr 2; omega) (frc_u (frc_u hF (by decide)) (by decide))
  refine a_aload_n X dX3_takeNumber_0 (i := 0) rfl rfl ?_
  refine a_iconst X dX3_takeNumber_1 (v := nI 2) (by decide +kernel) ?_
  refine s_puti X dX3_takeNumber_2 fp_X3_27 ko_31 rfl rfl rfl ?_
  refine a_aload_n X dX3_takeNumber_5 (i := 0) rfl rfl ?_
  refine a_iconst X dX3_takeNumber_6 (v := nI 0) (by decide +kernel) ?_
  refine s_puti X dX3_takeNumber_7 fp_X3_30 ko_31 rfl rfl rfl ?_
  exact L10 (t + 1) s0 _ (by omega) (by omega) rfl (by simp [ug, hs]) (by simp [ug, he]) (by simp [ug]) (by rw [ug, if_pos rfl, Nat.sub_self]; rfl) (frc_u (frc_u (frc_0 F) (by decide)) (by decide))
set_option maxRecDepth 100000 in
set_option maxHeartbeats 4000000 in
theorem c_X3_advance {l : Launch} {g : GG} {I : TI} {J : TJ} {F : TI} {w : Int64} {B : Nat → Nat} {t : Nat} (hT : TpC I F B t) {p0 : Nat} (hp0 : p0 ≤ t) (hen : F 31 3 = nI p0) : VV l g mX3_advance [.ref (ga g 31)] I J F w (AdC I J F w B t p0) := by
  have h120 := hT.2.1
  have hB : ∀ k, k < t → B k < 256 := fun k hk => (hT.2.2 k hk).2
  have hS1 := tkS_le (B := B) hp0
  have hE1 := tkE_le (B := B) hp0
  refine ct_start (M := mX3_advance) (by decide +kernel) (Nat.le_of_ble_eq_true rfl) ?_
  intro p e s m args below meth c A X hA
  have X : AX p s m args meth c g A cX3_advance 1 RX3 (Cond.code yX3_advance cX3_advance 1 none) none := X
  show AW p l e (rmM 7 149) s m args below meth c g A 1 0 0 (MQ below (CQ g (hp g I J F w) s.heap.size (fun vv0 hh0 => ∃ II0 JJ0 FF0 ww0, vv0 = none ∧ hh0 = hp g II0 JJ0 FF0 ww0 ∧ (AdC I J F w B t p0) II0 JJ0 FF0 ww0)) args s 0 0 A) 0 [some (.ref (ga g 31))] [] (hp g I J F w)
  have L46 : ∀ (F1 : TI), (F1 31 2 = nI (tkS B t p0)) → (FrC F F1) → AW p l e (rmM 7 149) s m args below meth c g A 1 0 0 (MQ below (CQ g (hp g I J F w) s.heap.size (fun vv0 hh0 => ∃ II0 JJ0 FF0 ww0, vv0 = none ∧ hh0 = hp g II0 JJ0 FF0 ww0 ∧ (AdC I J F w B t p0) II0 JJ0 FF0 ww0)) args s 0 0 A) 46 [some (.ref (ga g 31))] [] (hp g I J F1 w) := by
    intro F1 f2 hF
    refine a_aload_n X dX3_advance_46 (i := 0) rfl rfl ?_
    refine a_aload_n X dX3_advance_47 (i := 0) rfl rfl ?_
    refine s_geti X dX3_advance_48 fl_X3_21 ko_31 rfl ?_
    rw [f2]
    refine s_puti X dX3_advance_51 fp_X3_24 ko_31 rfl rfl rfl ?_
    have f3 : va_up F1 31 (va_up (F1 31) 3 (nI (tkS B t p0))) 31 3 = nI (tkS B t p0) := by simp [ug]
    have f2 : va_up F1 31 (va_up (F1 31) 3 (nI (tkS B t p0))) 31 2 = nI (tkS B t p0) := by simp [ug, f2]
    have hF := frc_u (v := nI (tkS B t p0)) hF (j := 3) (by decide)
    generalize va_up F1 31 (va_up (F1 31) 3 (nI (tkS B t p0))) = F1 at f2 f3 hF ⊢
    refine a_aload_n X dX3_advance_54 (i := 0) rfl rfl ?_
    refine s_geti X dX3_advance_55 fl_X3_21 ko_31 rfl ?_
    rw [f2]
    refine a_aload_n X dX3_advance_58 (i := 0) rfl rfl ?_
    refine s_geti X dX3_advance_59 fl_X3_11 ko_31 rfl ?_
    rw [(tc_f hT hF).1]
    refine s_icmp_ltN X dX3_advance_62 (tgt := 73) (by decide) (by omega) (by omega) (fun hc62 => ?_) (fun hc62 => ?_)
    · skip
      have hbk := hB (tkS B t p0) (by omega)
      refine a_aload_n X dX3_advance_73 (i := 0) rfl rfl ?_
      refine s_getr X dX3_advance_74 fl_X3_17 ko_31 rfl ?_
      refine a_aload_n X dX3_advance_77 (i := 0) rfl rfl ?_
      refine s_geti X dX3_advance_78 fl_X3_21 ko_31 rfl ?_
      rw [f2]
      refine s_ild X dX3_advance_81 ki_32 (by omega) (by decide) ?_
      rw [(hT.2.2 (tkS B t p0) (by omega)).1]
      refine s_callS_R X dX3_advance_82 lk_X3_88 c_X3_isLetter ⟨Nat.le_of_ble_eq_true rfl, Nat.le_of_ble_eq_true rfl⟩ rfl rfl (Nat.le_of_ble_eq_true rfl) ⟨Nat.le_of_ble_eq_true rfl, Nat.le_of_ble_eq_true rfl⟩ ?_
      refine a_if_eq X dX3_advance_85 (tgt := 95) (by decide) (fun hc85 => ?_) (fun hc85 => ?_)
      · skip
        simp only [bI_0, Bool.not_eq_false] at hc85
        rw [inB_N (by omega) (by decide) (by decide)] at hc85
        have hc85 : tkL B (tkS B t p0) = false := hc85
        refine a_aload_n X dX3_advance_95 (i := 0) rfl rfl ?_
        refine s_getr X dX3_advance_96 fl_X3_17 ko_31 rfl ?_
        refine a_aload_n X dX3_advance_99 (i := 0) rfl rfl ?_
        refine s_geti X dX3_advance_100 fl_X3_21 ko_31 rfl ?_
        rw [f2]
        refine s_ild X dX3_advance_103 ki_32 (by omega) (by decide) ?_
        rw [(hT.2.2 (tkS B t p0) (by omega)).1]
        refine s_callS_R X dX3_advance_104 lk_X3_94 c_X3_isDigit ⟨Nat.le_of_ble_eq_true rfl, Nat.le_of_ble_eq_true rfl⟩ rfl rfl (Nat.le_of_ble_eq_true rfl) ⟨Nat.le_of_ble_eq_true rfl, Nat.le_of_ble_eq_true rfl⟩ ?_
        refine a_if_eq X dX3_advance_107 (tgt := 117) (by decide) (fun hc107 => ?_) (fun hc107 => ?_)
        · skip
          simp only [bI_0, Bool.not_eq_false] at hc107
          rw [inB_N (by omega) (by decide) (by decide)] at hc107
          have hc107 : tkD B (tkS B t p0) = false := hc107
          refine a_aload_n X dX3_advance_117 (i := 0) rfl rfl ?_
          refine a_aload_n X dX3_advance_118 (i := 0) rfl rfl ?_
          refine s_getr X dX3_advance_119 fl_X3_17 ko_31 rfl ?_
          refine a_aload_n X dX3_advance_122 (i := 0) rfl rfl ?_
          refine s_geti X dX3_advance_123 fl_X3_21 ko_31 rfl ?_
          rw [f2]
          refine s_ild X dX3_advance_126 ki_32 (by omega) (by decide) ?_
          rw [(hT.2.2 (tkS B t p0) (by omega)).1]
          refine a_bipush X dX3_advance_127 (v := nI 59) (by decide +kernel) ?_
          refine s_icmp_neN X dX3_advance_129 (tgt := 136) (by decide) (by omega) (by omega) (fun hc129 => ?_) (fun hc129 => ?_)
          · skip
            refine a_iconst X dX3_advance_136 (v := nI 4) (by decide +kernel) ?_
            refine s_puti X dX3_advance_137 fp_X3_27 ko_31 rfl rfl rfl ?_
            refine a_aload_n X dX3_advance_140 (i := 0) rfl rfl ?_
            refine a_dup X dX3_advance_141 rfl ?_
            refine s_geti X dX3_advance_142 fl_X3_24 ko_31 rfl ?_
            rw [ug, if_neg (by decide), f3]
            refine a_iconst X dX3_advance_145 (v := nI 1) (by decide +kernel) ?_
            refine s_iaddN X dX3_advance_146 ?_
            refine s_puti X dX3_advance_147 fp_X3_24 ko_31 rfl rfl rfl ?_
            refine a_vret X hA dX3_advance_150 ?_
            have hk := tkK_4 (B := B) (t := t) (p := p0) (by omega) hc85 hc107 hc129
            exact ⟨_, _, _, _, rfl, rfl, rfl, rfl, rfl, frc_u (frc_u hF (by decide)) (by decide), by simp [ug, f2], by rw [tkE_3 (by omega)]; simp [ug], by rw [hk]; simp [ug], fun q => by omega, fun q => by omega⟩
          · skip
            refine a_iconst X dX3_advance_132 (v := nI 3) (by decide +kernel) ?_
            refine a_goto X dX3_advance_133 (tgt := 137) (by decide) ?_
            refine s_puti X dX3_advance_137 fp_X3_27 ko_31 rfl rfl rfl ?_
            refine a_aload_n X dX3_advance_140 (i := 0) rfl rfl ?_
            refine a_dup X dX3_advance_141 rfl ?_
            refine s_geti X dX3_advance_142 fl_X3_24 ko_31 rfl ?_
            rw [ug, if_neg (by decide), f3]
            refine a_iconst X dX3_advance_145 (v := nI 1) (by decide +kernel) ?_
            refine s_iaddN X dX3_advance_146 ?_
            refine s_puti X dX3_advance_147 fp_X3_24 ko_31 rfl rfl rfl ?_
            refine a_vret X hA dX3_advance_150 ?_
            have hk := tkK_3 (B := B) (t := t) (p := p0) (by omega) hc85 hc107 hc129
            exact ⟨_, _, _, _, rfl, rfl, rfl, rfl, rfl, frc_u (frc_u hF (by decide)) (by decide), by simp [ug, f2], by rw [tkE_3 (by omega)]; simp [ug], by rw [hk]; simp [ug], fun q => by omega, fun q => by omega⟩
        · skip
          simp only [bI_0, Bool.not_eq_false] at hc107
          rw [inB_N (by omega) (by decide) (by decide)] at hc107
          have hc107 : tkD B (tkS B t p0) = true := hc107
          refine a_aload_n X dX3_advance_110 (i := 0) rfl rfl ?_
          refine s_callV_Y X dX3_advance_111 lk_X3_97 ko_31 rfl rfl (c_X3_takeNumber (tc_f hT hF) f2 f3 hS1.2) ⟨Nat.le_of_ble_eq_true rfl, Nat.le_of_ble_eq_true rfl⟩ rfl rfl (Nat.le_of_ble_eq_true rfl) ⟨Nat.le_of_ble_eq_true rfl, Nat.le_of_ble_eq_true rfl⟩ (fun I2 J2 F2 w2 hpo => ?_)
          refine a_goto X dX3_advance_114 (tgt := 150) (by decide) ?_
          refine a_vret X hA dX3_advance_150 ?_
          have hk := tkK_2 (B := B) (t := t) (p := p0) (by omega) hc85 hc107
          obtain ⟨rfl, rfl, rfl, y1, y2, y3, y4, y5⟩ := hpo
          exact ⟨_, _, _, _, rfl, rfl, rfl, rfl, rfl, frc_t hF y1, y2.trans f2, by rw [tkE_2 hk]; exact y3, by rw [hk]; exact y4, fun q => by omega, fun _ => by rw [tkV, if_neg (by omega), tkE_2 hk]; exact y5⟩
      · skip
        simp only [bI_0, Bool.not_eq_false] at hc85
        rw [inB_N (by omega) (by decide) (by decide)] at hc85
        have hc85 : tkL B (tkS B t p0) = true := hc85
        refine a_aload_n X dX3_advance_88 (i := 0) rfl rfl ?_
        refine s_callV_Y X dX3_advance_89 lk_X3_91 ko_31 rfl rfl (c_X3_takeWord (tc_f hT hF) f2 f3 hS1.2) ⟨Nat.le_of_ble_eq_true rfl, Nat.le_of_ble_eq_true rfl⟩ rfl rfl (Nat.le_of_ble_eq_true rfl) ⟨Nat.le_of_ble_eq_true rfl, Nat.le_of_ble_eq_true rfl⟩ (fun I2 J2 F2 w2 hpo => ?_)
        refine a_goto X dX3_advance_92 (tgt := 150) (by decide) ?_
        refine a_vret X hA dX3_advance_150 ?_
        have hk := tkK_1 (B := B) (t := t) (p := p0) (by omega) hc85
        obtain ⟨rfl, rfl, rfl, y1, y2, y3, y4, y5⟩ := hpo
        exact ⟨_, _, _, _, rfl, rfl, rfl, rfl, rfl, frc_t hF y1, y2.trans f2, by rw [tkE_1 hk]; exact y3, by rw [hk]; exact y4, fun _ => by rw [tkV, if_pos hk, tkE_1 hk]; exact y5, fun q => by omega⟩
    · skip
      refine a_aload_n X dX3_advance_65 (i := 0) rfl rfl ?_
      refine a_iconst X dX3_advance_66 (v := nI 0) (by decide +kernel) ?_
      refine s_puti X dX3_advance_67 fp_X3_27 ko_31 rfl rfl rfl ?_
      refine a_goto X dX3_advance_70 (tgt := 150) (by decide) ?_
      refine a_vret X hA dX3_advance_150 ?_
      have hk := tkK_0 (B := B) (t := t) (p := p0) (by omega)
      exact ⟨_, _, _, _, rfl, rfl, rfl, rfl, rfl, frc_u hF (by decide), by simp [ug, f2], by rw [tkE_0 hk]; simp [ug, f3], by rw [hk]; simp [ug], fun q => by omega, fun q => by omega⟩
  have L8 : ∀ (fu : Nat) (k : Nat) (F1 : TI), t - k < fu → (k ≤ t) → (tx_run (tkB B) t k = tkS B t p0) → (F1 31 2 = nI k) → (FrC F F1) → AW p l e (rmM 7 149) s m args below meth c g A 1 0 0 (MQ below (CQ g (hp g I J F w) s.heap.size (fun vv0 hh0 => ∃ II0 JJ0 FF0 ww0, vv0 = none ∧ hh0 = hp g II0 JJ0 FF0 ww0 ∧ (AdC I J F w B t p0) II0 JJ0 FF0 ww0)) args s 0 0 A) 8 [some (.ref (ga g 31))] [] (hp g I J F1 w) := by
    intro fu
    induction fu with
    | zero => intro k F1 hfu; exact absurd hfu (by omega)
    | succ fu ih =>
      intro k F1 hfu hk hr f2 hF
      refine a_aload_n X dX3_advance_8 (i := 0) rfl rfl ?_
      refine s_geti X dX3_advance_9 fl_X3_21 ko_31 rfl ?_
      rw [f2]
      refine a_aload_n X dX3_advance_12 (i := 0) rfl rfl ?_
      refine s_geti X dX3_advance_13 fl_X3_11 ko_31 rfl ?_
      rw [(tc_f hT hF).1]
      refine s_icmp_geN X dX3_advance_16 (tgt := 46) (by decide) (by omega) (by omega) (fun hc16 => ?_) (fun hc16 => ?_)
      · skip
        have e1 : k = tkS B t p0 := by rw [← hr]; exact (tx_en (by omega)).symm
        exact L46 _ (by rw [← e1]; exact f2) hF
      · skip
        have hbk := hB k (by omega)
        refine a_aload_n X dX3_advance_19 (i := 0) rfl rfl ?_
        refine s_getr X dX3_advance_20 fl_X3_17 ko_31 rfl ?_
        refine a_aload_n X dX3_advance_23 (i := 0) rfl rfl ?_
        refine s_geti X dX3_advance_24 fl_X3_21 ko_31 rfl ?_
        rw [f2]
        refine s_ild X dX3_advance_27 ki_32 (by omega) (by decide) ?_
        rw [(hT.2.2 (k) (by omega)).1]
        refine a_bipush X dX3_advance_28 (v := nI 32) (by decide +kernel) ?_
        refine s_icmp_neN X dX3_advance_30 (tgt := 46) (by decide) (by omega) (by omega) (fun hc30 => ?_) (fun hc30 => ?_)
        · skip
          have e1 : k = tkS B t p0 := by rw [← hr]; exact (tx_st (by omega) (by simp [tkB, hc30])).symm
          exact L46 _ (by rw [← e1]; exact f2) hF
        · skip
          refine a_aload_n X dX3_advance_33 (i := 0) rfl rfl ?_
          refine a_dup X dX3_advance_34 rfl ?_
          refine s_geti X dX3_advance_35 fl_X3_21 ko_31 rfl ?_
          rw [f2]
          refine a_iconst X dX3_advance_38 (v := nI 1) (by decide +kernel) ?_
          refine s_iaddN X dX3_advance_39 ?_
          refine s_puti X dX3_advance_40 fp_X3_21 ko_31 rfl rfl rfl ?_
          refine a_goto X dX3_advance_43 (tgt := 8) (by decide) ?_
          exact ih (k + 1) _ (by omega) (by omega) ((tx_go (by omega) (by simp [tkB, hc30])).symm.trans hr) (by simp [ug]) (frc_u hF (by decide))
  refine a_aload_n X dX3_advance_0 (i := 0) rfl rfl ?_
  refine a_aload_n X dX3_advance_1 (i := 0) rfl rfl ?_
  refine s_geti X dX3_advance_2 fl_X3_24 ko_31 rfl ?_
  rw [hen]
  refine s_puti X dX3_advance_5 fp_X3_21 ko_31 rfl rfl rfl ?_
  exact L8 (t + 1) p0 _ (by omega) hp0 rfl (by simp [ug]) (frc_u (frc_0 F) (by decide))
set_option maxRecDepth 100000 in
set_option maxHeartbeats 4000000 in
theorem c_X3_atNumber {l : Launch} {g : GG} {I : TI} {J : TJ} {F : TI} {w : Int64} {lo hi : Int32} : UR l g mX3_atNumber [.ref (ga g 31), .int lo, .int hi] I J F w (.int (bI (decide (F 31 4 = nI 2) && inB (F 31 5) lo hi))) I J F w := by
  refine ct_start (M := mX3_atNumber) (by decide +kernel) (Nat.le_of_ble_eq_true rfl) ?_
  intro p e s m args below meth c A X hA
  have X : AX p s m args meth c g A cX3_atNumber 3 RX3 (Cond.code yX3_atNumber cX3_atNumber 3 (some .boolean)) (some .boolean) := X
  show AW p l e (rmM 1 22) s m args below meth c g A 3 0 0 (MQ below (CQ g (hp g I J F w) s.heap.size (fun vv0 hh0 => vv0 = some (.int (bI (decide (F 31 4 = nI 2) && inB (F 31 5) lo hi))) ∧ hh0 = hp g I J F w)) args s 0 0 A) 0 [some (.ref (ga g 31)), some (.int lo), some (.int hi)] [] (hp g I J F w)
  refine a_aload_n X dX3_atNumber_0 (i := 0) rfl rfl ?_
  refine s_geti X dX3_atNumber_1 fl_X3_27 ko_31 rfl ?_
  refine a_iconst X dX3_atNumber_4 (v := nI 2) (by decide +kernel) ?_
  refine a_icmp_ne X dX3_atNumber_5 (tgt := 24) (by decide) (fun hc5 => ?_) (fun hc5 => ?_)
  · skip
    refine a_iconst X dX3_atNumber_24 (v := nI 0) (by decide +kernel) ?_
    refine a_zret X hA dX3_atNumber_25 (by first | exact nar_bI _ | decide +kernel) ⟨?_, ?_⟩
    · rw [decide_eq_false hc5]; rfl
    · rfl
  · skip
    refine a_aload_n X dX3_atNumber_8 (i := 0) rfl rfl ?_
    refine s_geti X dX3_atNumber_9 fl_X3_30 ko_31 rfl ?_
    refine a_iload_n X dX3_atNumber_12 (i := 1) rfl rfl ?_
    refine a_iload_n X dX3_atNumber_13 (i := 2) rfl rfl ?_
    refine s_callN_R X dX3_atNumber_14 lk_X3_84 X.2.2.1.2.1 c_X4_within ⟨Nat.le_of_ble_eq_true rfl, Nat.le_of_ble_eq_true rfl⟩ rfl rfl (Nat.le_of_ble_eq_true rfl) ⟨Nat.le_of_ble_eq_true rfl, Nat.le_of_ble_eq_true rfl⟩ ?_
    refine a_if_eq X dX3_atNumber_17 (tgt := 24) (by decide) (fun hc17 => ?_) (fun hc17 => ?_)
    · skip
      try simp only [bI_0, Bool.not_eq_false] at hc17
      refine a_iconst X dX3_atNumber_24 (v := nI 0) (by decide +kernel) ?_
      refine a_zret X hA dX3_atNumber_25 (by first | exact nar_bI _ | decide +kernel) ⟨?_, ?_⟩
      · rw [decide_eq_true hc5, hc17]; rfl
      · rfl
    · skip
      try simp only [bI_0, Bool.not_eq_false] at hc17
      refine a_iconst X dX3_atNumber_20 (v := nI 1) (by decide +kernel) ?_
      refine a_goto X dX3_atNumber_21 (tgt := 25) (by decide) ?_
      refine a_zret X hA dX3_atNumber_25 (by first | exact nar_bI _ | decide +kernel) ⟨?_, ?_⟩
      · rw [decide_eq_true hc5, hc17]; rfl
      · rfl
