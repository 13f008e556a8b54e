set_option maxRecDepth 100000 in
set_option maxHeartbeats 4000000 in
theorem c_X5_feels {l : Launch} {g : GG} {I : TI} {J : TJ} {F : TI} {w : Int64} {R : Nat → Nat} (hR : I 44 = nr R) (ok : okR R) {a : Nat} (ha : a < R 1) : UR l g mX5_feels [.ref (ga g 43), .int (nI a)] I J F w (.int (nI (fe (R (2 + 6 * a + 0)) (R (2 + 6 * a + 5))))) I J F w := by
  have hn10 := ok.1
  obtain ⟨g0, g1, g2, g3, g4, g5⟩ := ok.2.1 a ha
  refine ct_start (M := mX5_feels) (by decide +kernel) (Nat.le_of_ble_eq_true rfl) ?_
  intro p e s m args below meth c A X hA
  have X : AX p s m args meth c g A cX5_feels 2 RX5 (Cond.code yX5_feels cX5_feels 2 (some .int)) (some .int) := X
  show AW p l e (rmM 1 22) s m args below meth c g A 2 0 0 (MQ below (CQ g (hp g I J F w) s.heap.size (fun vv0 hh0 => vv0 = some (.int (nI (fe (R (2 + 6 * a + 0)) (R (2 + 6 * a + 5))))) ∧ hh0 = hp g I J F w)) args s 0 0 A) 0 [some (.ref (ga g 43)), some (.int (nI a))] [] (hp g I J F w)
  refine a_aload_n X dX5_feels_0 (i := 0) rfl rfl ?_
  refine a_iload_n X dX5_feels_1 (i := 1) rfl rfl ?_
  refine a_iconst X dX5_feels_2 (v := nI 0) (by decide +kernel) ?_
  refine s_callV_R X dX5_feels_3 lk_X5_55 ko_43 rfl rfl (c_X5_its hR (by omega)) ⟨Nat.le_of_ble_eq_true rfl, Nat.le_of_ble_eq_true rfl⟩ rfl rfl (Nat.le_of_ble_eq_true rfl) ⟨Nat.le_of_ble_eq_true rfl, Nat.le_of_ble_eq_true rfl⟩ ?_
  rcases lt6 g0 with hsw | hsw | hsw | hsw | hsw | hsw
  · rw [hsw]
    refine a_tsOut X dX5_feels_6 (by decide +kernel) (tgt := 61) (by decide) ?_
    refine a_iconst X dX5_feels_61 (v := nI 1) (by decide +kernel) ?_
    refine a_iret X hA dX5_feels_62 ⟨?_, ?_⟩
    · first | rfl | (show some (Value.int (nI _)) = some (Value.int (nI (if R (2 + 6 * a + 5) < 10 then 2 else 1))); first | rw [if_pos (by omega)] | rw [if_neg (by omega)])
    · rfl
  · rw [hsw]
    refine a_tsIn X dX5_feels_6 (by decide +kernel) (by decide +kernel) (off := 36) (by decide +kernel) (tgt := 42) (by decide) ?_
    refine a_iconst X dX5_feels_42 (v := nI 2) (by decide +kernel) ?_
    refine a_iret X hA dX5_feels_43 ⟨?_, ?_⟩
    · first | rfl | (show some (Value.int (nI _)) = some (Value.int (nI (if R (2 + 6 * a + 5) < 10 then 2 else 1))); first | rw [if_pos (by omega)] | rw [if_neg (by omega)])
    · rfl
  · rw [hsw]
    refine a_tsIn X dX5_feels_6 (by decide +kernel) (by decide +kernel) (off := 55) (by decide +kernel) (tgt := 61) (by decide) ?_
    refine a_iconst X dX5_feels_61 (v := nI 1) (by decide +kernel) ?_
    refine a_iret X hA dX5_feels_62 ⟨?_, ?_⟩
    · first | rfl | (show some (Value.int (nI _)) = some (Value.int (nI (if R (2 + 6 * a + 5) < 10 then 2 else 1))); first | rw [if_pos (by omega)] | rw [if_neg (by omega)])
    · rfl
  · rw [hsw]
    refine a_tsIn X dX5_feels_6 (by decide +kernel) (by decide +kernel) (off := 34) (by decide +kernel) (tgt := 40) (by decide) ?_
    refine a_iconst X dX5_feels_40 (v := nI 0) (by decide +kernel) ?_
    refine a_iret X hA dX5_feels_41 ⟨?_, ?_⟩
    · first | rfl | (show some (Value.int (nI _)) = some (Value.int (nI (if R (2 + 6 * a + 5) < 10 then 2 else 1))); first | rw [if_pos (by omega)] | rw [if_neg (by omega)])
    · rfl
  · rw [hsw]
    refine a_tsIn X dX5_feels_6 (by decide +kernel) (by decide +kernel) (off := 36) (by decide +kernel) (tgt := 42) (by decide) ?_
    refine a_iconst X dX5_feels_42 (v := nI 2) (by decide +kernel) ?_
    refine a_iret X hA dX5_feels_43 ⟨?_, ?_⟩
    · first | rfl | (show some (Value.int (nI _)) = some (Value.int (nI (if R (2 + 6 * a + 5) < 10 then 2 else 1))); first | rw [if_pos (by omega)] | rw [if_neg (by omega)])
    · rfl
  · rw [hsw]
    refine a_tsIn X dX5_feels_6 (by decide +kernel) (by decide +kernel) (off := 38) (by decide +kernel) (tgt := 44) (by decide) ?_
    refine a_aload_n X dX5_feels_44 (i := 0) rfl rfl ?_
    refine a_iload_n X dX5_feels_45 (i := 1) rfl rfl ?_
    refine a_iconst X dX5_feels_46 (v := nI 5) (by decide +kernel) ?_
    refine s_callV_R X dX5_feels_47 lk_X5_55 ko_43 rfl rfl (c_X5_its hR (by omega)) ⟨Nat.le_of_ble_eq_true rfl, Nat.le_of_ble_eq_true rfl⟩ rfl rfl (Nat.le_of_ble_eq_true rfl) ⟨Nat.le_of_ble_eq_true rfl, Nat.le_of_ble_eq_true rfl⟩ ?_
    refine a_bipush X dX5_feels_50 (v := nI 10) (by decide +kernel) ?_
    refine s_icmp_geN X dX5_feels_52 (tgt := 59) (by decide) (by omega) (by omega) (fun hc52 => ?_) (fun hc52 => ?_)
    · skip
      try simp only [bI_0, Bool.not_eq_false] at hc52
      refine a_iconst X dX5_feels_59 (v := nI 1) (by decide +kernel) ?_
      refine a_iret X hA dX5_feels_60 ⟨?_, ?_⟩
      · first | rfl | (show some (Value.int (nI _)) = some (Value.int (nI (if R (2 + 6 * a + 5) < 10 then 2 else 1))); first | rw [if_pos (by omega)] | rw [if_neg (by omega)])
      · rfl
    · skip
      try simp only [bI_0, Bool.not_eq_false] at hc52
      refine a_iconst X dX5_feels_55 (v := nI 2) (by decide +kernel) ?_
      refine a_goto X dX5_feels_56 (tgt := 60) (by decide) ?_
      refine a_iret X hA dX5_feels_60 ⟨?_, ?_⟩
      · first | rfl | (show some (Value.int (nI _)) = some (Value.int (nI (if R (2 + 6 * a + 5) < 10 then 2 else 1))); first | rw [if_pos (by omega)] | rw [if_neg (by omega)])
      · rfl
set_option maxRecDepth 100000 in
set_option maxHeartbeats 4000000 in
theorem c_X5_felt {l : Launch} {g : GG} {I : TI} {J : TJ} {F : TI} {w : Int64} {R : Nat → Nat} (hR : I 44 = nr R) (ok : okR R) {a : Nat} (ha : a < R 1) : UR l g mX5_felt [.ref (ga g 43), .int (nI a)] I J F w (.int (wI (felN R (R 1) a))) I J F w := by
  have hn10 := ok.1
  obtain ⟨g0, g1, g2, g3, g4, g5⟩ := ok.2.1 a ha
  refine ct_start (M := mX5_felt) (by decide +kernel) (Nat.le_of_ble_eq_true rfl) ?_
  intro p e s m args below meth c A X hA
  have X : AX p s m args meth c g A cX5_felt 5 RX5 (Cond.code yX5_felt cX5_felt 5 (some .int)) (some .int) := X
  show AW p l e (rmM 2 45) s m args below meth c g A 5 0 0 (MQ below (CQ g (hp g I J F w) s.heap.size (fun vv0 hh0 => vv0 = some (.int (wI (felN R (R 1) a))) ∧ hh0 = hp g I J F w)) args s 0 0 A) 0 [some (.ref (ga g 43)), some (.int (nI a)), none, none, none] [] (hp g I J F w)
  have L8 : ∀ (fu : Nat) (j : Nat) (o : Option Nat), j < fu → (j ≤ 2) → (felJ R (R 1) a j o = felN R (R 1) a) → AW p l e (rmM 2 45) s m args below meth c g A 5 0 0 (MQ below (CQ g (hp g I J F w) s.heap.size (fun vv0 hh0 => vv0 = some (.int (wI (felN R (R 1) a))) ∧ hh0 = hp g I J F w)) args s 0 0 A) 8 [some (.ref (ga g 43)), some (.int (nI a)), some (.int (wI o)), some (.int (nI j)), none] [] (hp g I J F w) := by
    intro fu
    induction fu with
    | zero => intro j o hfu; exact absurd hfu (by omega)
    | succ fu ih =>
      intro j o hfu hj ho
      refine a_iload_n X dX5_felt_8 (i := 3) rfl rfl ?_
      refine a_if_le X dX5_felt_9 (tgt := 44) (by decide) (fun hc9 => ?_) (fun hc9 => ?_)
      · skip
        have hj0 : j = 0 := nI_le0 (by omega) hc9
        subst hj0
        refine a_iload_n X dX5_felt_44 (i := 2) rfl rfl ?_
        refine a_iret X hA dX5_felt_45 ⟨?_, ?_⟩
        · rw [← ho]; rfl
        · rfl
      · skip
        have hj0 := nI_gt0 hc9
        refine a_aload_n X dX5_felt_12 (i := 0) rfl rfl ?_
        refine a_aload_n X dX5_felt_13 (i := 0) rfl rfl ?_
        refine a_iload_n X dX5_felt_14 (i := 1) rfl rfl ?_
        refine a_iconst X dX5_felt_15 (v := nI 1) (by decide +kernel) ?_
        refine s_callV_R X dX5_felt_16 lk_X5_55 ko_43 rfl rfl (c_X5_its hR (by omega)) ⟨Nat.le_of_ble_eq_true rfl, Nat.le_of_ble_eq_true rfl⟩ rfl rfl (Nat.le_of_ble_eq_true rfl) ⟨Nat.le_of_ble_eq_true rfl, Nat.le_of_ble_eq_true rfl⟩ ?_
        refine a_iload_n X dX5_felt_19 (i := 3) rfl rfl ?_
        refine s_iaddN X dX5_felt_20 ?_
        refine s_callV_R X dX5_felt_21 lk_X5_63 ko_43 rfl rfl (c_X5_whoIn hR ok.1 (by omega) (fun m hm => Nat.lt_trans (ok.2.1 m hm).2.1 (by decide))) ⟨Nat.le_of_ble_eq_true rfl, Nat.le_of_ble_eq_true rfl⟩ rfl rfl (Nat.le_of_ble_eq_true rfl) ⟨Nat.le_of_ble_eq_true rfl, Nat.le_of_ble_eq_true rfl⟩ ?_
        refine a_istore X dX5_felt_24 (by decide) rfl ?_
        refine a_iload X dX5_felt_26 rfl ?_
        refine a_if_ge X dX5_felt_28 (tgt := 35) (by decide) (fun hc28 => ?_) (fun hc28 => ?_)
        · skip
          obtain ⟨q, hw⟩ := whoSome hc28
          rw [hw]
          refine a_iload X dX5_felt_35 rfl ?_
          refine a_istore_n X dX5_felt_37 (i := 2) rfl (by decide) rfl ?_
          refine a_iinc X dX5_felt_38 rfl (v := nI (_ - 1)) (iincD (by omega)) (by decide) rfl ?_
          refine a_goto X dX5_felt_41 (tgt := 8) (by decide) ?_
          exact (by have := ih (j - 1) ((who R (R (2 + 6 * a + 1) + j) (R 1)).or o) (by omega) (by omega) ((felJ_step hj0 hj).trans ho); rw [hw] at this; exact s_dropAt 4 (by simpa using this))
        · skip
          have hw := whoNone (who_b hn10) hc28
          rw [hw]
          refine a_iload_n X dX5_felt_31 (i := 2) rfl rfl ?_
          refine a_goto X dX5_felt_32 (tgt := 37) (by decide) ?_
          refine a_istore_n X dX5_felt_37 (i := 2) rfl (by decide) rfl ?_
          refine a_iinc X dX5_felt_38 rfl (v := nI (_ - 1)) (iincD (by omega)) (by decide) rfl ?_
          refine a_goto X dX5_felt_41 (tgt := 8) (by decide) ?_
          exact (by have := ih (j - 1) ((who R (R (2 + 6 * a + 1) + j) (R 1)).or o) (by omega) (by omega) ((felJ_step hj0 hj).trans ho); rw [hw] at this; exact s_dropAt 4 (by simpa using this))
  refine a_iconst X dX5_felt_0 (v := (-1)) (by decide +kernel) ?_
  refine a_istore_n X dX5_felt_1 (i := 2) rfl (by decide) rfl ?_
  refine a_aload_n X dX5_felt_2 (i := 0) rfl rfl ?_
  refine a_iload_n X dX5_felt_3 (i := 1) rfl rfl ?_
  refine s_callV_R X dX5_felt_4 lk_X5_93 ko_43 rfl rfl (c_X5_feels hR ok ha) ⟨Nat.le_of_ble_eq_true rfl, Nat.le_of_ble_eq_true rfl⟩ rfl rfl (Nat.le_of_ble_eq_true rfl) ⟨Nat.le_of_ble_eq_true rfl, Nat.le_of_ble_eq_true rfl⟩ ?_
  refine a_istore_n X dX5_felt_7 (i := 3) rfl (by decide) rfl ?_
  exact L8 3 _ none (by have := fe_2 (R (2 + 6 * a + 0)) (R (2 + 6 * a + 5)); omega) (fe_2 _ _) (felJ_start R (R 1) a)
set_option maxRecDepth 100000 in
set_option maxHeartbeats 4000000 in
theorem c_X5_isReading {l : Launch} {g : GG} {I : TI} {J : TJ} {F : TI} {w : Int64} {R : Nat → Nat} (hR : I 44 = nr R) (ok : okR R) {a : Nat} (ha : a < R 1) (hN : R 0 < 2 ^ 31) : UR l g mX5_isReading [.ref (ga g 43), .int (nI a)] I J F w (.int (bI (redN R (R 1) a))) I J F w := by
  have hn10 := ok.1
  obtain ⟨g0, g1, g2, g3, g4, g5⟩ := ok.2.1 a ha
  refine ct_start (M := mX5_isReading) (by decide +kernel) (Nat.le_of_ble_eq_true rfl) ?_
  intro p e s m args below meth c A X hA
  have X : AX p s m args meth c g A cX5_isReading 5 RX5 (Cond.code yX5_isReading cX5_isReading 5 (some .boolean)) (some .boolean) := X
  show AW p l e (rmM 3 69) s m args below meth c g A 5 0 0 (MQ below (CQ g (hp g I J F w) s.heap.size (fun vv0 hh0 => vv0 = some (.int (bI (redN R (R 1) a))) ∧ hh0 = hp g I J F w)) args s 0 0 A) 0 [some (.ref (ga g 43)), some (.int (nI a)), none, none, none] [] (hp g I J F w)
  refine a_aload_n X dX5_isReading_0 (i := 0) rfl rfl ?_
  refine a_iload_n X dX5_isReading_1 (i := 1) rfl rfl ?_
  refine s_callV_R X dX5_isReading_2 lk_X5_96 ko_43 rfl rfl (c_X5_felt hR ok ha) ⟨Nat.le_of_ble_eq_true rfl, Nat.le_of_ble_eq_true rfl⟩ rfl rfl (Nat.le_of_ble_eq_true rfl) ⟨Nat.le_of_ble_eq_true rfl, Nat.le_of_ble_eq_true rfl⟩ ?_
  refine a_istore_n X dX5_isReading_5 (i := 2) rfl (by decide) rfl ?_
  refine a_iload_n X dX5_isReading_6 (i := 2) rfl rfl ?_
  refine a_if_lt X dX5_isReading_7 (tgt := 21) (by decide) (fun hc7 => ?_) (fun hc7 => ?_)
  · skip
    have hw := whoNone' (fel_b hn10) hc7
    rw [red_none hw]
    refine a_iconst X dX5_isReading_21 (v := nI 0) (by decide +kernel) ?_
    refine a_zret X hA dX5_isReading_22 (by first | exact nar_bI _ | decide +kernel) ⟨?_, ?_⟩
    · first | rfl | (rw [if_pos (by omega)]; rfl)
    · rfl
  · skip
    obtain ⟨q, hw⟩ := whoSome' hc7
    have hq := felN_lt hw
    obtain ⟨f0, f1, f2, f3, f4, f5⟩ := ok.2.1 q hq
    rw [hw, wI_s, red_eq hw]
    refine a_aload_n X dX5_isReading_10 (i := 0) rfl rfl ?_
    refine a_iload_n X dX5_isReading_11 (i := 1) rfl rfl ?_
    refine a_iconst X dX5_isReading_12 (v := nI 5) (by decide +kernel) ?_
    refine s_callV_R X dX5_isReading_13 lk_X5_55 ko_43 rfl rfl (c_X5_its hR (by omega)) ⟨Nat.le_of_ble_eq_true rfl, Nat.le_of_ble_eq_true rfl⟩ rfl rfl (Nat.le_of_ble_eq_true rfl) ⟨Nat.le_of_ble_eq_true rfl, Nat.le_of_ble_eq_true rfl⟩ ?_
    refine a_bipush X dX5_isReading_16 (v := nI 60) (by decide +kernel) ?_
    refine s_icmp_ltN X dX5_isReading_18 (tgt := 23) (by decide) (by omega) (by omega) (fun hc18 => ?_) (fun hc18 => ?_)
    · skip
      refine a_aload_n X dX5_isReading_23 (i := 0) rfl rfl ?_
      refine a_iload_n X dX5_isReading_24 (i := 2) rfl rfl ?_
      refine a_iconst X dX5_isReading_25 (v := nI 3) (by decide +kernel) ?_
      refine s_callV_R X dX5_isReading_26 lk_X5_55 ko_43 rfl rfl (c_X5_its hR (by omega)) ⟨Nat.le_of_ble_eq_true rfl, Nat.le_of_ble_eq_true rfl⟩ rfl rfl (Nat.le_of_ble_eq_true rfl) ⟨Nat.le_of_ble_eq_true rfl, Nat.le_of_ble_eq_true rfl⟩ ?_
      refine a_istore_n X dX5_isReading_29 (i := 3) rfl (by decide) rfl ?_
      refine a_iload_n X dX5_isReading_30 (i := 3) rfl rfl ?_
      refine a_aload_n X dX5_isReading_31 (i := 0) rfl rfl ?_
      refine s_getr X dX5_isReading_32 fl_X5_7 ko_43 rfl ?_
      refine a_iconst X dX5_isReading_35 (v := nI 0) (by decide +kernel) ?_
      refine s_ild X dX5_isReading_36 ki_44 (by omega) (by decide) ?_
      rw [show I 44 0 = nI (R 0) from by rw [hR]; rfl]
      refine a_iconst X dX5_isReading_37 (v := nI 4) (by decide +kernel) ?_
      refine a_irem X dX5_isReading_38 (by decide +kernel) ?_
      rw [pk_rem hN (by decide) (by decide)]
      refine s_iaddN X dX5_isReading_39 ?_
      refine a_bipush X dX5_isReading_40 (v := nI 7) (by decide +kernel) ?_
      refine s_icmp_ltN X dX5_isReading_42 (tgt := 49) (by decide) (by omega) (by omega) (fun hc42 => ?_) (fun hc42 => ?_)
      · skip
        refine a_iconst X dX5_isReading_49 (v := nI 0) (by decide +kernel) ?_
        refine a_istore X dX5_isReading_50 (by decide) rfl ?_
        refine a_aload_n X dX5_isReading_52 (i := 0) rfl rfl ?_
        refine a_iload_n X dX5_isReading_53 (i := 1) rfl rfl ?_
        refine a_iconst X dX5_isReading_54 (v := nI 0) (by decide +kernel) ?_
        refine s_callV_R X dX5_isReading_55 lk_X5_55 ko_43 rfl rfl (c_X5_its hR (by omega)) ⟨Nat.le_of_ble_eq_true rfl, Nat.le_of_ble_eq_true rfl⟩ rfl rfl (Nat.le_of_ble_eq_true rfl) ⟨Nat.le_of_ble_eq_true rfl, Nat.le_of_ble_eq_true rfl⟩ ?_
        rcases lt6 g0 with hsw | hsw | hsw | hsw | hsw | hsw
        · rw [hsw]
          refine a_tsOut X dX5_isReading_58 (by decide +kernel) (tgt := 123) (by decide) ?_
          refine a_iload_n X dX5_isReading_123 (i := 3) rfl rfl ?_
          refine a_iconst X dX5_isReading_124 (v := nI 5) (by decide +kernel) ?_
          refine s_icmp_ltN X dX5_isReading_125 (tgt := 132) (by decide) (by omega) (by omega) (fun hc125 => ?_) (fun hc125 => ?_)
          · skip
            refine a_iconst X dX5_isReading_132 (v := nI 0) (by decide +kernel) ?_
            refine a_zret X hA dX5_isReading_133 (by first | exact nar_bI _ | decide +kernel) ⟨?_, ?_⟩
            · rw [if_neg (by omega)]; congr 2; first | exact absurd hc108 (by decide +kernel) | exact b1 (by omega) | exact b0 (by omega) | (refine bt1 ?_; simp only [rdK, boyB]; simp; omega) | (refine bf0 ?_; simp only [rdK, boyB]; simp; omega)
            · rfl
          · skip
            refine a_iconst X dX5_isReading_128 (v := nI 1) (by decide +kernel) ?_
            refine a_goto X dX5_isReading_129 (tgt := 133) (by decide) ?_
            refine a_zret X hA dX5_isReading_133 (by first | exact nar_bI _ | decide +kernel) ⟨?_, ?_⟩
            · rw [if_neg (by omega)]; congr 2; first | exact absurd hc108 (by decide +kernel) | exact b1 (by omega) | exact b0 (by omega) | (refine bt1 ?_; simp only [rdK, boyB]; simp; omega) | (refine bf0 ?_; simp only [rdK, boyB]; simp; omega)
            · rfl
        · rw [hsw]
          refine a_tsIn X dX5_isReading_58 (by decide +kernel) (by decide +kernel) (off := 34) (by decide +kernel) (tgt := 92) (by decide) ?_
          refine a_iload_n X dX5_isReading_92 (i := 3) rfl rfl ?_
          refine a_iconst X dX5_isReading_93 (v := nI 3) (by decide +kernel) ?_
          refine s_icmp_ltN X dX5_isReading_94 (tgt := 101) (by decide) (by omega) (by omega) (fun hc94 => ?_) (fun hc94 => ?_)
          · skip
            refine a_iconst X dX5_isReading_101 (v := nI 0) (by decide +kernel) ?_
            refine a_zret X hA dX5_isReading_102 (by first | exact nar_bI _ | decide +kernel) ⟨?_, ?_⟩
            · rw [if_neg (by omega)]; congr 2; first | exact absurd hc108 (by decide +kernel) | exact b1 (by omega) | exact b0 (by omega) | (refine bt1 ?_; simp only [rdK, boyB]; simp; omega) | (refine bf0 ?_; simp only [rdK, boyB]; simp; omega)
            · rfl
          · skip
            refine a_iconst X dX5_isReading_97 (v := nI 1) (by decide +kernel) ?_
            refine a_goto X dX5_isReading_98 (tgt := 102) (by decide) ?_
            refine a_zret X hA dX5_isReading_102 (by first | exact nar_bI _ | decide +kernel) ⟨?_, ?_⟩
            · rw [if_neg (by omega)]; congr 2; first | exact absurd hc108 (by decide +kernel) | exact b1 (by omega) | exact b0 (by omega) | (refine bt1 ?_; simp only [rdK, boyB]; simp; omega) | (refine bf0 ?_; simp only [rdK, boyB]; simp; omega)
            · rfl
        · rw [hsw]
          refine a_tsIn X dX5_isReading_58 (by decide +kernel) (by decide +kernel) (off := 45) (by decide +kernel) (tgt := 103) (by decide) ?_
          refine a_iload X dX5_isReading_103 rfl ?_
          refine a_zret X hA dX5_isReading_105 (by first | exact nar_bI _ | decide +kernel) ⟨?_, ?_⟩
          · rw [if_neg (by omega)]; congr 2; first | exact absurd hc108 (by decide +kernel) | exact b1 (by omega) | exact b0 (by omega) | (refine bt1 ?_; simp only [rdK, boyB]; simp; omega) | (refine bf0 ?_; simp only [rdK, boyB]; simp; omega)
          · rfl
        · rw [hsw]
          refine a_tsIn X dX5_isReading_58 (by decide +kernel) (by decide +kernel) (off := 65) (by decide +kernel) (tgt := 123) (by decide) ?_
          refine a_iload_n X dX5_isReading_123 (i := 3) rfl rfl ?_
          refine a_iconst X dX5_isReading_124 (v := nI 5) (by decide +kernel) ?_
          refine s_icmp_ltN X dX5_isReading_125 (tgt := 132) (by decide) (by omega) (by omega) (fun hc125 => ?_) (fun hc125 => ?_)
          · skip
            refine a_iconst X dX5_isReading_132 (v := nI 0) (by decide +kernel) ?_
            refine a_zret X hA dX5_isReading_133 (by first | exact nar_bI _ | decide +kernel) ⟨?_, ?_⟩
            · rw [if_neg (by omega)]; congr 2; first | exact absurd hc108 (by decide +kernel) | exact b1 (by omega) | exact b0 (by omega) | (refine bt1 ?_; simp only [rdK, boyB]; simp; omega) | (refine bf0 ?_; simp only [rdK, boyB]; simp; omega)
            · rfl
          · skip
            refine a_iconst X dX5_isReading_128 (v := nI 1) (by decide +kernel) ?_
            refine a_goto X dX5_isReading_129 (tgt := 133) (by decide) ?_
            refine a_zret X hA dX5_isReading_133 (by first | exact nar_bI _ | decide +kernel) ⟨?_, ?_⟩
            · rw [if_neg (by omega)]; congr 2; first | exact absurd hc108 (by decide +kernel) | exact b1 (by omega) | exact b0 (by omega) | (refine bt1 ?_; simp only [rdK, boyB]; simp; omega) | (refine bf0 ?_; simp only [rdK, boyB]; simp; omega)
            · rfl
        · rw [hsw]
          refine a_tsIn X dX5_isReading_58 (by decide +kernel) (by decide +kernel) (off := 34) (by decide +kernel) (tgt := 92) (by decide) ?_
          refine a_iload_n X dX5_isReading_92 (i := 3) rfl rfl ?_
          refine a_iconst X dX5_isReading_93 (v := nI 3) (by decide +kernel) ?_
          refine s_icmp_ltN X dX5_isReading_94 (tgt := 101) (by decide) (by omega) (by omega) (fun hc94 => ?_) (fun hc94 => ?_)
          · skip
            refine a_iconst X dX5_isReading_101 (v := nI 0) (by decide +kernel) ?_
            refine a_zret X hA dX5_isReading_102 (by first | exact nar_bI _ | decide +kernel) ⟨?_, ?_⟩
            · rw [if_neg (by omega)]; congr 2; first | exact absurd hc108 (by decide +kernel) | exact b1 (by omega) | exact b0 (by omega) | (refine bt1 ?_; simp only [rdK, boyB]; simp; omega) | (refine bf0 ?_; simp only [rdK, boyB]; simp; omega)
            · rfl
          · skip
            refine a_iconst X dX5_isReading_97 (v := nI 1) (by decide +kernel) ?_
            refine a_goto X dX5_isReading_98 (tgt := 102) (by decide) ?_
            refine a_zret X hA dX5_isReading_102 (by first | exact nar_bI _ | decide +kernel) ⟨?_, ?_⟩
            · rw [if_neg (by omega)]; congr 2; first | exact absurd hc108 (by decide +kernel) | exact b1 (by omega) | exact b0 (by omega) | (refine bt1 ?_; simp only [rdK, boyB]; simp; omega) | (refine bf0 ?_; simp only [rdK, boyB]; simp; omega)
            · rfl
        · rw [hsw]
          refine a_tsIn X dX5_isReading_58 (by decide +kernel) (by decide +kernel) (off := 48) (by decide +kernel) (tgt := 106) (by decide) ?_
          refine a_iload X dX5_isReading_106 rfl ?_
          refine a_if_ne X dX5_isReading_108 (tgt := 117) (by decide) (fun hc108 => ?_) (fun hc108 => ?_)
          · skip
            refine a_iconst X dX5_isReading_117 (v := nI 1) (by decide +kernel) ?_
            refine a_goto X dX5_isReading_118 (tgt := 122) (by decide) ?_
            refine a_zret X hA dX5_isReading_122 (by first | exact nar_bI _ | decide +kernel) ⟨?_, ?_⟩
            · rw [if_neg (by omega)]; congr 2; first | exact absurd hc108 (by decide +kernel) | exact b1 (by omega) | exact b0 (by omega) | (refine bt1 ?_; simp only [rdK, boyB]; simp; omega) | (refine bf0 ?_; simp only [rdK, boyB]; simp; omega)
            · rfl
          · skip
            refine a_iload_n X dX5_isReading_111 (i := 3) rfl rfl ?_
            refine a_bipush X dX5_isReading_112 (v := nI 9) (by decide +kernel) ?_
            refine s_icmp_neN X dX5_isReading_114 (tgt := 121) (by decide) (by omega) (by omega) (fun hc114 => ?_) (fun hc114 => ?_)
            · skip
              refine a_iconst X dX5_isReading_121 (v := nI 0) (by decide +kernel) ?_
              refine a_zret X hA dX5_isReading_122 (by first | exact nar_bI _ | decide +kernel) ⟨?_, ?_⟩
              · rw [if_neg (by omega)]; congr 2; first | exact absurd hc108 (by decide +kernel) | exact b1 (by omega) | exact b0 (by omega) | (refine bt1 ?_; simp only [rdK, boyB]; simp; omega) | (refine bf0 ?_; simp only [rdK, boyB]; simp; omega)
              · rfl
            · skip
              refine a_iconst X dX5_isReading_117 (v := nI 1) (by decide +kernel) ?_
              refine a_goto X dX5_isReading_118 (tgt := 122) (by decide) ?_
              refine a_zret X hA dX5_isReading_122 (by first | exact nar_bI _ | decide +kernel) ⟨?_, ?_⟩
              · rw [if_neg (by omega)]; congr 2; first | exact absurd hc108 (by decide +kernel) | exact b1 (by omega) | exact b0 (by omega) | (refine bt1 ?_; simp only [rdK, boyB]; simp; omega) | (refine bf0 ?_; simp only [rdK, boyB]; simp; omega)
              · rfl
      · skip
        refine a_iconst X dX5_isReading_45 (v := nI 1) (by decide +kernel) ?_
        refine a_goto X dX5_isReading_46 (tgt := 50) (by decide) ?_
        refine a_istore X dX5_isReading_50 (by decide) rfl ?_
        refine a_aload_n X dX5_isReading_52 (i := 0) rfl rfl ?_
        refine a_iload_n X dX5_isReading_53 (i := 1) rfl rfl ?_
        refine a_iconst X dX5_isReading_54 (v := nI 0) (by decide +kernel) ?_
        refine s_callV_R X dX5_isReading_55 lk_X5_55 ko_43 rfl rfl (c_X5_its hR (by omega)) ⟨Nat.le_of_ble_eq_true rfl, Nat.le_of_ble_eq_true rfl⟩ rfl rfl (Nat.le_of_ble_eq_true rfl) ⟨Nat.le_of_ble_eq_true rfl, Nat.le_of_ble_eq_true rfl⟩ ?_
        rcases lt6 g0 with hsw | hsw | hsw | hsw | hsw | hsw
        · rw [hsw]
          refine a_tsOut X dX5_isReading_58 (by decide +kernel) (tgt := 123) (by decide) ?_
          refine a_iload_n X dX5_isReading_123 (i := 3) rfl rfl ?_
          refine a_iconst X dX5_isReading_124 (v := nI 5) (by decide +kernel) ?_
          refine s_icmp_ltN X dX5_isReading_125 (tgt := 132) (by decide) (by omega) (by omega) (fun hc125 => ?_) (fun hc125 => ?_)
          · skip
            refine a_iconst X dX5_isReading_132 (v := nI 0) (by decide +kernel) ?_
            refine a_zret X hA dX5_isReading_133 (by first | exact nar_bI _ | decide +kernel) ⟨?_, ?_⟩
            · rw [if_neg (by omega)]; congr 2; first | exact absurd hc108 (by decide +kernel) | exact b1 (by omega) | exact b0 (by omega) | (refine bt1 ?_; simp only [rdK, boyB]; simp; omega) | (refine bf0 ?_; simp only [rdK, boyB]; simp; omega)
            · rfl
          · skip
            refine a_iconst X dX5_isReading_128 (v := nI 1) (by decide +kernel) ?_
            refine a_goto X dX5_isReading_129 (tgt := 133) (by decide) ?_
            refine a_zret X hA dX5_isReading_133 (by first | exact nar_bI _ | decide +kernel) ⟨?_, ?_⟩
            · rw [if_neg (by omega)]; congr 2; first | exact absurd hc108 (by decide +kernel) | exact b1 (by omega) | exact b0 (by omega) | (refine bt1 ?_; simp only [rdK, boyB]; simp; omega) | (refine bf0 ?_; simp only [rdK, boyB]; simp; omega)
            · rfl
        · rw [hsw]
          refine a_tsIn X dX5_isReading_58 (by decide +kernel) (by decide +kernel) (off := 34) (by decide +kernel) (tgt := 92) (by decide) ?_
          refine a_iload_n X dX5_isReading_92 (i := 3) rfl rfl ?_
          refine a_iconst X dX5_isReading_93 (v := nI 3) (by decide +kernel) ?_
          refine s_icmp_ltN X dX5_isReading_94 (tgt := 101) (by decide) (by omega) (by omega) (fun hc94 => ?_) (fun hc94 => ?_)
          · skip
            refine a_iconst X dX5_isReading_101 (v := nI 0) (by decide +kernel) ?_
            refine a_zret X hA dX5_isReading_102 (by first | exact nar_bI _ | decide +kernel) ⟨?_, ?_⟩
            · rw [if_neg (by omega)]; congr 2; first | exact absurd hc108 (by decide +kernel) | exact b1 (by omega) | exact b0 (by omega) | (refine bt1 ?_; simp only [rdK, boyB]; simp; omega) | (refine bf0 ?_; simp only [rdK, boyB]; simp; omega)
            · rfl
          · skip
            refine a_iconst X dX5_isReading_97 (v := nI 1) (by decide +kernel) ?_
            refine a_goto X dX5_isReading_98 (tgt := 102) (by decide) ?_
            refine a_zret X hA dX5_isReading_102 (by first | exact nar_bI _ | decide +kernel) ⟨?_, ?_⟩
            · rw [if_neg (by omega)]; congr 2; first | exact absurd hc108 (by decide +kernel) | exact b1 (by omega) | exact b0 (by omega) | (refine bt1 ?_; simp only [rdK, boyB]; simp; omega) | (refine bf0 ?_; simp only [rdK, boyB]; simp; omega)
            · rfl
        · rw [hsw]
          refine a_tsIn X dX5_isReading_58 (by decide +kernel) (by decide +kernel) (off := 45) (by decide +kernel) (tgt := 103) (by decide) ?_
          refine a_iload X dX5_isReading_103 rfl ?_
          refine a_zret X hA dX5_isReading_105 (by first | exact nar_bI _ | decide +kernel) ⟨?_, ?_⟩
          · rw [if_neg (by omega)]; congr 2; first | exact absurd hc108 (by decide +kernel) | exact b1 (by omega) | exact b0 (by omega) | (refine bt1 ?_; simp only [rdK, boyB]; simp; omega) | (refine bf0 ?_; simp only [rdK, boyB]; simp; omega)
          · rfl
        · rw [hsw]
          refine a_tsIn X dX5_isReading_58 (by decide +kernel) (by decide +kernel) (off := 65) (by decide +kernel) (tgt := 123) (by decide) ?_
          refine a_iload_n X dX5_isReading_123 (i := 3) rfl rfl ?_
          refine a_iconst X dX5_isReading_124 (v := nI 5) (by decide +kernel) ?_
          refine s_icmp_ltN X dX5_isReading_125 (tgt := 132) (by decide) (by omega) (by omega) (fun hc125 => ?_) (fun hc125 => ?_)
          · skip
            refine a_iconst X dX5_isReading_132 (v := nI 0) (by decide +kernel) ?_
            refine a_zret X hA dX5_isReading_133 (by first | exact nar_bI _ | decide +kernel) ⟨?_, ?_⟩
            · rw [if_neg (by omega)]; congr 2; first | exact absurd hc108 (by decide +kernel) | exact b1 (by omega) | exact b0 (by omega) | (refine bt1 ?_; simp only [rdK, boyB]; simp; omega) | (refine bf0 ?_; simp only [rdK, boyB]; simp; omega)
            · rfl
          · skip
            refine a_iconst X dX5_isReading_128 (v := nI 1) (by decide +kernel) ?_
            refine a_goto X dX5_isReading_129 (tgt := 133) (by decide) ?_
            refine a_zret X hA dX5_isReading_133 (by first | exact nar_bI _ | decide +kernel) ⟨?_, ?_⟩
            · rw [if_neg (by omega)]; congr 2; first | exact absurd hc108 (by decide +kernel) | exact b1 (by omega) | exact b0 (by omega) | (refine bt1 ?_; simp only [rdK, boyB]; simp; omega) | (refine bf0 ?_; simp only [rdK, boyB]; simp; omega)
            · rfl
        · rw [hsw]
          refine a_tsIn X dX5_isReading_58 (by decide +kernel) (by decide +kernel) (off := 34) (by decide +kernel) (tgt := 92) (by decide) ?_
          refine a_iload_n X dX5_isReading_92 (i := 3) rfl rfl ?_
          refine a_iconst X dX5_isReading_93 (v := nI 3) (by decide +kernel) ?_
          refine s_icmp_ltN X dX5_isReading_94 (tgt := 101) (by decide) (by omega) (by omega) (fun hc94 => ?_) (fun hc94 => ?_)
          · skip
            refine a_iconst X dX5_isReading_101 (v := nI 0) (by decide +kernel) ?_
            refine a_zret X hA dX5_isReading_102 (by first | exact nar_bI _ | decide +kernel) ⟨?_, ?_⟩
            · rw [if_neg (by omega)]; congr 2; first | exact absurd hc108 (by decide +kernel) | exact b1 (by omega) | exact b0 (by omega) | (refine bt1 ?_; simp only [rdK, boyB]; simp; omega) | (refine bf0 ?_; simp only [rdK, boyB]; simp; omega)
            · rfl
          · skip
            refine a_iconst X dX5_isReading_97 (v := nI 1) (by decide +kernel) ?_
            refine a_goto X dX5_isReading_98 (tgt := 102) (by decide) ?_
            refine a_zret X hA dX5_isReading_102 (by first | exact nar_bI _ | decide +kernel) ⟨?_, ?_⟩
            · rw [if_neg (by omega)]; congr 2; first | exact absurd hc108 (by decide +kernel) | exact b1 (by omega) | exact b0 (by omega) | (refine bt1 ?_; simp only [rdK, boyB]; simp; omega) | (refine bf0 ?_; simp only [rdK, boyB]; simp; omega)
            · rfl
        · rw [hsw]
          refine a_tsIn X dX5_isReading_58 (by decide +kernel) (by decide +kernel) (off := 48) (by decide +kernel) (tgt := 106) (by decide) ?_
          refine a_iload X dX5_isReading_106 rfl ?_
          refine a_if_ne X dX5_isReading_108 (tgt := 117) (by decide) (fun hc108 => ?_) (fun hc108 => ?_)
          · skip
            refine a_iconst X dX5_isReading_117 (v := nI 1) (by decide +kernel) ?_
            refine a_goto X dX5_isReading_118 (tgt := 122) (by decide) ?_
            refine a_zret X hA dX5_isReading_122 (by first | exact nar_bI _ | decide +kernel) ⟨?_, ?_⟩
            · rw [if_neg (by omega)]; congr 2; first | exact absurd hc108 (by decide +kernel) | exact b1 (by omega) | exact b0 (by omega) | (refine bt1 ?_; simp only [rdK, boyB]; simp; omega) | (refine bf0 ?_; simp only [rdK, boyB]; simp; omega)
            · rfl
          · skip
            refine a_iload_n X dX5_isReading_111 (i := 3) rfl rfl ?_
            refine a_bipush X dX5_isReading_112 (v := nI 9) (by decide +kernel) ?_
            refine s_icmp_neN X dX5_isReading_114 (tgt := 121) (by decide) (by omega) (by omega) (fun hc114 => ?_) (fun hc114 => ?_)
            · skip
              refine a_iconst X dX5_isReading_121 (v := nI 0) (by decide +kernel) ?_
              refine a_zret X hA dX5_isReading_122 (by first | exact nar_bI _ | decide +kernel) ⟨?_, ?_⟩
              · rw [if_neg (by omega)]; congr 2; first | exact absurd hc108 (by decide +kernel) | exact b1 (by omega) | exact b0 (by omega) | (refine bt1 ?_; simp only [rdK, boyB]; simp; omega) | (refine bf0 ?_; simp only [rdK, boyB]; simp; omega)
              · rfl
            · skip
              refine a_iconst X dX5_isReading_117 (v := nI 1) (by decide +kernel) ?_
              refine a_goto X dX5_isReading_118 (tgt := 122) (by decide) ?_
              refine a_zret X hA dX5_isReading_122 (by first | exact nar_bI _ | decide +kernel) ⟨?_, ?_⟩
              · rw [if_neg (by omega)]; congr 2; first | exact absurd hc108 (by decide +kernel) | exact b1 (by omega) | exact b0 (by omega) | (refine bt1 ?_; simp only [rdK, boyB]; simp; omega) | (refine bf0 ?_; simp only [rdK, boyB]; simp; omega)
              · rfl
    · skip
      refine a_iconst X dX5_isReading_21 (v := nI 0) (by decide +kernel) ?_
      refine a_zret X hA dX5_isReading_22 (by first | exact nar_bI _ | decide +kernel) ⟨?_, ?_⟩
      · first | rfl | (rw [if_pos (by omega)]; rfl)
      · rfl
set_option maxRecDepth 100000 in
set_option maxHeartbeats 4000000 in
theorem c_X5_tells {l : Launch} {g : GG} {I : TI} {J : TJ} {F : TI} {w : Int64} {R : Nat → Nat} (hR : I 44 = nr R) (ok : okR R) {a : Nat} (ha : a < R 1) : UR l g mX5_tells [.ref (ga g 43), .int (nI a)] I J F w (.int (nI (tel (R (2 + 6 * a + 0)) (R (2 + 6 * a + 4))))) I J F w := by
  have hn10 := ok.1
  obtain ⟨g0, g1, g2, g3, g4, g5⟩ := ok.2.1 a ha
  have hpc := pcn_le (R (2 + 6 * a + 4))
  refine ct_start (M := mX5_tells) (by decide +kernel) (Nat.le_of_ble_eq_true rfl) ?_
  intro p e s m args below meth c A X hA
  have X : AX p s m args meth c g A cX5_tells 3 RX5 (Cond.code yX5_tells cX5_tells 3 (some .int)) (some .int) := X
  show AW p l e (rmM 1 22) s m args below meth c g A 3 0 0 (MQ below (CQ g (hp g I J F w) s.heap.size (fun vv0 hh0 => vv0 = some (.int (nI (tel (R (2 + 6 * a + 0)) (R (2 + 6 * a + 4))))) ∧ hh0 = hp g I J F w)) args s 0 0 A) 0 [some (.ref (ga g 43)), some (.int (nI a)), none] [] (hp g I J F w)
  refine a_aload_n X dX5_tells_0 (i := 0) rfl rfl ?_
  refine a_iload_n X dX5_tells_1 (i := 1) rfl rfl ?_
  refine a_iconst X dX5_tells_2 (v := nI 4) (by decide +kernel) ?_
  refine s_callV_R X dX5_tells_3 lk_X5_55 ko_43 rfl rfl (c_X5_its hR (by omega)) ⟨Nat.le_of_ble_eq_true rfl, Nat.le_of_ble_eq_true rfl⟩ rfl rfl (Nat.le_of_ble_eq_true rfl) ⟨Nat.le_of_ble_eq_true rfl, Nat.le_of_ble_eq_true rfl⟩ ?_
  refine a_istore_n X dX5_tells_6 (i := 2) rfl (by decide) rfl ?_
  refine a_aload_n X dX5_tells_7 (i := 0) rfl rfl ?_
  refine a_iload_n X dX5_tells_8 (i := 1) rfl rfl ?_
  refine a_iconst X dX5_tells_9 (v := nI 0) (by decide +kernel) ?_
  refine s_callV_R X dX5_tells_10 lk_X5_55 ko_43 rfl rfl (c_X5_its hR (by omega)) ⟨Nat.le_of_ble_eq_true rfl, Nat.le_of_ble_eq_true rfl⟩ rfl rfl (Nat.le_of_ble_eq_true rfl) ⟨Nat.le_of_ble_eq_true rfl, Nat.le_of_ble_eq_true rfl⟩ ?_
  rcases lt6 g0 with hsw | hsw | hsw | hsw | hsw | hsw
  · rw [hsw]
    refine a_tsOut X dX5_tells_13 (by decide +kernel) (tgt := 84) (by decide) ?_
    refine a_iconst X dX5_tells_84 (v := nI 0) (by decide +kernel) ?_
    refine a_iret X hA dX5_tells_85 ⟨?_, ?_⟩
    · first | rfl | (show some (Value.int (nI _)) = some (Value.int (nI (if 4 ≤ pcn (R (2 + 6 * a + 4)) then grn (R (2 + 6 * a + 4)) else lsn (R (2 + 6 * a + 4))))); first | rw [if_pos (by omega)] | rw [if_neg (by omega)])
    · rfl
  · rw [hsw]
    refine a_tsIn X dX5_tells_13 (by decide +kernel) (by decide +kernel) (off := 35) (by decide +kernel) (tgt := 48) (by decide) ?_
    refine a_iload_n X dX5_tells_48 (i := 2) rfl rfl ?_
    refine s_callS_R X dX5_tells_49 lk_X5_99 (c_X5_leastOf g4) ⟨Nat.le_of_ble_eq_true rfl, Nat.le_of_ble_eq_true rfl⟩ rfl rfl (Nat.le_of_ble_eq_true rfl) ⟨Nat.le_of_ble_eq_true rfl, Nat.le_of_ble_eq_true rfl⟩ ?_
    refine a_iret X hA dX5_tells_52 ⟨?_, ?_⟩
    · first | rfl | (show some (Value.int (nI _)) = some (Value.int (nI (if 4 ≤ pcn (R (2 + 6 * a + 4)) then grn (R (2 + 6 * a + 4)) else lsn (R (2 + 6 * a + 4))))); first | rw [if_pos (by omega)] | rw [if_neg (by omega)])
    · rfl
  · rw [hsw]
    refine a_tsIn X dX5_tells_13 (by decide +kernel) (by decide +kernel) (off := 60) (by decide +kernel) (tgt := 73) (by decide) ?_
    refine a_iload_n X dX5_tells_73 (i := 2) rfl rfl ?_
    refine a_iload_n X dX5_tells_74 (i := 2) rfl rfl ?_
    refine s_callS_R X dX5_tells_75 lk_X5_102 (c_X5_greatestOf g4) ⟨Nat.le_of_ble_eq_true rfl, Nat.le_of_ble_eq_true rfl⟩ rfl rfl (Nat.le_of_ble_eq_true rfl) ⟨Nat.le_of_ble_eq_true rfl, Nat.le_of_ble_eq_true rfl⟩ ?_
    refine a_iconst X dX5_tells_78 (v := (-1)) (by decide +kernel) ?_
    refine a_ixor X dX5_tells_79 ?_
    refine a_iand X dX5_tells_80 ?_
    refine a_iret X hA dX5_tells_81 ⟨?_, ?_⟩
    · rw [(set_gr _ g4).1]; rfl
    · rfl
  · rw [hsw]
    refine a_tsIn X dX5_tells_13 (by decide +kernel) (by decide +kernel) (off := 69) (by decide +kernel) (tgt := 82) (by decide) ?_
    refine a_iload_n X dX5_tells_82 (i := 2) rfl rfl ?_
    refine a_iret X hA dX5_tells_83 ⟨?_, ?_⟩
    · first | rfl | (show some (Value.int (nI _)) = some (Value.int (nI (if 4 ≤ pcn (R (2 + 6 * a + 4)) then grn (R (2 + 6 * a + 4)) else lsn (R (2 + 6 * a + 4))))); first | rw [if_pos (by omega)] | rw [if_neg (by omega)])
    · rfl
  · rw [hsw]
    refine a_tsIn X dX5_tells_13 (by decide +kernel) (by decide +kernel) (off := 40) (by decide +kernel) (tgt := 53) (by decide) ?_
    refine a_iload_n X dX5_tells_53 (i := 2) rfl rfl ?_
    refine s_callS_R X dX5_tells_54 lk_X5_74 (c_X5_bits g4) ⟨Nat.le_of_ble_eq_true rfl, Nat.le_of_ble_eq_true rfl⟩ rfl rfl (Nat.le_of_ble_eq_true rfl) ⟨Nat.le_of_ble_eq_true rfl, Nat.le_of_ble_eq_true rfl⟩ ?_
    refine a_iconst X dX5_tells_57 (v := nI 4) (by decide +kernel) ?_
    refine s_icmp_ltN X dX5_tells_58 (tgt := 68) (by decide) (by omega) (by omega) (fun hc58 => ?_) (fun hc58 => ?_)
    · skip
      refine a_iload_n X dX5_tells_68 (i := 2) rfl rfl ?_
      refine s_callS_R X dX5_tells_69 lk_X5_99 (c_X5_leastOf g4) ⟨Nat.le_of_ble_eq_true rfl, Nat.le_of_ble_eq_true rfl⟩ rfl rfl (Nat.le_of_ble_eq_true rfl) ⟨Nat.le_of_ble_eq_true rfl, Nat.le_of_ble_eq_true rfl⟩ ?_
      refine a_iret X hA dX5_tells_72 ⟨?_, ?_⟩
      · first | rfl | (show some (Value.int (nI _)) = some (Value.int (nI (if 4 ≤ pcn (R (2 + 6 * a + 4)) then grn (R (2 + 6 * a + 4)) else lsn (R (2 + 6 * a + 4))))); first | rw [if_pos (by omega)] | rw [if_neg (by omega)])
      · rfl
    · skip
      refine a_iload_n X dX5_tells_61 (i := 2) rfl rfl ?_
      refine s_callS_R X dX5_tells_62 lk_X5_102 (c_X5_greatestOf g4) ⟨Nat.le_of_ble_eq_true rfl, Nat.le_of_ble_eq_true rfl⟩ rfl rfl (Nat.le_of_ble_eq_true rfl) ⟨Nat.le_of_ble_eq_true rfl, Nat.le_of_ble_eq_true rfl⟩ ?_
      refine a_goto X dX5_tells_65 (tgt := 72) (by decide) ?_
      refine a_iret X hA dX5_tells_72 ⟨?_, ?_⟩
      · first | rfl | (show some (Value.int (nI _)) = some (Value.int (nI (if 4 ≤ pcn (R (2 + 6 * a + 4)) then grn (R (2 + 6 * a + 4)) else lsn (R (2 + 6 * a + 4))))); first | rw [if_pos (by omega)] | rw [if_neg (by omega)])
      · rfl
  · rw [hsw]
    refine a_tsIn X dX5_tells_13 (by decide +kernel) (by decide +kernel) (off := 60) (by decide +kernel) (tgt := 73) (by decide) ?_
    refine a_iload_n X dX5_tells_73 (i := 2) rfl rfl ?_
    refine a_iload_n X dX5_tells_74 (i := 2) rfl rfl ?_
    refine s_callS_R X dX5_tells_75 lk_X5_102 (c_X5_greatestOf g4) ⟨Nat.le_of_ble_eq_true rfl, Nat.le_of_ble_eq_true rfl⟩ rfl rfl (Nat.le_of_ble_eq_true rfl) ⟨Nat.le_of_ble_eq_true rfl, Nat.le_of_ble_eq_true rfl⟩ ?_
    refine a_iconst X dX5_tells_78 (v := (-1)) (by decide +kernel) ?_
    refine a_ixor X dX5_tells_79 ?_
    refine a_iand X dX5_tells_80 ?_
    refine a_iret X hA dX5_tells_81 ⟨?_, ?_⟩
    · rw [(set_gr _ g4).1]; rfl
    · rfl
set_option maxRecDepth 100000 in
set_option maxHeartbeats 4000000 in
theorem c_X5_tires {l : Launch} {g : GG} {I : TI} {J : TJ} {F : TI} {w : Int64} {R : Nat → Nat} (hR : I 44 = nr R) (ok : okR R) {a : Nat} (ha : a < R 1) (hN : R 0 < 2 ^ 31) : UR l g mX5_tires [.ref (ga g 43), .int (nI a)] I J F w (.int (tirI (R (2 + 6 * a + 0)) (redN R (R 1) a))) I J F w := by
  have hn10 := ok.1
  obtain ⟨g0, g1, g2, g3, g4, g5⟩ := ok.2.1 a ha
  refine ct_start (M := mX5_tires) (by decide +kernel) (Nat.le_of_ble_eq_true rfl) ?_
  intro p e s m args below meth c A X hA
  have X : AX p s m args meth c g A cX5_tires 3 RX5 (Cond.code yX5_tires cX5_tires 3 (some .int)) (some .int) := X
  show AW p l e (rmM 4 93) s m args below meth c g A 3 0 0 (MQ below (CQ g (hp g I J F w) s.heap.size (fun vv0 hh0 => vv0 = some (.int (tirI (R (2 + 6 * a + 0)) (redN R (R 1) a))) ∧ hh0 = hp g I J F w)) args s 0 0 A) 0 [some (.ref (ga g 43)), some (.int (nI a)), none] [] (hp g I J F w)
  refine a_aload_n X dX5_tires_0 (i := 0) rfl rfl ?_
  refine a_iload_n X dX5_tires_1 (i := 1) rfl rfl ?_
  refine s_callV_R X dX5_tires_2 lk_X5_105 ko_43 rfl rfl (c_X5_isReading hR ok ha hN) ⟨Nat.le_of_ble_eq_true rfl, Nat.le_of_ble_eq_true rfl⟩ rfl rfl (Nat.le_of_ble_eq_true rfl) ⟨Nat.le_of_ble_eq_true rfl, Nat.le_of_ble_eq_true rfl⟩ ?_
  refine a_if_eq X dX5_tires_5 (tgt := 12) (by decide) (fun hc5 => ?_) (fun hc5 => ?_)
  · skip
    try simp only [bI_0, Bool.not_eq_false] at hc5
    refine a_bipush X dX5_tires_12 (v := (-5)) (by decide +kernel) ?_
    refine a_istore_n X dX5_tires_14 (i := 2) rfl (by decide) rfl ?_
    refine a_aload_n X dX5_tires_15 (i := 0) rfl rfl ?_
    refine a_iload_n X dX5_tires_16 (i := 1) rfl rfl ?_
    refine a_iconst X dX5_tires_17 (v := nI 0) (by decide +kernel) ?_
    refine s_callV_R X dX5_tires_18 lk_X5_55 ko_43 rfl rfl (c_X5_its hR (by omega)) ⟨Nat.le_of_ble_eq_true rfl, Nat.le_of_ble_eq_true rfl⟩ rfl rfl (Nat.le_of_ble_eq_true rfl) ⟨Nat.le_of_ble_eq_true rfl, Nat.le_of_ble_eq_true rfl⟩ ?_
    rcases lt6 g0 with hsw | hsw | hsw | hsw | hsw | hsw
    · rw [hsw]
      refine a_tsOut X dX5_tires_21 (by decide +kernel) (tgt := 70) (by decide) ?_
      refine a_iload_n X dX5_tires_70 (i := 2) rfl rfl ?_
      refine a_iret X hA dX5_tires_71 ⟨?_, ?_⟩
      · rw [hc5]; first | rfl | (congr 2; decide +kernel)
      · rfl
    · rw [hsw]
      refine a_tsIn X dX5_tires_21 (by decide +kernel) (by decide +kernel) (off := 35) (by decide +kernel) (tgt := 56) (by decide) ?_
      refine a_iload_n X dX5_tires_56 (i := 2) rfl rfl ?_
      refine a_iconst X dX5_tires_57 (v := nI 2) (by decide +kernel) ?_
      refine a_iadd X dX5_tires_58 ?_
      refine a_iret X hA dX5_tires_59 ⟨?_, ?_⟩
      · rw [hc5]; first | rfl | (congr 2; decide +kernel)
      · rfl
    · rw [hsw]
      refine a_tsIn X dX5_tires_21 (by decide +kernel) (by decide +kernel) (off := 43) (by decide +kernel) (tgt := 64) (by decide) ?_
      refine a_iconst X dX5_tires_64 (v := nI 2) (by decide +kernel) ?_
      refine a_iload_n X dX5_tires_65 (i := 2) rfl rfl ?_
      refine a_imul X dX5_tires_66 ?_
      refine a_iret X hA dX5_tires_67 ⟨?_, ?_⟩
      · rw [hc5]; first | rfl | (congr 2; decide +kernel)
      · rfl
    · rw [hsw]
      refine a_tsIn X dX5_tires_21 (by decide +kernel) (by decide +kernel) (off := 47) (by decide +kernel) (tgt := 68) (by decide) ?_
      refine a_iconst X dX5_tires_68 (v := nI 0) (by decide +kernel) ?_
      refine a_iret X hA dX5_tires_69 ⟨?_, ?_⟩
      · rw [hc5]; first | rfl | (congr 2; decide +kernel)
      · rfl
    · rw [hsw]
      refine a_tsIn X dX5_tires_21 (by decide +kernel) (by decide +kernel) (off := 39) (by decide +kernel) (tgt := 60) (by decide) ?_
      refine a_iload_n X dX5_tires_60 (i := 2) rfl rfl ?_
      refine a_iconst X dX5_tires_61 (v := nI 5) (by decide +kernel) ?_
      refine a_iadd X dX5_tires_62 ?_
      refine a_iret X hA dX5_tires_63 ⟨?_, ?_⟩
      · rw [hc5]; first | rfl | (congr 2; decide +kernel)
      · rfl
    · rw [hsw]
      refine a_tsIn X dX5_tires_21 (by decide +kernel) (by decide +kernel) (off := 43) (by decide +kernel) (tgt := 64) (by decide) ?_
      refine a_iconst X dX5_tires_64 (v := nI 2) (by decide +kernel) ?_
      refine a_iload_n X dX5_tires_65 (i := 2) rfl rfl ?_
      refine a_imul X dX5_tires_66 ?_
      refine a_iret X hA dX5_tires_67 ⟨?_, ?_⟩
      · rw [hc5]; first | rfl | (congr 2; decide +kernel)
      · rfl
  · skip
    try simp only [bI_0, Bool.not_eq_false] at hc5
    refine a_iconst X dX5_tires_8 (v := nI 3) (by decide +kernel) ?_
    refine a_goto X dX5_tires_9 (tgt := 14) (by decide) ?_
    refine a_istore_n X dX5_tires_14 (i := 2) rfl (by decide) rfl ?_
    refine a_aload_n X dX5_tires_15 (i := 0) rfl rfl ?_
    refine a_iload_n X dX5_tires_16 (i := 1) rfl rfl ?_
    refine a_iconst X dX5_tires_17 (v := nI 0) (by decide +kernel) ?_
    refine s_callV_R X dX5_tires_18 lk_X5_55 ko_43 rfl rfl (c_X5_its hR (by omega)) ⟨Nat.le_of_ble_eq_true rfl, Nat.le_of_ble_eq_true rfl⟩ rfl rfl (Nat.le_of_ble_eq_true rfl) ⟨Nat.le_of_ble_eq_true rfl, Nat.le_of_ble_eq_true rfl⟩ ?_
    rcases lt6 g0 with hsw | hsw | hsw | hsw | hsw | hsw
    · rw [hsw]
      refine a_tsOut X dX5_tires_21 (by decide +kernel) (tgt := 70) (by decide) ?_
      refine a_iload_n X dX5_tires_70 (i := 2) rfl rfl ?_
      refine a_iret X hA dX5_tires_71 ⟨?_, ?_⟩
      · rw [hc5]; first | rfl | (congr 2; decide +kernel)
      · rfl
    · rw [hsw]
      refine a_tsIn X dX5_tires_21 (by decide +kernel) (by decide +kernel) (off := 35) (by decide +kernel) (tgt := 56) (by decide) ?_
      refine a_iload_n X dX5_tires_56 (i := 2) rfl rfl ?_
      refine a_iconst X dX5_tires_57 (v := nI 2) (by decide +kernel) ?_
      refine s_iaddN X dX5_tires_58 ?_
      refine a_iret X hA dX5_tires_59 ⟨?_, ?_⟩
      · rw [hc5]; first | rfl | (congr 2; decide +kernel)
      · rfl
    · rw [hsw]
      refine a_tsIn X dX5_tires_21 (by decide +kernel) (by decide +kernel) (off := 43) (by decide +kernel) (tgt := 64) (by decide) ?_
      refine a_iconst X dX5_tires_64 (v := nI 2) (by decide +kernel) ?_
      refine a_iload_n X dX5_tires_65 (i := 2) rfl rfl ?_
      refine s_imulN X dX5_tires_66 ?_
      refine a_iret X hA dX5_tires_67 ⟨?_, ?_⟩
      · rw [hc5]; first | rfl | (congr 2; decide +kernel)
      · rfl
    · rw [hsw]
      refine a_tsIn X dX5_tires_21 (by decide +kernel) (by decide +kernel) (off := 47) (by decide +kernel) (tgt := 68) (by decide) ?_
      refine a_iconst X dX5_tires_68 (v := nI 0) (by decide +kernel) ?_
      refine a_iret X hA dX5_tires_69 ⟨?_, ?_⟩
      · rw [hc5]; first | rfl | (congr 2; decide +kernel)
      · rfl
    · rw [hsw]
      refine a_tsIn X dX5_tires_21 (by decide +kernel) (by decide +kernel) (off := 39) (by decide +kernel) (tgt := 60) (by decide) ?_
      refine a_iload_n X dX5_tires_60 (i := 2) rfl rfl ?_
      refine a_iconst X dX5_tires_61 (v := nI 5) (by decide +kernel) ?_
      refine s_iaddN X dX5_tires_62 ?_
      refine a_iret X hA dX5_tires_63 ⟨?_, ?_⟩
      · rw [hc5]; first | rfl | (congr 2; decide +kernel)
      · rfl
    · rw [hsw]
      refine a_tsIn X dX5_tires_21 (by decide +kernel) (by decide +kernel) (off := 43) (by decide +kernel) (tgt := 64) (by decide) ?_
      refine a_iconst X dX5_tires_64 (v := nI 2) (by decide +kernel) ?_
      refine a_iload_n X dX5_tires_65 (i := 2) rfl rfl ?_
      refine s_imulN X dX5_tires_66 ?_
      refine a_iret X hA dX5_tires_67 ⟨?_, ?_⟩
      · rw [hc5]; first | rfl | (congr 2; decide +kernel)
      · rfl
set_option maxRecDepth 100000 in
set_option maxHeartbeats 4000000 in
theorem c_X5_adds {l : Launch} {g : GG} {I : TI} {J : TJ} {F : TI} {w : Int64} {R : Nat → Nat} (hR : I 44 = nr R) (ok : okR R) (h9 : R 1 < 10) {k s0 v d : Nat} : UV l g mX5_adds [.ref (ga g 43), .int (nI k), .int (nI s0), .int (nI v), .int (nI d)] I J F w (va_up I 44 (nr (addN R k s0 v d))) J F w := by
  have h1 : I 44 1 = nI (R 1) := by rw [hR]; rfl
  refine ct_start (M := mX5_adds) (by decide +kernel) (Nat.le_of_ble_eq_true rfl) ?_
  intro p e s m args below meth c A X hA
  have X : AX p s m args meth c g A cX5_adds 6 RX5 (Cond.code yX5_adds cX5_adds 6 none) none := X
  show AW p l e (rmM 1 23) s m args below meth c g A 6 0 0 (MQ below (CQ g (hp g I J F w) s.heap.size (fun vv0 hh0 => vv0 = none ∧ hh0 = hp g (va_up I 44 (nr (addN R k s0 v d))) J F w)) args s 0 0 A) 0 [some (.ref (ga g 43)), some (.int (nI k)), some (.int (nI s0)), some (.int (nI v)), some (.int (nI d)), none] [] (hp g I J F w)
  refine a_aload_n X dX5_adds_0 (i := 0) rfl rfl ?_
  refine s_getr X dX5_adds_1 fl_X5_7 ko_43 rfl ?_
  refine a_iconst X dX5_adds_4 (v := nI 1) (by decide +kernel) ?_
  refine s_ild X dX5_adds_5 ki_44 (by omega) (by decide) ?_
  rw [h1]
  refine a_istore X dX5_adds_6 (by decide) rfl ?_
  refine a_aload_n X dX5_adds_8 (i := 0) rfl rfl ?_
  refine a_iload X dX5_adds_9 rfl ?_
  refine a_iconst X dX5_adds_11 (v := nI 0) (by decide +kernel) ?_
  refine a_iload_n X dX5_adds_12 (i := 1) rfl rfl ?_
  refine s_callV_V X dX5_adds_13 lk_X5_108 ko_43 rfl rfl (c_X5_puts hR (by omega)) ⟨Nat.le_of_ble_eq_true rfl, Nat.le_of_ble_eq_true rfl⟩ rfl rfl (Nat.le_of_ble_eq_true rfl) ⟨Nat.le_of_ble_eq_true rfl, Nat.le_of_ble_eq_true rfl⟩ ?_
  refine a_aload_n X dX5_adds_16 (i := 0) rfl rfl ?_
  refine a_iload X dX5_adds_17 rfl ?_
  refine a_iconst X dX5_adds_19 (v := nI 1) (by decide +kernel) ?_
  refine a_iload_n X dX5_adds_20 (i := 2) rfl rfl ?_
  refine s_callV_V X dX5_adds_21 lk_X5_108 ko_43 rfl rfl (c_X5_puts (up_s _ _ _) (by omega)) ⟨Nat.le_of_ble_eq_true rfl, Nat.le_of_ble_eq_true rfl⟩ rfl rfl (Nat.le_of_ble_eq_true rfl) ⟨Nat.le_of_ble_eq_true rfl, Nat.le_of_ble_eq_true rfl⟩ ?_
  refine a_aload_n X dX5_adds_24 (i := 0) rfl rfl ?_
  refine a_iload X dX5_adds_25 rfl ?_
  refine a_iconst X dX5_adds_27 (v := nI 2) (by decide +kernel) ?_
  refine a_iload_n X dX5_adds_28 (i := 3) rfl rfl ?_
  refine s_callV_V X dX5_adds_29 lk_X5_108 ko_43 rfl rfl (c_X5_puts (up_s _ _ _) (by omega)) ⟨Nat.le_of_ble_eq_true rfl, Nat.le_of_ble_eq_true rfl⟩ rfl rfl (Nat.le_of_ble_eq_true rfl) ⟨Nat.le_of_ble_eq_true rfl, Nat.le_of_ble_eq_true rfl⟩ ?_
  refine a_aload_n X dX5_adds_32 (i := 0) rfl rfl ?_
  refine a_iload X dX5_adds_33 rfl ?_
  refine a_iconst X dX5_adds_35 (v := nI 3) (by decide +kernel) ?_
  refine a_iload X dX5_adds_36 rfl ?_
  refine s_callV_V X dX5_adds_38 lk_X5_108 ko_43 rfl rfl (c_X5_puts (up_s _ _ _) (by omega)) ⟨Nat.le_of_ble_eq_true rfl, Nat.le_of_ble_eq_true rfl⟩ rfl rfl (Nat.le_of_ble_eq_true rfl) ⟨Nat.le_of_ble_eq_true rfl, Nat.le_of_ble_eq_true rfl⟩ ?_
  refine a_aload_n X dX5_adds_41 (i := 0) rfl rfl ?_
  refine a_iload X dX5_adds_42 rfl ?_
  refine a_iconst X dX5_adds_44 (v := nI 4) (by decide +kernel) ?_
  refine a_iconst X dX5_adds_45 (v := nI 0) (by decide +kernel) ?_
  refine s_callV_V X dX5_adds_46 lk_X5_108 ko_43 rfl rfl (c_X5_puts (up_s _ _ _) (by omega)) ⟨Nat.le_of_ble_eq_true rfl, Nat.le_of_ble_eq_true rfl⟩ rfl rfl (Nat.le_of_ble_eq_true rfl) ⟨Nat.le_of_ble_eq_true rfl, Nat.le_of_ble_eq_true rfl⟩ ?_
  refine a_aload_n X dX5_adds_49 (i := 0) rfl rfl ?_
  refine a_iload X dX5_adds_50 rfl ?_
  refine a_iconst X dX5_adds_52 (v := nI 5) (by decide +kernel) ?_
  refine a_iconst X dX5_adds_53 (v := nI 0) (by decide +kernel) ?_
  refine s_callV_V X dX5_adds_54 lk_X5_108 ko_43 rfl rfl (c_X5_puts (up_s _ _ _) (by omega)) ⟨Nat.le_of_ble_eq_true rfl, Nat.le_of_ble_eq_true rfl⟩ rfl rfl (Nat.le_of_ble_eq_true rfl) ⟨Nat.le_of_ble_eq_true rfl, Nat.le_of_ble_eq_true rfl⟩ ?_
  refine a_aload_n X dX5_adds_57 (i := 0) rfl rfl ?_
  refine s_getr X dX5_adds_58 fl_X5_7 ko_43 rfl ?_
  refine a_iconst X dX5_adds_61 (v := nI 1) (by decide +kernel) ?_
  refine a_dup2 X dX5_adds_62 rfl rfl ?_
  refine s_ild X dX5_adds_63 ki_44 (by omega) (by decide) ?_
  rw [up_s]
  refine a_iconst X dX5_adds_64 (v := nI 1) (by decide +kernel) ?_
  refine a_iadd X dX5_adds_65 ?_
  refine s_ist X dX5_adds_66 ki_44 (by omega) (by decide) ?_
  refine a_vret X hA dX5_adds_67 ⟨?_, ?_⟩
  · rfl
  · rw [up_s, bx_uu, bx_uu, bx_uu, bx_uu, bx_uu, bx_uu]
    congr 2
    refine Eq.trans ?_ (nr_up _ 1 (R 1 + 1))
    congr 1
    show nI _ + nI 1 = _
    rw [nI_add, up_n _ _ (by omega), up_n _ _ (by omega), up_n _ _ (by omega), up_n _ _ (by omega), up_n _ _ (by omega), up_n _ _ (by omega)]
set_option maxRecDepth 100000 in
set_option maxHeartbeats 4000000 in
theorem c_X5_got {l : Launch} {g : GG} {I : TI} {J : TJ} {F : TI} {w : Int64} {R : Nat → Nat} (hR : I 44 = nr R) (ok : okR R) {a : Nat} (ha : a < R 1) (hN : R 0 < 2 ^ 31) : UR l g mX5_got [.ref (ga g 43), .int (nI a)] I J F w (.int (nI (gotN R (R 1) a))) I J F w := by
  have hn10 := ok.1
  obtain ⟨g0, g1, g2, g3, g4, g5⟩ := ok.2.1 a ha
  refine ct_start (M := mX5_got) (by decide +kernel) (Nat.le_of_ble_eq_true rfl) ?_
  intro p e s m args below meth c A X hA
  have X : AX p s m args meth c g A cX5_got 4 RX5 (Cond.code yX5_got cX5_got 4 (some .int)) (some .int) := X
  show AW p l e (rmM 4 93) s m args below meth c g A 4 0 0 (MQ below (CQ g (hp g I J F w) s.heap.size (fun vv0 hh0 => vv0 = some (.int (nI (gotN R (R 1) a))) ∧ hh0 = hp g I J F w)) args s 0 0 A) 0 [some (.ref (ga g 43)), some (.int (nI a)), none, none] [] (hp g I J F w)
  refine a_aload_n X dX5_got_0 (i := 0) rfl rfl ?_
  refine a_iload_n X dX5_got_1 (i := 1) rfl rfl ?_
  refine s_callV_R X dX5_got_2 lk_X5_105 ko_43 rfl rfl (c_X5_isReading hR ok ha hN) ⟨Nat.le_of_ble_eq_true rfl, Nat.le_of_ble_eq_true rfl⟩ rfl rfl (Nat.le_of_ble_eq_true rfl) ⟨Nat.le_of_ble_eq_true rfl, Nat.le_of_ble_eq_true rfl⟩ ?_
  refine a_if_eq X dX5_got_5 (tgt := 23) (by decide) (fun hc5 => ?_) (fun hc5 => ?_)
  · skip
    try simp only [bI_0, Bool.not_eq_false] at hc5
    have hx : gotX R (R 1) a = 0 ||| toldO R (who R (R (2 + 6 * a + 1) + 1) (R 1)) := by unfold gotX; rw [if_neg (by rw [hc5]; decide)]
    refine a_iconst X dX5_got_23 (v := nI 0) (by decide +kernel) ?_
    refine a_istore_n X dX5_got_24 (i := 2) rfl (by decide) rfl ?_
    refine a_aload_n X dX5_got_25 (i := 0) rfl rfl ?_
    refine a_aload_n X dX5_got_26 (i := 0) rfl rfl ?_
    refine a_iload_n X dX5_got_27 (i := 1) rfl rfl ?_
    refine a_iconst X dX5_got_28 (v := nI 1) (by decide +kernel) ?_
    refine s_callV_R X dX5_got_29 lk_X5_55 ko_43 rfl rfl (c_X5_its hR (by omega)) ⟨Nat.le_of_ble_eq_true rfl, Nat.le_of_ble_eq_true rfl⟩ rfl rfl (Nat.le_of_ble_eq_true rfl) ⟨Nat.le_of_ble_eq_true rfl, Nat.le_of_ble_eq_true rfl⟩ ?_
    refine a_iconst X dX5_got_32 (v := nI 1) (by decide +kernel) ?_
    refine s_iaddN X dX5_got_33 ?_
    refine s_callV_R X dX5_got_34 lk_X5_63 ko_43 rfl rfl (c_X5_whoIn hR ok.1 (by omega) (fun m hm => Nat.lt_trans (ok.2.1 m hm).2.1 (by decide))) ⟨Nat.le_of_ble_eq_true rfl, Nat.le_of_ble_eq_true rfl⟩ rfl rfl (Nat.le_of_ble_eq_true rfl) ⟨Nat.le_of_ble_eq_true rfl, Nat.le_of_ble_eq_true rfl⟩ ?_
    refine a_istore_n X dX5_got_37 (i := 3) rfl (by decide) rfl ?_
    refine a_iload_n X dX5_got_38 (i := 2) rfl rfl ?_
    refine a_iload_n X dX5_got_39 (i := 3) rfl rfl ?_
    refine a_if_ge X dX5_got_40 (tgt := 47) (by decide) (fun hc40 => ?_) (fun hc40 => ?_)
    · skip
      obtain ⟨f, hw2⟩ := whoSome hc40
      have hf := (who_lt hw2).1
      rw [hw2, wI_s]
      rw [show toldO R (who R (R (2 + 6 * a + 1) + 1) (R 1)) = tel (R (2 + 6 * f + 0)) (R (2 + 6 * f + 4)) by rw [hw2]; rfl] at hx
      refine a_aload_n X dX5_got_47 (i := 0) rfl rfl ?_
      refine a_iload_n X dX5_got_48 (i := 3) rfl rfl ?_
      refine s_callV_R X dX5_got_49 lk_X5_127 ko_43 rfl rfl (c_X5_tells hR ok hf) ⟨Nat.le_of_ble_eq_true rfl, Nat.le_of_ble_eq_true rfl⟩ rfl rfl (Nat.le_of_ble_eq_true rfl) ⟨Nat.le_of_ble_eq_true rfl, Nat.le_of_ble_eq_true rfl⟩ ?_
      refine a_ior X dX5_got_52 ?_
      rw [nI_or, ← hx]
      refine a_istore_n X dX5_got_53 (i := 2) rfl (by decide) rfl ?_
      refine a_aload_n X dX5_got_54 (i := 0) rfl rfl ?_
      refine a_iload_n X dX5_got_55 (i := 1) rfl rfl ?_
      refine a_iconst X dX5_got_56 (v := nI 0) (by decide +kernel) ?_
      refine s_callV_R X dX5_got_57 lk_X5_55 ko_43 rfl rfl (c_X5_its hR (by omega)) ⟨Nat.le_of_ble_eq_true rfl, Nat.le_of_ble_eq_true rfl⟩ rfl rfl (Nat.le_of_ble_eq_true rfl) ⟨Nat.le_of_ble_eq_true rfl, Nat.le_of_ble_eq_true rfl⟩ ?_
      refine a_iconst X dX5_got_60 (v := nI 4) (by decide +kernel) ?_
      refine s_icmp_neN X dX5_got_61 (tgt := 68) (by decide) (by omega) (by omega) (fun hc61 => ?_) (fun hc61 => ?_)
      · skip
        refine a_iload_n X dX5_got_68 (i := 2) rfl rfl ?_
        refine a_iconst X dX5_got_69 (v := nI 1) (by decide +kernel) ?_
        refine a_aload_n X dX5_got_70 (i := 0) rfl rfl ?_
        refine a_iload_n X dX5_got_71 (i := 1) rfl rfl ?_
        refine a_iconst X dX5_got_72 (v := nI 2) (by decide +kernel) ?_
        refine s_callV_R X dX5_got_73 lk_X5_55 ko_43 rfl rfl (c_X5_its hR (by omega)) ⟨Nat.le_of_ble_eq_true rfl, Nat.le_of_ble_eq_true rfl⟩ rfl rfl (Nat.le_of_ble_eq_true rfl) ⟨Nat.le_of_ble_eq_true rfl, Nat.le_of_ble_eq_true rfl⟩ ?_
        refine a_ishl X dX5_got_76 ?_
        rw [(shl_v _ g2).1]
        refine a_iconst X dX5_got_77 (v := (-1)) (by decide +kernel) ?_
        refine a_ixor X dX5_got_78 ?_
        refine a_iand X dX5_got_79 ?_
        rw [set_clr _ g2 _ (gotX_lt ok a)]
        refine a_iret X hA dX5_got_80 ⟨?_, ?_⟩
        · congr 3; unfold gotN; first | rw [if_pos hc61] | rw [if_neg hc61]
        · rfl
      · skip
        refine a_iload_n X dX5_got_64 (i := 2) rfl rfl ?_
        refine a_goto X dX5_got_65 (tgt := 80) (by decide) ?_
        refine a_iret X hA dX5_got_80 ⟨?_, ?_⟩
        · congr 3; unfold gotN; first | rw [if_pos hc61] | rw [if_neg hc61]
        · rfl
    · skip
      have hw2 := whoNone (who_b hn10) hc40
      rw [show toldO R (who R (R (2 + 6 * a + 1) + 1) (R 1)) = 0 by rw [hw2]; rfl] at hx
      refine a_iconst X dX5_got_43 (v := nI 0) (by decide +kernel) ?_
      refine a_goto X dX5_got_44 (tgt := 52) (by decide) ?_
      refine a_ior X dX5_got_52 ?_
      rw [nI_or, ← hx]
      refine a_istore_n X dX5_got_53 (i := 2) rfl (by decide) rfl ?_
      refine a_aload_n X dX5_got_54 (i := 0) rfl rfl ?_
      refine a_iload_n X dX5_got_55 (i := 1) rfl rfl ?_
      refine a_iconst X dX5_got_56 (v := nI 0) (by decide +kernel) ?_
      refine s_callV_R X dX5_got_57 lk_X5_55 ko_43 rfl rfl (c_X5_its hR (by omega)) ⟨Nat.le_of_ble_eq_true rfl, Nat.le_of_ble_eq_true rfl⟩ rfl rfl (Nat.le_of_ble_eq_true rfl) ⟨Nat.le_of_ble_eq_true rfl, Nat.le_of_ble_eq_true rfl⟩ ?_
      refine a_iconst X dX5_got_60 (v := nI 4) (by decide +kernel) ?_
      refine s_icmp_neN X dX5_got_61 (tgt := 68) (by decide) (by omega) (by omega) (fun hc61 => ?_) (fun hc61 => ?_)
      · skip
        refine a_iload_n X dX5_got_68 (i := 2) rfl rfl ?_
        refine a_iconst X dX5_got_69 (v := nI 1) (by decide +kernel) ?_
        refine a_aload_n X dX5_got_70 (i := 0) rfl rfl ?_
        refine a_iload_n X dX5_got_71 (i := 1) rfl rfl ?_
        refine a_iconst X dX5_got_72 (v := nI 2) (by decide +kernel) ?_
        refine s_callV_R X dX5_got_73 lk_X5_55 ko_43 rfl rfl (c_X5_its hR (by omega)) ⟨Nat.le_of_ble_eq_true rfl, Nat.le_of_ble_eq_true rfl⟩ rfl rfl (Nat.le_of_ble_eq_true rfl) ⟨Nat.le_of_ble_eq_true rfl, Nat.le_of_ble_eq_true rfl⟩ ?_
        refine a_ishl X dX5_got_76 ?_
        rw [(shl_v _ g2).1]
        refine a_iconst X dX5_got_77 (v := (-1)) (by decide +kernel) ?_
        refine a_ixor X dX5_got_78 ?_
        refine a_iand X dX5_got_79 ?_
        rw [set_clr _ g2 _ (gotX_lt ok a)]
        refine a_iret X hA dX5_got_80 ⟨?_, ?_⟩
        · congr 3; unfold gotN; first | rw [if_pos hc61] | rw [if_neg hc61]
        · rfl
      · skip
        refine a_iload_n X dX5_got_64 (i := 2) rfl rfl ?_
        refine a_goto X dX5_got_65 (tgt := 80) (by decide) ?_
        refine a_iret X hA dX5_got_80 ⟨?_, ?_⟩
        · congr 3; unfold gotN; first | rw [if_pos hc61] | rw [if_neg hc61]
        · rfl
  · skip
    try simp only [bI_0, Bool.not_eq_false] at hc5
    obtain ⟨q, hw⟩ := red_some hc5
    have hq := felN_lt hw
    have hv := ok.2.1 q hq
    have hx : gotX R (R 1) a = 2 ^ R (2 + 6 * q + 2) ||| toldO R (who R (R (2 + 6 * a + 1) + 1) (R 1)) := by unfold gotX; rw [if_pos hc5, hw]; rfl
    refine a_iconst X dX5_got_8 (v := nI 1) (by decide +kernel) ?_
    refine a_aload_n X dX5_got_9 (i := 0) rfl rfl ?_
    refine a_aload_n X dX5_got_10 (i := 0) rfl rfl ?_
    refine a_iload_n X dX5_got_11 (i := 1) rfl rfl ?_
    refine s_callV_R X dX5_got_12 lk_X5_96 ko_43 rfl rfl (c_X5_felt hR ok ha) ⟨Nat.le_of_ble_eq_true rfl, Nat.le_of_ble_eq_true rfl⟩ rfl rfl (Nat.le_of_ble_eq_true rfl) ⟨Nat.le_of_ble_eq_true rfl, Nat.le_of_ble_eq_true rfl⟩ ?_
    rw [hw, wI_s]
    refine a_iconst X dX5_got_15 (v := nI 2) (by decide +kernel) ?_
    refine s_callV_R X dX5_got_16 lk_X5_55 ko_43 rfl rfl (c_X5_its hR (by omega)) ⟨Nat.le_of_ble_eq_true rfl, Nat.le_of_ble_eq_true rfl⟩ rfl rfl (Nat.le_of_ble_eq_true rfl) ⟨Nat.le_of_ble_eq_true rfl, Nat.le_of_ble_eq_true rfl⟩ ?_
    refine a_ishl X dX5_got_19 ?_
    rw [(shl_v _ hv.2.2.1).1]
    refine a_goto X dX5_got_20 (tgt := 24) (by decide) ?_
    refine a_istore_n X dX5_got_24 (i := 2) rfl (by decide) rfl ?_
    refine a_aload_n X dX5_got_25 (i := 0) rfl rfl ?_
    refine a_aload_n X dX5_got_26 (i := 0) rfl rfl ?_
    refine a_iload_n X dX5_got_27 (i := 1) rfl rfl ?_
    refine a_iconst X dX5_got_28 (v := nI 1) (by decide +kernel) ?_
    refine s_callV_R X dX5_got_29 lk_X5_55 ko_43 rfl rfl (c_X5_its hR (by omega)) ⟨Nat.le_of_ble_eq_true rfl, Nat.le_of_ble_eq_true rfl⟩ rfl rfl (Nat.le_of_ble_eq_true rfl) ⟨Nat.le_of_ble_eq_true rfl, Nat.le_of_ble_eq_true rfl⟩ ?_
    refine a_iconst X dX5_got_32 (v := nI 1) (by decide +kernel) ?_
    refine s_iaddN X dX5_got_33 ?_
    refine s_callV_R X dX5_got_34 lk_X5_63 ko_43 rfl rfl (c_X5_whoIn hR ok.1 (by omega) (fun m hm => Nat.lt_trans (ok.2.1 m hm).2.1 (by decide))) ⟨Nat.le_of_ble_eq_true rfl, Nat.le_of_ble_eq_true rfl⟩ rfl rfl (Nat.le_of_ble_eq_true rfl) ⟨Nat.le_of_ble_eq_true rfl, Nat.le_of_ble_eq_true rfl⟩ ?_
    refine a_istore_n X dX5_got_37 (i := 3) rfl (by decide) rfl ?_
    refine a_iload_n X dX5_got_38 (i := 2) rfl rfl ?_
    refine a_iload_n X dX5_got_39 (i := 3) rfl rfl ?_
    refine a_if_ge X dX5_got_40 (tgt := 47) (by decide) (fun hc40 => ?_) (fun hc40 => ?_)
    · skip
      obtain ⟨f, hw2⟩ := whoSome hc40
      have hf := (who_lt hw2).1
      rw [hw2, wI_s]
      rw [show toldO R (who R (R (2 + 6 * a + 1) + 1) (R 1)) = tel (R (2 + 6 * f + 0)) (R (2 + 6 * f + 4)) by rw [hw2]; rfl] at hx
      refine a_aload_n X dX5_got_47 (i := 0) rfl rfl ?_
      refine a_iload_n X dX5_got_48 (i := 3) rfl rfl ?_
      refine s_callV_R X dX5_got_49 lk_X5_127 ko_43 rfl rfl (c_X5_tells hR ok hf) ⟨Nat.le_of_ble_eq_true rfl, Nat.le_of_ble_eq_true rfl⟩ rfl rfl (Nat.le_of_ble_eq_true rfl) ⟨Nat.le_of_ble_eq_true rfl, Nat.le_of_ble_eq_true rfl⟩ ?_
      refine a_ior X dX5_got_52 ?_
      rw [nI_or, ← hx]
      refine a_istore_n X dX5_got_53 (i := 2) rfl (by decide) rfl ?_
      refine a_aload_n X dX5_got_54 (i := 0) rfl rfl ?_
      refine a_iload_n X dX5_got_55 (i := 1) rfl rfl ?_
      refine a_iconst X dX5_got_56 (v := nI 0) (by decide +kernel) ?_
      refine s_callV_R X dX5_got_57 lk_X5_55 ko_43 rfl rfl (c_X5_its hR (by omega)) ⟨Nat.le_of_ble_eq_true rfl, Nat.le_of_ble_eq_true rfl⟩ rfl rfl (Nat.le_of_ble_eq_true rfl) ⟨Nat.le_of_ble_eq_true rfl, Nat.le_of_ble_eq_true rfl⟩ ?_
      refine a_iconst X dX5_got_60 (v := nI 4) (by decide +kernel) ?_
      refine s_icmp_neN X dX5_got_61 (tgt := 68) (by decide) (by omega) (by omega) (fun hc61 => ?_) (fun hc61 => ?_)
      · skip
        refine a_iload_n X dX5_got_68 (i := 2) rfl rfl ?_
        refine a_iconst X dX5_got_69 (v := nI 1) (by decide +kernel) ?_
        refine a_aload_n X dX5_got_70 (i := 0) rfl rfl ?_
        refine a_iload_n X dX5_got_71 (i := 1) rfl rfl ?_
        refine a_iconst X dX5_got_72 (v := nI 2) (by decide +kernel) ?_
        refine s_callV_R X dX5_got_73 lk_X5_55 ko_43 rfl rfl (c_X5_its hR (by omega)) ⟨Nat.le_of_ble_eq_true rfl, Nat.le_of_ble_eq_true rfl⟩ rfl rfl (Nat.le_of_ble_eq_true rfl) ⟨Nat.le_of_ble_eq_true rfl, Nat.le_of_ble_eq_true rfl⟩ ?_
        refine a_ishl X dX5_got_76 ?_
        rw [(shl_v _ g2).1]
        refine a_iconst X dX5_got_77 (v := (-1)) (by decide +kernel) ?_
        refine a_ixor X dX5_got_78 ?_
        refine a_iand X dX5_got_79 ?_
        rw [set_clr _ g2 _ (gotX_lt ok a)]
        refine a_iret X hA dX5_got_80 ⟨?_, ?_⟩
        · congr 3; unfold gotN; first | rw [if_pos hc61] | rw [if_neg hc61]
        · rfl
      · skip
        refine a_iload_n X dX5_got_64 (i := 2) rfl rfl ?_
        refine a_goto X dX5_got_65 (tgt := 80) (by decide) ?_
        refine a_iret X hA dX5_got_80 ⟨?_, ?_⟩
        · congr 3; unfold gotN; first | rw [if_pos hc61] | rw [if_neg hc61]
        · rfl
    · skip
      have hw2 := whoNone (who_b hn10) hc40
      rw [show toldO R (who R (R (2 + 6 * a + 1) + 1) (R 1)) = 0 by rw [hw2]; rfl] at hx
      refine a_iconst X dX5_got_43 (v := nI 0) (by decide +kernel) ?_
      refine a_goto X dX5_got_44 (tgt := 52) (by decide) ?_
      refine a_ior X dX5_got_52 ?_
      rw [nI_or, ← hx]
      refine a_istore_n X dX5_got_53 (i := 2) rfl (by decide) rfl ?_
      refine a_aload_n X dX5_got_54 (i := 0) rfl rfl ?_
      refine a_iload_n X dX5_got_55 (i := 1) rfl rfl ?_
      refine a_iconst X dX5_got_56 (v := nI 0) (by decide +kernel) ?_
      refine s_callV_R X dX5_got_57 lk_X5_55 ko_43 rfl rfl (c_X5_its hR (by omega)) ⟨Nat.le_of_ble_eq_true rfl, Nat.le_of_ble_eq_true rfl⟩ rfl rfl (Nat.le_of_ble_eq_true rfl) ⟨Nat.le_of_ble_eq_true rfl, Nat.le_of_ble_eq_true rfl⟩ ?_
      refine a_iconst X dX5_got_60 (v := nI 4) (by decide +kernel) ?_
      refine s_icmp_neN X dX5_got_61 (tgt := 68) (by decide) (by omega) (by omega) (fun hc61 => ?_) (fun hc61 => ?_)
      · skip
        refine a_iload_n X dX5_got_68 (i := 2) rfl rfl ?_
        refine a_iconst X dX5_got_69 (v := nI 1) (by decide +kernel) ?_
        refine a_aload_n X dX5_got_70 (i := 0) rfl rfl ?_
        refine a_iload_n X dX5_got_71 (i := 1) rfl rfl ?_
        refine a_iconst X dX5_got_72 (v := nI 2) (by decide +kernel) ?_
        refine s_callV_R X dX5_got_73 lk_X5_55 ko_43 rfl rfl (c_X5_its hR (by omega)) ⟨Nat.le_of_ble_eq_true rfl, Nat.le_of_ble_eq_true rfl⟩ rfl rfl (Nat.le_of_ble_eq_true rfl) ⟨Nat.le_of_ble_eq_true rfl, Nat.le_of_ble_eq_true rfl⟩ ?_
        refine a_ishl X dX5_got_76 ?_
        rw [(shl_v _ g2).1]
        refine a_iconst X dX5_got_77 (v := (-1)) (by decide +kernel) ?_
        refine a_ixor X dX5_got_78 ?_
        refine a_iand X dX5_got_79 ?_
        rw [set_clr _ g2 _ (gotX_lt ok a)]
        refine a_iret X hA dX5_got_80 ⟨?_, ?_⟩
        · congr 3; unfold gotN; first | rw [if_pos hc61] | rw [if_neg hc61]
        · rfl
      · skip
        refine a_iload_n X dX5_got_64 (i := 2) rfl rfl ?_
        refine a_goto X dX5_got_65 (tgt := 80) (by decide) ?_
        refine a_iret X hA dX5_got_80 ⟨?_, ?_⟩
        · congr 3; unfold gotN; first | rw [if_pos hc61] | rw [if_neg hc61]
        · rfl
set_option maxRecDepth 100000 in
set_option maxHeartbeats 4000000 in
theorem c_X5_oneNight {l : Launch} {g : GG} {I : TI} {J : TJ} {F : TI} {w : Int64} {R : Nat → Nat} (hR : I 44 = nr R) (ok : okR R) (hN : R 0 < 2 ^ 31) : VV l g mX5_oneNight [.ref (ga g 43)] I J F w (MdP I J F w (nigN R)) := by
  have hn10 := ok.1
  refine ct_start (M := mX5_oneNight) (by decide +kernel) (Nat.le_of_ble_eq_true rfl) ?_
  intro p e s m args below meth c A X hA
  have X : AX p s m args meth c g A cX5_oneNight 2 RX5 (Cond.code yX5_oneNight cX5_oneNight 2 none) none := X
  show AW p l e (rmM 5 116) s m args below meth c g A 2 0 0 (MQ below (CQ g (hp g I J F w) s.heap.size (fun vv0 hh0 => ∃ II0 JJ0 FF0 ww0, vv0 = none ∧ hh0 = hp g II0 JJ0 FF0 ww0 ∧ (MdP I J F w (nigN R)) II0 JJ0 FF0 ww0)) args s 0 0 A) 0 [some (.ref (ga g 43)), none] [] (hp g I J F w)
  have L42 : ∀ (fu : Nat) (k : Nat) (I1 : TI), R 1 - k < fu → (k ≤ R 1) → (I1 44 = nr (parN R k)) → ((∀ m, m < R 1 → I1 46 m = nI (gotN R (R 1) m) ∧ I1 47 m = tirI (R (2 + 6 * m + 0)) (redN R (R 1) m)) ∧ ∀ P, P ≠ 44 → P ≠ 46 → P ≠ 47 → I1 P = I P) → AW p l e (rmM 5 116) s m args below meth c g A 2 0 0 (MQ below (CQ g (hp g I J F w) s.heap.size (fun vv0 hh0 => ∃ II0 JJ0 FF0 ww0, vv0 = none ∧ hh0 = hp g II0 JJ0 FF0 ww0 ∧ (MdP I J F w (nigN R)) II0 JJ0 FF0 ww0)) args s 0 0 A) 42 [some (.ref (ga g 43)), some (.int (nI k))] [] (hp g I1 J F w) := by
    intro fu
    induction fu with
    | zero => intro k I1 hfu; exact absurd hfu (by omega)
    | succ fu ih =>
      intro k I1 hfu hk hR1 hw
      refine a_iload_n X dX5_oneNight_42 (i := 1) rfl rfl ?_
      refine a_aload_n X dX5_oneNight_43 (i := 0) rfl rfl ?_
      refine s_getr X dX5_oneNight_44 fl_X5_7 ko_43 rfl ?_
      refine a_iconst X dX5_oneNight_47 (v := nI 1) (by decide +kernel) ?_
      refine s_ild X dX5_oneNight_48 ki_44 (by omega) (by decide) ?_
      rw [show I1 44 1 = nI (R 1) from by rw [hR1]; simp only [nr, par_1]]
      refine s_icmp_geN X dX5_oneNight_49 (tgt := 102) (by decide) (by omega) (by omega) (fun hc49 => ?_) (fun hc49 => ?_)
      · skip
        have hk2 : k = R 1 := by omega
        refine a_aload_n X dX5_oneNight_102 (i := 0) rfl rfl ?_
        refine s_getr X dX5_oneNight_103 fl_X5_7 ko_43 rfl ?_
        refine a_iconst X dX5_oneNight_106 (v := nI 0) (by decide +kernel) ?_
        refine a_dup2 X dX5_oneNight_107 rfl rfl ?_
        refine s_ild X dX5_oneNight_108 ki_44 (by omega) (by decide) ?_
        rw [show I1 44 0 = nI (R 0) from by rw [hR1]; rfl]
        refine a_iconst X dX5_oneNight_109 (v := nI 1) (by decide +kernel) ?_
        refine a_iadd X dX5_oneNight_110 ?_
        refine s_ist X dX5_oneNight_111 ki_44 (by omega) (by decide) ?_
        refine a_vret X hA dX5_oneNight_112 ?_
        refine ⟨_, _, _, _, rfl, rfl, ?_, ?_, rfl, rfl, rfl⟩
        · rw [up_s, hR1, hk2, nI_add, nr_up, par_end]
        · intro P q1 q2 q3
          rw [up_n _ _ q1]; exact hw.2 P q1 q2 q3
      · skip
        have hlt : k < R 1 := by omega
        obtain ⟨g0, g1, g2, g3, g4, g5⟩ := ok.2.1 k hlt
        refine a_aload_n X dX5_oneNight_52 (i := 0) rfl rfl ?_
        refine a_iload_n X dX5_oneNight_53 (i := 1) rfl rfl ?_
        refine a_iconst X dX5_oneNight_54 (v := nI 4) (by decide +kernel) ?_
        refine a_aload_n X dX5_oneNight_55 (i := 0) rfl rfl ?_
        refine a_iload_n X dX5_oneNight_56 (i := 1) rfl rfl ?_
        refine a_iconst X dX5_oneNight_57 (v := nI 4) (by decide +kernel) ?_
        refine s_callV_R X dX5_oneNight_58 lk_X5_55 ko_43 rfl rfl (c_X5_its hR1 (by omega)) ⟨Nat.le_of_ble_eq_true rfl, Nat.le_of_ble_eq_true rfl⟩ rfl rfl (Nat.le_of_ble_eq_true rfl) ⟨Nat.le_of_ble_eq_true rfl, Nat.le_of_ble_eq_true rfl⟩ ?_
        rw [par_at (Nat.le_refl k) (by decide)]
        refine a_aload_n X dX5_oneNight_61 (i := 0) rfl rfl ?_
        refine s_getr X dX5_oneNight_62 fl_X5_16 ko_43 rfl ?_
        refine a_iload_n X dX5_oneNight_65 (i := 1) rfl rfl ?_
        refine s_ild X dX5_oneNight_66 ki_46 (by omega) (by decide) ?_
        rw [(hw.1 k hlt).1]
        refine a_ior X dX5_oneNight_67 ?_
        rw [nI_or]
        refine s_callV_V X dX5_oneNight_68 lk_X5_108 ko_43 rfl rfl (c_X5_puts hR1 (by omega)) ⟨Nat.le_of_ble_eq_true rfl, Nat.le_of_ble_eq_true rfl⟩ rfl rfl (Nat.le_of_ble_eq_true rfl) ⟨Nat.le_of_ble_eq_true rfl, Nat.le_of_ble_eq_true rfl⟩ ?_
        refine a_aload_n X dX5_oneNight_71 (i := 0) rfl rfl ?_
        refine a_iload_n X dX5_oneNight_72 (i := 1) rfl rfl ?_
        refine a_iconst X dX5_oneNight_73 (v := nI 5) (by decide +kernel) ?_
        refine a_aload_n X dX5_oneNight_74 (i := 0) rfl rfl ?_
        refine a_iload_n X dX5_oneNight_75 (i := 1) rfl rfl ?_
        refine a_iconst X dX5_oneNight_76 (v := nI 5) (by decide +kernel) ?_
        refine s_callV_R X dX5_oneNight_77 lk_X5_55 ko_43 rfl rfl (c_X5_its (up_s _ _ _) (by omega)) ⟨Nat.le_of_ble_eq_true rfl, Nat.le_of_ble_eq_true rfl⟩ rfl rfl (Nat.le_of_ble_eq_true rfl) ⟨Nat.le_of_ble_eq_true rfl, Nat.le_of_ble_eq_true rfl⟩ ?_
        rw [up_n _ _ (by omega), par_at (Nat.le_refl k) (by decide)]
        refine a_aload_n X dX5_oneNight_80 (i := 0) rfl rfl ?_
        refine s_getr X dX5_oneNight_81 fl_X5_19 ko_43 rfl ?_
        refine a_iload_n X dX5_oneNight_84 (i := 1) rfl rfl ?_
        refine s_ild X dX5_oneNight_85 ki_47 (by omega) (by decide) ?_
        rw [up_n _ _ (by decide), (hw.1 k hlt).2]
        refine a_iadd X dX5_oneNight_86 ?_
        refine a_iconst X dX5_oneNight_87 (v := nI 0) (by decide +kernel) ?_
        refine a_bipush X dX5_oneNight_88 (v := nI 99) (by decide +kernel) ?_
        refine s_callS_R X dX5_oneNight_90 lk_X5_144 c_X5_held ⟨Nat.le_of_ble_eq_true rfl, Nat.le_of_ble_eq_true rfl⟩ rfl rfl (Nat.le_of_ble_eq_true rfl) ⟨Nat.le_of_ble_eq_true rfl, Nat.le_of_ble_eq_true rfl⟩ ?_
        rw [(clt_ok _ g5 _ g0 _).1]
        refine s_callV_V X dX5_oneNight_93 lk_X5_108 ko_43 rfl rfl (c_X5_puts (up_s _ _ _) (by omega)) ⟨Nat.le_of_ble_eq_true rfl, Nat.le_of_ble_eq_true rfl⟩ rfl rfl (Nat.le_of_ble_eq_true rfl) ⟨Nat.le_of_ble_eq_true rfl, Nat.le_of_ble_eq_true rfl⟩ ?_
        refine a_iinc X dX5_oneNight_96 rfl (v := nI (_ + 1)) (iincN _ 1) (by decide) rfl ?_
        refine a_goto X dX5_oneNight_99 (tgt := 42) (by decide) ?_
        refine ih (k + 1) _ (by omega) (by omega) ?_ ⟨fun m hm => ?_, fun P q1 q2 q3 => ?_⟩
        · rw [bx_uu, up_s, ← par_step hlt]
        · rw [up_n _ _ (by decide), up_n _ _ (by decide), up_n _ _ (by decide), up_n _ _ (by decide)]; exact hw.1 m hm
        · rw [up_n _ _ q1, up_n _ _ q1]; exact hw.2 P q1 q2 q3
  have L2 : ∀ (fu : Nat) (k : Nat) (I1 : TI), R 1 - k < fu → (k ≤ R 1) → (I1 44 = nr R) → (((∀ m, m < k → I1 46 m = nI (gotN R (R 1) m) ∧ I1 47 m = tirI (R (2 + 6 * m + 0)) (redN R (R 1) m)) ∧ ∀ P, P ≠ 44 → P ≠ 46 → P ≠ 47 → I1 P = I P)) → AW p l e (rmM 5 116) s m args below meth c g A 2 0 0 (MQ below (CQ g (hp g I J F w) s.heap.size (fun vv0 hh0 => ∃ II0 JJ0 FF0 ww0, vv0 = none ∧ hh0 = hp g II0 JJ0 FF0 ww0 ∧ (MdP I J F w (nigN R)) II0 JJ0 FF0 ww0)) args s 0 0 A) 2 [some (.ref (ga g 43)), some (.int (nI k))] [] (hp g I1 J F w) := by
    intro fu
    induction fu with
    | zero => intro k I1 hfu; exact absurd hfu (by omega)
    | succ fu ih =>
      intro k I1 hfu hk hR1 hw
      refine a_iload_n X dX5_oneNight_2 (i := 1) rfl rfl ?_
      refine a_aload_n X dX5_oneNight_3 (i := 0) rfl rfl ?_
      refine s_getr X dX5_oneNight_4 fl_X5_7 ko_43 rfl ?_
      refine a_iconst X dX5_oneNight_7 (v := nI 1) (by decide +kernel) ?_
      refine s_ild X dX5_oneNight_8 ki_44 (by omega) (by decide) ?_
      rw [show I1 44 1 = nI (R 1) from by rw [hR1]; rfl]
      refine s_icmp_geN X dX5_oneNight_9 (tgt := 40) (by decide) (by omega) (by omega) (fun hc9 => ?_) (fun hc9 => ?_)
      · skip
        have hk2 : k = R 1 := by omega
        refine a_iconst X dX5_oneNight_40 (v := nI 0) (by decide +kernel) ?_
        refine a_istore_n X dX5_oneNight_41 (i := 1) rfl (by decide) rfl ?_
        exact L42 (R 1 + 1) 0 I1 (by omega) (by omega) (by rw [par_0]; exact hR1) ⟨fun m hm => hw.1 m (by omega), hw.2⟩
      · skip
        have hlt : k < R 1 := by omega
        refine a_aload_n X dX5_oneNight_12 (i := 0) rfl rfl ?_
        refine s_getr X dX5_oneNight_13 fl_X5_16 ko_43 rfl ?_
        refine a_iload_n X dX5_oneNight_16 (i := 1) rfl rfl ?_
        refine a_aload_n X dX5_oneNight_17 (i := 0) rfl rfl ?_
        refine a_iload_n X dX5_oneNight_18 (i := 1) rfl rfl ?_
        refine s_callV_R X dX5_oneNight_19 lk_X5_138 ko_43 rfl rfl (c_X5_got hR1 ok hlt hN) ⟨Nat.le_of_ble_eq_true rfl, Nat.le_of_ble_eq_true rfl⟩ rfl rfl (Nat.le_of_ble_eq_true rfl) ⟨Nat.le_of_ble_eq_true rfl, Nat.le_of_ble_eq_true rfl⟩ ?_
        refine s_ist X dX5_oneNight_22 ki_46 (by omega) (by decide) ?_
        refine a_aload_n X dX5_oneNight_23 (i := 0) rfl rfl ?_
        refine s_getr X dX5_oneNight_24 fl_X5_19 ko_43 rfl ?_
        refine a_iload_n X dX5_oneNight_27 (i := 1) rfl rfl ?_
        refine a_aload_n X dX5_oneNight_28 (i := 0) rfl rfl ?_
        refine a_iload_n X dX5_oneNight_29 (i := 1) rfl rfl ?_
        refine s_callV_R X dX5_oneNight_30 lk_X5_141 ko_43 rfl rfl (c_X5_tires (by rw [up_n _ _ (by decide)]; exact hR1) ok hlt hN) ⟨Nat.le_of_ble_eq_true rfl, Nat.le_of_ble_eq_true rfl⟩ rfl rfl (Nat.le_of_ble_eq_true rfl) ⟨Nat.le_of_ble_eq_true rfl, Nat.le_of_ble_eq_true rfl⟩ ?_
        refine s_ist X dX5_oneNight_33 ki_47 (by omega) (by decide) ?_
        refine a_iinc X dX5_oneNight_34 rfl (v := nI (_ + 1)) (iincN _ 1) (by decide) rfl ?_
        refine a_goto X dX5_oneNight_37 (tgt := 2) (by decide) ?_
        refine ih (k + 1) _ (by omega) (by omega) ?_ ⟨fun m hm => ?_, fun P q1 q2 q3 => ?_⟩
        · rw [up_n _ _ (by decide), up_n _ _ (by decide)]; exact hR1
        · rw [up_n _ _ (by decide), up_s, up_s, up_n _ _ (by decide)]
          by_cases e : m = k
          · subst e; rw [pk_us, pk_us]; exact ⟨rfl, rfl⟩
          · rw [pk_un e, pk_un e]; exact hw.1 m (by omega)
        · rw [up_n _ _ q3, up_n _ _ q2]; exact hw.2 P q1 q2 q3
  refine a_iconst X dX5_oneNight_0 (v := nI 0) (by decide +kernel) ?_
  refine a_istore_n X dX5_oneNight_1 (i := 1) rfl (by decide) rfl ?_
  exact L2 (R 1 + 1) 0 I (by omega) (by omega) hR ⟨fun m hm => by omega, fun _ _ _ _ => rfl⟩
set_option maxRecDepth 100000 in
set_option maxHeartbeats 4000000 in
theorem c_X5_passes {l : Launch} {g : GG} {I : TI} {J : TJ} {F : TI} {w : Int64} {R : Nat → Nat} (hR : I 44 = nr R) (ok : okR R) {a : Nat} (hN : R 0 + a < 2 ^ 31) : VV l g mX5_passes [.ref (ga g 43), .int (nI a)] I J F w (MdP I J F w (pasN R a)) := by
  refine ct_start (M := mX5_passes) (by decide +kernel) (Nat.le_of_ble_eq_true rfl) ?_
  intro p e s m args below meth c A X hA
  have X : AX p s m args meth c g A cX5_passes 3 RX5 (Cond.code yX5_passes cX5_passes 3 none) none := X
  show AW p l e (rmM 6 137) s m args below meth c g A 3 0 0 (MQ below (CQ g (hp g I J F w) s.heap.size (fun vv0 hh0 => ∃ II0 JJ0 FF0 ww0, vv0 = none ∧ hh0 = hp g II0 JJ0 FF0 ww0 ∧ (MdP I J F w (pasN R a)) II0 JJ0 FF0 ww0)) args s 0 0 A) 0 [some (.ref (ga g 43)), some (.int (nI a)), none] [] (hp g I J F w)
  have L2 : ∀ (fu : Nat) (k : Nat) (I1 : TI), a - k < fu → (k ≤ a) → (MdP I J F w (pasN R k) I1 J F w) → AW p l e (rmM 6 137) s m args below meth c g A 3 0 0 (MQ below (CQ g (hp g I J F w) s.heap.size (fun vv0 hh0 => ∃ II0 JJ0 FF0 ww0, vv0 = none ∧ hh0 = hp g II0 JJ0 FF0 ww0 ∧ (MdP I J F w (pasN R a)) II0 JJ0 FF0 ww0)) args s 0 0 A) 2 [some (.ref (ga g 43)), some (.int (nI a)), some (.int (nI k))] [] (hp g I1 J F w) := by
    intro fu
    induction fu with
    | zero => intro k I1 hfu; exact absurd hfu (by omega)
    | succ fu ih =>
      intro k I1 hfu hk hI1
      refine a_iload_n X dX5_passes_2 (i := 2) rfl rfl ?_
      refine a_iload_n X dX5_passes_3 (i := 1) rfl rfl ?_
      refine s_icmp_geN X dX5_passes_4 (tgt := 17) (by decide) (by omega) (by omega) (fun hc4 => ?_) (fun hc4 => ?_)
      · skip
        have hk2 : k = a := by omega
        subst hk2
        refine a_vret X hA dX5_passes_17 ?_
        exact ⟨_, _, _, _, rfl, rfl, hI1⟩
      · skip
        refine a_aload_n X dX5_passes_7 (i := 0) rfl rfl ?_
        refine s_callV_Y X dX5_passes_8 lk_X5_148 ko_43 rfl rfl (c_X5_oneNight hI1.1 (okR_pas ok k) (by rw [pas_0]; omega)) ⟨Nat.le_of_ble_eq_true rfl, Nat.le_of_ble_eq_true rfl⟩ rfl rfl (Nat.le_of_ble_eq_true rfl) ⟨Nat.le_of_ble_eq_true rfl, Nat.le_of_ble_eq_true rfl⟩ (fun I2 J2 F2 w2 hpo => ?_)
        refine a_iinc X dX5_passes_11 rfl (v := nI (_ + 1)) (iincN _ 1) (by decide) rfl ?_
        refine a_goto X dX5_passes_14 (tgt := 2) (by decide) ?_
        obtain ⟨e1, e2, rfl, rfl, rfl⟩ := hpo
        exact ih (k + 1) I2 (by omega) (by omega) ⟨e1, fun P q1 q2 q3 => (e2 P q1 q2 q3).trans (hI1.2.1 P q1 q2 q3), rfl, rfl, rfl⟩
  refine a_iconst X dX5_passes_0 (v := nI 0) (by decide +kernel) ?_
  refine a_istore_n X dX5_passes_1 (i := 2) rfl (by decide) rfl ?_
  exact L2 (a + 1) 0 I (by omega) (by omega) ⟨hR, fun _ _ _ _ => rfl, rfl, rfl, rfl⟩
set_option maxRecDepth 100000 in
set_option maxHeartbeats 4000000 in
theorem c_X5_moveAll_t {l : Launch} {g : GG} {I : TI} {J : TJ} {F : TI} {w : Int64} {P : Nat} (hP : KI P 62) (hP4 : P ≠ 44) : UV l g mX5_moveAll [.ref (ga g 43), .int (nI 1), .ref (ga g P)] I J F w (va_up I P (fun k => if k < 62 then I 44 k else I P k)) J F w := by
  refine ct_start (M := mX5_moveAll) (by decide +kernel) (Nat.le_of_ble_eq_true rfl) ?_
  intro p e s m args below meth c A X hA
  have X : AX p s m args meth c g A cX5_moveAll 4 RX5 (Cond.code yX5_moveAll cX5_moveAll 4 none) none := X
  show AW p l e (rmM 0 0) s m args below meth c g A 4 0 0 (MQ below (CQ g (hp g I J F w) s.heap.size (fun vv0 hh0 => vv0 = none ∧ hh0 = hp g (va_up I P (fun k => if k < 62 then I 44 k else I P k)) J F w)) args s 0 0 A) 0 [some (.ref (ga g 43)), some (.int (nI 1)), some (.ref (ga g P)), none] [] (hp g I J F w)
  have L2 : ∀ (fu : Nat) (k : Nat), 62 - k < fu → (k ≤ 62) → AW p l e (rmM 0 0) s m args below meth c g A 4 0 0 (MQ below (CQ g (hp g I J F w) s.heap.size (fun vv0 hh0 => vv0 = none ∧ hh0 = hp g (va_up I P (fun k => if k < 62 then I 44 k else I P k)) J F w)) args s 0 0 A) 2 [some (.ref (ga g 43)), some (.int (nI 1)), some (.ref (ga g P)), some (.int (nI k))] [] (hp g (va_up I P (fun i => if i < k then I 44 i else I P i)) J F w) := by
    intro fu
    induction fu with
    | zero => intro k hfu; exact absurd hfu (by omega)
    | succ fu ih =>
      intro k hfu hk
      refine a_iload_n X dX5_moveAll_2 (i := 3) rfl rfl ?_
      refine a_bipush X dX5_moveAll_3 (v := nI 62) (by decide +kernel) ?_
      refine s_icmp_geN X dX5_moveAll_5 (tgt := 39) (by decide) (by omega) (by omega) (fun hc5 => ?_) (fun hc5 => ?_)
      · skip
        have hk2 : k = 62 := by omega
        subst hk2
        exact a_vret X hA dX5_moveAll_39 ⟨rfl, rfl⟩
      · skip
        refine a_iload_n X dX5_moveAll_8 (i := 1) rfl rfl ?_
        refine a_if_eq X dX5_moveAll_9 (tgt := 24) (by decide) (fun hc9 => ?_) (fun hc9 => ?_)
        · skip
          exact absurd hc9 (by decide +kernel)
        · skip
          refine a_aload_n X dX5_moveAll_12 (i := 2) rfl rfl ?_
          refine a_iload_n X dX5_moveAll_13 (i := 3) rfl rfl ?_
          refine a_aload_n X dX5_moveAll_14 (i := 0) rfl rfl ?_
          refine s_getr X dX5_moveAll_15 fl_X5_7 ko_43 rfl ?_
          refine a_iload_n X dX5_moveAll_18 (i := 3) rfl rfl ?_
          refine s_ild X dX5_moveAll_19 ki_44 (by omega) (by decide) ?_
          refine s_ist X dX5_moveAll_20 hP (by omega) (by decide) ?_
          refine a_goto X dX5_moveAll_21 (tgt := 33) (by decide) ?_
          refine a_iinc X dX5_moveAll_33 rfl (v := nI (_ + 1)) (iincN _ 1) (by decide) rfl ?_
          refine a_goto X dX5_moveAll_36 (tgt := 2) (by decide) ?_
          exact (by have := ih (k + 1) (by omega) (by omega); rw [up_s, up_n _ _ (fun z => hP4 z.symm), bx_uu, cp_step]; exact this)
  refine a_iconst X dX5_moveAll_0 (v := nI 0) (by decide +kernel) ?_
  refine a_istore_n X dX5_moveAll_1 (i := 3) rfl (by decide) rfl ?_
  exact (by have := L2 63 0 (by omega) (by omega); rw [show (va_up I P (fun i => if i < 0 then I 44 i else I P i)) = I from up_self (by intro i; simp)] at this; exact this)
set_option maxRecDepth 100000 in
set_option maxHeartbeats 4000000 in
theorem c_X5_moveAll_f {l : Launch} {g : GG} {I : TI} {J : TJ} {F : TI} {w : Int64} {R : Nat → Nat} (hR : I 44 = nr R) {P : Nat} (hP : KI P 62) (hP4 : P ≠ 44) {Rs : Nat → Nat} (hs : ∀ k, k < 62 → I P k = nI (Rs k)) (hz : ∀ k, 62 ≤ k → Rs k = R k) : UV l g mX5_moveAll [.ref (ga g 43), .int (nI 0), .ref (ga g P)] I J F w (va_up I 44 (nr Rs)) J F w := by
  refine ct_start (M := mX5_moveAll) (by decide +kernel) (Nat.le_of_ble_eq_true rfl) ?_
  intro p e s m args below meth c A X hA
  have X : AX p s m args meth c g A cX5_moveAll 4 RX5 (Cond.code yX5_moveAll cX5_moveAll 4 none) none := X
  show AW p l e (rmM 0 0) s m args below meth c g A 4 0 0 (MQ below (CQ g (hp g I J F w) s.heap.size (fun vv0 hh0 => vv0 = none ∧ hh0 = hp g (va_up I 44 (nr Rs)) J F w)) args s 0 0 A) 0 [some (.ref (ga g 43)), some (.int (nI 0)), some (.ref (ga g P)), none] [] (hp g I J F w)
  have L2 : ∀ (fu : Nat) (k : Nat), 62 - k < fu → (k ≤ 62) → AW p l e (rmM 0 0) s m args below meth c g A 4 0 0 (MQ below (CQ g (hp g I J F w) s.heap.size (fun vv0 hh0 => vv0 = none ∧ hh0 = hp g (va_up I 44 (nr Rs)) J F w)) args s 0 0 A) 2 [some (.ref (ga g 43)), some (.int (nI 0)), some (.ref (ga g P)), some (.int (nI k))] [] (hp g (va_up I 44 (nr (fun i => if i < k then Rs i else R i))) J F w) := by
    intro fu
    induction fu with
    | zero => intro k hfu; exact absurd hfu (by omega)
    | succ fu ih =>
      intro k hfu hk
      refine a_iload_n X dX5_moveAll_2 (i := 3) rfl rfl ?_
      refine a_bipush X dX5_moveAll_3 (v := nI 62) (by decide +kernel) ?_
      refine s_icmp_geN X dX5_moveAll_5 (tgt := 39) (by decide) (by omega) (by omega) (fun hc5 => ?_) (fun hc5 => ?_)
      · skip
        have hk2 : k = 62 := by omega
        subst hk2
        refine a_vret X hA dX5_moveAll_39 ⟨?_, ?_⟩
        · rfl
        · congr 2; funext i; simp only [nr]; split
          · rfl
          · rw [hz i (by omega)]
      · skip
        refine a_iload_n X dX5_moveAll_8 (i := 1) rfl rfl ?_
        refine a_if_eq X dX5_moveAll_9 (tgt := 24) (by decide) (fun hc9 => ?_) (fun hc9 => ?_)
        · skip
          refine a_aload_n X dX5_moveAll_24 (i := 0) rfl rfl ?_
          refine s_getr X dX5_moveAll_25 fl_X5_7 ko_43 rfl ?_
          refine a_iload_n X dX5_moveAll_28 (i := 3) rfl rfl ?_
          refine a_aload_n X dX5_moveAll_29 (i := 2) rfl rfl ?_
          refine a_iload_n X dX5_moveAll_30 (i := 3) rfl rfl ?_
          refine s_ild X dX5_moveAll_31 hP (by omega) (by decide) ?_
          refine s_ist X dX5_moveAll_32 ki_44 (by omega) (by decide) ?_
          refine a_iinc X dX5_moveAll_33 rfl (v := nI (_ + 1)) (iincN _ 1) (by decide) rfl ?_
          refine a_goto X dX5_moveAll_36 (tgt := 2) (by decide) ?_
          exact (by have := ih (k + 1) (by omega) (by omega); rw [up_n _ _ hP4, hs k (by omega), bx_uu, up_s, nr_up, cp_stepN]; exact this)
        · skip
          exact absurd (by decide +kernel) hc9
  refine a_iconst X dX5_moveAll_0 (v := nI 0) (by decide +kernel) ?_
  refine a_istore_n X dX5_moveAll_1 (i := 3) rfl (by decide) rfl ?_
  exact (by have := L2 63 0 (by omega) (by omega); rw [show (va_up I 44 (nr (fun i => if i < 0 then Rs i else R i))) = I from up_self (by intro i; rw [hR]; simp [nr])] at this; exact this)
set_option maxRecDepth 100000 in
set_option maxHeartbeats 4000000 in
theorem c_X5_isKnown {l : Launch} {g : GG} {I : TI} {J : TJ} {F : TI} {w : Int64} {R : Nat → Nat} (hR : I 44 = nr R) (ok : okR R) {a : Nat} (ha : a < R 1) {v : Nat} (hv : v < 10) : UR l g mX5_isKnown [.ref (ga g 43), .int (nI a), .int (nI v)] I J F w (.int (bI ((R (2 + 6 * a + 4)).testBit v))) I J F w := by
  have hn10 := ok.1
  obtain ⟨g0, g1, g2, g3, g4, g5⟩ := ok.2.1 a ha
  refine ct_start (M := mX5_isKnown) (by decide +kernel) (Nat.le_of_ble_eq_true rfl) ?_
  intro p e s m args below meth c A X hA
  have X : AX p s m args meth c g A cX5_isKnown 3 RX5 (Cond.code yX5_isKnown cX5_isKnown 3 (some .boolean)) (some .boolean) := X
  show AW p l e (rmM 1 22) s m args below meth c g A 3 0 0 (MQ below (CQ g (hp g I J F w) s.heap.size (fun vv0 hh0 => vv0 = some (.int (bI ((R (2 + 6 * a + 4)).testBit v))) ∧ hh0 = hp g I J F w)) args s 0 0 A) 0 [some (.ref (ga g 43)), some (.int (nI a)), some (.int (nI v))] [] (hp g I J F w)
  refine a_aload_n X dX5_isKnown_0 (i := 0) rfl rfl ?_
  refine a_iload_n X dX5_isKnown_1 (i := 1) rfl rfl ?_
  refine a_iconst X dX5_isKnown_2 (v := nI 4) (by decide +kernel) ?_
  refine s_callV_R X dX5_isKnown_3 lk_X5_55 ko_43 rfl rfl (c_X5_its hR (by omega)) ⟨Nat.le_of_ble_eq_true rfl, Nat.le_of_ble_eq_true rfl⟩ rfl rfl (Nat.le_of_ble_eq_true rfl) ⟨Nat.le_of_ble_eq_true rfl, Nat.le_of_ble_eq_true rfl⟩ ?_
  refine a_iload_n X dX5_isKnown_6 (i := 2) rfl rfl ?_
  refine a_ishr X dX5_isKnown_7 ?_
  refine a_iconst X dX5_isKnown_8 (v := nI 1) (by decide +kernel) ?_
  refine a_iand X dX5_isKnown_9 ?_
  refine a_iconst X dX5_isKnown_10 (v := nI 1) (by decide +kernel) ?_
  refine a_icmp_ne X dX5_isKnown_11 (tgt := 18) (by decide) (fun hc11 => ?_) (fun hc11 => ?_)
  · skip
    refine a_iconst X dX5_isKnown_18 (v := nI 0) (by decide +kernel) ?_
    refine a_zret X hA dX5_isKnown_19 (by first | exact nar_bI _ | decide +kernel) ⟨?_, ?_⟩
    · congr 2; first | exact bt1 ((set_bit v hv _ g4).mp hc11) | exact bf0 (Bool.eq_false_iff.mpr (fun z => hc11 ((set_bit v hv _ g4).mpr z)))
    · rfl
  · skip
    refine a_iconst X dX5_isKnown_14 (v := nI 1) (by decide +kernel) ?_
    refine a_goto X dX5_isKnown_15 (tgt := 19) (by decide) ?_
    refine a_zret X hA dX5_isKnown_19 (by first | exact nar_bI _ | decide +kernel) ⟨?_, ?_⟩
    · congr 2; first | exact bt1 ((set_bit v hv _ g4).mp hc11) | exact bf0 (Bool.eq_false_iff.mpr (fun z => hc11 ((set_bit v hv _ g4).mpr z)))
    · rfl
set_option maxRecDepth 100000 in
set_option maxHeartbeats 4000000 in
theorem c_X5_isSpread {l : Launch} {g : GG} {I : TI} {J : TJ} {F : TI} {w : Int64} {R : Nat → Nat} (hR : I 44 = nr R) (ok : okR R) {v : Nat} (hv : v < 10) : UR l g mX5_isSpread [.ref (ga g 43), .int (nI v)] I J F w (.int (bI (allB (sprF R v) (R 1)))) I J F w := by
  have hn10 := ok.1
  have h1 : I 44 1 = nI (R 1) := by rw [hR]; rfl
  refine ct_start (M := mX5_isSpread) (by decide +kernel) (Nat.le_of_ble_eq_true rfl) ?_
  intro p e s m args below meth c A X hA
  have X : AX p s m args meth c g A cX5_isSpread 4 RX5 (Cond.code yX5_isSpread cX5_isSpread 4 (some .boolean)) (some .boolean) := X
  show AW p l e (rmM 2 44) s m args below meth c g A 4 0 0 (MQ below (CQ g (hp g I J F w) s.heap.size (fun vv0 hh0 => vv0 = some (.int (bI (allB (sprF R v) (R 1)))) ∧ hh0 = hp g I J F w)) args s 0 0 A) 0 [some (.ref (ga g 43)), some (.int (nI v)), none, none] [] (hp g I J F w)
  have L4 : ∀ (fu : Nat) (k : Nat), R 1 - k < fu → (k ≤ R 1) → AW p l e (rmM 2 44) s m args below meth c g A 4 0 0 (MQ below (CQ g (hp g I J F w) s.heap.size (fun vv0 hh0 => vv0 = some (.int (bI (allB (sprF R v) (R 1)))) ∧ hh0 = hp g I J F w)) args s 0 0 A) 4 [some (.ref (ga g 43)), some (.int (nI v)), some (.int (bI (allB (sprF R v) k))), some (.int (nI k))] [] (hp g I J F w) := by
    intro fu
    induction fu with
    | zero => intro k hfu; exact absurd hfu (by omega)
    | succ fu ih =>
      intro k hfu hk
      refine a_iload_n X dX5_isSpread_4 (i := 3) rfl rfl ?_
      refine a_aload_n X dX5_isSpread_5 (i := 0) rfl rfl ?_
      refine s_getr X dX5_isSpread_6 fl_X5_7 ko_43 rfl ?_
      refine a_iconst X dX5_isSpread_9 (v := nI 1) (by decide +kernel) ?_
      refine s_ild X dX5_isSpread_10 ki_44 (by omega) (by decide) ?_
      rw [h1]
      refine s_icmp_geN X dX5_isSpread_11 (tgt := 59) (by decide) (by omega) (by omega) (fun hc11 => ?_) (fun hc11 => ?_)
      · skip
        have hk2 : k = R 1 := by omega
        subst hk2
        refine a_iload_n X dX5_isSpread_59 (i := 2) rfl rfl ?_
        exact a_zret X hA dX5_isSpread_60 (by first | exact nar_bI _ | decide +kernel) ⟨rfl, rfl⟩
      · skip
        have hlt : k < R 1 := by omega
        obtain ⟨g0, g1, g2, g3, g4, g5⟩ := ok.2.1 k hlt
        refine a_iload_n X dX5_isSpread_14 (i := 2) rfl rfl ?_
        refine a_if_eq X dX5_isSpread_15 (tgt := 51) (by decide) (fun hc15 => ?_) (fun hc15 => ?_)
        · skip
          try simp only [bI_0, Bool.not_eq_false] at hc15
          refine a_iconst X dX5_isSpread_51 (v := nI 0) (by decide +kernel) ?_
          refine a_istore_n X dX5_isSpread_52 (i := 2) rfl (by decide) rfl ?_
          refine a_iinc X dX5_isSpread_53 rfl (v := nI (_ + 1)) (iincN _ 1) (by decide) rfl ?_
          refine a_goto X dX5_isSpread_56 (tgt := 4) (by decide) ?_
          exact (by have := ih (k + 1) (by omega) (by omega); first | (rw [show bI (allB (sprF R v) (k + 1)) = nI 0 from (by refine (bf0 ?_).symm; simp [allB, sprF, -Nat.add_zero, *])] at this; exact this) | (rw [show bI (allB (sprF R v) (k + 1)) = nI 1 from (by refine (bt1 ?_).symm; simp [allB, sprF, -Nat.add_zero, *])] at this; exact this))
        · skip
          try simp only [bI_0, Bool.not_eq_false] at hc15
          refine a_aload_n X dX5_isSpread_18 (i := 0) rfl rfl ?_
          refine a_iload_n X dX5_isSpread_19 (i := 3) rfl rfl ?_
          refine a_iconst X dX5_isSpread_20 (v := nI 0) (by decide +kernel) ?_
          refine s_callV_R X dX5_isSpread_21 lk_X5_55 ko_43 rfl rfl (c_X5_its hR (by omega)) ⟨Nat.le_of_ble_eq_true rfl, Nat.le_of_ble_eq_true rfl⟩ rfl rfl (Nat.le_of_ble_eq_true rfl) ⟨Nat.le_of_ble_eq_true rfl, Nat.le_of_ble_eq_true rfl⟩ ?_
          refine a_iconst X dX5_isSpread_24 (v := nI 3) (by decide +kernel) ?_
          refine s_icmp_eqN X dX5_isSpread_25 (tgt := 47) (by decide) (by omega) (by omega) (fun hc25 => ?_) (fun hc25 => ?_)
          · skip
            refine a_iconst X dX5_isSpread_47 (v := nI 1) (by decide +kernel) ?_
            refine a_goto X dX5_isSpread_48 (tgt := 52) (by decide) ?_
            refine a_istore_n X dX5_isSpread_52 (i := 2) rfl (by decide) rfl ?_
            refine a_iinc X dX5_isSpread_53 rfl (v := nI (_ + 1)) (iincN _ 1) (by decide) rfl ?_
            refine a_goto X dX5_isSpread_56 (tgt := 4) (by decide) ?_
            exact (by have := ih (k + 1) (by omega) (by omega); first | (rw [show bI (allB (sprF R v) (k + 1)) = nI 0 from (by refine (bf0 ?_).symm; simp [allB, sprF, -Nat.add_zero, *])] at this; exact this) | (rw [show bI (allB (sprF R v) (k + 1)) = nI 1 from (by refine (bt1 ?_).symm; simp [allB, sprF, -Nat.add_zero, *])] at this; exact this))
          · skip
            refine a_aload_n X dX5_isSpread_28 (i := 0) rfl rfl ?_
            refine a_iload_n X dX5_isSpread_29 (i := 3) rfl rfl ?_
            refine a_iconst X dX5_isSpread_30 (v := nI 2) (by decide +kernel) ?_
            refine s_callV_R X dX5_isSpread_31 lk_X5_55 ko_43 rfl rfl (c_X5_its hR (by omega)) ⟨Nat.le_of_ble_eq_true rfl, Nat.le_of_ble_eq_true rfl⟩ rfl rfl (Nat.le_of_ble_eq_true rfl) ⟨Nat.le_of_ble_eq_true rfl, Nat.le_of_ble_eq_true rfl⟩ ?_
            refine a_iload_n X dX5_isSpread_34 (i := 1) rfl rfl ?_
            refine s_icmp_eqN X dX5_isSpread_35 (tgt := 47) (by decide) (by omega) (by omega) (fun hc35 => ?_) (fun hc35 => ?_)
            · skip
              refine a_iconst X dX5_isSpread_47 (v := nI 1) (by decide +kernel) ?_
              refine a_goto X dX5_isSpread_48 (tgt := 52) (by decide) ?_
              refine a_istore_n X dX5_isSpread_52 (i := 2) rfl (by decide) rfl ?_
              refine a_iinc X dX5_isSpread_53 rfl (v := nI (_ + 1)) (iincN _ 1) (by decide) rfl ?_
              refine a_goto X dX5_isSpread_56 (tgt := 4) (by decide) ?_
              exact (by have := ih (k + 1) (by omega) (by omega); first | (rw [show bI (allB (sprF R v) (k + 1)) = nI 0 from (by refine (bf0 ?_).symm; simp [allB, sprF, -Nat.add_zero, *])] at this; exact this) | (rw [show bI (allB (sprF R v) (k + 1)) = nI 1 from (by refine (bt1 ?_).symm; simp [allB, sprF, -Nat.add_zero, *])] at this; exact this))
            · skip
              refine a_aload_n X dX5_isSpread_38 (i := 0) rfl rfl ?_
              refine a_iload_n X dX5_isSpread_39 (i := 3) rfl rfl ?_
              refine a_iload_n X dX5_isSpread_40 (i := 1) rfl rfl ?_
              refine s_callV_R X dX5_isSpread_41 lk_X5_160 ko_43 rfl rfl (c_X5_isKnown hR ok hlt hv) ⟨Nat.le_of_ble_eq_true rfl, Nat.le_of_ble_eq_true rfl⟩ rfl rfl (Nat.le_of_ble_eq_true rfl) ⟨Nat.le_of_ble_eq_true rfl, Nat.le_of_ble_eq_true rfl⟩ ?_
              refine a_if_eq X dX5_isSpread_44 (tgt := 51) (by decide) (fun hc44 => ?_) (fun hc44 => ?_)
              · skip
                try simp only [bI_0, Bool.not_eq_false] at hc44
                refine a_iconst X dX5_isSpread_51 (v := nI 0) (by decide +kernel) ?_
                refine a_istore_n X dX5_isSpread_52 (i := 2) rfl (by decide) rfl ?_
                refine a_iinc X dX5_isSpread_53 rfl (v := nI (_ + 1)) (iincN _ 1) (by decide) rfl ?_
                refine a_goto X dX5_isSpread_56 (tgt := 4) (by decide) ?_
                exact (by have := ih (k + 1) (by omega) (by omega); first | (rw [show bI (allB (sprF R v) (k + 1)) = nI 0 from (by refine (bf0 ?_).symm; simp [allB, sprF, -Nat.add_zero, *])] at this; exact this) | (rw [show bI (allB (sprF R v) (k + 1)) = nI 1 from (by refine (bt1 ?_).symm; simp [allB, sprF, -Nat.add_zero, *])] at this; exact this))
              · skip
                try simp only [bI_0, Bool.not_eq_false] at hc44
                refine a_iconst X dX5_isSpread_47 (v := nI 1) (by decide +kernel) ?_
                refine a_goto X dX5_isSpread_48 (tgt := 52) (by decide) ?_
                refine a_istore_n X dX5_isSpread_52 (i := 2) rfl (by decide) rfl ?_
                refine a_iinc X dX5_isSpread_53 rfl (v := nI (_ + 1)) (iincN _ 1) (by decide) rfl ?_
                refine a_goto X dX5_isSpread_56 (tgt := 4) (by decide) ?_
                exact (by have := ih (k + 1) (by omega) (by omega); first | (rw [show bI (allB (sprF R v) (k + 1)) = nI 0 from (by refine (bf0 ?_).symm; simp [allB, sprF, -Nat.add_zero, *])] at this; exact this) | (rw [show bI (allB (sprF R v) (k + 1)) = nI 1 from (by refine (bt1 ?_).symm; simp [allB, sprF, -Nat.add_zero, *])] at this; exact this))
  refine a_iconst X dX5_isSpread_0 (v := nI 1) (by decide +kernel) ?_
  refine a_istore_n X dX5_isSpread_1 (i := 2) rfl (by decide) rfl ?_
  refine a_iconst X dX5_isSpread_2 (v := nI 0) (by decide +kernel) ?_
  refine a_istore_n X dX5_isSpread_3 (i := 3) rfl (by decide) rfl ?_
  exact L4 (R 1 + 1) 0 (by omega) (by omega)
set_option maxRecDepth 100000 in
set_option maxHeartbeats 4000000 in
theorem c_X5_isHeresy {l : Launch} {g : GG} {I : TI} {J : TJ} {F : TI} {w : Int64} {R : Nat → Nat} (hR : I 44 = nr R) (ok : okR R) : UR l g mX5_isHeresy [.ref (ga g 43)] I J F w (.int (bI (anyB (herF R) (R 1)))) I J F w := by
  have hn10 := ok.1
  have h1 : I 44 1 = nI (R 1) := by rw [hR]; rfl
  refine ct_start (M := mX5_isHeresy) (by decide +kernel) (Nat.le_of_ble_eq_true rfl) ?_
  intro p e s m args below meth c A X hA
  have X : AX p s m args meth c g A cX5_isHeresy 3 RX5 (Cond.code yX5_isHeresy cX5_isHeresy 3 (some .boolean)) (some .boolean) := X
  show AW p l e (rmM 2 44) s m args below meth c g A 3 0 0 (MQ below (CQ g (hp g I J F w) s.heap.size (fun vv0 hh0 => vv0 = some (.int (bI (anyB (herF R) (R 1)))) ∧ hh0 = hp g I J F w)) args s 0 0 A) 0 [some (.ref (ga g 43)), none, none] [] (hp g I J F w)
  have L4 : ∀ (fu : Nat) (k : Nat), R 1 - k < fu → (k ≤ R 1) → AW p l e (rmM 2 44) s m args below meth c g A 3 0 0 (MQ below (CQ g (hp g I J F w) s.heap.size (fun vv0 hh0 => vv0 = some (.int (bI (anyB (herF R) (R 1)))) ∧ hh0 = hp g I J F w)) args s 0 0 A) 4 [some (.ref (ga g 43)), some (.int (bI (anyB (herF R) k))), some (.int (nI k))] [] (hp g I J F w) := by
    intro fu
    induction fu with
    | zero => intro k hfu; exact absurd hfu (by omega)
    | succ fu ih =>
      intro k hfu hk
      refine a_iload_n X dX5_isHeresy_4 (i := 2) rfl rfl ?_
      refine a_aload_n X dX5_isHeresy_5 (i := 0) rfl rfl ?_
      refine s_getr X dX5_isHeresy_6 fl_X5_7 ko_43 rfl ?_
      refine a_iconst X dX5_isHeresy_9 (v := nI 1) (by decide +kernel) ?_
      refine s_ild X dX5_isHeresy_10 ki_44 (by omega) (by decide) ?_
      rw [h1]
      refine s_icmp_geN X dX5_isHeresy_11 (tgt := 44) (by decide) (by omega) (by omega) (fun hc11 => ?_) (fun hc11 => ?_)
      · skip
        have hk2 : k = R 1 := by omega
        subst hk2
        refine a_iload_n X dX5_isHeresy_44 (i := 1) rfl rfl ?_
        exact a_zret X hA dX5_isHeresy_45 (by first | exact nar_bI _ | decide +kernel) ⟨rfl, rfl⟩
      · skip
        have hlt : k < R 1 := by omega
        obtain ⟨g0, g1, g2, g3, g4, g5⟩ := ok.2.1 k hlt
        refine a_iload_n X dX5_isHeresy_14 (i := 1) rfl rfl ?_
        refine a_if_ne X dX5_isHeresy_15 (tgt := 32) (by decide) (fun hc15 => ?_) (fun hc15 => ?_)
        · skip
          try simp only [bI_0, Bool.not_eq_false] at hc15
          refine a_iconst X dX5_isHeresy_32 (v := nI 1) (by decide +kernel) ?_
          refine a_goto X dX5_isHeresy_33 (tgt := 37) (by decide) ?_
          refine a_istore_n X dX5_isHeresy_37 (i := 1) rfl (by decide) rfl ?_
          refine a_iinc X dX5_isHeresy_38 rfl (v := nI (_ + 1)) (iincN _ 1) (by decide) rfl ?_
          refine a_goto X dX5_isHeresy_41 (tgt := 4) (by decide) ?_
          exact (by have := ih (k + 1) (by omega) (by omega); first | (rw [show bI (anyB (herF R) (k + 1)) = nI 0 from (by refine (bf0 ?_).symm; simp [anyB, herF, -Nat.add_zero, *])] at this; exact this) | (rw [show bI (anyB (herF R) (k + 1)) = nI 1 from (by refine (bt1 ?_).symm; simp [anyB, herF, -Nat.add_zero, *])] at this; exact this))
        · skip
          try simp only [bI_0, Bool.not_eq_false] at hc15
          refine a_aload_n X dX5_isHeresy_18 (i := 0) rfl rfl ?_
          refine a_iload_n X dX5_isHeresy_19 (i := 2) rfl rfl ?_
          refine a_aload_n X dX5_isHeresy_20 (i := 0) rfl rfl ?_
          refine a_iload_n X dX5_isHeresy_21 (i := 2) rfl rfl ?_
          refine a_iconst X dX5_isHeresy_22 (v := nI 2) (by decide +kernel) ?_
          refine s_callV_R X dX5_isHeresy_23 lk_X5_55 ko_43 rfl rfl (c_X5_its hR (by omega)) ⟨Nat.le_of_ble_eq_true rfl, Nat.le_of_ble_eq_true rfl⟩ rfl rfl (Nat.le_of_ble_eq_true rfl) ⟨Nat.le_of_ble_eq_true rfl, Nat.le_of_ble_eq_true rfl⟩ ?_
          refine s_callV_R X dX5_isHeresy_26 lk_X5_160 ko_43 rfl rfl (c_X5_isKnown hR ok hlt g2) ⟨Nat.le_of_ble_eq_true rfl, Nat.le_of_ble_eq_true rfl⟩ rfl rfl (Nat.le_of_ble_eq_true rfl) ⟨Nat.le_of_ble_eq_true rfl, Nat.le_of_ble_eq_true rfl⟩ ?_
          refine a_if_eq X dX5_isHeresy_29 (tgt := 36) (by decide) (fun hc29 => ?_) (fun hc29 => ?_)
          · skip
            try simp only [bI_0, Bool.not_eq_false] at hc29
            refine a_iconst X dX5_isHeresy_36 (v := nI 0) (by decide +kernel) ?_
            refine a_istore_n X dX5_isHeresy_37 (i := 1) rfl (by decide) rfl ?_
            refine a_iinc X dX5_isHeresy_38 rfl (v := nI (_ + 1)) (iincN _ 1) (by decide) rfl ?_
            refine a_goto X dX5_isHeresy_41 (tgt := 4) (by decide) ?_
            exact (by have := ih (k + 1) (by omega) (by omega); first | (rw [show bI (anyB (herF R) (k + 1)) = nI 0 from (by refine (bf0 ?_).symm; simp [anyB, herF, -Nat.add_zero, *])] at this; exact this) | (rw [show bI (anyB (herF R) (k + 1)) = nI 1 from (by refine (bt1 ?_).symm; simp [anyB, herF, -Nat.add_zero, *])] at this; exact this))
          · skip
            try simp only [bI_0, Bool.not_eq_false] at hc29
            refine a_iconst X dX5_isHeresy_32 (v := nI 1) (by decide +kernel) ?_
            refine a_goto X dX5_isHeresy_33 (tgt := 37) (by decide) ?_
            refine a_istore_n X dX5_isHeresy_37 (i := 1) rfl (by decide) rfl ?_
            refine a_iinc X dX5_isHeresy_38 rfl (v := nI (_ + 1)) (iincN _ 1) (by decide) rfl ?_
            refine a_goto X dX5_isHeresy_41 (tgt := 4) (by decide) ?_
            exact (by have := ih (k + 1) (by omega) (by omega); first | (rw [show bI (anyB (herF R) (k + 1)) = nI 0 from (by refine (bf0 ?_).symm; simp [anyB, herF, -Nat.add_zero, *])] at this; exact this) | (rw [show bI (anyB (herF R) (k + 1)) = nI 1 from (by refine (bt1 ?_).symm; simp [anyB, herF, -Nat.add_zero, *])] at this; exact this))
  refine a_iconst X dX5_isHeresy_0 (v := nI 0) (by decide +kernel) ?_
  refine a_istore_n X dX5_isHeresy_1 (i := 1) rfl (by decide) rfl ?_
  refine a_iconst X dX5_isHeresy_2 (v := nI 0) (by decide +kernel) ?_
  refine a_istore_n X dX5_isHeresy_3 (i := 2) rfl (by decide) rfl ?_
  exact L4 (R 1 + 1) 0 (by omega) (by omega)
