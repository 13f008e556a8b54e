set_option maxRecDepth 100000 in
set_option maxHeartbeats 4000000 in
theorem c_X0_become {l : Launch} {g : GG} {I : TI} {J : TJ} {F : TI} {w : Int64} {b b2 : Nat} (hb : isB b) (hb2 : isB b2) (hne : b ≠ b2) {R : Nat → Nat} (ok : okR R) (hC : Ch I F b2 R) : VV l g mX0_become [.ref (ga g b), .ref (ga g b2)] I J F w (ChP I J F w b R) := by
  refine ct_start (M := mX0_become) (by decide +kernel) (Nat.le_of_ble_eq_true rfl) ?_
  intro p e s m args below meth c A X hA
  have X : AX p s m args meth c g A cX0_become 2 RX0 (Cond.code yX0_become cX0_become 2 none) none := X
  show AW p l e (rmM 1 26) s m args below meth c g A 2 0 0 (MQ below (CQ g (hp g I J F w) s.heap.size (fun vv0 hh0 => ∃ II0 JJ0 FF0 ww0, vv0 = none ∧ hh0 = hp g II0 JJ0 FF0 ww0 ∧ (ChP I J F w b R) II0 JJ0 FF0 ww0)) args s 0 0 A) 0 [some (.ref (ga g b)), some (.ref (ga g b2))] [] (hp g I J F w)
  refine a_aload_n X dX0_become_0 (i := 0) rfl rfl ?_
  refine a_aload_n X dX0_become_1 (i := 1) rfl rfl ?_
  refine s_geti X dX0_become_2 fl_X0_9 (ko_b hb2) rfl ?_
  refine s_puti X dX0_become_5 fp_X0_9 (ko_b hb) rfl rfl rfl ?_
  refine a_aload_n X dX0_become_8 (i := 0) rfl rfl ?_
  refine a_aload_n X dX0_become_9 (i := 1) rfl rfl ?_
  refine s_geti X dX0_become_10 fl_X0_15 (ko_b hb2) rfl ?_
  refine s_puti X dX0_become_13 fp_X0_15 (ko_b hb) rfl rfl rfl ?_
  refine a_aload_n X dX0_become_16 (i := 1) rfl rfl ?_
  refine s_getr X dX0_become_17 fl_X0_18 (ko_b hb2) rfl ?_
  refine a_iconst X dX0_become_20 (v := nI 0) (by decide +kernel) ?_
  refine a_aload_n X dX0_become_21 (i := 0) rfl rfl ?_
  refine s_getr X dX0_become_22 fl_X0_18 (ko_b hb) rfl ?_
  refine a_iconst X dX0_become_25 (v := nI 0) (by decide +kernel) ?_
  refine a_bipush X dX0_become_26 (v := nI 10) (by decide +kernel) ?_
  refine s_copyi X dX0_become_28 ml_X0_52 (ki_b1 hb2) (ki_b1 hb) ⟨by decide, by decide⟩ (by decide) (by decide) ⟨Nat.le_of_ble_eq_true rfl, Nat.le_of_ble_eq_true rfl⟩ ?_
  generalize hI1 : va_up I (b + 1) (va_cpy (I (b2 + 1)) (I (b + 1)) 0 0 10) = I1x
  have f1 : ∀ Q, Q ≠ b + 1 → I1x Q = I Q := fun Q hQ => by rw [← hI1, up_n _ _ hQ]
  have e1 : ∀ i, i < 10 → I1x (b + 1) i = I (b2 + 1) i := fun i hi => by rw [← hI1, up_s, cpy_at hi]
  refine a_aload_n X dX0_become_31 (i := 1) rfl rfl ?_
  refine s_getr X dX0_become_32 fl_X0_22 (ko_b hb2) rfl ?_
  refine a_iconst X dX0_become_35 (v := nI 0) (by decide +kernel) ?_
  refine a_aload_n X dX0_become_36 (i := 0) rfl rfl ?_
  refine s_getr X dX0_become_37 fl_X0_22 (ko_b hb) rfl ?_
  refine a_iconst X dX0_become_40 (v := nI 0) (by decide +kernel) ?_
  refine a_bipush X dX0_become_41 (v := nI 10) (by decide +kernel) ?_
  refine s_copyi X dX0_become_43 ml_X0_52 (ki_b2 hb2) (ki_b2 hb) ⟨by decide, by decide⟩ (by decide) (by decide) ⟨Nat.le_of_ble_eq_true rfl, Nat.le_of_ble_eq_true rfl⟩ ?_
  generalize hI2 : va_up I1x (b + 2) (va_cpy (I1x (b2 + 2)) (I1x (b + 2)) 0 0 10) = I2x
  have f2 : ∀ Q, Q ≠ b + 2 → I2x Q = I1x Q := fun Q hQ => by rw [← hI2, up_n _ _ hQ]
  have e2 : ∀ i, i < 10 → I2x (b + 2) i = I1x (b2 + 2) i := fun i hi => by rw [← hI2, up_s, cpy_at hi]
  refine a_aload_n X dX0_become_46 (i := 1) rfl rfl ?_
  refine s_getr X dX0_become_47 fl_X0_25 (ko_b hb2) rfl ?_
  refine a_iconst X dX0_become_50 (v := nI 0) (by decide +kernel) ?_
  refine a_aload_n X dX0_become_51 (i := 0) rfl rfl ?_
  refine s_getr X dX0_become_52 fl_X0_25 (ko_b hb) rfl ?_
  refine a_iconst X dX0_become_55 (v := nI 0) (by decide +kernel) ?_
  refine a_bipush X dX0_become_56 (v := nI 10) (by decide +kernel) ?_
  refine s_copyi X dX0_become_58 ml_X0_52 (ki_b3 hb2) (ki_b3 hb) ⟨by decide, by decide⟩ (by decide) (by decide) ⟨Nat.le_of_ble_eq_true rfl, Nat.le_of_ble_eq_true rfl⟩ ?_
  generalize hI3 : va_up I2x (b + 3) (va_cpy (I2x (b2 + 3)) (I2x (b + 3)) 0 0 10) = I3x
  have f3 : ∀ Q, Q ≠ b + 3 → I3x Q = I2x Q := fun Q hQ => by rw [← hI3, up_n _ _ hQ]
  have e3 : ∀ i, i < 10 → I3x (b + 3) i = I2x (b2 + 3) i := fun i hi => by rw [← hI3, up_s, cpy_at hi]
  refine a_aload_n X dX0_become_61 (i := 1) rfl rfl ?_
  refine s_getr X dX0_become_62 fl_X0_28 (ko_b hb2) rfl ?_
  refine a_iconst X dX0_become_65 (v := nI 0) (by decide +kernel) ?_
  refine a_aload_n X dX0_become_66 (i := 0) rfl rfl ?_
  refine s_getr X dX0_become_67 fl_X0_28 (ko_b hb) rfl ?_
  refine a_iconst X dX0_become_70 (v := nI 0) (by decide +kernel) ?_
  refine a_bipush X dX0_become_71 (v := nI 10) (by decide +kernel) ?_
  refine s_copyi X dX0_become_73 ml_X0_52 (ki_b4 hb2) (ki_b4 hb) ⟨by decide, by decide⟩ (by decide) (by decide) ⟨Nat.le_of_ble_eq_true rfl, Nat.le_of_ble_eq_true rfl⟩ ?_
  generalize hI4 : va_up I3x (b + 4) (va_cpy (I3x (b2 + 4)) (I3x (b + 4)) 0 0 10) = I4x
  have f4 : ∀ Q, Q ≠ b + 4 → I4x Q = I3x Q := fun Q hQ => by rw [← hI4, up_n _ _ hQ]
  have e4 : ∀ i, i < 10 → I4x (b + 4) i = I3x (b2 + 4) i := fun i hi => by rw [← hI4, up_s, cpy_at hi]
  refine a_aload_n X dX0_become_76 (i := 1) rfl rfl ?_
  refine s_getr X dX0_become_77 fl_X0_31 (ko_b hb2) rfl ?_
  refine a_iconst X dX0_become_80 (v := nI 0) (by decide +kernel) ?_
  refine a_aload_n X dX0_become_81 (i := 0) rfl rfl ?_
  refine s_getr X dX0_become_82 fl_X0_31 (ko_b hb) rfl ?_
  refine a_iconst X dX0_become_85 (v := nI 0) (by decide +kernel) ?_
  refine a_bipush X dX0_become_86 (v := nI 10) (by decide +kernel) ?_
  refine s_copyi X dX0_become_88 ml_X0_52 (ki_b5 hb2) (ki_b5 hb) ⟨by decide, by decide⟩ (by decide) (by decide) ⟨Nat.le_of_ble_eq_true rfl, Nat.le_of_ble_eq_true rfl⟩ ?_
  generalize hI5 : va_up I4x (b + 5) (va_cpy (I4x (b2 + 5)) (I4x (b + 5)) 0 0 10) = I5x
  have f5 : ∀ Q, Q ≠ b + 5 → I5x Q = I4x Q := fun Q hQ => by rw [← hI5, up_n _ _ hQ]
  have e5 : ∀ i, i < 10 → I5x (b + 5) i = I4x (b2 + 5) i := fun i hi => by rw [← hI5, up_s, cpy_at hi]
  refine a_aload_n X dX0_become_91 (i := 1) rfl rfl ?_
  refine s_getr X dX0_become_92 fl_X0_34 (ko_b hb2) rfl ?_
  refine a_iconst X dX0_become_95 (v := nI 0) (by decide +kernel) ?_
  refine a_aload_n X dX0_become_96 (i := 0) rfl rfl ?_
  refine s_getr X dX0_become_97 fl_X0_34 (ko_b hb) rfl ?_
  refine a_iconst X dX0_become_100 (v := nI 0) (by decide +kernel) ?_
  refine a_bipush X dX0_become_101 (v := nI 10) (by decide +kernel) ?_
  refine s_copyi X dX0_become_103 ml_X0_52 (ki_b6 hb2) (ki_b6 hb) ⟨by decide, by decide⟩ (by decide) (by decide) ⟨Nat.le_of_ble_eq_true rfl, Nat.le_of_ble_eq_true rfl⟩ ?_
  generalize hI6 : va_up I5x (b + 6) (va_cpy (I5x (b2 + 6)) (I5x (b + 6)) 0 0 10) = I6x
  have f6 : ∀ Q, Q ≠ b + 6 → I6x Q = I5x Q := fun Q hQ => by rw [← hI6, up_n _ _ hQ]
  have e6 : ∀ i, i < 10 → I6x (b + 6) i = I5x (b2 + 6) i := fun i hi => by rw [← hI6, up_s, cpy_at hi]
  refine a_aload_n X dX0_become_106 (i := 1) rfl rfl ?_
  refine s_getr X dX0_become_107 fl_X0_37 (ko_b hb2) rfl ?_
  refine a_iconst X dX0_become_110 (v := nI 0) (by decide +kernel) ?_
  refine a_aload_n X dX0_become_111 (i := 0) rfl rfl ?_
  refine s_getr X dX0_become_112 fl_X0_37 (ko_b hb) rfl ?_
  refine a_iconst X dX0_become_115 (v := nI 0) (by decide +kernel) ?_
  refine a_bipush X dX0_become_116 (v := nI 12) (by decide +kernel) ?_
  refine s_copyi X dX0_become_118 ml_X0_52 (ki_b7 hb2) (ki_b7 hb) ⟨by decide, by decide⟩ (by decide) (by decide) ⟨Nat.le_of_ble_eq_true rfl, Nat.le_of_ble_eq_true rfl⟩ ?_
  generalize hI7 : va_up I6x (b + 7) (va_cpy (I6x (b2 + 7)) (I6x (b + 7)) 0 0 12) = I7x
  have f7 : ∀ Q, Q ≠ b + 7 → I7x Q = I6x Q := fun Q hQ => by rw [← hI7, up_n _ _ hQ]
  have e7 : ∀ i, i < 12 → I7x (b + 7) i = I6x (b2 + 7) i := fun i hi => by rw [← hI7, up_s, cpy_at hi]
  refine a_vret X hA dX0_become_121 ?_
  have hd : ∀ i j, i ≤ 9 → j ≤ 9 → b2 + i ≠ b + j := by unfold isB at hb hb2; omega
  refine ⟨_, _, _, _, rfl, rfl, ?_⟩
  refine become_ok hb hb2 hne ok hC (fun Q hQ => ⟨?_, ?_⟩) ?_ ?_ (fun j hj1 hj2 i hi => ?_) (fun i hi => ?_)
  · rw [f7 Q (by omega)]; rw [f6 Q (by omega)]; rw [f5 Q (by omega)]; rw [f4 Q (by omega)]; rw [f3 Q (by omega)]; rw [f2 Q (by omega)]; rw [f1 Q (by omega)]
  · rw [up_n _ _ (by omega), up_n _ _ (by omega)]
  · rw [up_s, up_n _ _ (by decide), up_s, up_s]
  · rw [up_s, up_s, up_n _ _ (fun z => hne z.symm)]
  · rcases (show j = 1 ∨ j = 2 ∨ j = 3 ∨ j = 4 ∨ j = 5 ∨ j = 6 by omega) with rfl | rfl | rfl | rfl | rfl | rfl
    · rw [f7 (b + 1) (by omega)]; rw [f6 (b + 1) (by omega)]; rw [f5 (b + 1) (by omega)]; rw [f4 (b + 1) (by omega)]; rw [f3 (b + 1) (by omega)]; rw [f2 (b + 1) (by omega)]; rw [e1 i hi]
    · rw [f7 (b + 2) (by omega)]; rw [f6 (b + 2) (by omega)]; rw [f5 (b + 2) (by omega)]; rw [f4 (b + 2) (by omega)]; rw [f3 (b + 2) (by omega)]; rw [e2 i hi]; rw [f1 (b2 + 2) (by have := hd 2 1 (by decide) (by decide); omega)]
    · rw [f7 (b + 3) (by omega)]; rw [f6 (b + 3) (by omega)]; rw [f5 (b + 3) (by omega)]; rw [f4 (b + 3) (by omega)]; rw [e3 i hi]; rw [f2 (b2 + 3) (by have := hd 3 2 (by decide) (by decide); omega)]; rw [f1 (b2 + 3) (by have := hd 3 1 (by decide) (by decide); omega)]
    · rw [f7 (b + 4) (by omega)]; rw [f6 (b + 4) (by omega)]; rw [f5 (b + 4) (by omega)]; rw [e4 i hi]; rw [f3 (b2 + 4) (by have := hd 4 3 (by decide) (by decide); omega)]; rw [f2 (b2 + 4) (by have := hd 4 2 (by decide) (by decide); omega)]; rw [f1 (b2 + 4) (by have := hd 4 1 (by decide) (by decide); omega)]
    · rw [f7 (b + 5) (by omega)]; rw [f6 (b + 5) (by omega)]; rw [e5 i hi]; rw [f4 (b2 + 5) (by have := hd 5 4 (by decide) (by decide); omega)]; rw [f3 (b2 + 5) (by have := hd 5 3 (by decide) (by decide); omega)]; rw [f2 (b2 + 5) (by have := hd 5 2 (by decide) (by decide); omega)]; rw [f1 (b2 + 5) (by have := hd 5 1 (by decide) (by decide); omega)]
    · rw [f7 (b + 6) (by omega)]; rw [e6 i hi]; rw [f5 (b2 + 6) (by have := hd 6 5 (by decide) (by decide); omega)]; rw [f4 (b2 + 6) (by have := hd 6 4 (by decide) (by decide); omega)]; rw [f3 (b2 + 6) (by have := hd 6 3 (by decide) (by decide); omega)]; rw [f2 (b2 + 6) (by have := hd 6 2 (by decide) (by decide); omega)]; rw [f1 (b2 + 6) (by have := hd 6 1 (by decide) (by decide); omega)]
  · rw [e7 i hi]; rw [f6 (b2 + 7) (by have := hd 7 6 (by decide) (by decide); omega)]; rw [f5 (b2 + 7) (by have := hd 7 5 (by decide) (by decide); omega)]; rw [f4 (b2 + 7) (by have := hd 7 4 (by decide) (by decide); omega)]; rw [f3 (b2 + 7) (by have := hd 7 3 (by decide) (by decide); omega)]; rw [f2 (b2 + 7) (by have := hd 7 2 (by decide) (by decide); omega)]; rw [f1 (b2 + 7) (by have := hd 7 1 (by decide) (by decide); omega)]
set_option maxRecDepth 100000 in
set_option maxHeartbeats 4000000 in
theorem c_X0_reseat {l : Launch} {g : GG} {I : TI} {J : TJ} {F : TI} {w : Int64} {b : Nat} (hb : isB b) {R : Nat → Nat} (ok : okR R) (hC : Ch I F b R) {a x : Nat} (ha : a < R 1) (hx : x < 12) : UV l g mX0_reseat [.ref (ga g b), .int (nI a), .int (nI x)] I J F w (va_up (va_up I (b + 7) (upd (upd (I (b + 7)) (R (2 + 6 * a + 1)) (-1)) x (nI a))) (b + 2) (upd (I (b + 2)) a (nI x))) J F w := by
  have hn10 := ok.1
  obtain ⟨c0, c1, cm, cs⟩ := hC
  obtain ⟨m0, m1, m2, m3, m4, m5⟩ := cm a ha
  obtain ⟨g0, g1, g2, g3, g4, g5⟩ := ok.2.1 a ha
  refine ct_start (M := mX0_reseat) (by decide +kernel) (Nat.le_of_ble_eq_true rfl) ?_
  intro p e s m args below meth c A X hA
  have X : AX p s m args meth c g A cX0_reseat 3 RX0 (Cond.code yX0_reseat cX0_reseat 3 none) none := X
  show AW p l e (rmM 0 0) s m args below meth c g A 3 0 0 (MQ below (CQ g (hp g I J F w) s.heap.size (fun vv0 hh0 => vv0 = none ∧ hh0 = hp g (va_up (va_up I (b + 7) (upd (upd (I (b + 7)) (R (2 + 6 * a + 1)) (-1)) x (nI a))) (b + 2) (upd (I (b + 2)) a (nI x))) J F w)) args s 0 0 A) 0 [some (.ref (ga g b)), some (.int (nI a)), some (.int (nI x))] [] (hp g I J F w)
  refine a_aload_n X dX0_reseat_0 (i := 0) rfl rfl ?_
  refine s_getr X dX0_reseat_1 fl_X0_37 (ko_b hb) rfl ?_
  refine a_aload_n X dX0_reseat_4 (i := 0) rfl rfl ?_
  refine s_getr X dX0_reseat_5 fl_X0_22 (ko_b hb) rfl ?_
  refine a_iload_n X dX0_reseat_8 (i := 1) rfl rfl ?_
  refine s_ild X dX0_reseat_9 (ki_b2 hb) (by omega) (by decide) ?_
  rw [m1]
  refine a_iconst X dX0_reseat_10 (v := (-1)) (by decide +kernel) ?_
  refine s_ist X dX0_reseat_11 (ki_b7 hb) (by omega) (by decide) ?_
  refine a_aload_n X dX0_reseat_12 (i := 0) rfl rfl ?_
  refine s_getr X dX0_reseat_13 fl_X0_37 (ko_b hb) rfl ?_
  refine a_iload_n X dX0_reseat_16 (i := 2) rfl rfl ?_
  refine a_iload_n X dX0_reseat_17 (i := 1) rfl rfl ?_
  refine s_ist X dX0_reseat_18 (ki_b7 hb) (by omega) (by decide) ?_
  refine a_aload_n X dX0_reseat_19 (i := 0) rfl rfl ?_
  refine s_getr X dX0_reseat_20 fl_X0_22 (ko_b hb) rfl ?_
  refine a_iload_n X dX0_reseat_23 (i := 1) rfl rfl ?_
  refine a_iload_n X dX0_reseat_24 (i := 2) rfl rfl ?_
  refine s_ist X dX0_reseat_25 (ki_b2 hb) (by omega) (by decide) ?_
  refine a_vret X hA dX0_reseat_26 ⟨?_, ?_⟩
  · rfl
  · rw [up_s, bx_uu, up_n _ _ (by omega)]
set_option maxRecDepth 100000 in
set_option maxHeartbeats 4000000 in
theorem c_X0_add {l : Launch} {g : GG} {I : TI} {J : TJ} {F : TI} {w : Int64} {b : Nat} (hb : isB b) {R : Nat → Nat} (ok : okR R) (hC : Ch I F b R) (h9 : R 1 < 10) {k x v d : Nat} (hx : x < 12) : UR l g mX0_add [.ref (ga g b), .int (nI k), .int (nI x), .int (nI v), .int (nI d)] I J F w (.int (nI (R 1))) (va_up (va_up (va_up (va_up (va_up (va_up (va_up I (b + 1) (upd (I (b + 1)) (R 1) (nI k))) (b + 2) (upd (I (b + 2)) (R 1) (nI x))) (b + 3) (upd (I (b + 3)) (R 1) (nI v))) (b + 4) (upd (I (b + 4)) (R 1) (nI d))) (b + 5) (upd (I (b + 5)) (R 1) (nI 0))) (b + 6) (upd (I (b + 6)) (R 1) (nI 0))) (b + 7) (upd (I (b + 7)) x (nI (R 1)))) J (va_up F b (va_up (F b) 1 (nI (R 1 + 1)))) w := by
  have hn10 := ok.1
  obtain ⟨c0, c1, cm, cs⟩ := hC
  refine ct_start (M := mX0_add) (by decide +kernel) (Nat.le_of_ble_eq_true rfl) ?_
  intro p e s m args below meth c A X hA
  have X : AX p s m args meth c g A cX0_add 6 RX0 (Cond.code yX0_add cX0_add 6 (some .int)) (some .int) := X
  show AW p l e (rmM 0 0) s m args below meth c g A 6 0 0 (MQ below (CQ g (hp g I J F w) s.heap.size (fun vv0 hh0 => vv0 = some (.int (nI (R 1))) ∧ hh0 = hp g (va_up (va_up (va_up (va_up (va_up (va_up (va_up I (b + 1) (upd (I (b + 1)) (R 1) (nI k))) (b + 2) (upd (I (b + 2)) (R 1) (nI x))) (b + 3) (upd (I (b + 3)) (R 1) (nI v))) (b + 4) (upd (I (b + 4)) (R 1) (nI d))) (b + 5) (upd (I (b + 5)) (R 1) (nI 0))) (b + 6) (upd (I (b + 6)) (R 1) (nI 0))) (b + 7) (upd (I (b + 7)) x (nI (R 1)))) J (va_up F b (va_up (F b) 1 (nI (R 1 + 1)))) w)) args s 0 0 A) 0 [some (.ref (ga g b)), some (.int (nI k)), some (.int (nI x)), some (.int (nI v)), some (.int (nI d)), none] [] (hp g I J F w)
  refine a_aload_n X dX0_add_0 (i := 0) rfl rfl ?_
  refine s_geti X dX0_add_1 fl_X0_15 (ko_b hb) rfl ?_
  rw [c1]
  refine a_istore X dX0_add_4 (by decide) rfl ?_
  refine a_aload_n X dX0_add_6 (i := 0) rfl rfl ?_
  refine s_getr X dX0_add_7 fl_X0_18 (ko_b hb) rfl ?_
  refine a_iload X dX0_add_10 rfl ?_
  refine a_iload_n X dX0_add_12 (i := 1) rfl rfl ?_
  refine s_ist X dX0_add_13 (ki_b1 hb) (by omega) (by decide) ?_
  refine a_aload_n X dX0_add_14 (i := 0) rfl rfl ?_
  refine s_getr X dX0_add_15 fl_X0_22 (ko_b hb) rfl ?_
  refine a_iload X dX0_add_18 rfl ?_
  refine a_iload_n X dX0_add_20 (i := 2) rfl rfl ?_
  refine s_ist X dX0_add_21 (ki_b2 hb) (by omega) (by decide) ?_
  refine a_aload_n X dX0_add_22 (i := 0) rfl rfl ?_
  refine s_getr X dX0_add_23 fl_X0_25 (ko_b hb) rfl ?_
  refine a_iload X dX0_add_26 rfl ?_
  refine a_iload_n X dX0_add_28 (i := 3) rfl rfl ?_
  refine s_ist X dX0_add_29 (ki_b3 hb) (by omega) (by decide) ?_
  refine a_aload_n X dX0_add_30 (i := 0) rfl rfl ?_
  refine s_getr X dX0_add_31 fl_X0_28 (ko_b hb) rfl ?_
  refine a_iload X dX0_add_34 rfl ?_
  refine a_iload X dX0_add_36 rfl ?_
  refine s_ist X dX0_add_38 (ki_b4 hb) (by omega) (by decide) ?_
  refine a_aload_n X dX0_add_39 (i := 0) rfl rfl ?_
  refine s_getr X dX0_add_40 fl_X0_31 (ko_b hb) rfl ?_
  refine a_iload X dX0_add_43 rfl ?_
  refine a_iconst X dX0_add_45 (v := nI 0) (by decide +kernel) ?_
  refine s_ist X dX0_add_46 (ki_b5 hb) (by omega) (by decide) ?_
  refine a_aload_n X dX0_add_47 (i := 0) rfl rfl ?_
  refine s_getr X dX0_add_48 fl_X0_34 (ko_b hb) rfl ?_
  refine a_iload X dX0_add_51 rfl ?_
  refine a_iconst X dX0_add_53 (v := nI 0) (by decide +kernel) ?_
  refine s_ist X dX0_add_54 (ki_b6 hb) (by omega) (by decide) ?_
  refine a_aload_n X dX0_add_55 (i := 0) rfl rfl ?_
  refine s_getr X dX0_add_56 fl_X0_37 (ko_b hb) rfl ?_
  refine a_iload_n X dX0_add_59 (i := 2) rfl rfl ?_
  refine a_iload X dX0_add_60 rfl ?_
  refine s_ist X dX0_add_62 (ki_b7 hb) (by omega) (by decide) ?_
  refine a_aload_n X dX0_add_63 (i := 0) rfl rfl ?_
  refine a_dup X dX0_add_64 rfl ?_
  refine s_geti X dX0_add_65 fl_X0_15 (ko_b hb) rfl ?_
  rw [c1]
  refine a_iconst X dX0_add_68 (v := nI 1) (by decide +kernel) ?_
  refine s_iaddN X dX0_add_69 ?_
  refine s_puti X dX0_add_70 fp_X0_15 (ko_b hb) rfl rfl rfl ?_
  refine a_iload X dX0_add_73 rfl ?_
  refine a_iret X hA dX0_add_75 ⟨?_, ?_⟩
  · rfl
  · simp only [up_n _ _ (show b + 2 ≠ b + 1 by omega), up_n _ _ (show b + 3 ≠ b + 2 by omega), up_n _ _ (show b + 3 ≠ b + 1 by omega), up_n _ _ (show b + 4 ≠ b + 3 by omega), up_n _ _ (show b + 4 ≠ b + 2 by omega), up_n _ _ (show b + 4 ≠ b + 1 by omega), up_n _ _ (show b + 5 ≠ b + 4 by omega), up_n _ _ (show b + 5 ≠ b + 3 by omega), up_n _ _ (show b + 5 ≠ b + 2 by omega), up_n _ _ (show b + 5 ≠ b + 1 by omega), up_n _ _ (show b + 6 ≠ b + 5 by omega), up_n _ _ (show b + 6 ≠ b + 4 by omega), up_n _ _ (show b + 6 ≠ b + 3 by omega), up_n _ _ (show b + 6 ≠ b + 2 by omega), up_n _ _ (show b + 6 ≠ b + 1 by omega), up_n _ _ (show b + 7 ≠ b + 6 by omega), up_n _ _ (show b + 7 ≠ b + 5 by omega), up_n _ _ (show b + 7 ≠ b + 4 by omega), up_n _ _ (show b + 7 ≠ b + 3 by omega), up_n _ _ (show b + 7 ≠ b + 2 by omega), up_n _ _ (show b + 7 ≠ b + 1 by omega)]
set_option maxRecDepth 100000 in
set_option maxHeartbeats 4000000 in
theorem c_X0_findOut {l : Launch} {g : GG} {I : TI} {J : TJ} {F : TI} {w : Int64} {b : Nat} (hb : isB b) {R : Nat → Nat} (ok : okR R) (hC : Ch I F b R) {a : Nat} (ha : a < R 1) (hN : R 0 < 2 ^ 31) : UV l g mX0_findOut [.ref (ga g b), .int (nI a)] I J F w (va_up (va_up I (b + 8) (upd (I (b + 8)) a (nI (gotN R (R 1) a)))) (b + 9) (upd (I (b + 9)) a (tirI (R (2 + 6 * a + 0)) (redN R (R 1) a)))) J F w := by
  have hn10 := ok.1
  obtain ⟨c0, c1, cm, cs⟩ := hC
  obtain ⟨m0, m1, m2, m3, m4, m5⟩ := cm a ha
  obtain ⟨g0, g1, g2, g3, g4, g5⟩ := ok.2.1 a ha
  refine ct_start (M := mX0_findOut) (by decide +kernel) (Nat.le_of_ble_eq_true rfl) ?_
  intro p e s m args below meth c A X hA
  have X : AX p s m args meth c g A cX0_findOut 6 RX0 (Cond.code yX0_findOut cX0_findOut 6 none) none := X
  show AW p l e (rmM 3 67) s m args below meth c g A 6 0 0 (MQ below (CQ g (hp g I J F w) s.heap.size (fun vv0 hh0 => vv0 = none ∧ hh0 = hp g (va_up (va_up I (b + 8) (upd (I (b + 8)) a (nI (gotN R (R 1) a)))) (b + 9) (upd (I (b + 9)) a (tirI (R (2 + 6 * a + 0)) (redN R (R 1) a)))) J F w)) args s 0 0 A) 0 [some (.ref (ga g b)), some (.int (nI a)), none, none, none, none] [] (hp g I J F w)
  refine a_aload_n X dX0_findOut_0 (i := 0) rfl rfl ?_
  refine a_iload_n X dX0_findOut_1 (i := 1) rfl rfl ?_
  refine s_callV_R X dX0_findOut_2 lk_X0_106 (ko_b hb) rfl rfl (c_X0_felt hb ok ⟨c0, c1, cm, cs⟩ ha) ⟨Nat.le_of_ble_eq_true rfl, Nat.le_of_ble_eq_true rfl⟩ rfl rfl (Nat.le_of_ble_eq_true rfl) ⟨Nat.le_of_ble_eq_true rfl, Nat.le_of_ble_eq_true rfl⟩ ?_
  refine a_istore_n X dX0_findOut_5 (i := 2) rfl (by decide) rfl ?_
  refine a_aload_n X dX0_findOut_6 (i := 0) rfl rfl ?_
  refine a_iload_n X dX0_findOut_7 (i := 1) rfl rfl ?_
  refine a_iload_n X dX0_findOut_8 (i := 2) rfl rfl ?_
  refine s_callV_R X dX0_findOut_9 lk_X0_109 (ko_b hb) rfl rfl (c_X0_getsFrom hb ok ⟨c0, c1, cm, cs⟩ ha (fun q z => felN_lt z) hN) ⟨Nat.le_of_ble_eq_true rfl, Nat.le_of_ble_eq_true rfl⟩ rfl rfl (Nat.le_of_ble_eq_true rfl) ⟨Nat.le_of_ble_eq_true rfl, Nat.le_of_ble_eq_true rfl⟩ ?_
  rw [← red_cls ok ha]
  refine a_istore_n X dX0_findOut_12 (i := 3) rfl (by decide) rfl ?_
  refine a_iload_n X dX0_findOut_13 (i := 3) rfl rfl ?_
  refine a_if_eq X dX0_findOut_14 (tgt := 28) (by decide) (fun hc14 => ?_) (fun hc14 => ?_)
  · skip
    try simp only [bI_0, Bool.not_eq_false] at hc14
    have hx : gotX R (R 1) a = 0 ||| toldO R (who R (R (2 + 6 * a + 1) + 1) (R 1)) := by unfold gotX; rw [if_neg (by rw [hc14]; decide)]
    refine a_iconst X dX0_findOut_28 (v := nI 0) (by decide +kernel) ?_
    refine a_istore X dX0_findOut_29 (by decide) rfl ?_
    refine a_aload_n X dX0_findOut_31 (i := 0) rfl rfl ?_
    refine a_aload_n X dX0_findOut_32 (i := 0) rfl rfl ?_
    refine s_getr X dX0_findOut_33 fl_X0_22 (ko_b hb) rfl ?_
    refine a_iload_n X dX0_findOut_36 (i := 1) rfl rfl ?_
    refine s_ild X dX0_findOut_37 (ki_b2 hb) (by omega) (by decide) ?_
    rw [m1]
    refine a_iconst X dX0_findOut_38 (v := nI 1) (by decide +kernel) ?_
    refine s_iaddN X dX0_findOut_39 ?_
    refine s_callV_R X dX0_findOut_40 lk_X0_62 (ko_b hb) rfl rfl (c_X0_sitter hb ok ⟨c0, c1, cm, cs⟩ (by omega)) ⟨Nat.le_of_ble_eq_true rfl, Nat.le_of_ble_eq_true rfl⟩ rfl rfl (Nat.le_of_ble_eq_true rfl) ⟨Nat.le_of_ble_eq_true rfl, Nat.le_of_ble_eq_true rfl⟩ ?_
    refine a_istore X dX0_findOut_43 (by decide) rfl ?_
    refine a_iload X dX0_findOut_45 rfl ?_
    refine a_iconst X dX0_findOut_47 (v := (-1)) (by decide +kernel) ?_
    refine a_icmp_eq X dX0_findOut_48 (tgt := 62) (by decide) (fun hc48 => ?_) (fun hc48 => ?_)
    · skip
      have hw2 := (wI_eq (who_b hn10)).mp hc48
      rw [show toldO R (who R (R (2 + 6 * a + 1) + 1) (R 1)) = 0 by rw [hw2]; rfl, Nat.or_zero] at hx
      first | rw [show nI 0 = nI (gotX R (R 1) a) from by rw [hx]] | rw [← hx]
      refine a_aload_n X dX0_findOut_62 (i := 0) rfl rfl ?_
      refine s_getr X dX0_findOut_63 fl_X0_18 (ko_b hb) rfl ?_
      refine a_iload_n X dX0_findOut_66 (i := 1) rfl rfl ?_
      refine s_ild X dX0_findOut_67 (ki_b1 hb) (by omega) (by decide) ?_
      rw [m0]
      refine a_iconst X dX0_findOut_68 (v := nI 4) (by decide +kernel) ?_
      refine s_icmp_eqN X dX0_findOut_69 (tgt := 87) (by decide) (by omega) (by omega) (fun hc69 => ?_) (fun hc69 => ?_)
      · skip
        refine a_aload_n X dX0_findOut_87 (i := 0) rfl rfl ?_
        refine s_getr X dX0_findOut_88 fl_X0_40 (ko_b hb) rfl ?_
        refine a_iload_n X dX0_findOut_91 (i := 1) rfl rfl ?_
        refine a_iload X dX0_findOut_92 rfl ?_
        refine s_ist X dX0_findOut_94 (ki_b8 hb) (by omega) (by decide) ?_
        refine a_aload_n X dX0_findOut_95 (i := 0) rfl rfl ?_
        refine s_getr X dX0_findOut_96 fl_X0_43 (ko_b hb) rfl ?_
        refine a_iload_n X dX0_findOut_99 (i := 1) rfl rfl ?_
        refine a_aload_n X dX0_findOut_100 (i := 0) rfl rfl ?_
        refine s_getr X dX0_findOut_101 fl_X0_18 (ko_b hb) rfl ?_
        refine a_iload_n X dX0_findOut_104 (i := 1) rfl rfl ?_
        refine s_ild X dX0_findOut_105 (ki_b1 hb) (by omega) (by decide) ?_
        rw [up_n _ _ (by omega), m0]
        refine a_iload_n X dX0_findOut_106 (i := 3) rfl rfl ?_
        refine s_callS_R X dX0_findOut_107 lk_X0_115 (c_X1_tires g0) ⟨Nat.le_of_ble_eq_true rfl, Nat.le_of_ble_eq_true rfl⟩ rfl rfl (Nat.le_of_ble_eq_true rfl) ⟨Nat.le_of_ble_eq_true rfl, Nat.le_of_ble_eq_true rfl⟩ ?_
        refine s_ist X dX0_findOut_110 (ki_b9 hb) (by omega) (by decide) ?_
        refine a_vret X hA dX0_findOut_111 ⟨?_, ?_⟩
        · rfl
        · rw [up_n _ _ (show b + 9 ≠ b + 8 by omega)]
          unfold gotN
          first | rw [if_pos hc69] | rw [if_neg hc69]
      · skip
        refine a_iload X dX0_findOut_72 rfl ?_
        refine a_iconst X dX0_findOut_74 (v := nI 1) (by decide +kernel) ?_
        refine a_aload_n X dX0_findOut_75 (i := 0) rfl rfl ?_
        refine s_getr X dX0_findOut_76 fl_X0_25 (ko_b hb) rfl ?_
        refine a_iload_n X dX0_findOut_79 (i := 1) rfl rfl ?_
        refine s_ild X dX0_findOut_80 (ki_b3 hb) (by omega) (by decide) ?_
        rw [m2]
        refine a_ishl X dX0_findOut_81 ?_
        rw [(shl_v _ g2).1]
        refine a_iconst X dX0_findOut_82 (v := (-1)) (by decide +kernel) ?_
        refine a_ixor X dX0_findOut_83 ?_
        refine a_iand X dX0_findOut_84 ?_
        rw [set_clr _ g2 _ (gotX_lt ok a)]
        refine a_istore X dX0_findOut_85 (by decide) rfl ?_
        refine a_aload_n X dX0_findOut_87 (i := 0) rfl rfl ?_
        refine s_getr X dX0_findOut_88 fl_X0_40 (ko_b hb) rfl ?_
        refine a_iload_n X dX0_findOut_91 (i := 1) rfl rfl ?_
        refine a_iload X dX0_findOut_92 rfl ?_
        refine s_ist X dX0_findOut_94 (ki_b8 hb) (by omega) (by decide) ?_
        refine a_aload_n X dX0_findOut_95 (i := 0) rfl rfl ?_
        refine s_getr X dX0_findOut_96 fl_X0_43 (ko_b hb) rfl ?_
        refine a_iload_n X dX0_findOut_99 (i := 1) rfl rfl ?_
        refine a_aload_n X dX0_findOut_100 (i := 0) rfl rfl ?_
        refine s_getr X dX0_findOut_101 fl_X0_18 (ko_b hb) rfl ?_
        refine a_iload_n X dX0_findOut_104 (i := 1) rfl rfl ?_
        refine s_ild X dX0_findOut_105 (ki_b1 hb) (by omega) (by decide) ?_
        rw [up_n _ _ (by omega), m0]
        refine a_iload_n X dX0_findOut_106 (i := 3) rfl rfl ?_
        refine s_callS_R X dX0_findOut_107 lk_X0_115 (c_X1_tires g0) ⟨Nat.le_of_ble_eq_true rfl, Nat.le_of_ble_eq_true rfl⟩ rfl rfl (Nat.le_of_ble_eq_true rfl) ⟨Nat.le_of_ble_eq_true rfl, Nat.le_of_ble_eq_true rfl⟩ ?_
        refine s_ist X dX0_findOut_110 (ki_b9 hb) (by omega) (by decide) ?_
        refine a_vret X hA dX0_findOut_111 ⟨?_, ?_⟩
        · rfl
        · rw [up_n _ _ (show b + 9 ≠ b + 8 by omega)]
          unfold gotN
          first | rw [if_pos hc69] | rw [if_neg hc69]
    · skip
      obtain ⟨f, hw2⟩ : ∃ f, who R (R (2 + 6 * a + 1) + 1) (R 1) = some f := by
        cases h : who R (R (2 + 6 * a + 1) + 1) (R 1) with
        | none => exact absurd (by rw [h]; rfl) hc48
        | some q => exact ⟨q, rfl⟩
      have hf := (who_lt hw2).1
      rw [hw2, wI_s]
      rw [show toldO R (who R (R (2 + 6 * a + 1) + 1) (R 1)) = tel (R (2 + 6 * f + 0)) (R (2 + 6 * f + 4)) by rw [hw2]; rfl] at hx
      refine a_iload X dX0_findOut_51 rfl ?_
      refine a_aload_n X dX0_findOut_53 (i := 0) rfl rfl ?_
      refine a_iload X dX0_findOut_54 rfl ?_
      refine s_callV_R X dX0_findOut_56 lk_X0_112 (ko_b hb) rfl rfl (c_X0_told hb ok ⟨c0, c1, cm, cs⟩ hf) ⟨Nat.le_of_ble_eq_true rfl, Nat.le_of_ble_eq_true rfl⟩ rfl rfl (Nat.le_of_ble_eq_true rfl) ⟨Nat.le_of_ble_eq_true rfl, Nat.le_of_ble_eq_true rfl⟩ ?_
      refine a_ior X dX0_findOut_59 ?_
      rw [nI_or, ← hx]
      refine a_istore X dX0_findOut_60 (by decide) rfl ?_
      refine a_aload_n X dX0_findOut_62 (i := 0) rfl rfl ?_
      refine s_getr X dX0_findOut_63 fl_X0_18 (ko_b hb) rfl ?_
      refine a_iload_n X dX0_findOut_66 (i := 1) rfl rfl ?_
      refine s_ild X dX0_findOut_67 (ki_b1 hb) (by omega) (by decide) ?_
      rw [m0]
      refine a_iconst X dX0_findOut_68 (v := nI 4) (by decide +kernel) ?_
      refine s_icmp_eqN X dX0_findOut_69 (tgt := 87) (by decide) (by omega) (by omega) (fun hc69 => ?_) (fun hc69 => ?_)
      · skip
        refine a_aload_n X dX0_findOut_87 (i := 0) rfl rfl ?_
        refine s_getr X dX0_findOut_88 fl_X0_40 (ko_b hb) rfl ?_
        refine a_iload_n X dX0_findOut_91 (i := 1) rfl rfl ?_
        refine a_iload X dX0_findOut_92 rfl ?_
        refine s_ist X dX0_findOut_94 (ki_b8 hb) (by omega) (by decide) ?_
        refine a_aload_n X dX0_findOut_95 (i := 0) rfl rfl ?_
        refine s_getr X dX0_findOut_96 fl_X0_43 (ko_b hb) rfl ?_
        refine a_iload_n X dX0_findOut_99 (i := 1) rfl rfl ?_
        refine a_aload_n X dX0_findOut_100 (i := 0) rfl rfl ?_
        refine s_getr X dX0_findOut_101 fl_X0_18 (ko_b hb) rfl ?_
        refine a_iload_n X dX0_findOut_104 (i := 1) rfl rfl ?_
        refine s_ild X dX0_findOut_105 (ki_b1 hb) (by omega) (by decide) ?_
        rw [up_n _ _ (by omega), m0]
        refine a_iload_n X dX0_findOut_106 (i := 3) rfl rfl ?_
        refine s_callS_R X dX0_findOut_107 lk_X0_115 (c_X1_tires g0) ⟨Nat.le_of_ble_eq_true rfl, Nat.le_of_ble_eq_true rfl⟩ rfl rfl (Nat.le_of_ble_eq_true rfl) ⟨Nat.le_of_ble_eq_true rfl, Nat.le_of_ble_eq_true rfl⟩ ?_
        refine s_ist X dX0_findOut_110 (ki_b9 hb) (by omega) (by decide) ?_
        refine a_vret X hA dX0_findOut_111 ⟨?_, ?_⟩
        · rfl
        · rw [up_n _ _ (show b + 9 ≠ b + 8 by omega)]
          unfold gotN
          first | rw [if_pos hc69] | rw [if_neg hc69]
      · skip
        refine a_iload X dX0_findOut_72 rfl ?_
        refine a_iconst X dX0_findOut_74 (v := nI 1) (by decide +kernel) ?_
        refine a_aload_n X dX0_findOut_75 (i := 0) rfl rfl ?_
        refine s_getr X dX0_findOut_76 fl_X0_25 (ko_b hb) rfl ?_
        refine a_iload_n X dX0_findOut_79 (i := 1) rfl rfl ?_
        refine s_ild X dX0_findOut_80 (ki_b3 hb) (by omega) (by decide) ?_
        rw [m2]
        refine a_ishl X dX0_findOut_81 ?_
        rw [(shl_v _ g2).1]
        refine a_iconst X dX0_findOut_82 (v := (-1)) (by decide +kernel) ?_
        refine a_ixor X dX0_findOut_83 ?_
        refine a_iand X dX0_findOut_84 ?_
        rw [set_clr _ g2 _ (gotX_lt ok a)]
        refine a_istore X dX0_findOut_85 (by decide) rfl ?_
        refine a_aload_n X dX0_findOut_87 (i := 0) rfl rfl ?_
        refine s_getr X dX0_findOut_88 fl_X0_40 (ko_b hb) rfl ?_
        refine a_iload_n X dX0_findOut_91 (i := 1) rfl rfl ?_
        refine a_iload X dX0_findOut_92 rfl ?_
        refine s_ist X dX0_findOut_94 (ki_b8 hb) (by omega) (by decide) ?_
        refine a_aload_n X dX0_findOut_95 (i := 0) rfl rfl ?_
        refine s_getr X dX0_findOut_96 fl_X0_43 (ko_b hb) rfl ?_
        refine a_iload_n X dX0_findOut_99 (i := 1) rfl rfl ?_
        refine a_aload_n X dX0_findOut_100 (i := 0) rfl rfl ?_
        refine s_getr X dX0_findOut_101 fl_X0_18 (ko_b hb) rfl ?_
        refine a_iload_n X dX0_findOut_104 (i := 1) rfl rfl ?_
        refine s_ild X dX0_findOut_105 (ki_b1 hb) (by omega) (by decide) ?_
        rw [up_n _ _ (by omega), m0]
        refine a_iload_n X dX0_findOut_106 (i := 3) rfl rfl ?_
        refine s_callS_R X dX0_findOut_107 lk_X0_115 (c_X1_tires g0) ⟨Nat.le_of_ble_eq_true rfl, Nat.le_of_ble_eq_true rfl⟩ rfl rfl (Nat.le_of_ble_eq_true rfl) ⟨Nat.le_of_ble_eq_true rfl, Nat.le_of_ble_eq_true rfl⟩ ?_
        refine s_ist X dX0_findOut_110 (ki_b9 hb) (by omega) (by decide) ?_
        refine a_vret X hA dX0_findOut_111 ⟨?_, ?_⟩
        · rfl
        · rw [up_n _ _ (show b + 9 ≠ b + 8 by omega)]
          unfold gotN
          first | rw [if_pos hc69] | rw [if_neg hc69]
  · skip
    try simp only [bI_0, Bool.not_eq_false] at hc14
    obtain ⟨q, hw⟩ := red_some hc14
    have hq := felN_lt hw
    have hv := ok.2.1 q hq
    obtain ⟨n0, n1, n2, n3, n4, n5⟩ := cm q hq
    have hx : gotX R (R 1) a = 2 ^ R (2 + 6 * q + 2) ||| toldO R (who R (R (2 + 6 * a + 1) + 1) (R 1)) := by unfold gotX; rw [if_pos hc14, hw]; rfl
    rw [hw, wI_s]
    refine a_iconst X dX0_findOut_17 (v := nI 1) (by decide +kernel) ?_
    refine a_aload_n X dX0_findOut_18 (i := 0) rfl rfl ?_
    refine s_getr X dX0_findOut_19 fl_X0_25 (ko_b hb) rfl ?_
    refine a_iload_n X dX0_findOut_22 (i := 2) rfl rfl ?_
    refine s_ild X dX0_findOut_23 (ki_b3 hb) (by omega) (by decide) ?_
    rw [n2]
    refine a_ishl X dX0_findOut_24 ?_
    rw [(shl_v _ hv.2.2.1).1]
    refine a_goto X dX0_findOut_25 (tgt := 29) (by decide) ?_
    refine a_istore X dX0_findOut_29 (by decide) rfl ?_
    refine a_aload_n X dX0_findOut_31 (i := 0) rfl rfl ?_
    refine a_aload_n X dX0_findOut_32 (i := 0) rfl rfl ?_
    refine s_getr X dX0_findOut_33 fl_X0_22 (ko_b hb) rfl ?_
    refine a_iload_n X dX0_findOut_36 (i := 1) rfl rfl ?_
    refine s_ild X dX0_findOut_37 (ki_b2 hb) (by omega) (by decide) ?_
    rw [m1]
    refine a_iconst X dX0_findOut_38 (v := nI 1) (by decide +kernel) ?_
    refine s_iaddN X dX0_findOut_39 ?_
    refine s_callV_R X dX0_findOut_40 lk_X0_62 (ko_b hb) rfl rfl (c_X0_sitter hb ok ⟨c0, c1, cm, cs⟩ (by omega)) ⟨Nat.le_of_ble_eq_true rfl, Nat.le_of_ble_eq_true rfl⟩ rfl rfl (Nat.le_of_ble_eq_true rfl) ⟨Nat.le_of_ble_eq_true rfl, Nat.le_of_ble_eq_true rfl⟩ ?_
    refine a_istore X dX0_findOut_43 (by decide) rfl ?_
    refine a_iload X dX0_findOut_45 rfl ?_
    refine a_iconst X dX0_findOut_47 (v := (-1)) (by decide +kernel) ?_
    refine a_icmp_eq X dX0_findOut_48 (tgt := 62) (by decide) (fun hc48 => ?_) (fun hc48 => ?_)
    · skip
      have hw2 := (wI_eq (who_b hn10)).mp hc48
      rw [show toldO R (who R (R (2 + 6 * a + 1) + 1) (R 1)) = 0 by rw [hw2]; rfl, Nat.or_zero] at hx
      first | rw [show nI 0 = nI (gotX R (R 1) a) from by rw [hx]] | rw [← hx]
      refine a_aload_n X dX0_findOut_62 (i := 0) rfl rfl ?_
      refine s_getr X dX0_findOut_63 fl_X0_18 (ko_b hb) rfl ?_
      refine a_iload_n X dX0_findOut_66 (i := 1) rfl rfl ?_
      refine s_ild X dX0_findOut_67 (ki_b1 hb) (by omega) (by decide) ?_
      rw [m0]
      refine a_iconst X dX0_findOut_68 (v := nI 4) (by decide +kernel) ?_
      refine s_icmp_eqN X dX0_findOut_69 (tgt := 87) (by decide) (by omega) (by omega) (fun hc69 => ?_) (fun hc69 => ?_)
      · skip
        refine a_aload_n X dX0_findOut_87 (i := 0) rfl rfl ?_
        refine s_getr X dX0_findOut_88 fl_X0_40 (ko_b hb) rfl ?_
        refine a_iload_n X dX0_findOut_91 (i := 1) rfl rfl ?_
        refine a_iload X dX0_findOut_92 rfl ?_
        refine s_ist X dX0_findOut_94 (ki_b8 hb) (by omega) (by decide) ?_
        refine a_aload_n X dX0_findOut_95 (i := 0) rfl rfl ?_
        refine s_getr X dX0_findOut_96 fl_X0_43 (ko_b hb) rfl ?_
        refine a_iload_n X dX0_findOut_99 (i := 1) rfl rfl ?_
        refine a_aload_n X dX0_findOut_100 (i := 0) rfl rfl ?_
        refine s_getr X dX0_findOut_101 fl_X0_18 (ko_b hb) rfl ?_
        refine a_iload_n X dX0_findOut_104 (i := 1) rfl rfl ?_
        refine s_ild X dX0_findOut_105 (ki_b1 hb) (by omega) (by decide) ?_
        rw [up_n _ _ (by omega), m0]
        refine a_iload_n X dX0_findOut_106 (i := 3) rfl rfl ?_
        refine s_callS_R X dX0_findOut_107 lk_X0_115 (c_X1_tires g0) ⟨Nat.le_of_ble_eq_true rfl, Nat.le_of_ble_eq_true rfl⟩ rfl rfl (Nat.le_of_ble_eq_true rfl) ⟨Nat.le_of_ble_eq_true rfl, Nat.le_of_ble_eq_true rfl⟩ ?_
        refine s_ist X dX0_findOut_110 (ki_b9 hb) (by omega) (by decide) ?_
        refine a_vret X hA dX0_findOut_111 ⟨?_, ?_⟩
        · rfl
        · rw [up_n _ _ (show b + 9 ≠ b + 8 by omega)]
          unfold gotN
          first | rw [if_pos hc69] | rw [if_neg hc69]
      · skip
        refine a_iload X dX0_findOut_72 rfl ?_
        refine a_iconst X dX0_findOut_74 (v := nI 1) (by decide +kernel) ?_
        refine a_aload_n X dX0_findOut_75 (i := 0) rfl rfl ?_
        refine s_getr X dX0_findOut_76 fl_X0_25 (ko_b hb) rfl ?_
        refine a_iload_n X dX0_findOut_79 (i := 1) rfl rfl ?_
        refine s_ild X dX0_findOut_80 (ki_b3 hb) (by omega) (by decide) ?_
        rw [m2]
        refine a_ishl X dX0_findOut_81 ?_
        rw [(shl_v _ g2).1]
        refine a_iconst X dX0_findOut_82 (v := (-1)) (by decide +kernel) ?_
        refine a_ixor X dX0_findOut_83 ?_
        refine a_iand X dX0_findOut_84 ?_
        rw [set_clr _ g2 _ (gotX_lt ok a)]
        refine a_istore X dX0_findOut_85 (by decide) rfl ?_
        refine a_aload_n X dX0_findOut_87 (i := 0) rfl rfl ?_
        refine s_getr X dX0_findOut_88 fl_X0_40 (ko_b hb) rfl ?_
        refine a_iload_n X dX0_findOut_91 (i := 1) rfl rfl ?_
        refine a_iload X dX0_findOut_92 rfl ?_
        refine s_ist X dX0_findOut_94 (ki_b8 hb) (by omega) (by decide) ?_
        refine a_aload_n X dX0_findOut_95 (i := 0) rfl rfl ?_
        refine s_getr X dX0_findOut_96 fl_X0_43 (ko_b hb) rfl ?_
        refine a_iload_n X dX0_findOut_99 (i := 1) rfl rfl ?_
        refine a_aload_n X dX0_findOut_100 (i := 0) rfl rfl ?_
        refine s_getr X dX0_findOut_101 fl_X0_18 (ko_b hb) rfl ?_
        refine a_iload_n X dX0_findOut_104 (i := 1) rfl rfl ?_
        refine s_ild X dX0_findOut_105 (ki_b1 hb) (by omega) (by decide) ?_
        rw [up_n _ _ (by omega), m0]
        refine a_iload_n X dX0_findOut_106 (i := 3) rfl rfl ?_
        refine s_callS_R X dX0_findOut_107 lk_X0_115 (c_X1_tires g0) ⟨Nat.le_of_ble_eq_true rfl, Nat.le_of_ble_eq_true rfl⟩ rfl rfl (Nat.le_of_ble_eq_true rfl) ⟨Nat.le_of_ble_eq_true rfl, Nat.le_of_ble_eq_true rfl⟩ ?_
        refine s_ist X dX0_findOut_110 (ki_b9 hb) (by omega) (by decide) ?_
        refine a_vret X hA dX0_findOut_111 ⟨?_, ?_⟩
        · rfl
        · rw [up_n _ _ (show b + 9 ≠ b + 8 by omega)]
          unfold gotN
          first | rw [if_pos hc69] | rw [if_neg hc69]
    · skip
      obtain ⟨f, hw2⟩ : ∃ f, who R (R (2 + 6 * a + 1) + 1) (R 1) = some f := by
        cases h : who R (R (2 + 6 * a + 1) + 1) (R 1) with
        | none => exact absurd (by rw [h]; rfl) hc48
        | some q => exact ⟨q, rfl⟩
      have hf := (who_lt hw2).1
      rw [hw2, wI_s]
      rw [show toldO R (who R (R (2 + 6 * a + 1) + 1) (R 1)) = tel (R (2 + 6 * f + 0)) (R (2 + 6 * f + 4)) by rw [hw2]; rfl] at hx
      refine a_iload X dX0_findOut_51 rfl ?_
      refine a_aload_n X dX0_findOut_53 (i := 0) rfl rfl ?_
      refine a_iload X dX0_findOut_54 rfl ?_
      refine s_callV_R X dX0_findOut_56 lk_X0_112 (ko_b hb) rfl rfl (c_X0_told hb ok ⟨c0, c1, cm, cs⟩ hf) ⟨Nat.le_of_ble_eq_true rfl, Nat.le_of_ble_eq_true rfl⟩ rfl rfl (Nat.le_of_ble_eq_true rfl) ⟨Nat.le_of_ble_eq_true rfl, Nat.le_of_ble_eq_true rfl⟩ ?_
      refine a_ior X dX0_findOut_59 ?_
      rw [nI_or, ← hx]
      refine a_istore X dX0_findOut_60 (by decide) rfl ?_
      refine a_aload_n X dX0_findOut_62 (i := 0) rfl rfl ?_
      refine s_getr X dX0_findOut_63 fl_X0_18 (ko_b hb) rfl ?_
      refine a_iload_n X dX0_findOut_66 (i := 1) rfl rfl ?_
      refine s_ild X dX0_findOut_67 (ki_b1 hb) (by omega) (by decide) ?_
      rw [m0]
      refine a_iconst X dX0_findOut_68 (v := nI 4) (by decide +kernel) ?_
      refine s_icmp_eqN X dX0_findOut_69 (tgt := 87) (by decide) (by omega) (by omega) (fun hc69 => ?_) (fun hc69 => ?_)
      · skip
        refine a_aload_n X dX0_findOut_87 (i := 0) rfl rfl ?_
        refine s_getr X dX0_findOut_88 fl_X0_40 (ko_b hb) rfl ?_
        refine a_iload_n X dX0_findOut_91 (i := 1) rfl rfl ?_
        refine a_iload X dX0_findOut_92 rfl ?_
        refine s_ist X dX0_findOut_94 (ki_b8 hb) (by omega) (by decide) ?_
        refine a_aload_n X dX0_findOut_95 (i := 0) rfl rfl ?_
        refine s_getr X dX0_findOut_96 fl_X0_43 (ko_b hb) rfl ?_
        refine a_iload_n X dX0_findOut_99 (i := 1) rfl rfl ?_
        refine a_aload_n X dX0_findOut_100 (i := 0) rfl rfl ?_
        refine s_getr X dX0_findOut_101 fl_X0_18 (ko_b hb) rfl ?_
        refine a_iload_n X dX0_findOut_104 (i := 1) rfl rfl ?_
        refine s_ild X dX0_findOut_105 (ki_b1 hb) (by omega) (by decide) ?_
        rw [up_n _ _ (by omega), m0]
        refine a_iload_n X dX0_findOut_106 (i := 3) rfl rfl ?_
        refine s_callS_R X dX0_findOut_107 lk_X0_115 (c_X1_tires g0) ⟨Nat.le_of_ble_eq_true rfl, Nat.le_of_ble_eq_true rfl⟩ rfl rfl (Nat.le_of_ble_eq_true rfl) ⟨Nat.le_of_ble_eq_true rfl, Nat.le_of_ble_eq_true rfl⟩ ?_
        refine s_ist X dX0_findOut_110 (ki_b9 hb) (by omega) (by decide) ?_
        refine a_vret X hA dX0_findOut_111 ⟨?_, ?_⟩
        · rfl
        · rw [up_n _ _ (show b + 9 ≠ b + 8 by omega)]
          unfold gotN
          first | rw [if_pos hc69] | rw [if_neg hc69]
      · skip
        refine a_iload X dX0_findOut_72 rfl ?_
        refine a_iconst X dX0_findOut_74 (v := nI 1) (by decide +kernel) ?_
        refine a_aload_n X dX0_findOut_75 (i := 0) rfl rfl ?_
        refine s_getr X dX0_findOut_76 fl_X0_25 (ko_b hb) rfl ?_
        refine a_iload_n X dX0_findOut_79 (i := 1) rfl rfl ?_
        refine s_ild X dX0_findOut_80 (ki_b3 hb) (by omega) (by decide) ?_
        rw [m2]
        refine a_ishl X dX0_findOut_81 ?_
        rw [(shl_v _ g2).1]
        refine a_iconst X dX0_findOut_82 (v := (-1)) (by decide +kernel) ?_
        refine a_ixor X dX0_findOut_83 ?_
        refine a_iand X dX0_findOut_84 ?_
        rw [set_clr _ g2 _ (gotX_lt ok a)]
        refine a_istore X dX0_findOut_85 (by decide) rfl ?_
        refine a_aload_n X dX0_findOut_87 (i := 0) rfl rfl ?_
        refine s_getr X dX0_findOut_88 fl_X0_40 (ko_b hb) rfl ?_
        refine a_iload_n X dX0_findOut_91 (i := 1) rfl rfl ?_
        refine a_iload X dX0_findOut_92 rfl ?_
        refine s_ist X dX0_findOut_94 (ki_b8 hb) (by omega) (by decide) ?_
        refine a_aload_n X dX0_findOut_95 (i := 0) rfl rfl ?_
        refine s_getr X dX0_findOut_96 fl_X0_43 (ko_b hb) rfl ?_
        refine a_iload_n X dX0_findOut_99 (i := 1) rfl rfl ?_
        refine a_aload_n X dX0_findOut_100 (i := 0) rfl rfl ?_
        refine s_getr X dX0_findOut_101 fl_X0_18 (ko_b hb) rfl ?_
        refine a_iload_n X dX0_findOut_104 (i := 1) rfl rfl ?_
        refine s_ild X dX0_findOut_105 (ki_b1 hb) (by omega) (by decide) ?_
        rw [up_n _ _ (by omega), m0]
        refine a_iload_n X dX0_findOut_106 (i := 3) rfl rfl ?_
        refine s_callS_R X dX0_findOut_107 lk_X0_115 (c_X1_tires g0) ⟨Nat.le_of_ble_eq_true rfl, Nat.le_of_ble_eq_true rfl⟩ rfl rfl (Nat.le_of_ble_eq_true rfl) ⟨Nat.le_of_ble_eq_true rfl, Nat.le_of_ble_eq_true rfl⟩ ?_
        refine s_ist X dX0_findOut_110 (ki_b9 hb) (by omega) (by decide) ?_
        refine a_vret X hA dX0_findOut_111 ⟨?_, ?_⟩
        · rfl
        · rw [up_n _ _ (show b + 9 ≠ b + 8 by omega)]
          unfold gotN
          first | rw [if_pos hc69] | rw [if_neg hc69]
set_option maxRecDepth 100000 in
set_option maxHeartbeats 4000000 in
theorem c_X0_passNight {l : Launch} {g : GG} {I : TI} {J : TJ} {F : TI} {w : Int64} {b : Nat} (hb : isB b) {R : Nat → Nat} (ok : okR R) (hC : Ch I F b R) (hN : R 0 < 2 ^ 31) : VV l g mX0_passNight [.ref (ga g b)] I J F w (ChP I J F w b (nigN R)) := by
  have hn10 := ok.1
  refine ct_start (M := mX0_passNight) (by decide +kernel) (Nat.le_of_ble_eq_true rfl) ?_
  intro p e s m args below meth c A X hA
  have X : AX p s m args meth c g A cX0_passNight 2 RX0 (Cond.code yX0_passNight cX0_passNight 2 none) none := X
  show AW p l e (rmM 4 92) s m args below meth c g A 2 0 0 (MQ below (CQ g (hp g I J F w) s.heap.size (fun vv0 hh0 => ∃ II0 JJ0 FF0 ww0, vv0 = none ∧ hh0 = hp g II0 JJ0 FF0 ww0 ∧ (ChP I J F w b (nigN R)) II0 JJ0 FF0 ww0)) args s 0 0 A) 0 [some (.ref (ga g b)), none] [] (hp g I J F w)
  have L23 : ∀ (fu : Nat) (k : Nat) (I1 : TI), R 1 - k < fu → (k ≤ R 1) → (Ch I1 F b (parN R k)) → ((∀ m, m < R 1 → I1 (b + 8) m = nI (gotN R (R 1) m) ∧ I1 (b + 9) m = tirI (R (2 + 6 * m + 0)) (redN R (R 1) m))) → (∀ Q, Q ≠ b + 5 → Q ≠ b + 6 → Q ≠ b + 8 → Q ≠ b + 9 → I1 Q = I Q) → AW p l e (rmM 4 92) s m args below meth c g A 2 0 0 (MQ below (CQ g (hp g I J F w) s.heap.size (fun vv0 hh0 => ∃ II0 JJ0 FF0 ww0, vv0 = none ∧ hh0 = hp g II0 JJ0 FF0 ww0 ∧ (ChP I J F w b (nigN R)) II0 JJ0 FF0 ww0)) args s 0 0 A) 23 [some (.ref (ga g b)), some (.int (nI k))] [] (hp g I1 J F w) := by
    intro fu
    induction fu with
    | zero => intro k I1 hfu; exact absurd hfu (by omega)
    | succ fu ih =>
      intro k I1 hfu hk hC1 hw hfr
      refine a_iload_n X dX0_passNight_23 (i := 1) rfl rfl ?_
      refine a_aload_n X dX0_passNight_24 (i := 0) rfl rfl ?_
      refine s_geti X dX0_passNight_25 fl_X0_15 (ko_b hb) rfl ?_
      rw [hC1.2.1, par_1]
      refine s_icmp_geN X dX0_passNight_28 (tgt := 80) (by decide) (by omega) (by omega) (fun hc28 => ?_) (fun hc28 => ?_)
      · skip
        have hk2 : k = R 1 := by omega
        refine a_aload_n X dX0_passNight_80 (i := 0) rfl rfl ?_
        refine a_dup X dX0_passNight_81 rfl ?_
        refine s_geti X dX0_passNight_82 fl_X0_9 (ko_b hb) rfl ?_
        rw [hC1.1, show parN R k 0 = R 0 from rfl]
        refine a_iconst X dX0_passNight_85 (v := nI 1) (by decide +kernel) ?_
        refine s_iaddN X dX0_passNight_86 ?_
        refine s_puti X dX0_passNight_87 fp_X0_9 (ko_b hb) rfl rfl rfl ?_
        refine a_vret X hA dX0_passNight_90 ?_
        refine ⟨_, _, _, _, rfl, rfl, ?_⟩
        rw [hk2] at hC1
        exact ch_end hC1 hfr
      · skip
        have hlt : k < R 1 := by omega
        obtain ⟨g0, g1, g2, g3, g4, g5⟩ := ok.2.1 k hlt
        obtain ⟨m0, m1, m2, m3, m4, m5⟩ := hC1.2.2.1 k (by rw [par_1]; exact hlt)
        rw [par_at (Nat.le_refl k) (by decide)] at m4 m5
        refine a_aload_n X dX0_passNight_31 (i := 0) rfl rfl ?_
        refine s_getr X dX0_passNight_32 fl_X0_31 (ko_b hb) rfl ?_
        refine a_iload_n X dX0_passNight_35 (i := 1) rfl rfl ?_
        refine a_dup2 X dX0_passNight_36 rfl rfl ?_
        refine s_ild X dX0_passNight_37 (ki_b5 hb) (by omega) (by decide) ?_
        rw [m4]
        refine a_aload_n X dX0_passNight_38 (i := 0) rfl rfl ?_
        refine s_getr X dX0_passNight_39 fl_X0_40 (ko_b hb) rfl ?_
        refine a_iload_n X dX0_passNight_42 (i := 1) rfl rfl ?_
        refine s_ild X dX0_passNight_43 (ki_b8 hb) (by omega) (by decide) ?_
        rw [(hw k hlt).1]
        refine a_ior X dX0_passNight_44 ?_
        rw [nI_or]
        refine s_ist X dX0_passNight_45 (ki_b5 hb) (by omega) (by decide) ?_
        refine a_aload_n X dX0_passNight_46 (i := 0) rfl rfl ?_
        refine s_getr X dX0_passNight_47 fl_X0_34 (ko_b hb) rfl ?_
        refine a_iload_n X dX0_passNight_50 (i := 1) rfl rfl ?_
        refine a_iconst X dX0_passNight_51 (v := nI 0) (by decide +kernel) ?_
        refine a_bipush X dX0_passNight_52 (v := nI 99) (by decide +kernel) ?_
        refine a_aload_n X dX0_passNight_54 (i := 0) rfl rfl ?_
        refine s_getr X dX0_passNight_55 fl_X0_34 (ko_b hb) rfl ?_
        refine a_iload_n X dX0_passNight_58 (i := 1) rfl rfl ?_
        refine s_ild X dX0_passNight_59 (ki_b6 hb) (by omega) (by decide) ?_
        rw [up_n _ _ (show b + 6 ≠ b + 5 by omega), m5]
        refine a_aload_n X dX0_passNight_60 (i := 0) rfl rfl ?_
        refine s_getr X dX0_passNight_61 fl_X0_43 (ko_b hb) rfl ?_
        refine a_iload_n X dX0_passNight_64 (i := 1) rfl rfl ?_
        refine s_ild X dX0_passNight_65 (ki_b9 hb) (by omega) (by decide) ?_
        rw [up_n _ _ (show b + 9 ≠ b + 5 by omega), (hw k hlt).2]
        refine a_iadd X dX0_passNight_66 ?_
        refine a_mmin X dX0_passNight_67 ml_X0_98 min_w ⟨Nat.le_of_ble_eq_true rfl, Nat.le_of_ble_eq_true rfl⟩ ⟨Nat.le_of_ble_eq_true rfl, Nat.le_of_ble_eq_true rfl⟩ ?_
        refine a_mmax X dX0_passNight_70 ml_X0_103 max_w ⟨Nat.le_of_ble_eq_true rfl, Nat.le_of_ble_eq_true rfl⟩ ⟨Nat.le_of_ble_eq_true rfl, Nat.le_of_ble_eq_true rfl⟩ ?_
        rw [held_mm, (clt_ok _ g5 _ g0 _).1]
        refine s_ist X dX0_passNight_73 (ki_b6 hb) (by omega) (by decide) ?_
        refine a_iinc X dX0_passNight_74 rfl (v := nI (_ + 1)) (iincN _ 1) (by decide) rfl ?_
        refine a_goto X dX0_passNight_77 (tgt := 23) (by decide) ?_
        rw [up_n _ _ (show b + 6 ≠ b + 5 by omega)]
        refine ih (k + 1) _ (by omega) (by omega) (ch_56 hlt hC1) (fun m hm => ?_) (fun Q q1 q2 q3 q4 => by rw [up_n _ _ q2, up_n _ _ q1]; exact hfr Q q1 q2 q3 q4)
        rw [up_n _ _ (show b + 8 ≠ b + 6 by omega), up_n _ _ (show b + 8 ≠ b + 5 by omega), up_n _ _ (show b + 9 ≠ b + 6 by omega), up_n _ _ (show b + 9 ≠ b + 5 by omega)]
        exact hw m hm
  have L2 : ∀ (fu : Nat) (k : Nat) (I1 : TI), R 1 - k < fu → (k ≤ R 1) → (Ch I1 F b R) → ((∀ m, m < k → I1 (b + 8) m = nI (gotN R (R 1) m) ∧ I1 (b + 9) m = tirI (R (2 + 6 * m + 0)) (redN R (R 1) m))) → (∀ Q, Q ≠ b + 5 → Q ≠ b + 6 → Q ≠ b + 8 → Q ≠ b + 9 → I1 Q = I Q) → AW p l e (rmM 4 92) s m args below meth c g A 2 0 0 (MQ below (CQ g (hp g I J F w) s.heap.size (fun vv0 hh0 => ∃ II0 JJ0 FF0 ww0, vv0 = none ∧ hh0 = hp g II0 JJ0 FF0 ww0 ∧ (ChP I J F w b (nigN R)) II0 JJ0 FF0 ww0)) args s 0 0 A) 2 [some (.ref (ga g b)), some (.int (nI k))] [] (hp g I1 J F w) := by
    intro fu
    induction fu with
    | zero => intro k I1 hfu; exact absurd hfu (by omega)
    | succ fu ih =>
      intro k I1 hfu hk hC1 hw hfr
      refine a_iload_n X dX0_passNight_2 (i := 1) rfl rfl ?_
      refine a_aload_n X dX0_passNight_3 (i := 0) rfl rfl ?_
      refine s_geti X dX0_passNight_4 fl_X0_15 (ko_b hb) rfl ?_
      rw [hC1.2.1]
      refine s_icmp_geN X dX0_passNight_7 (tgt := 21) (by decide) (by omega) (by omega) (fun hc7 => ?_) (fun hc7 => ?_)
      · skip
        have hk2 : k = R 1 := by omega
        refine a_iconst X dX0_passNight_21 (v := nI 0) (by decide +kernel) ?_
        refine a_istore_n X dX0_passNight_22 (i := 1) rfl (by decide) rfl ?_
        exact L23 (R 1 + 1) 0 I1 (by omega) (by omega) (by rw [par_0]; exact hC1) (fun m hm => hw m (by omega)) hfr
      · skip
        have hlt : k < R 1 := by omega
        refine a_aload_n X dX0_passNight_10 (i := 0) rfl rfl ?_
        refine a_iload_n X dX0_passNight_11 (i := 1) rfl rfl ?_
        refine s_callV_V X dX0_passNight_12 lk_X0_94 (ko_b hb) rfl rfl (c_X0_findOut hb ok hC1 hlt hN) ⟨Nat.le_of_ble_eq_true rfl, Nat.le_of_ble_eq_true rfl⟩ rfl rfl (Nat.le_of_ble_eq_true rfl) ⟨Nat.le_of_ble_eq_true rfl, Nat.le_of_ble_eq_true rfl⟩ ?_
        refine a_iinc X dX0_passNight_15 rfl (v := nI (_ + 1)) (iincN _ 1) (by decide) rfl ?_
        refine a_goto X dX0_passNight_18 (tgt := 2) (by decide) ?_
        refine ih (k + 1) _ (by omega) (by omega) (ch_89 hC1) (fun m hm => ?_) (fun Q q1 q2 q3 q4 => by rw [up_n _ _ q4, up_n _ _ q3]; exact hfr Q q1 q2 q3 q4)
        rw [up_n _ _ (show b + 8 ≠ b + 9 by omega), up_s, up_s]
        by_cases e : m = k
        · subst e; rw [pk_us, pk_us]; exact ⟨rfl, rfl⟩
        · rw [pk_un e, pk_un e]; exact hw m (by omega)
  refine a_iconst X dX0_passNight_0 (v := nI 0) (by decide +kernel) ?_
  refine a_istore_n X dX0_passNight_1 (i := 1) rfl (by decide) rfl ?_
  exact L2 (R 1 + 1) 0 I (by omega) (by omega) hC (fun m hm => by omega) (fun _ _ _ _ _ => rfl)
set_option maxRecDepth 100000 in
set_option maxHeartbeats 4000000 in
theorem c_X0_passNights {l : Launch} {g : GG} {I : TI} {J : TJ} {F : TI} {w : Int64} {b : Nat} (hb : isB b) {R : Nat → Nat} (ok : okR R) (hC : Ch I F b R) {n : Nat} (hN : R 0 + n < 2 ^ 31) : VV l g mX0_passNights [.ref (ga g b), .int (nI n)] I J F w (ChP I J F w b (pasN R n)) := by
  refine ct_start (M := mX0_passNights) (by decide +kernel) (Nat.le_of_ble_eq_true rfl) ?_
  intro p e s m args below meth c A X hA
  have X : AX p s m args meth c g A cX0_passNights 3 RX0 (Cond.code yX0_passNights cX0_passNights 3 none) none := X
  show AW p l e (rmM 5 113) s m args below meth c g A 3 0 0 (MQ below (CQ g (hp g I J F w) s.heap.size (fun vv0 hh0 => ∃ II0 JJ0 FF0 ww0, vv0 = none ∧ hh0 = hp g II0 JJ0 FF0 ww0 ∧ (ChP I J F w b (pasN R n)) II0 JJ0 FF0 ww0)) args s 0 0 A) 0 [some (.ref (ga g b)), some (.int (nI n)), none] [] (hp g I J F w)
  have L2 : ∀ (fu : Nat) (k : Nat) (I1 : TI) (F1 : TI), n - k < fu → (k ≤ n) → (ChP I J F w b (pasN R k) I1 J F1 w) → AW p l e (rmM 5 113) s m args below meth c g A 3 0 0 (MQ below (CQ g (hp g I J F w) s.heap.size (fun vv0 hh0 => ∃ II0 JJ0 FF0 ww0, vv0 = none ∧ hh0 = hp g II0 JJ0 FF0 ww0 ∧ (ChP I J F w b (pasN R n)) II0 JJ0 FF0 ww0)) args s 0 0 A) 2 [some (.ref (ga g b)), some (.int (nI n)), some (.int (nI k))] [] (hp g I1 J F1 w) := by
    intro fu
    induction fu with
    | zero => intro k I1 F1 hfu; exact absurd hfu (by omega)
    | succ fu ih =>
      intro k I1 F1 hfu hk hK
      refine a_iload_n X dX0_passNights_2 (i := 2) rfl rfl ?_
      refine a_iload_n X dX0_passNights_3 (i := 1) rfl rfl ?_
      refine s_icmp_geN X dX0_passNights_4 (tgt := 17) (by decide) (by omega) (by omega) (fun hc4 => ?_) (fun hc4 => ?_)
      · skip
        have hk2 : n = k := by omega
        subst hk2
        refine a_vret X hA dX0_passNights_17 ?_
        exact ⟨_, _, _, _, rfl, rfl, hK⟩
      · skip
        refine a_aload_n X dX0_passNights_7 (i := 0) rfl rfl ?_
        refine s_callV_Y X dX0_passNights_8 lk_X0_91 (ko_b hb) rfl rfl (c_X0_passNight hb (okR_pas ok k) hK.1 (by rw [pas_0]; omega)) ⟨Nat.le_of_ble_eq_true rfl, Nat.le_of_ble_eq_true rfl⟩ rfl rfl (Nat.le_of_ble_eq_true rfl) ⟨Nat.le_of_ble_eq_true rfl, Nat.le_of_ble_eq_true rfl⟩ (fun I2 J2 F2 w2 hpo => ?_)
        refine a_iinc X dX0_passNights_11 rfl (v := nI (_ + 1)) (iincN _ 1) (by decide) rfl ?_
        refine a_goto X dX0_passNights_14 (tgt := 2) (by decide) ?_
        obtain ⟨e1, e2, eJ, ew⟩ := hpo
        have eJ := eJ.symm
        have ew := ew.symm
        subst eJ; subst ew
        exact ih (k + 1) I2 F2 (by omega) (by omega) ⟨e1, fun Q hQ => ⟨(e2 Q hQ).1.trans (hK.2.1 Q hQ).1, (e2 Q hQ).2.trans (hK.2.1 Q hQ).2⟩, rfl, rfl⟩
  refine a_iconst X dX0_passNights_0 (v := nI 0) (by decide +kernel) ?_
  refine a_istore_n X dX0_passNights_1 (i := 2) rfl (by decide) rfl ?_
  exact L2 (n + 1) 0 I F (by omega) (by omega) ⟨hC, fun _ _ => ⟨rfl, rfl⟩, rfl, rfl⟩
