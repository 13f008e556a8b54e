set_option maxRecDepth 100000 in
set_option maxHeartbeats 4000000 in
theorem c_J7_fill {l : Launch} {g : GG} {I : TI} {J : TJ} {F : TI} {w : Int64} {a : Nat} (ha : a < 4) : UV l g mJ7_fill_d0a16 [.ref (ga g (35 + 2 * a)), .long 0] I J F w I (va_up J (35 + 2 * a) (zrF (J (35 + 2 * a)) 40)) F w := by
  refine ct_start (M := mJ7_fill_d0a16) (by decide +kernel) (Nat.le_of_ble_eq_true rfl) ?_
  intro p e s m args below meth c A X hA
  have X : AX p s m args meth c g A cJ7_fill_d0a16 5 RJ7 (Cond.code yJ7_fill_d0a16 cJ7_fill_d0a16 5 none) none := X
  show AW p l e (rmM 0 0) s m args below meth c g A 5 0 0 (MQ below (CQ g (hp g I J F w) s.heap.size (fun vv0 hh0 => vv0 = none ∧ hh0 = hp g I (va_up J (35 + 2 * a) (zrF (J (35 + 2 * a)) 40)) F w)) args s 0 0 A) 0 [some (.ref (ga g (35 + 2 * a))), some (.long 0), none, none, none] [] (hp g I J F w)
  have L6 : ∀ (fu : Nat) (k : Nat), 40 - k < fu → (k ≤ 40) → AW p l e (rmM 0 0) s m args below meth c g A 5 0 0 (MQ below (CQ g (hp g I J F w) s.heap.size (fun vv0 hh0 => vv0 = none ∧ hh0 = hp g I (va_up J (35 + 2 * a) (zrF (J (35 + 2 * a)) 40)) F w)) args s 0 0 A) 6 [some (.ref (ga g (35 + 2 * a))), some (.long 0), none, some (.int (nI k)), some (.int (nI 40))] [] (hp g I (va_up J (35 + 2 * a) (zrF (J (35 + 2 * a)) k)) F w) := by
    intro fu
    induction fu with
    | zero => intro k hfu; exact absurd hfu (by omega)
    | succ fu ih =>
      intro k hfu hk
      refine a_iload_n X dJ7_fill_d0a16_6 (i := 3) rfl rfl ?_
      refine a_iload X dJ7_fill_d0a16_7 rfl ?_
      refine s_icmp_geN X dJ7_fill_d0a16_9 (tgt := 22) (by decide) (by omega) (by omega) (fun hc9 => ?_) (fun hc9 => ?_)
      · skip
        have hk2 : k = 40 := by omega
        subst hk2
        exact a_vret X hA dJ7_fill_d0a16_22 ⟨rfl, rfl⟩
      · skip
        refine a_aload_n X dJ7_fill_d0a16_12 (i := 0) rfl rfl ?_
        refine a_iload_n X dJ7_fill_d0a16_13 (i := 3) rfl rfl ?_
        refine a_lload_n X dJ7_fill_d0a16_14 (i := 1) rfl rfl ?_
        refine s_lst X dJ7_fill_d0a16_15 (kj_sh ha) (by omega) (by decide) ?_
        refine a_iinc X dJ7_fill_d0a16_16 rfl (v := nI (_ + 1)) (iincN _ 1) (by decide) rfl ?_
        refine a_goto X dJ7_fill_d0a16_19 (tgt := 6) (by decide) ?_
        exact (by have := ih (k + 1) (by omega) (by omega); rw [bx_uu, up_s, zr_step]; exact this)
  refine a_iconst X dJ7_fill_d0a16_0 (v := nI 0) (by decide +kernel) ?_
  refine a_istore_n X dJ7_fill_d0a16_1 (i := 3) rfl (by decide) rfl ?_
  refine a_aload_n X dJ7_fill_d0a16_2 (i := 0) rfl rfl ?_
  refine s_alenJ X dJ7_fill_d0a16_3 (kj_sh ha) ?_
  refine a_istore X dJ7_fill_d0a16_4 (by decide) rfl ?_
  exact (by have := L6 41 0 (by omega) (by omega); rw [zr_0, show va_up J (35 + 2 * a) (J (35 + 2 * a)) = J from up_self (fun _ => rfl)] at this; exact this)
set_option maxRecDepth 100000 in
set_option maxHeartbeats 4000000 in
theorem c_X2_lay {l : Launch} {g : GG} {I : TI} {J : TJ} {F : TI} {w : Int64} {a : Nat} (ha : a < 4) {y z : Int32} : UV l g mX2_lay [.ref (ga g (34 + 2 * a)), .int y, .int z] I J F w I (va_up J (35 + 2 * a) (zrF (J (35 + 2 * a)) 40)) (va_up F (34 + 2 * a) (va_up (va_up (F (34 + 2 * a)) 0 y) 1 (if y = 0 then nI 0 else z))) w := by
  refine ct_start (M := mX2_lay) (by decide +kernel) (Nat.le_of_ble_eq_true rfl) ?_
  intro p e s m args below meth c A X hA
  have X : AX p s m args meth c g A cX2_lay 3 RX2 (Cond.code yX2_lay cX2_lay 3 none) none := X
  show AW p l e (rmM 1 24) s m args below meth c g A 3 0 0 (MQ below (CQ g (hp g I J F w) s.heap.size (fun vv0 hh0 => vv0 = none ∧ hh0 = hp g I (va_up J (35 + 2 * a) (zrF (J (35 + 2 * a)) 40)) (va_up F (34 + 2 * a) (va_up (va_up (F (34 + 2 * a)) 0 y) 1 (if y = 0 then nI 0 else z))) w)) args s 0 0 A) 0 [some (.ref (ga g (34 + 2 * a))), some (.int y), some (.int z)] [] (hp g I J F w)
  refine a_aload_n X dX2_lay_0 (i := 0) rfl rfl ?_
  refine a_iload_n X dX2_lay_1 (i := 1) rfl rfl ?_
  refine s_puti X dX2_lay_2 fp_X2_9 (ko_sh ha) rfl rfl rfl ?_
  refine a_aload_n X dX2_lay_5 (i := 0) rfl rfl ?_
  refine a_iload_n X dX2_lay_6 (i := 1) rfl rfl ?_
  refine a_if_ne X dX2_lay_7 (tgt := 14) (by decide) (fun hc7 => ?_) (fun hc7 => ?_)
  · skip
    refine a_iload_n X dX2_lay_14 (i := 2) rfl rfl ?_
    refine s_puti X dX2_lay_15 fp_X2_15 (ko_sh ha) rfl rfl rfl ?_
    refine a_aload_n X dX2_lay_18 (i := 0) rfl rfl ?_
    refine s_getr X dX2_lay_19 fl_X2_18 (ko_sh ha) rfl ?_
    refine a_lconst X dX2_lay_22 (v := 0) (by decide +kernel) ?_
    refine s_callS_V X dX2_lay_23 lk_X2_22 (c_J7_fill ha) ⟨Nat.le_of_ble_eq_true rfl, Nat.le_of_ble_eq_true rfl⟩ rfl rfl (Nat.le_of_ble_eq_true rfl) ⟨Nat.le_of_ble_eq_true rfl, Nat.le_of_ble_eq_true rfl⟩ ?_
    refine a_vret X hA dX2_lay_26 ⟨?_, ?_⟩
    · rfl
    · rw [up_s, bx_uu]; first | rw [if_pos hc7] | rw [if_neg hc7]
  · skip
    refine a_iconst X dX2_lay_10 (v := nI 0) (by decide +kernel) ?_
    refine a_goto X dX2_lay_11 (tgt := 15) (by decide) ?_
    refine s_puti X dX2_lay_15 fp_X2_15 (ko_sh ha) rfl rfl rfl ?_
    refine a_aload_n X dX2_lay_18 (i := 0) rfl rfl ?_
    refine s_getr X dX2_lay_19 fl_X2_18 (ko_sh ha) rfl ?_
    refine a_lconst X dX2_lay_22 (v := 0) (by decide +kernel) ?_
    refine s_callS_V X dX2_lay_23 lk_X2_22 (c_J7_fill ha) ⟨Nat.le_of_ble_eq_true rfl, Nat.le_of_ble_eq_true rfl⟩ rfl rfl (Nat.le_of_ble_eq_true rfl) ⟨Nat.le_of_ble_eq_true rfl, Nat.le_of_ble_eq_true rfl⟩ ?_
    refine a_vret X hA dX2_lay_26 ⟨?_, ?_⟩
    · rfl
    · rw [up_s, bx_uu]; first | rw [if_pos hc7] | rw [if_neg hc7]
set_option maxRecDepth 100000 in
set_option maxHeartbeats 4000000 in
theorem c_X4_sheet {l : Launch} {g : GG} {I : TI} {J : TJ} {F : TI} {w : Int64} {x y z : Int32} : RV l g mX4_sheet [.ref (ga g 0), .int x, .int y, .int z] I J F w (ShC I J F w x y z) := by
  refine ct_start (M := mX4_sheet) (by decide +kernel) (Nat.le_of_ble_eq_true rfl) ?_
  intro p e s m args below meth c A X hA
  have X : AX p s m args meth c g A cX4_sheet 4 RX4 (Cond.code yX4_sheet cX4_sheet 4 (some .int)) (some .int) := X
  show AW p l e (rmM 2 46) s m args below meth c g A 4 0 0 (MQ below (CQ g (hp g I J F w) s.heap.size (fun vv0 hh0 => ∃ xx0 II0 JJ0 FF0 ww0, vv0 = some xx0 ∧ hh0 = hp g II0 JJ0 FF0 ww0 ∧ (ShC I J F w x y z) xx0 II0 JJ0 FF0 ww0)) args s 0 0 A) 0 [some (.ref (ga g 0)), some (.int x), some (.int y), some (.int z)] [] (hp g I J F w)
  have L36 : ∀ (a : Nat), (x = nI a) → (inB x (nI 0) (nI 3) = true) → (a < 4) → (y = 0 ∨ y = nI 8 ∨ y = nI 16 ∨ y = nI 64) → AW p l e (rmM 2 46) s m args below meth c g A 4 0 0 (MQ below (CQ g (hp g I J F w) s.heap.size (fun vv0 hh0 => ∃ xx0 II0 JJ0 FF0 ww0, vv0 = some xx0 ∧ hh0 = hp g II0 JJ0 FF0 ww0 ∧ (ShC I J F w x y z) xx0 II0 JJ0 FF0 ww0)) args s 0 0 A) 36 [some (.ref (ga g 0)), some (.int (nI a)), some (.int y), some (.int z)] [] (hp g I J F w) := by
    intro a hx hc4 ha hb
    subst hx
    refine a_iload_n X dX4_sheet_36 (i := 3) rfl rfl ?_
    refine a_if_ge X dX4_sheet_37 (tgt := 47) (by decide) (fun hc37 => ?_) (fun hc37 => ?_)
    · skip
      refine a_iload_n X dX4_sheet_47 (i := 3) rfl rfl ?_
      refine a_bipush X dX4_sheet_48 (v := nI 40) (by decide +kernel) ?_
      refine a_icmp_le X dX4_sheet_50 (tgt := 60) (by decide) (fun hc50 => ?_) (fun hc50 => ?_)
      · skip
        have ho : shO (nI a) y z = none := by rw [shO, if_pos ⟨hc4, hb⟩, if_neg (Int32.not_lt.mpr hc37), if_pos hc50]
        refine a_aload_n X dX4_sheet_60 (i := 0) rfl rfl ?_
        refine s_getr X dX4_sheet_61 fl_X4_35 ko_0 rfl ?_
        refine a_iload_n X dX4_sheet_64 (i := 1) rfl rfl ?_
        refine s_ald X dX4_sheet_65 ha ?_
        refine a_iload_n X dX4_sheet_66 (i := 2) rfl rfl ?_
        refine a_iload_n X dX4_sheet_67 (i := 3) rfl rfl ?_
        refine s_callV_V X dX4_sheet_68 lk_X4_194 (ko_sh ha) rfl rfl (c_X2_lay (a := a) (by omega)) ⟨Nat.le_of_ble_eq_true rfl, Nat.le_of_ble_eq_true rfl⟩ rfl rfl (Nat.le_of_ble_eq_true rfl) ⟨Nat.le_of_ble_eq_true rfl, Nat.le_of_ble_eq_true rfl⟩ ?_
        refine a_aload_n X dX4_sheet_71 (i := 0) rfl rfl ?_
        refine s_getr X dX4_sheet_72 fl_X4_35 ko_0 rfl ?_
        refine a_iload_n X dX4_sheet_75 (i := 1) rfl rfl ?_
        refine s_ald X dX4_sheet_76 ha ?_
        refine s_geti X dX4_sheet_77 fl_X4_197 (ko_sh ha) rfl ?_
        rw [up_s, up_s]
        refine a_iret X hA dX4_sheet_80 ?_
        exact ⟨_, _, _, _, _, rfl, rfl, (fun _ => by rw [cl_n (show a < 2 ^ 31 by omega)]; exact ⟨rfl, rfl, rfl, rfl⟩), (fun i q => by rw [ho] at q; cases q), rfl⟩
      · skip
        refine a_aload_n X dX4_sheet_53 (i := 0) rfl rfl ?_
        refine a_ldc X dX4_sheet_54 kc_X4_48 ?_
        refine s_callV_R X dX4_sheet_56 lk_X4_49 ko_0 rfl rfl (c_X4_found (k := 0) (by decide) (by decide +kernel)) ⟨Nat.le_of_ble_eq_true rfl, Nat.le_of_ble_eq_true rfl⟩ rfl rfl (Nat.le_of_ble_eq_true rfl) ⟨Nat.le_of_ble_eq_true rfl, Nat.le_of_ble_eq_true rfl⟩ ?_
        refine a_iret X hA dX4_sheet_59 ?_
        exact ⟨_, _, _, _, _, rfl, rfl, (fun q => by rw [shO, if_pos ⟨hc4, hb⟩, if_neg (Int32.not_lt.mpr hc37), if_neg hc50] at q; cases q), (fun i q => by rw [shO, if_pos ⟨hc4, hb⟩, if_neg (Int32.not_lt.mpr hc37), if_neg hc50] at q; cases q; exact ⟨by congr 1, rfl, rfl, rfl⟩), rfl⟩
    · skip
      refine a_aload_n X dX4_sheet_40 (i := 0) rfl rfl ?_
      refine a_ldc X dX4_sheet_41 kc_X4_193 ?_
      refine s_callV_R X dX4_sheet_43 lk_X4_49 ko_0 rfl rfl (c_X4_found (k := 6) (by decide) (by decide +kernel)) ⟨Nat.le_of_ble_eq_true rfl, Nat.le_of_ble_eq_true rfl⟩ rfl rfl (Nat.le_of_ble_eq_true rfl) ⟨Nat.le_of_ble_eq_true rfl, Nat.le_of_ble_eq_true rfl⟩ ?_
      refine a_iret X hA dX4_sheet_46 ?_
      exact ⟨_, _, _, _, _, rfl, rfl, (fun q => by rw [shO, if_pos ⟨hc4, hb⟩, if_pos (Int32.not_le.mp hc37)] at q; cases q), (fun i q => by rw [shO, if_pos ⟨hc4, hb⟩, if_pos (Int32.not_le.mp hc37)] at q; cases q; exact ⟨by congr 1, rfl, rfl, rfl⟩), rfl⟩
  refine a_iload_n X dX4_sheet_0 (i := 1) rfl rfl ?_
  refine s_callS_R X dX4_sheet_1 lk_X4_190 c_X4_isSheet ⟨Nat.le_of_ble_eq_true rfl, Nat.le_of_ble_eq_true rfl⟩ rfl rfl (Nat.le_of_ble_eq_true rfl) ⟨Nat.le_of_ble_eq_true rfl, Nat.le_of_ble_eq_true rfl⟩ ?_
  refine a_if_eq X dX4_sheet_4 (tgt := 29) (by decide) (fun hc4 => ?_) (fun hc4 => ?_)
  · skip
    try simp only [bI_0, Bool.not_eq_false] at hc4
    refine a_aload_n X dX4_sheet_29 (i := 0) rfl rfl ?_
    refine a_ldc X dX4_sheet_30 kc_X4_48 ?_
    refine s_callV_R X dX4_sheet_32 lk_X4_49 ko_0 rfl rfl (c_X4_found (k := 0) (by decide) (by decide +kernel)) ⟨Nat.le_of_ble_eq_true rfl, Nat.le_of_ble_eq_true rfl⟩ rfl rfl (Nat.le_of_ble_eq_true rfl) ⟨Nat.le_of_ble_eq_true rfl, Nat.le_of_ble_eq_true rfl⟩ ?_
    refine a_iret X hA dX4_sheet_35 ?_
    exact ⟨_, _, _, _, _, rfl, rfl, (fun q => by rw [shO, if_neg (by simp [*])] at q; cases q), (fun i q => by rw [shO, if_neg (by simp [*])] at q; cases q; exact ⟨by congr 1, rfl, rfl, rfl⟩), rfl⟩
  · skip
    try simp only [bI_0, Bool.not_eq_false] at hc4
    obtain ⟨a, ha0, ha, rfl⟩ := inB_r (by decide) (by decide) hc4
    refine a_iload_n X dX4_sheet_7 (i := 2) rfl rfl ?_
    refine a_if_eq X dX4_sheet_8 (tgt := 36) (by decide) (fun hc8 => ?_) (fun hc8 => ?_)
    · skip
      exact L36 a rfl hc4 (by omega) (by simp [*])
    · skip
      refine a_iload_n X dX4_sheet_11 (i := 2) rfl rfl ?_
      refine a_bipush X dX4_sheet_12 (v := nI 8) (by decide +kernel) ?_
      refine a_icmp_eq X dX4_sheet_14 (tgt := 36) (by decide) (fun hc14 => ?_) (fun hc14 => ?_)
      · skip
        exact L36 a rfl hc4 (by omega) (by simp [*])
      · skip
        refine a_iload_n X dX4_sheet_17 (i := 2) rfl rfl ?_
        refine a_bipush X dX4_sheet_18 (v := nI 16) (by decide +kernel) ?_
        refine a_icmp_eq X dX4_sheet_20 (tgt := 36) (by decide) (fun hc20 => ?_) (fun hc20 => ?_)
        · skip
          exact L36 a rfl hc4 (by omega) (by simp [*])
        · skip
          refine a_iload_n X dX4_sheet_23 (i := 2) rfl rfl ?_
          refine a_bipush X dX4_sheet_24 (v := nI 64) (by decide +kernel) ?_
          refine a_icmp_eq X dX4_sheet_26 (tgt := 36) (by decide) (fun hc26 => ?_) (fun hc26 => ?_)
          · skip
            exact L36 a rfl hc4 (by omega) (by simp [*])
          · skip
            refine a_aload_n X dX4_sheet_29 (i := 0) rfl rfl ?_
            refine a_ldc X dX4_sheet_30 kc_X4_48 ?_
            refine s_callV_R X dX4_sheet_32 lk_X4_49 ko_0 rfl rfl (c_X4_found (k := 0) (by decide) (by decide +kernel)) ⟨Nat.le_of_ble_eq_true rfl, Nat.le_of_ble_eq_true rfl⟩ rfl rfl (Nat.le_of_ble_eq_true rfl) ⟨Nat.le_of_ble_eq_true rfl, Nat.le_of_ble_eq_true rfl⟩ ?_
            refine a_iret X hA dX4_sheet_35 ?_
            exact ⟨_, _, _, _, _, rfl, rfl, (fun q => by rw [shO, if_neg (by simp [*])] at q; cases q), (fun i q => by rw [shO, if_neg (by simp [*])] at q; cases q; exact ⟨by congr 1, rfl, rfl, rfl⟩), rfl⟩
