set_option maxRecDepth 100000 in
set_option maxHeartbeats 4000000 in
theorem c_X5_narrow {l : Launch} {g : GG} {I : TI} {J : TJ} {F : TI} {w : Int64} {b : Int32} {v : Int64} : UR l g mX5_narrow [.int b, .long v] I J F w (.long (nrM b v)) I J F w := by
  refine ct_start (M := mX5_narrow) (by decide +kernel) (Nat.le_of_ble_eq_true rfl) ?_
  intro p e s m args below meth c A X hA
  have X : AX p s m args meth c g A cX5_narrow 3 RX5 (Cond.code yX5_narrow cX5_narrow 3 (some .long)) (some .long) := X
  show AW p l e (rmM 0 0) s m args below meth c g A 3 0 0 (MQ below (CQ g (hp g I J F w) s.heap.size (fun vv0 hh0 => vv0 = some (.long (nrM b v)) ∧ hh0 = hp g I J F w)) args s 0 0 A) 0 [some (.int b), some (.long v), none] [] (hp g I J F w)
  refine a_iload_n X dX5_narrow_0 (i := 0) rfl rfl ?_
  refine a_bipush X dX5_narrow_1 (v := nI 8) (by decide +kernel) ?_
  refine a_icmp_ne X dX5_narrow_3 (tgt := 16) (by decide) (fun hc3 => ?_) (fun hc3 => ?_)
  · skip
    refine a_iload_n X dX5_narrow_16 (i := 0) rfl rfl ?_
    refine a_bipush X dX5_narrow_17 (v := nI 16) (by decide +kernel) ?_
    refine a_icmp_ne X dX5_narrow_19 (tgt := 32) (by decide) (fun hc19 => ?_) (fun hc19 => ?_)
    · skip
      refine a_lload_n X dX5_narrow_32 (i := 1) rfl rfl ?_
      refine a_lret X hA dX5_narrow_33 ⟨?_, ?_⟩
      · unfold nrM; first | rw [if_pos hc3] | rw [if_neg hc3, if_pos hc19] | rw [if_neg hc3, if_neg hc19]
      · rfl
    · skip
      refine a_lload_n X dX5_narrow_22 (i := 1) rfl rfl ?_
      refine a_bipush X dX5_narrow_23 (v := nI 48) (by decide +kernel) ?_
      refine a_lshl X dX5_narrow_25 rfl ?_
      refine a_bipush X dX5_narrow_26 (v := nI 48) (by decide +kernel) ?_
      refine a_lshr X dX5_narrow_28 rfl ?_
      refine a_goto X dX5_narrow_29 (tgt := 33) (by decide) ?_
      refine a_lret X hA dX5_narrow_33 ⟨?_, ?_⟩
      · unfold nrM; first | rw [if_pos hc3] | rw [if_neg hc3, if_pos hc19] | rw [if_neg hc3, if_neg hc19]
      · rfl
  · skip
    refine a_lload_n X dX5_narrow_6 (i := 1) rfl rfl ?_
    refine a_bipush X dX5_narrow_7 (v := nI 56) (by decide +kernel) ?_
    refine a_lshl X dX5_narrow_9 rfl ?_
    refine a_bipush X dX5_narrow_10 (v := nI 56) (by decide +kernel) ?_
    refine a_lshr X dX5_narrow_12 rfl ?_
    refine a_goto X dX5_narrow_13 (tgt := 33) (by decide) ?_
    refine a_lret X hA dX5_narrow_33 ⟨?_, ?_⟩
    · unfold nrM; first | rw [if_pos hc3] | rw [if_neg hc3, if_pos hc19] | rw [if_neg hc3, if_neg hc19]
    · rfl
set_option maxRecDepth 100000 in
set_option maxHeartbeats 4000000 in
theorem c_X5_sheet {l : Launch} {g : GG} {I : TI} {J : TJ} {F : TI} {w : Int64} {x y z : Int32} : RV l g mX5_sheet [.ref (ga g 43), .int x, .int y, .int z] I J F w (ShM I J F w x y z) := by
  refine ct_start (M := mX5_sheet) (by decide +kernel) (Nat.le_of_ble_eq_true rfl) ?_
  intro p e s m args below meth c A X hA
  have X : AX p s m args meth c g A cX5_sheet 5 RX5 (Cond.code yX5_sheet cX5_sheet 5 (some .int)) (some .int) := X
  show AW p l e (rmM 2 42) s m args below meth c g A 5 0 0 (MQ below (CQ g (hp g I J F w) s.heap.size (fun vv0 hh0 => ∃ xx0 II0 JJ0 FF0 ww0, vv0 = some xx0 ∧ hh0 = hp g II0 JJ0 FF0 ww0 ∧ (ShM I J F w x y z) xx0 II0 JJ0 FF0 ww0)) args s 0 0 A) 0 [some (.ref (ga g 43)), some (.int x), some (.int y), some (.int z), none] [] (hp g I J F w)
  have L86 : ∀ (fu : Nat) (a : Nat) (k : Nat), 40 - k < fu → (x = nI a) → (a < 4) → (k ≤ 40) → (shO x y z = none) → AW p l e (rmM 2 42) s m args below meth c g A 5 0 0 (MQ below (CQ g (hp g I J F w) s.heap.size (fun vv0 hh0 => ∃ xx0 II0 JJ0 FF0 ww0, vv0 = some xx0 ∧ hh0 = hp g II0 JJ0 FF0 ww0 ∧ (ShM I J F w x y z) xx0 II0 JJ0 FF0 ww0)) args s 0 0 A) 86 [some (.ref (ga g 43)), some (.int (nI a)), some (.int y), some (.int z), some (.int (nI k))] [] (hp g (va_up (va_up I 51 (upd (I 51) a y)) 52 (upd (I 52) a (if y = 0 then nI 0 else z))) (va_up J 53 (fun i => if 40 * a ≤ i ∧ i < 40 * a + k then 0 else J 53 i)) F w) := by
    intro fu
    induction fu with
    | zero => intro a k hfu; exact absurd hfu (by omega)
    | succ fu ih =>
      intro a k hfu hx ha hk ho
      subst hx
      refine a_iload X dX5_sheet_86 rfl ?_
      refine a_bipush X dX5_sheet_88 (v := nI 40) (by decide +kernel) ?_
      refine s_icmp_geN X dX5_sheet_90 (tgt := 112) (by decide) (by omega) (by omega) (fun hc90 => ?_) (fun hc90 => ?_)
      · skip
        have hk2 : k = 40 := by omega
        subst hk2
        refine a_aload_n X dX5_sheet_112 (i := 0) rfl rfl ?_
        refine s_getr X dX5_sheet_113 fl_X5_34 ko_43 rfl ?_
        refine a_iload_n X dX5_sheet_116 (i := 1) rfl rfl ?_
        refine s_ild X dX5_sheet_117 ki_52 (by omega) (by decide) ?_
        rw [up_s, pk_us]
        refine a_iret X hA dX5_sheet_118 ?_
        exact ⟨_, _, _, _, _, rfl, rfl, (fun _ => by rw [cl_n (show a < 2 ^ 31 by omega)]; exact ⟨rfl, rfl, rfl⟩), (fun i q => by rw [ho] at q; cases q), rfl, rfl⟩
      · skip
        refine a_aload_n X dX5_sheet_93 (i := 0) rfl rfl ?_
        refine s_getr X dX5_sheet_94 fl_X5_37 ko_43 rfl ?_
        refine a_bipush X dX5_sheet_97 (v := nI 40) (by decide +kernel) ?_
        refine a_iload_n X dX5_sheet_99 (i := 1) rfl rfl ?_
        refine s_imulN X dX5_sheet_100 ?_
        refine a_iload X dX5_sheet_101 rfl ?_
        refine s_iaddN X dX5_sheet_103 ?_
        refine a_lconst X dX5_sheet_104 (v := 0) (by decide +kernel) ?_
        refine s_lst X dX5_sheet_105 kj_53 (by omega) (by decide) ?_
        refine a_iinc X dX5_sheet_106 rfl (v := nI (_ + 1)) (iincN _ 1) (by decide) rfl ?_
        refine a_goto X dX5_sheet_109 (tgt := 86) (by decide) ?_
        exact (by have := ih a (k + 1) (by omega) rfl ha (by omega) ho; rw [up_s, bx_uu, sh_step]; exact this)
  have L36 : ∀ (a : Nat), (x = nI a) → (inB x (nI 0) (nI 3) = true) → (a < 4) → (y = 0 ∨ y = nI 8 ∨ y = nI 16 ∨ y = nI 64) → AW p l e (rmM 2 42) s m args below meth c g A 5 0 0 (MQ below (CQ g (hp g I J F w) s.heap.size (fun vv0 hh0 => ∃ xx0 II0 JJ0 FF0 ww0, vv0 = some xx0 ∧ hh0 = hp g II0 JJ0 FF0 ww0 ∧ (ShM I J F w x y z) xx0 II0 JJ0 FF0 ww0)) args s 0 0 A) 36 [some (.ref (ga g 43)), some (.int (nI a)), some (.int y), some (.int z), none] [] (hp g I J F w) := by
    intro a hx hc4 ha hb
    subst hx
    refine a_iload_n X dX5_sheet_36 (i := 3) rfl rfl ?_
    refine a_if_ge X dX5_sheet_37 (tgt := 48) (by decide) (fun hc37 => ?_) (fun hc37 => ?_)
    · skip
      refine a_iload_n X dX5_sheet_48 (i := 3) rfl rfl ?_
      refine a_bipush X dX5_sheet_49 (v := nI 40) (by decide +kernel) ?_
      refine a_icmp_le X dX5_sheet_51 (tgt := 61) (by decide) (fun hc51 => ?_) (fun hc51 => ?_)
      · skip
        have ho : shO (nI a) y z = none := by rw [shO, if_pos ⟨hc4, hb⟩, if_neg (Int32.not_lt.mpr hc37), if_pos hc51]
        refine a_aload_n X dX5_sheet_61 (i := 0) rfl rfl ?_
        refine s_getr X dX5_sheet_62 fl_X5_31 ko_43 rfl ?_
        refine a_iload_n X dX5_sheet_65 (i := 1) rfl rfl ?_
        refine a_iload_n X dX5_sheet_66 (i := 2) rfl rfl ?_
        refine s_ist X dX5_sheet_67 ki_51 (by omega) (by decide) ?_
        refine a_aload_n X dX5_sheet_68 (i := 0) rfl rfl ?_
        refine s_getr X dX5_sheet_69 fl_X5_34 ko_43 rfl ?_
        refine a_iload_n X dX5_sheet_72 (i := 1) rfl rfl ?_
        refine a_iload_n X dX5_sheet_73 (i := 2) rfl rfl ?_
        refine a_if_ne X dX5_sheet_74 (tgt := 81) (by decide) (fun hc74 => ?_) (fun hc74 => ?_)
        · skip
          refine a_iload_n X dX5_sheet_81 (i := 3) rfl rfl ?_
          refine s_ist X dX5_sheet_82 ki_52 (by omega) (by decide) ?_
          refine a_iconst X dX5_sheet_83 (v := nI 0) (by decide +kernel) ?_
          refine a_istore X dX5_sheet_84 (by decide) rfl ?_
          exact (by have := L86 41 a 0 (by omega) rfl ha (by omega) ho; rw [sh_0] at this; rw [show va_up I 51 (upd (I 51) a y) 52 = I 52 from up_n _ _ (by decide)]; first | (rw [if_pos hc74] at this; exact this) | (rw [if_neg hc74] at this; exact this))
        · skip
          refine a_iconst X dX5_sheet_77 (v := nI 0) (by decide +kernel) ?_
          refine a_goto X dX5_sheet_78 (tgt := 82) (by decide) ?_
          refine s_ist X dX5_sheet_82 ki_52 (by omega) (by decide) ?_
          refine a_iconst X dX5_sheet_83 (v := nI 0) (by decide +kernel) ?_
          refine a_istore X dX5_sheet_84 (by decide) rfl ?_
          exact (by have := L86 41 a 0 (by omega) rfl ha (by omega) ho; rw [sh_0] at this; rw [show va_up I 51 (upd (I 51) a y) 52 = I 52 from up_n _ _ (by decide)]; first | (rw [if_pos hc74] at this; exact this) | (rw [if_neg hc74] at this; exact this))
      · skip
        refine a_aload_n X dX5_sheet_54 (i := 0) rfl rfl ?_
        refine a_ldc X dX5_sheet_55 kc_X5_50 ?_
        refine s_callV_R X dX5_sheet_57 lk_X5_67 ko_43 rfl rfl (c_X5_finds (k := 0) (by decide) (by decide +kernel)) ⟨Nat.le_of_ble_eq_true rfl, Nat.le_of_ble_eq_true rfl⟩ rfl rfl (Nat.le_of_ble_eq_true rfl) ⟨Nat.le_of_ble_eq_true rfl, Nat.le_of_ble_eq_true rfl⟩ ?_
        refine a_iret X hA dX5_sheet_60 ?_
        exact ⟨_, _, _, _, _, rfl, rfl, (fun q => by rw [shO, if_pos ⟨hc4, hb⟩, if_neg (Int32.not_lt.mpr hc37), if_neg hc51] at q; cases q), (fun i q => by rw [shO, if_pos ⟨hc4, hb⟩, if_neg (Int32.not_lt.mpr hc37), if_neg hc51] at q; cases q; exact ⟨by congr 1, rfl, rfl⟩), rfl, rfl⟩
    · skip
      refine a_aload_n X dX5_sheet_40 (i := 0) rfl rfl ?_
      refine a_ldcw X dX5_sheet_41 kc_X5_265 ?_
      refine s_callV_R X dX5_sheet_44 lk_X5_67 ko_43 rfl rfl (c_X5_finds (k := 6) (by decide) (by decide +kernel)) ⟨Nat.le_of_ble_eq_true rfl, Nat.le_of_ble_eq_true rfl⟩ rfl rfl (Nat.le_of_ble_eq_true rfl) ⟨Nat.le_of_ble_eq_true rfl, Nat.le_of_ble_eq_true rfl⟩ ?_
      refine a_iret X hA dX5_sheet_47 ?_
      exact ⟨_, _, _, _, _, rfl, rfl, (fun q => by rw [shO, if_pos ⟨hc4, hb⟩, if_pos (Int32.not_le.mp hc37)] at q; cases q), (fun i q => by rw [shO, if_pos ⟨hc4, hb⟩, if_pos (Int32.not_le.mp hc37)] at q; cases q; exact ⟨by congr 1, rfl, rfl⟩), rfl, rfl⟩
  refine a_iload_n X dX5_sheet_0 (i := 1) rfl rfl ?_
  refine s_callS_R X dX5_sheet_1 lk_X5_262 c_X5_isSheet ⟨Nat.le_of_ble_eq_true rfl, Nat.le_of_ble_eq_true rfl⟩ rfl rfl (Nat.le_of_ble_eq_true rfl) ⟨Nat.le_of_ble_eq_true rfl, Nat.le_of_ble_eq_true rfl⟩ ?_
  refine a_if_eq X dX5_sheet_4 (tgt := 29) (by decide) (fun hc4 => ?_) (fun hc4 => ?_)
  · skip
    try simp only [bI_0, Bool.not_eq_false] at hc4
    refine a_aload_n X dX5_sheet_29 (i := 0) rfl rfl ?_
    refine a_ldc X dX5_sheet_30 kc_X5_50 ?_
    refine s_callV_R X dX5_sheet_32 lk_X5_67 ko_43 rfl rfl (c_X5_finds (k := 0) (by decide) (by decide +kernel)) ⟨Nat.le_of_ble_eq_true rfl, Nat.le_of_ble_eq_true rfl⟩ rfl rfl (Nat.le_of_ble_eq_true rfl) ⟨Nat.le_of_ble_eq_true rfl, Nat.le_of_ble_eq_true rfl⟩ ?_
    refine a_iret X hA dX5_sheet_35 ?_
    exact ⟨_, _, _, _, _, rfl, rfl, (fun q => by rw [shO, if_neg (by simp [*])] at q; cases q), (fun i q => by rw [shO, if_neg (by simp [*])] at q; cases q; exact ⟨by congr 1, rfl, rfl⟩), rfl, rfl⟩
  · skip
    try simp only [bI_0, Bool.not_eq_false] at hc4
    obtain ⟨a, ha0, ha, rfl⟩ := inB_r (by decide) (by decide) hc4
    refine a_iload_n X dX5_sheet_7 (i := 2) rfl rfl ?_
    refine a_if_eq X dX5_sheet_8 (tgt := 36) (by decide) (fun hc8 => ?_) (fun hc8 => ?_)
    · skip
      exact L36 a rfl hc4 (by omega) (by simp [*])
    · skip
      refine a_iload_n X dX5_sheet_11 (i := 2) rfl rfl ?_
      refine a_bipush X dX5_sheet_12 (v := nI 8) (by decide +kernel) ?_
      refine a_icmp_eq X dX5_sheet_14 (tgt := 36) (by decide) (fun hc14 => ?_) (fun hc14 => ?_)
      · skip
        exact L36 a rfl hc4 (by omega) (by simp [*])
      · skip
        refine a_iload_n X dX5_sheet_17 (i := 2) rfl rfl ?_
        refine a_bipush X dX5_sheet_18 (v := nI 16) (by decide +kernel) ?_
        refine a_icmp_eq X dX5_sheet_20 (tgt := 36) (by decide) (fun hc20 => ?_) (fun hc20 => ?_)
        · skip
          exact L36 a rfl hc4 (by omega) (by simp [*])
        · skip
          refine a_iload_n X dX5_sheet_23 (i := 2) rfl rfl ?_
          refine a_bipush X dX5_sheet_24 (v := nI 64) (by decide +kernel) ?_
          refine a_icmp_eq X dX5_sheet_26 (tgt := 36) (by decide) (fun hc26 => ?_) (fun hc26 => ?_)
          · skip
            exact L36 a rfl hc4 (by omega) (by simp [*])
          · skip
            refine a_aload_n X dX5_sheet_29 (i := 0) rfl rfl ?_
            refine a_ldc X dX5_sheet_30 kc_X5_50 ?_
            refine s_callV_R X dX5_sheet_32 lk_X5_67 ko_43 rfl rfl (c_X5_finds (k := 0) (by decide) (by decide +kernel)) ⟨Nat.le_of_ble_eq_true rfl, Nat.le_of_ble_eq_true rfl⟩ rfl rfl (Nat.le_of_ble_eq_true rfl) ⟨Nat.le_of_ble_eq_true rfl, Nat.le_of_ble_eq_true rfl⟩ ?_
            refine a_iret X hA dX5_sheet_35 ?_
            exact ⟨_, _, _, _, _, rfl, rfl, (fun q => by rw [shO, if_neg (by simp [*])] at q; cases q), (fun i q => by rw [shO, if_neg (by simp [*])] at q; cases q; exact ⟨by congr 1, rfl, rfl⟩), rfl, rfl⟩
set_option maxRecDepth 100000 in
set_option maxHeartbeats 4000000 in
theorem c_X5_write {l : Launch} {g : GG} {I : TI} {J : TJ} {F : TI} {w : Int64} {x y : Int32} {v : Int64} {Z : Nat → Nat} (hZ : ∀ i, i < 4 → I 52 i = nI (Z i) ∧ Z i ≤ 40) : RV l g mX5_write [.ref (ga g 43), .int x, .int y, .long v] I J F w (WrM I J F w x y v) := by
  refine ct_start (M := mX5_write) (by decide +kernel) (Nat.le_of_ble_eq_true rfl) ?_
  intro p e s m args below meth c A X hA
  have X : AX p s m args meth c g A cX5_write 7 RX5 (Cond.code yX5_write cX5_write 7 (some .long)) (some .long) := X
  show AW p l e (rmM 2 42) s m args below meth c g A 7 0 0 (MQ below (CQ g (hp g I J F w) s.heap.size (fun vv0 hh0 => ∃ xx0 II0 JJ0 FF0 ww0, vv0 = some xx0 ∧ hh0 = hp g II0 JJ0 FF0 ww0 ∧ (WrM I J F w x y v) xx0 II0 JJ0 FF0 ww0)) args s 0 0 A) 0 [some (.ref (ga g 43)), some (.int x), some (.int y), some (.long v), none, none, none] [] (hp g I J F w)
  refine a_iload_n X dX5_write_0 (i := 1) rfl rfl ?_
  refine s_callS_R X dX5_write_1 lk_X5_262 c_X5_isSheet ⟨Nat.le_of_ble_eq_true rfl, Nat.le_of_ble_eq_true rfl⟩ rfl rfl (Nat.le_of_ble_eq_true rfl) ⟨Nat.le_of_ble_eq_true rfl, Nat.le_of_ble_eq_true rfl⟩ ?_
  refine a_if_ne X dX5_write_4 (tgt := 15) (by decide) (fun hc4 => ?_) (fun hc4 => ?_)
  · skip
    try simp only [bI_0, Bool.not_eq_false] at hc4
    obtain ⟨a, ha0, ha, rfl⟩ := inB_r (by decide) (by decide) hc4
    refine a_aload_n X dX5_write_15 (i := 0) rfl rfl ?_
    refine s_getr X dX5_write_16 fl_X5_31 ko_43 rfl ?_
    refine a_iload_n X dX5_write_19 (i := 1) rfl rfl ?_
    refine s_ild X dX5_write_20 ki_51 (by omega) (by decide) ?_
    refine a_if_ne X dX5_write_21 (tgt := 33) (by decide) (fun hc21 => ?_) (fun hc21 => ?_)
    · skip
      refine a_iload_n X dX5_write_33 (i := 2) rfl rfl ?_
      refine a_iconst X dX5_write_34 (v := nI 0) (by decide +kernel) ?_
      refine a_aload_n X dX5_write_35 (i := 0) rfl rfl ?_
      refine s_getr X dX5_write_36 fl_X5_34 ko_43 rfl ?_
      refine a_iload_n X dX5_write_39 (i := 1) rfl rfl ?_
      refine s_ild X dX5_write_40 ki_52 (by omega) (by decide) ?_
      refine a_iconst X dX5_write_41 (v := nI 1) (by decide +kernel) ?_
      refine a_isub X dX5_write_42 ?_
      refine s_callS_R X dX5_write_43 lk_X5_51 c_X5_in ⟨Nat.le_of_ble_eq_true rfl, Nat.le_of_ble_eq_true rfl⟩ rfl rfl (Nat.le_of_ble_eq_true rfl) ⟨Nat.le_of_ble_eq_true rfl, Nat.le_of_ble_eq_true rfl⟩ ?_
      refine a_if_ne X dX5_write_46 (tgt := 57) (by decide) (fun hc46 => ?_) (fun hc46 => ?_)
      · skip
        try simp only [bI_0, Bool.not_eq_false] at hc46
        have hw0 : wrO I (nI a) y = none := by rw [wrO, if_pos hc4, cl_n (by omega), if_neg hc21, if_pos hc46]
        rw [(hZ a (by omega)).1] at hc46
        obtain ⟨b, hb, rfl⟩ := isM_t (n := Z a) (by have := (hZ a (by omega)).2; omega) hc46
        have hz2 := (hZ a (by omega)).2
        refine a_aload_n X dX5_write_57 (i := 0) rfl rfl ?_
        refine s_getr X dX5_write_58 fl_X5_37 ko_43 rfl ?_
        refine a_bipush X dX5_write_61 (v := nI 40) (by decide +kernel) ?_
        refine a_iload_n X dX5_write_63 (i := 1) rfl rfl ?_
        refine s_imulN X dX5_write_64 ?_
        refine a_iload_n X dX5_write_65 (i := 2) rfl rfl ?_
        refine s_iaddN X dX5_write_66 ?_
        refine s_lld X dX5_write_67 kj_53 (by omega) (by decide) ?_
        refine a_lstore X dX5_write_68 (by decide) rfl ?_
        refine a_aload_n X dX5_write_70 (i := 0) rfl rfl ?_
        refine s_getr X dX5_write_71 fl_X5_37 ko_43 rfl ?_
        refine a_bipush X dX5_write_74 (v := nI 40) (by decide +kernel) ?_
        refine a_iload_n X dX5_write_76 (i := 1) rfl rfl ?_
        refine s_imulN X dX5_write_77 ?_
        refine a_iload_n X dX5_write_78 (i := 2) rfl rfl ?_
        refine s_iaddN X dX5_write_79 ?_
        refine a_aload_n X dX5_write_80 (i := 0) rfl rfl ?_
        refine s_getr X dX5_write_81 fl_X5_31 ko_43 rfl ?_
        refine a_iload_n X dX5_write_84 (i := 1) rfl rfl ?_
        refine s_ild X dX5_write_85 ki_51 (by omega) (by decide) ?_
        refine a_lload_n X dX5_write_86 (i := 3) rfl rfl ?_
        refine s_callS_R X dX5_write_87 lk_X5_267 c_X5_narrow ⟨Nat.le_of_ble_eq_true rfl, Nat.le_of_ble_eq_true rfl⟩ rfl rfl (Nat.le_of_ble_eq_true rfl) ⟨Nat.le_of_ble_eq_true rfl, Nat.le_of_ble_eq_true rfl⟩ ?_
        refine s_lst X dX5_write_90 kj_53 (by omega) (by decide) ?_
        refine a_lload X dX5_write_91 rfl ?_
        refine a_lret X hA dX5_write_93 ?_
        exact ⟨_, _, _, _, _, rfl, rfl, (fun _ => by rw [cl_n (show a < 2 ^ 31 by omega), cl_n (show b < 2 ^ 31 by omega)]; exact ⟨rfl, rfl, rfl⟩), (fun i q => by rw [hw0] at q; cases q), rfl, rfl⟩
      · skip
        try simp only [bI_0, Bool.not_eq_false] at hc46
        refine a_aload_n X dX5_write_49 (i := 0) rfl rfl ?_
        refine a_ldc X dX5_write_50 kc_X5_50 ?_
        refine s_callV_R X dX5_write_52 lk_X5_67 ko_43 rfl rfl (c_X5_finds (k := 0) (by decide) (by decide +kernel)) ⟨Nat.le_of_ble_eq_true rfl, Nat.le_of_ble_eq_true rfl⟩ rfl rfl (Nat.le_of_ble_eq_true rfl) ⟨Nat.le_of_ble_eq_true rfl, Nat.le_of_ble_eq_true rfl⟩ ?_
        refine a_i2l X dX5_write_55 rfl ?_
        refine a_lret X hA dX5_write_56 ?_
        exact ⟨_, _, _, _, _, rfl, rfl, (fun q => by rw [wrO, if_pos hc4, cl_n (show a < 2 ^ 31 by omega), if_neg hc21, if_neg (by rw [hc46]; decide)] at q; cases q), (fun i q => by rw [wrO, if_pos hc4, cl_n (show a < 2 ^ 31 by omega), if_neg hc21, if_neg (by rw [hc46]; decide)] at q; cases q; exact ⟨by congr 1, rfl, rfl⟩), rfl, rfl⟩
    · skip
      refine a_aload_n X dX5_write_24 (i := 0) rfl rfl ?_
      refine a_ldcw X dX5_write_25 kc_X5_266 ?_
      refine s_callV_R X dX5_write_28 lk_X5_67 ko_43 rfl rfl (c_X5_finds (k := 5) (by decide) (by decide +kernel)) ⟨Nat.le_of_ble_eq_true rfl, Nat.le_of_ble_eq_true rfl⟩ rfl rfl (Nat.le_of_ble_eq_true rfl) ⟨Nat.le_of_ble_eq_true rfl, Nat.le_of_ble_eq_true rfl⟩ ?_
      refine a_i2l X dX5_write_31 rfl ?_
      refine a_lret X hA dX5_write_32 ?_
      exact ⟨_, _, _, _, _, rfl, rfl, (fun q => by rw [wrO, if_pos hc4, cl_n (show a < 2 ^ 31 by omega), if_pos hc21] at q; cases q), (fun i q => by rw [wrO, if_pos hc4, cl_n (show a < 2 ^ 31 by omega), if_pos hc21] at q; cases q; exact ⟨by congr 1, rfl, rfl⟩), rfl, rfl⟩
  · skip
    try simp only [bI_0, Bool.not_eq_false] at hc4
    refine a_aload_n X dX5_write_7 (i := 0) rfl rfl ?_
    refine a_ldc X dX5_write_8 kc_X5_50 ?_
    refine s_callV_R X dX5_write_10 lk_X5_67 ko_43 rfl rfl (c_X5_finds (k := 0) (by decide) (by decide +kernel)) ⟨Nat.le_of_ble_eq_true rfl, Nat.le_of_ble_eq_true rfl⟩ rfl rfl (Nat.le_of_ble_eq_true rfl) ⟨Nat.le_of_ble_eq_true rfl, Nat.le_of_ble_eq_true rfl⟩ ?_
    refine a_i2l X dX5_write_13 rfl ?_
    refine a_lret X hA dX5_write_14 ?_
    exact ⟨_, _, _, _, _, rfl, rfl, (fun q => by rw [wrO, if_neg (by rw [hc4]; decide)] at q; cases q), (fun i q => by rw [wrO, if_neg (by rw [hc4]; decide)] at q; cases q; exact ⟨by congr 1, rfl, rfl⟩), rfl, rfl⟩
set_option maxRecDepth 100000 in
set_option maxHeartbeats 4000000 in
theorem c_X5_isPart_ {l : Launch} {g : GG} {I : TI} {J : TJ} {F : TI} {w : Int64} {a : Nat} (ha : a < 4) {f n : Int32} : UR l g mX5_isPart_ [.ref (ga g 43), .int (nI a), .int f, .int n] I J F w (.int (bI (parB (I 52 a) f n))) I J F w := by
  refine ct_start (M := mX5_isPart_) (by decide +kernel) (Nat.le_of_ble_eq_true rfl) ?_
  intro p e s m args below meth c A X hA
  have X : AX p s m args meth c g A cX5_isPart_ 4 RX5 (Cond.code yX5_isPart_ cX5_isPart_ 4 (some .boolean)) (some .boolean) := X
  show AW p l e (rmM 0 0) s m args below meth c g A 4 0 0 (MQ below (CQ g (hp g I J F w) s.heap.size (fun vv0 hh0 => vv0 = some (.int (bI (parB (I 52 a) f n))) ∧ hh0 = hp g I J F w)) args s 0 0 A) 0 [some (.ref (ga g 43)), some (.int (nI a)), some (.int f), some (.int n)] [] (hp g I J F w)
  refine a_iload_n X dX5_isPart__0 (i := 2) rfl rfl ?_
  refine a_if_lt X dX5_isPart__1 (tgt := 34) (by decide) (fun hc1 => ?_) (fun hc1 => ?_)
  · skip
    refine a_iconst X dX5_isPart__34 (v := nI 0) (by decide +kernel) ?_
    refine a_zret X hA dX5_isPart__35 (by first | exact nar_bI _ | decide +kernel) ⟨?_, ?_⟩
    · congr 2; first | (refine bf0 ?_; simp only [parB, Bool.and_eq_false_iff, decide_eq_false_iff_not]; exact Or.inl (Int32.not_le.mpr hc1)) | (refine bf0 ?_; simp only [parB, Bool.and_eq_false_iff, decide_eq_false_iff_not]; exact Or.inr (Or.inl (Int32.not_le.mpr hc5))) | (refine bf0 ?_; simp only [parB, Bool.and_eq_false_iff, decide_eq_false_iff_not]; exact Or.inr (Or.inr (Or.inl (Int32.not_le.mpr hc15)))) | (refine bf0 ?_; simp only [parB, Bool.and_eq_false_iff, decide_eq_false_iff_not]; exact Or.inr (Or.inr (Or.inr (Int32.not_le.mpr hc27)))) | (refine bt1 ?_; simp only [parB, Bool.and_eq_true, decide_eq_true_eq]; exact ⟨Int32.not_lt.mp hc1, Int32.not_lt.mp hc5, Int32.not_lt.mp hc15, Int32.not_lt.mp hc27⟩)
    · rfl
  · skip
    refine a_iload_n X dX5_isPart__4 (i := 3) rfl rfl ?_
    refine a_if_lt X dX5_isPart__5 (tgt := 34) (by decide) (fun hc5 => ?_) (fun hc5 => ?_)
    · skip
      refine a_iconst X dX5_isPart__34 (v := nI 0) (by decide +kernel) ?_
      refine a_zret X hA dX5_isPart__35 (by first | exact nar_bI _ | decide +kernel) ⟨?_, ?_⟩
      · congr 2; first | (refine bf0 ?_; simp only [parB, Bool.and_eq_false_iff, decide_eq_false_iff_not]; exact Or.inl (Int32.not_le.mpr hc1)) | (refine bf0 ?_; simp only [parB, Bool.and_eq_false_iff, decide_eq_false_iff_not]; exact Or.inr (Or.inl (Int32.not_le.mpr hc5))) | (refine bf0 ?_; simp only [parB, Bool.and_eq_false_iff, decide_eq_false_iff_not]; exact Or.inr (Or.inr (Or.inl (Int32.not_le.mpr hc15)))) | (refine bf0 ?_; simp only [parB, Bool.and_eq_false_iff, decide_eq_false_iff_not]; exact Or.inr (Or.inr (Or.inr (Int32.not_le.mpr hc27)))) | (refine bt1 ?_; simp only [parB, Bool.and_eq_true, decide_eq_true_eq]; exact ⟨Int32.not_lt.mp hc1, Int32.not_lt.mp hc5, Int32.not_lt.mp hc15, Int32.not_lt.mp hc27⟩)
      · rfl
    · skip
      refine a_iload_n X dX5_isPart__8 (i := 3) rfl rfl ?_
      refine a_aload_n X dX5_isPart__9 (i := 0) rfl rfl ?_
      refine s_getr X dX5_isPart__10 fl_X5_34 ko_43 rfl ?_
      refine a_iload_n X dX5_isPart__13 (i := 1) rfl rfl ?_
      refine s_ild X dX5_isPart__14 ki_52 (by omega) (by decide) ?_
      refine a_icmp_gt X dX5_isPart__15 (tgt := 34) (by decide) (fun hc15 => ?_) (fun hc15 => ?_)
      · skip
        refine a_iconst X dX5_isPart__34 (v := nI 0) (by decide +kernel) ?_
        refine a_zret X hA dX5_isPart__35 (by first | exact nar_bI _ | decide +kernel) ⟨?_, ?_⟩
        · congr 2; first | (refine bf0 ?_; simp only [parB, Bool.and_eq_false_iff, decide_eq_false_iff_not]; exact Or.inl (Int32.not_le.mpr hc1)) | (refine bf0 ?_; simp only [parB, Bool.and_eq_false_iff, decide_eq_false_iff_not]; exact Or.inr (Or.inl (Int32.not_le.mpr hc5))) | (refine bf0 ?_; simp only [parB, Bool.and_eq_false_iff, decide_eq_false_iff_not]; exact Or.inr (Or.inr (Or.inl (Int32.not_le.mpr hc15)))) | (refine bf0 ?_; simp only [parB, Bool.and_eq_false_iff, decide_eq_false_iff_not]; exact Or.inr (Or.inr (Or.inr (Int32.not_le.mpr hc27)))) | (refine bt1 ?_; simp only [parB, Bool.and_eq_true, decide_eq_true_eq]; exact ⟨Int32.not_lt.mp hc1, Int32.not_lt.mp hc5, Int32.not_lt.mp hc15, Int32.not_lt.mp hc27⟩)
        · rfl
      · skip
        refine a_iload_n X dX5_isPart__18 (i := 2) rfl rfl ?_
        refine a_aload_n X dX5_isPart__19 (i := 0) rfl rfl ?_
        refine s_getr X dX5_isPart__20 fl_X5_34 ko_43 rfl ?_
        refine a_iload_n X dX5_isPart__23 (i := 1) rfl rfl ?_
        refine s_ild X dX5_isPart__24 ki_52 (by omega) (by decide) ?_
        refine a_iload_n X dX5_isPart__25 (i := 3) rfl rfl ?_
        refine a_isub X dX5_isPart__26 ?_
        refine a_icmp_gt X dX5_isPart__27 (tgt := 34) (by decide) (fun hc27 => ?_) (fun hc27 => ?_)
        · skip
          refine a_iconst X dX5_isPart__34 (v := nI 0) (by decide +kernel) ?_
          refine a_zret X hA dX5_isPart__35 (by first | exact nar_bI _ | decide +kernel) ⟨?_, ?_⟩
          · congr 2; first | (refine bf0 ?_; simp only [parB, Bool.and_eq_false_iff, decide_eq_false_iff_not]; exact Or.inl (Int32.not_le.mpr hc1)) | (refine bf0 ?_; simp only [parB, Bool.and_eq_false_iff, decide_eq_false_iff_not]; exact Or.inr (Or.inl (Int32.not_le.mpr hc5))) | (refine bf0 ?_; simp only [parB, Bool.and_eq_false_iff, decide_eq_false_iff_not]; exact Or.inr (Or.inr (Or.inl (Int32.not_le.mpr hc15)))) | (refine bf0 ?_; simp only [parB, Bool.and_eq_false_iff, decide_eq_false_iff_not]; exact Or.inr (Or.inr (Or.inr (Int32.not_le.mpr hc27)))) | (refine bt1 ?_; simp only [parB, Bool.and_eq_true, decide_eq_true_eq]; exact ⟨Int32.not_lt.mp hc1, Int32.not_lt.mp hc5, Int32.not_lt.mp hc15, Int32.not_lt.mp hc27⟩)
          · rfl
        · skip
          refine a_iconst X dX5_isPart__30 (v := nI 1) (by decide +kernel) ?_
          refine a_goto X dX5_isPart__31 (tgt := 35) (by decide) ?_
          refine a_zret X hA dX5_isPart__35 (by first | exact nar_bI _ | decide +kernel) ⟨?_, ?_⟩
          · congr 2; first | (refine bf0 ?_; simp only [parB, Bool.and_eq_false_iff, decide_eq_false_iff_not]; exact Or.inl (Int32.not_le.mpr hc1)) | (refine bf0 ?_; simp only [parB, Bool.and_eq_false_iff, decide_eq_false_iff_not]; exact Or.inr (Or.inl (Int32.not_le.mpr hc5))) | (refine bf0 ?_; simp only [parB, Bool.and_eq_false_iff, decide_eq_false_iff_not]; exact Or.inr (Or.inr (Or.inl (Int32.not_le.mpr hc15)))) | (refine bf0 ?_; simp only [parB, Bool.and_eq_false_iff, decide_eq_false_iff_not]; exact Or.inr (Or.inr (Or.inr (Int32.not_le.mpr hc27)))) | (refine bt1 ?_; simp only [parB, Bool.and_eq_true, decide_eq_true_eq]; exact ⟨Int32.not_lt.mp hc1, Int32.not_lt.mp hc5, Int32.not_lt.mp hc15, Int32.not_lt.mp hc27⟩)
          · rfl
set_option maxRecDepth 100000 in
set_option maxHeartbeats 4000000 in
theorem c_X5_copy {l : Launch} {g : GG} {I : TI} {J : TJ} {F : TI} {w : Int64} {x f y t n : Int32} {Z : Nat → Nat} (hZ : ∀ i, i < 4 → I 52 i = nI (Z i) ∧ Z i ≤ 40) : RV l g mX5_copy [.ref (ga g 43), .int x, .int f, .int y, .int t, .int n] I J F w (CpM I J F w x f y t n) := by
  refine ct_start (M := mX5_copy) (by decide +kernel) (Nat.le_of_ble_eq_true rfl) ?_
  intro p e s m args below meth c A X hA
  have X : AX p s m args meth c g A cX5_copy 7 RX5 (Cond.code yX5_copy cX5_copy 7 (some .int)) (some .int) := X
  show AW p l e (rmM 2 42) s m args below meth c g A 7 0 0 (MQ below (CQ g (hp g I J F w) s.heap.size (fun vv0 hh0 => ∃ xx0 II0 JJ0 FF0 ww0, vv0 = some xx0 ∧ hh0 = hp g II0 JJ0 FF0 ww0 ∧ (CpM I J F w x f y t n) xx0 II0 JJ0 FF0 ww0)) args s 0 0 A) 0 [some (.ref (ga g 43)), some (.int x), some (.int f), some (.int y), some (.int t), some (.int n), none] [] (hp g I J F w)
  have L139 : ∀ (fu : Nat) (a : Nat) (b : Nat) (c0 : Nat) (d : Nat) (n0 : Nat) (k : Nat) (J1 : TJ), n0 - k < fu → (x = nI a ∧ f = nI b ∧ y = nI c0 ∧ t = nI d ∧ n = nI n0) → (a < 4 ∧ c0 < 4 ∧ b + n0 ≤ 40 ∧ d + n0 ≤ 40) → (cpO I x f y t n = none) → (k ≤ n0) → (J1 53 = va_cpy (J 53) (J 53) (40 * a + b) (40 * c0 + d) k ∧ (∀ i, i < n0 → J1 54 i = J 53 (40 * a + b + i)) ∧ ∀ P, P ≠ 53 → P ≠ 54 → J1 P = J P) → AW p l e (rmM 2 42) s m args below meth c g A 7 0 0 (MQ below (CQ g (hp g I J F w) s.heap.size (fun vv0 hh0 => ∃ xx0 II0 JJ0 FF0 ww0, vv0 = some xx0 ∧ hh0 = hp g II0 JJ0 FF0 ww0 ∧ (CpM I J F w x f y t n) xx0 II0 JJ0 FF0 ww0)) args s 0 0 A) 139 [some (.ref (ga g 43)), some (.int (nI a)), some (.int (nI b)), some (.int (nI c0)), some (.int (nI d)), some (.int (nI n0)), some (.int (nI k))] [] (hp g I J1 F w) := by
    intro fu
    induction fu with
    | zero => intro a b c0 d n0 k J1 hfu; exact absurd hfu (by omega)
    | succ fu ih =>
      intro a b c0 d n0 k J1 hfu hx hb ho hk hJ
      obtain ⟨rfl, rfl, rfl, rfl, rfl⟩ := hx
      refine a_iload X dX5_copy_139 rfl ?_
      refine a_iload X dX5_copy_141 rfl ?_
      refine s_icmp_geN X dX5_copy_143 (tgt := 174) (by decide) (by omega) (by omega) (fun hc143 => ?_) (fun hc143 => ?_)
      · skip
        have hk2 : n0 = k := by omega
        subst hk2
        refine a_iload X dX5_copy_174 rfl ?_
        refine a_iret X hA dX5_copy_176 ?_
        exact ⟨_, _, _, _, _, rfl, rfl, (fun _ => by rw [cl_n (show a < 2 ^ 31 by omega), cl_n (show b < 2 ^ 31 by omega), cl_n (show c0 < 2 ^ 31 by omega), cl_n (show d < 2 ^ 31 by omega), cl_n (show n0 < 2 ^ 31 by omega)]; exact ⟨rfl, rfl, hJ.1, hJ.2.2⟩), (fun i q => by rw [ho] at q; cases q), rfl, rfl⟩
      · skip
        refine a_aload_n X dX5_copy_146 (i := 0) rfl rfl ?_
        refine s_getr X dX5_copy_147 fl_X5_37 ko_43 rfl ?_
        refine a_bipush X dX5_copy_150 (v := nI 40) (by decide +kernel) ?_
        refine a_iload_n X dX5_copy_152 (i := 3) rfl rfl ?_
        refine s_imulN X dX5_copy_153 ?_
        refine a_iload X dX5_copy_154 rfl ?_
        refine s_iaddN X dX5_copy_156 ?_
        refine a_iload X dX5_copy_157 rfl ?_
        refine s_iaddN X dX5_copy_159 ?_
        refine a_aload_n X dX5_copy_160 (i := 0) rfl rfl ?_
        refine s_getr X dX5_copy_161 fl_X5_41 ko_43 rfl ?_
        refine a_iload X dX5_copy_164 rfl ?_
        refine s_lld X dX5_copy_166 kj_54 (by omega) (by decide) ?_
        refine s_lst X dX5_copy_167 kj_53 (by omega) (by decide) ?_
        refine a_iinc X dX5_copy_168 rfl (v := nI (_ + 1)) (iincN _ 1) (by decide) rfl ?_
        refine a_goto X dX5_copy_171 (tgt := 139) (by decide) ?_
        exact ih a b c0 d n0 (k + 1) _ (by omega) ⟨rfl, rfl, rfl, rfl, rfl⟩ hb ho (by omega) ⟨by rw [up_s, hJ.1, hJ.2.1 k (by omega), cpy_step], fun i hi => by rw [up_n _ _ (by decide)]; exact hJ.2.1 i hi, fun P q1 q2 => by rw [up_n _ _ q1]; exact hJ.2.2 P q1 q2⟩
  have L102 : ∀ (fu : Nat) (a : Nat) (b : Nat) (c0 : Nat) (d : Nat) (n0 : Nat) (k : Nat), n0 - k < fu → (x = nI a ∧ f = nI b ∧ y = nI c0 ∧ t = nI d ∧ n = nI n0) → (a < 4 ∧ c0 < 4 ∧ b + n0 ≤ 40 ∧ d + n0 ≤ 40) → (cpO I x f y t n = none) → (k ≤ n0) → AW p l e (rmM 2 42) s m args below meth c g A 7 0 0 (MQ below (CQ g (hp g I J F w) s.heap.size (fun vv0 hh0 => ∃ xx0 II0 JJ0 FF0 ww0, vv0 = some xx0 ∧ hh0 = hp g II0 JJ0 FF0 ww0 ∧ (CpM I J F w x f y t n) xx0 II0 JJ0 FF0 ww0)) args s 0 0 A) 102 [some (.ref (ga g 43)), some (.int (nI a)), some (.int (nI b)), some (.int (nI c0)), some (.int (nI d)), some (.int (nI n0)), some (.int (nI k))] [] (hp g I (va_up J 54 (fun i => if i < k then J 53 (40 * a + b + i) else J 54 i)) F w) := by
    intro fu
    induction fu with
    | zero => intro a b c0 d n0 k hfu; exact absurd hfu (by omega)
    | succ fu ih =>
      intro a b c0 d n0 k hfu hx hb ho hk
      obtain ⟨rfl, rfl, rfl, rfl, rfl⟩ := hx
      refine a_iload X dX5_copy_102 rfl ?_
      refine a_iload X dX5_copy_104 rfl ?_
      refine s_icmp_geN X dX5_copy_106 (tgt := 136) (by decide) (by omega) (by omega) (fun hc106 => ?_) (fun hc106 => ?_)
      · skip
        have hk2 : n0 = k := by omega
        subst hk2
        refine a_iconst X dX5_copy_136 (v := nI 0) (by decide +kernel) ?_
        refine a_istore X dX5_copy_137 (by decide) rfl ?_
        exact L139 (n0 + 1) a b c0 d n0 0 _ (by omega) ⟨rfl, rfl, rfl, rfl, rfl⟩ hb ho (by omega) ⟨by rw [up_n _ _ (by decide), cpy_0], fun i hi => by rw [up_s]; simp; omega, fun P q1 q2 => by rw [up_n _ _ q2]⟩
      · skip
        refine a_aload_n X dX5_copy_109 (i := 0) rfl rfl ?_
        refine s_getr X dX5_copy_110 fl_X5_41 ko_43 rfl ?_
        refine a_iload X dX5_copy_113 rfl ?_
        refine a_aload_n X dX5_copy_115 (i := 0) rfl rfl ?_
        refine s_getr X dX5_copy_116 fl_X5_37 ko_43 rfl ?_
        refine a_bipush X dX5_copy_119 (v := nI 40) (by decide +kernel) ?_
        refine a_iload_n X dX5_copy_121 (i := 1) rfl rfl ?_
        refine s_imulN X dX5_copy_122 ?_
        refine a_iload_n X dX5_copy_123 (i := 2) rfl rfl ?_
        refine s_iaddN X dX5_copy_124 ?_
        refine a_iload X dX5_copy_125 rfl ?_
        refine s_iaddN X dX5_copy_127 ?_
        refine s_lld X dX5_copy_128 kj_53 (by omega) (by decide) ?_
        refine s_lst X dX5_copy_129 kj_54 (by omega) (by decide) ?_
        refine a_iinc X dX5_copy_130 rfl (v := nI (_ + 1)) (iincN _ 1) (by decide) rfl ?_
        refine a_goto X dX5_copy_133 (tgt := 102) (by decide) ?_
        exact (by have := ih a b c0 d n0 (k + 1) (by omega) ⟨rfl, rfl, rfl, rfl, rfl⟩ hb ho (by omega); simp only [up_s, bx_uu]; rw [up_n _ _ (show (53 : Nat) ≠ 54 by decide), upL_fill (f := fun i => J 53 (40 * a + b + i))]; exact this)
  refine a_iload_n X dX5_copy_0 (i := 1) rfl rfl ?_
  refine s_callS_R X dX5_copy_1 lk_X5_262 c_X5_isSheet ⟨Nat.le_of_ble_eq_true rfl, Nat.le_of_ble_eq_true rfl⟩ rfl rfl (Nat.le_of_ble_eq_true rfl) ⟨Nat.le_of_ble_eq_true rfl, Nat.le_of_ble_eq_true rfl⟩ ?_
  refine a_if_eq X dX5_copy_4 (tgt := 14) (by decide) (fun hc4 => ?_) (fun hc4 => ?_)
  · skip
    try simp only [bI_0, Bool.not_eq_false] at hc4
    refine a_aload_n X dX5_copy_14 (i := 0) rfl rfl ?_
    refine a_ldc X dX5_copy_15 kc_X5_50 ?_
    refine s_callV_R X dX5_copy_17 lk_X5_67 ko_43 rfl rfl (c_X5_finds (k := 0) (by decide) (by decide +kernel)) ⟨Nat.le_of_ble_eq_true rfl, Nat.le_of_ble_eq_true rfl⟩ rfl rfl (Nat.le_of_ble_eq_true rfl) ⟨Nat.le_of_ble_eq_true rfl, Nat.le_of_ble_eq_true rfl⟩ ?_
    refine a_iret X hA dX5_copy_20 ?_
    exact ⟨_, _, _, _, _, rfl, rfl, (fun q => by rw [cpO, if_neg (by simp [*])] at q; cases q), (fun i q => by rw [cpO, if_neg (by simp [*])] at q; cases q; exact ⟨by congr 1, rfl, rfl⟩), rfl, rfl⟩
  · skip
    try simp only [bI_0, Bool.not_eq_false] at hc4
    obtain ⟨a, ha0, ha, rfl⟩ := inB_r (by decide) (by decide) hc4
    refine a_iload_n X dX5_copy_7 (i := 3) rfl rfl ?_
    refine s_callS_R X dX5_copy_8 lk_X5_262 c_X5_isSheet ⟨Nat.le_of_ble_eq_true rfl, Nat.le_of_ble_eq_true rfl⟩ rfl rfl (Nat.le_of_ble_eq_true rfl) ⟨Nat.le_of_ble_eq_true rfl, Nat.le_of_ble_eq_true rfl⟩ ?_
    refine a_if_ne X dX5_copy_11 (tgt := 21) (by decide) (fun hc11 => ?_) (fun hc11 => ?_)
    · skip
      try simp only [bI_0, Bool.not_eq_false] at hc11
      obtain ⟨c0, hc00, hc0, rfl⟩ := inB_r (by decide) (by decide) hc11
      refine a_aload_n X dX5_copy_21 (i := 0) rfl rfl ?_
      refine s_getr X dX5_copy_22 fl_X5_31 ko_43 rfl ?_
      refine a_iload_n X dX5_copy_25 (i := 1) rfl rfl ?_
      refine s_ild X dX5_copy_26 ki_51 (by omega) (by decide) ?_
      refine a_if_eq X dX5_copy_27 (tgt := 39) (by decide) (fun hc27 => ?_) (fun hc27 => ?_)
      · skip
        refine a_aload_n X dX5_copy_39 (i := 0) rfl rfl ?_
        refine a_ldcw X dX5_copy_40 kc_X5_266 ?_
        refine s_callV_R X dX5_copy_43 lk_X5_67 ko_43 rfl rfl (c_X5_finds (k := 5) (by decide) (by decide +kernel)) ⟨Nat.le_of_ble_eq_true rfl, Nat.le_of_ble_eq_true rfl⟩ rfl rfl (Nat.le_of_ble_eq_true rfl) ⟨Nat.le_of_ble_eq_true rfl, Nat.le_of_ble_eq_true rfl⟩ ?_
        refine a_iret X hA dX5_copy_46 ?_
        exact ⟨_, _, _, _, _, rfl, rfl, (fun q => by rw [cpO, if_pos ⟨hc4, hc11⟩, cl_n (show a < 2 ^ 31 by omega), cl_n (show c0 < 2 ^ 31 by omega), if_pos (by simp [*])] at q; cases q), (fun i q => by rw [cpO, if_pos ⟨hc4, hc11⟩, cl_n (show a < 2 ^ 31 by omega), cl_n (show c0 < 2 ^ 31 by omega), if_pos (by simp [*])] at q; cases q; exact ⟨by congr 1, rfl, rfl⟩), rfl, rfl⟩
      · skip
        refine a_aload_n X dX5_copy_30 (i := 0) rfl rfl ?_
        refine s_getr X dX5_copy_31 fl_X5_31 ko_43 rfl ?_
        refine a_iload_n X dX5_copy_34 (i := 3) rfl rfl ?_
        refine s_ild X dX5_copy_35 ki_51 (by omega) (by decide) ?_
        refine a_if_ne X dX5_copy_36 (tgt := 47) (by decide) (fun hc36 => ?_) (fun hc36 => ?_)
        · skip
          refine a_aload_n X dX5_copy_47 (i := 0) rfl rfl ?_
          refine s_getr X dX5_copy_48 fl_X5_31 ko_43 rfl ?_
          refine a_iload_n X dX5_copy_51 (i := 1) rfl rfl ?_
          refine s_ild X dX5_copy_52 ki_51 (by omega) (by decide) ?_
          refine a_aload_n X dX5_copy_53 (i := 0) rfl rfl ?_
          refine s_getr X dX5_copy_54 fl_X5_31 ko_43 rfl ?_
          refine a_iload_n X dX5_copy_57 (i := 3) rfl rfl ?_
          refine s_ild X dX5_copy_58 ki_51 (by omega) (by decide) ?_
          refine a_icmp_eq X dX5_copy_59 (tgt := 69) (by decide) (fun hc59 => ?_) (fun hc59 => ?_)
          · skip
            refine a_aload_n X dX5_copy_69 (i := 0) rfl rfl ?_
            refine a_iload_n X dX5_copy_70 (i := 1) rfl rfl ?_
            refine a_iload_n X dX5_copy_71 (i := 2) rfl rfl ?_
            refine a_iload X dX5_copy_72 rfl ?_
            refine s_callV_R X dX5_copy_74 lk_X5_271 ko_43 rfl rfl (c_X5_isPart_ (by omega)) ⟨Nat.le_of_ble_eq_true rfl, Nat.le_of_ble_eq_true rfl⟩ rfl rfl (Nat.le_of_ble_eq_true rfl) ⟨Nat.le_of_ble_eq_true rfl, Nat.le_of_ble_eq_true rfl⟩ ?_
            refine a_if_eq X dX5_copy_77 (tgt := 92) (by decide) (fun hc77 => ?_) (fun hc77 => ?_)
            · skip
              try simp only [bI_0, Bool.not_eq_false] at hc77
              refine a_aload_n X dX5_copy_92 (i := 0) rfl rfl ?_
              refine a_ldc X dX5_copy_93 kc_X5_50 ?_
              refine s_callV_R X dX5_copy_95 lk_X5_67 ko_43 rfl rfl (c_X5_finds (k := 0) (by decide) (by decide +kernel)) ⟨Nat.le_of_ble_eq_true rfl, Nat.le_of_ble_eq_true rfl⟩ rfl rfl (Nat.le_of_ble_eq_true rfl) ⟨Nat.le_of_ble_eq_true rfl, Nat.le_of_ble_eq_true rfl⟩ ?_
              refine a_iret X hA dX5_copy_98 ?_
              exact ⟨_, _, _, _, _, rfl, rfl, (fun q => by rw [cpO, if_pos ⟨hc4, hc11⟩, cl_n (show a < 2 ^ 31 by omega), cl_n (show c0 < 2 ^ 31 by omega), if_neg (by simp [hc27, hc36]), if_pos hc59, if_neg (by simp [*])] at q; cases q), (fun i q => by rw [cpO, if_pos ⟨hc4, hc11⟩, cl_n (show a < 2 ^ 31 by omega), cl_n (show c0 < 2 ^ 31 by omega), if_neg (by simp [hc27, hc36]), if_pos hc59, if_neg (by simp [*])] at q; cases q; exact ⟨by congr 1, rfl, rfl⟩), rfl, rfl⟩
            · skip
              try simp only [bI_0, Bool.not_eq_false] at hc77
              refine a_aload_n X dX5_copy_80 (i := 0) rfl rfl ?_
              refine a_iload_n X dX5_copy_81 (i := 3) rfl rfl ?_
              refine a_iload X dX5_copy_82 rfl ?_
              refine a_iload X dX5_copy_84 rfl ?_
              refine s_callV_R X dX5_copy_86 lk_X5_271 ko_43 rfl rfl (c_X5_isPart_ (by omega)) ⟨Nat.le_of_ble_eq_true rfl, Nat.le_of_ble_eq_true rfl⟩ rfl rfl (Nat.le_of_ble_eq_true rfl) ⟨Nat.le_of_ble_eq_true rfl, Nat.le_of_ble_eq_true rfl⟩ ?_
              refine a_if_ne X dX5_copy_89 (tgt := 99) (by decide) (fun hc89 => ?_) (fun hc89 => ?_)
              · skip
                try simp only [bI_0, Bool.not_eq_false] at hc89
                have ho : cpO I (nI a) f (nI c0) t n = none := by rw [cpO, if_pos ⟨hc4, hc11⟩, cl_n (show a < 2 ^ 31 by omega), cl_n (show c0 < 2 ^ 31 by omega), if_neg (by simp [*]), if_pos hc59, if_pos ⟨hc77, hc89⟩]
                have z1 := hZ a (by omega)
                have z2 := hZ c0 (by omega)
                rw [z1.1] at hc77
                rw [z2.1] at hc89
                obtain ⟨b, n0, rfl, rfl, q1⟩ := par_t z1.2 hc77
                obtain ⟨d, n1, rfl, hn1, q2⟩ := par_t z2.2 hc89
                have hnn : n0 = n1 := (nI_eq (by omega) (by omega)).mp hn1
                subst hnn
                refine a_iconst X dX5_copy_99 (v := nI 0) (by decide +kernel) ?_
                refine a_istore X dX5_copy_100 (by decide) rfl ?_
                have := L102 (n0 + 1) a b c0 d n0 0 (by omega) ⟨rfl, rfl, rfl, rfl, rfl⟩ ⟨by omega, by omega, by omega, by omega⟩ ho (by omega)
                rw [show va_up J 54 (fun i => if i < 0 then J 53 (40 * a + b + i) else J 54 i) = J from up_self (by intro i; simp)] at this
                exact this
              · skip
                try simp only [bI_0, Bool.not_eq_false] at hc89
                refine a_aload_n X dX5_copy_92 (i := 0) rfl rfl ?_
                refine a_ldc X dX5_copy_93 kc_X5_50 ?_
                refine s_callV_R X dX5_copy_95 lk_X5_67 ko_43 rfl rfl (c_X5_finds (k := 0) (by decide) (by decide +kernel)) ⟨Nat.le_of_ble_eq_true rfl, Nat.le_of_ble_eq_true rfl⟩ rfl rfl (Nat.le_of_ble_eq_true rfl) ⟨Nat.le_of_ble_eq_true rfl, Nat.le_of_ble_eq_true rfl⟩ ?_
                refine a_iret X hA dX5_copy_98 ?_
                exact ⟨_, _, _, _, _, rfl, rfl, (fun q => by rw [cpO, if_pos ⟨hc4, hc11⟩, cl_n (show a < 2 ^ 31 by omega), cl_n (show c0 < 2 ^ 31 by omega), if_neg (by simp [hc27, hc36]), if_pos hc59, if_neg (by simp [*])] at q; cases q), (fun i q => by rw [cpO, if_pos ⟨hc4, hc11⟩, cl_n (show a < 2 ^ 31 by omega), cl_n (show c0 < 2 ^ 31 by omega), if_neg (by simp [hc27, hc36]), if_pos hc59, if_neg (by simp [*])] at q; cases q; exact ⟨by congr 1, rfl, rfl⟩), rfl, rfl⟩
          · skip
            refine a_aload_n X dX5_copy_62 (i := 0) rfl rfl ?_
            refine a_ldc X dX5_copy_63 kc_X5_137 ?_
            refine s_callV_R X dX5_copy_65 lk_X5_67 ko_43 rfl rfl (c_X5_finds (k := 2) (by decide) (by decide +kernel)) ⟨Nat.le_of_ble_eq_true rfl, Nat.le_of_ble_eq_true rfl⟩ rfl rfl (Nat.le_of_ble_eq_true rfl) ⟨Nat.le_of_ble_eq_true rfl, Nat.le_of_ble_eq_true rfl⟩ ?_
            refine a_iret X hA dX5_copy_68 ?_
            exact ⟨_, _, _, _, _, rfl, rfl, (fun q => by rw [cpO, if_pos ⟨hc4, hc11⟩, cl_n (show a < 2 ^ 31 by omega), cl_n (show c0 < 2 ^ 31 by omega), if_neg (by simp [*]), if_neg hc59] at q; cases q), (fun i q => by rw [cpO, if_pos ⟨hc4, hc11⟩, cl_n (show a < 2 ^ 31 by omega), cl_n (show c0 < 2 ^ 31 by omega), if_neg (by simp [*]), if_neg hc59] at q; cases q; exact ⟨by congr 1, rfl, rfl⟩), rfl, rfl⟩
        · skip
          refine a_aload_n X dX5_copy_39 (i := 0) rfl rfl ?_
          refine a_ldcw X dX5_copy_40 kc_X5_266 ?_
          refine s_callV_R X dX5_copy_43 lk_X5_67 ko_43 rfl rfl (c_X5_finds (k := 5) (by decide) (by decide +kernel)) ⟨Nat.le_of_ble_eq_true rfl, Nat.le_of_ble_eq_true rfl⟩ rfl rfl (Nat.le_of_ble_eq_true rfl) ⟨Nat.le_of_ble_eq_true rfl, Nat.le_of_ble_eq_true rfl⟩ ?_
          refine a_iret X hA dX5_copy_46 ?_
          exact ⟨_, _, _, _, _, rfl, rfl, (fun q => by rw [cpO, if_pos ⟨hc4, hc11⟩, cl_n (show a < 2 ^ 31 by omega), cl_n (show c0 < 2 ^ 31 by omega), if_pos (by simp [*])] at q; cases q), (fun i q => by rw [cpO, if_pos ⟨hc4, hc11⟩, cl_n (show a < 2 ^ 31 by omega), cl_n (show c0 < 2 ^ 31 by omega), if_pos (by simp [*])] at q; cases q; exact ⟨by congr 1, rfl, rfl⟩), rfl, rfl⟩
    · skip
      try simp only [bI_0, Bool.not_eq_false] at hc11
      refine a_aload_n X dX5_copy_14 (i := 0) rfl rfl ?_
      refine a_ldc X dX5_copy_15 kc_X5_50 ?_
      refine s_callV_R X dX5_copy_17 lk_X5_67 ko_43 rfl rfl (c_X5_finds (k := 0) (by decide) (by decide +kernel)) ⟨Nat.le_of_ble_eq_true rfl, Nat.le_of_ble_eq_true rfl⟩ rfl rfl (Nat.le_of_ble_eq_true rfl) ⟨Nat.le_of_ble_eq_true rfl, Nat.le_of_ble_eq_true rfl⟩ ?_
      refine a_iret X hA dX5_copy_20 ?_
      exact ⟨_, _, _, _, _, rfl, rfl, (fun q => by rw [cpO, if_neg (by simp [*])] at q; cases q), (fun i q => by rw [cpO, if_neg (by simp [*])] at q; cases q; exact ⟨by congr 1, rfl, rfl⟩), rfl, rfl⟩
