set_option maxRecDepth 100000 in
set_option maxHeartbeats 4000000 in
theorem c_X2_put {l : Launch} {g : GG} {I : TI} {J : TJ} {F : TI} {w : Int64} {a : Nat} (ha : a < 4) {i : Nat} (hi : i < 40) {v : Int64} : UV l g mX2_put [.ref (ga g (34 + 2 * a)), .int (nI i), .long v] I J F w I (va_up J (35 + 2 * a) (vp_updL (J (35 + 2 * a)) i (nrC (F (34 + 2 * a) 0) v))) F w := by
  refine ct_start (M := mX2_put) (by decide +kernel) (Nat.le_of_ble_eq_true rfl) ?_
  intro p e s m args below meth c A X hA
  have X : AX p s m args meth c g A cX2_put 4 RX2 (Cond.code yX2_put cX2_put 4 none) none := X
  show AW p l e (rmM 0 0) s m args below meth c g A 4 0 0 (MQ below (CQ g (hp g I J F w) s.heap.size (fun vv0 hh0 => vv0 = none ∧ hh0 = hp g I (va_up J (35 + 2 * a) (vp_updL (J (35 + 2 * a)) i (nrC (F (34 + 2 * a) 0) v))) F w)) args s 0 0 A) 0 [some (.ref (ga g (34 + 2 * a))), some (.int (nI i)), some (.long v), none] [] (hp g I J F w)
  refine a_aload_n X dX2_put_0 (i := 0) rfl rfl ?_
  refine s_geti X dX2_put_1 fl_X2_9 (ko_sh ha) rfl ?_
  refine a_bipush X dX2_put_4 (v := nI 8) (by decide +kernel) ?_
  refine a_icmp_ne X dX2_put_6 (tgt := 22) (by decide) (fun hc6 => ?_) (fun hc6 => ?_)
  · skip
    refine a_aload_n X dX2_put_22 (i := 0) rfl rfl ?_
    refine s_geti X dX2_put_23 fl_X2_9 (ko_sh ha) rfl ?_
    refine a_bipush X dX2_put_26 (v := nI 16) (by decide +kernel) ?_
    refine a_icmp_ne X dX2_put_28 (tgt := 44) (by decide) (fun hc28 => ?_) (fun hc28 => ?_)
    · skip
      refine a_aload_n X dX2_put_44 (i := 0) rfl rfl ?_
      refine s_getr X dX2_put_45 fl_X2_18 (ko_sh ha) rfl ?_
      refine a_iload_n X dX2_put_48 (i := 1) rfl rfl ?_
      refine a_lload_n X dX2_put_49 (i := 2) rfl rfl ?_
      refine s_lst X dX2_put_50 (kj_sh ha) (by omega) (by decide) ?_
      refine a_vret X hA dX2_put_51 ⟨?_, ?_⟩
      · rfl
      · unfold nrC; first | rw [if_pos hc6] | rw [if_neg hc6, if_pos hc28] | rw [if_neg hc6, if_neg hc28]
    · skip
      refine a_aload_n X dX2_put_31 (i := 0) rfl rfl ?_
      refine s_getr X dX2_put_32 fl_X2_18 (ko_sh ha) rfl ?_
      refine a_iload_n X dX2_put_35 (i := 1) rfl rfl ?_
      refine a_lload_n X dX2_put_36 (i := 2) rfl rfl ?_
      refine a_l2i X dX2_put_37 rfl ?_
      refine a_i2s X dX2_put_38 rfl ?_
      refine a_i2l X dX2_put_39 rfl ?_
      refine s_lst X dX2_put_40 (kj_sh ha) (by omega) (by decide) ?_
      refine a_goto X dX2_put_41 (tgt := 51) (by decide) ?_
      refine a_vret X hA dX2_put_51 ⟨?_, ?_⟩
      · rfl
      · unfold nrC; first | rw [if_pos hc6] | rw [if_neg hc6, if_pos hc28] | rw [if_neg hc6, if_neg hc28]
  · skip
    refine a_aload_n X dX2_put_9 (i := 0) rfl rfl ?_
    refine s_getr X dX2_put_10 fl_X2_18 (ko_sh ha) rfl ?_
    refine a_iload_n X dX2_put_13 (i := 1) rfl rfl ?_
    refine a_lload_n X dX2_put_14 (i := 2) rfl rfl ?_
    refine a_l2i X dX2_put_15 rfl ?_
    refine a_i2b X dX2_put_16 rfl ?_
    refine a_i2l X dX2_put_17 rfl ?_
    refine s_lst X dX2_put_18 (kj_sh ha) (by omega) (by decide) ?_
    refine a_goto X dX2_put_19 (tgt := 51) (by decide) ?_
    refine a_vret X hA dX2_put_51 ⟨?_, ?_⟩
    · rfl
    · unfold nrC; first | rw [if_pos hc6] | rw [if_neg hc6, if_pos hc28] | rw [if_neg hc6, if_neg hc28]
set_option maxRecDepth 100000 in
set_option maxHeartbeats 4000000 in
theorem c_X4_write {l : Launch} {g : GG} {I : TI} {J : TJ} {F : TI} {w : Int64} {x y : Int32} {v : Int64} {Z : Nat → Nat} (hZ : ∀ i, i < 4 → I 52 i = nI (Z i) ∧ Z i ≤ 40) (hS : ShH I F) : RV l g mX4_write [.ref (ga g 0), .int x, .int y, .long v] I J F w (WrC I J F w x y v) := by
  refine ct_start (M := mX4_write) (by decide +kernel) (Nat.le_of_ble_eq_true rfl) ?_
  intro p e s m args below meth c A X hA
  have X : AX p s m args meth c g A cX4_write 8 RX4 (Cond.code yX4_write cX4_write 8 (some .long)) (some .long) := X
  show AW p l e (rmM 2 44) s m args below meth c g A 8 0 0 (MQ below (CQ g (hp g I J F w) s.heap.size (fun vv0 hh0 => ∃ xx0 II0 JJ0 FF0 ww0, vv0 = some xx0 ∧ hh0 = hp g II0 JJ0 FF0 ww0 ∧ (WrC I J F w x y v) xx0 II0 JJ0 FF0 ww0)) args s 0 0 A) 0 [some (.ref (ga g 0)), some (.int x), some (.int y), some (.long v), none, none, none, none] [] (hp g I J F w)
  refine a_iload_n X dX4_write_0 (i := 1) rfl rfl ?_
  refine s_callS_R X dX4_write_1 lk_X4_190 c_X4_isSheet ⟨Nat.le_of_ble_eq_true rfl, Nat.le_of_ble_eq_true rfl⟩ rfl rfl (Nat.le_of_ble_eq_true rfl) ⟨Nat.le_of_ble_eq_true rfl, Nat.le_of_ble_eq_true rfl⟩ ?_
  refine a_if_ne X dX4_write_4 (tgt := 15) (by decide) (fun hc4 => ?_) (fun hc4 => ?_)
  · skip
    try simp only [bI_0, Bool.not_eq_false] at hc4
    obtain ⟨a, ha0, ha, rfl⟩ := inB_r (by decide) (by decide) hc4
    have s1 := (hS a (by omega)).1
    have s2 := (hS a (by omega)).2
    have z1 := (hZ a (by omega)).1
    have z2 := (hZ a (by omega)).2
    refine a_aload_n X dX4_write_15 (i := 0) rfl rfl ?_
    refine s_getr X dX4_write_16 fl_X4_35 ko_0 rfl ?_
    refine a_iload_n X dX4_write_19 (i := 1) rfl rfl ?_
    refine s_ald X dX4_write_20 (show a < 4 by omega) ?_
    refine a_astore X dX4_write_21 (by decide) rfl ?_
    refine a_aload X dX4_write_23 rfl ?_
    refine s_callV_R X dX4_write_25 lk_X4_198 (ko_sh (show a < 4 by omega)) rfl rfl (c_X2_isMissing (by omega)) ⟨Nat.le_of_ble_eq_true rfl, Nat.le_of_ble_eq_true rfl⟩ rfl rfl (Nat.le_of_ble_eq_true rfl) ⟨Nat.le_of_ble_eq_true rfl, Nat.le_of_ble_eq_true rfl⟩ ?_
    refine a_if_eq X dX4_write_28 (tgt := 39) (by decide) (fun hc28 => ?_) (fun hc28 => ?_)
    · skip
      try simp only [bI_0, Bool.not_eq_false, decide_eq_true_eq, decide_eq_false_iff_not, Classical.not_not] at hc28
      rw [s1] at hc28
      refine a_iload_n X dX4_write_39 (i := 2) rfl rfl ?_
      refine a_iconst X dX4_write_40 (v := nI 0) (by decide +kernel) ?_
      refine a_aload X dX4_write_41 rfl ?_
      refine s_geti X dX4_write_43 fl_X4_197 (ko_sh (show a < 4 by omega)) rfl ?_
      rw [s2]
      refine a_iconst X dX4_write_46 (v := nI 1) (by decide +kernel) ?_
      refine a_isub X dX4_write_47 ?_
      refine s_callS_R X dX4_write_48 lk_X4_44 c_X4_within ⟨Nat.le_of_ble_eq_true rfl, Nat.le_of_ble_eq_true rfl⟩ rfl rfl (Nat.le_of_ble_eq_true rfl) ⟨Nat.le_of_ble_eq_true rfl, Nat.le_of_ble_eq_true rfl⟩ ?_
      refine a_if_ne X dX4_write_51 (tgt := 62) (by decide) (fun hc51 => ?_) (fun hc51 => ?_)
      · skip
        try simp only [bI_0, Bool.not_eq_false] at hc51
        have hw0 : wrO I (nI a) y = none := by rw [wrO, if_pos hc4, cl_n (by omega), if_neg hc28, if_pos hc51]
        rw [z1] at hc51
        obtain ⟨b, hb, rfl⟩ := isM_t (n := Z a) (by omega) hc51
        refine a_aload X dX4_write_62 rfl ?_
        refine s_getr X dX4_write_64 fl_X4_202 (ko_sh (show a < 4 by omega)) rfl ?_
        refine a_iload_n X dX4_write_67 (i := 2) rfl rfl ?_
        refine s_lld X dX4_write_68 (kj_sh (show a < 4 by omega)) (by omega) (by decide) ?_
        refine a_lstore X dX4_write_69 (by decide) rfl ?_
        refine a_aload X dX4_write_71 rfl ?_
        refine a_iload_n X dX4_write_73 (i := 2) rfl rfl ?_
        refine a_lload_n X dX4_write_74 (i := 3) rfl rfl ?_
        refine s_callV_V X dX4_write_75 lk_X4_206 (ko_sh (show a < 4 by omega)) rfl rfl (c_X2_put (a := a) (by omega) (i := b) (by omega)) ⟨Nat.le_of_ble_eq_true rfl, Nat.le_of_ble_eq_true rfl⟩ rfl rfl (Nat.le_of_ble_eq_true rfl) ⟨Nat.le_of_ble_eq_true rfl, Nat.le_of_ble_eq_true rfl⟩ ?_
        refine a_lload X dX4_write_78 rfl ?_
        refine a_lret X hA dX4_write_80 ?_
        exact ⟨_, _, _, _, _, rfl, rfl, (fun _ => by rw [cl_n (show a < 2 ^ 31 by omega), cl_n (show b < 2 ^ 31 by omega), ← nrC_M, ← s1]; exact ⟨rfl, rfl, rfl⟩), (fun i q => by rw [hw0] at q; cases q), rfl, rfl⟩
      · skip
        try simp only [bI_0, Bool.not_eq_false] at hc51
        refine a_aload_n X dX4_write_54 (i := 0) rfl rfl ?_
        refine a_ldc X dX4_write_55 kc_X4_48 ?_
        refine s_callV_R X dX4_write_57 lk_X4_49 ko_0 rfl rfl (c_X4_found (k := 0) (by decide) (by decide +kernel)) ⟨Nat.le_of_ble_eq_true rfl, Nat.le_of_ble_eq_true rfl⟩ rfl rfl (Nat.le_of_ble_eq_true rfl) ⟨Nat.le_of_ble_eq_true rfl, Nat.le_of_ble_eq_true rfl⟩ ?_
        refine a_i2l X dX4_write_60 rfl ?_
        refine a_lret X hA dX4_write_61 ?_
        exact ⟨_, _, _, _, _, rfl, rfl, (fun q => by rw [wrO, if_pos hc4, cl_n (show a < 2 ^ 31 by omega), if_neg hc28, if_neg (by rw [hc51]; decide)] at q; cases q), (fun i q => by rw [wrO, if_pos hc4, cl_n (show a < 2 ^ 31 by omega), if_neg hc28, if_neg (by rw [hc51]; decide)] at q; cases q; exact ⟨by congr 1, rfl, rfl⟩), rfl, rfl⟩
    · skip
      try simp only [bI_0, Bool.not_eq_false, decide_eq_true_eq, decide_eq_false_iff_not, Classical.not_not] at hc28
      rw [s1] at hc28
      refine a_aload_n X dX4_write_31 (i := 0) rfl rfl ?_
      refine a_ldc X dX4_write_32 kc_X4_201 ?_
      refine s_callV_R X dX4_write_34 lk_X4_49 ko_0 rfl rfl (c_X4_found (k := 5) (by decide) (by decide +kernel)) ⟨Nat.le_of_ble_eq_true rfl, Nat.le_of_ble_eq_true rfl⟩ rfl rfl (Nat.le_of_ble_eq_true rfl) ⟨Nat.le_of_ble_eq_true rfl, Nat.le_of_ble_eq_true rfl⟩ ?_
      refine a_i2l X dX4_write_37 rfl ?_
      refine a_lret X hA dX4_write_38 ?_
      exact ⟨_, _, _, _, _, rfl, rfl, (fun q => by rw [wrO, if_pos hc4, cl_n (show a < 2 ^ 31 by omega), if_pos hc28] at q; cases q), (fun i q => by rw [wrO, if_pos hc4, cl_n (show a < 2 ^ 31 by omega), if_pos hc28] at q; cases q; exact ⟨by congr 1, rfl, rfl⟩), rfl, rfl⟩
  · skip
    try simp only [bI_0, Bool.not_eq_false] at hc4
    refine a_aload_n X dX4_write_7 (i := 0) rfl rfl ?_
    refine a_ldc X dX4_write_8 kc_X4_48 ?_
    refine s_callV_R X dX4_write_10 lk_X4_49 ko_0 rfl rfl (c_X4_found (k := 0) (by decide) (by decide +kernel)) ⟨Nat.le_of_ble_eq_true rfl, Nat.le_of_ble_eq_true rfl⟩ rfl rfl (Nat.le_of_ble_eq_true rfl) ⟨Nat.le_of_ble_eq_true rfl, Nat.le_of_ble_eq_true rfl⟩ ?_
    refine a_i2l X dX4_write_13 rfl ?_
    refine a_lret X hA dX4_write_14 ?_
    exact ⟨_, _, _, _, _, rfl, rfl, (fun q => by rw [wrO, if_neg (by rw [hc4]; decide)] at q; cases q), (fun i q => by rw [wrO, if_neg (by rw [hc4]; decide)] at q; cases q; exact ⟨by congr 1, rfl, rfl⟩), rfl, rfl⟩
