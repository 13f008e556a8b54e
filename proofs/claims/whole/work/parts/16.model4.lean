set_option maxRecDepth 100000 in
set_option maxHeartbeats 4000000 in
theorem c_X5_knowsBehind {l : Launch} {g : GG} {I : TI} {J : TJ} {F : TI} {w : Int64} {R : Nat → Nat} (hR : I 44 = nr R) (ok : okR R) {a n : Nat} (ha : a < R 1) (hN : R 0 + n < 2 ^ 31) {Rs : Nat → Nat} (hs : ∀ k, k < 62 → I 48 k = nI (Rs k)) (hz : ∀ k, 62 ≤ k → Rs k = 0) : RV l g mX5_knowsBehind [.ref (ga g 43), .int (nI a), .int (nI n)] I J F w (fun x I2 J2 F2 w2 => x = .int (nI (pasN R n (2 + 6 * a + 4))) ∧ MdP I J F w Rs I2 J2 F2 w2) := by
  have hn10 := ok.1
  refine ct_start (M := mX5_knowsBehind) (by decide +kernel) (Nat.le_of_ble_eq_true rfl) ?_
  intro p e s m args below meth c A X hA
  have X : AX p s m args meth c g A cX5_knowsBehind 4 RX5 (Cond.code yX5_knowsBehind cX5_knowsBehind 4 (some .int)) (some .int) := X
  show AW p l e (rmM 7 159) s m args below meth c g A 4 0 0 (MQ below (CQ g (hp g I J F w) s.heap.size (fun vv0 hh0 => ∃ xx0 II0 JJ0 FF0 ww0, vv0 = some xx0 ∧ hh0 = hp g II0 JJ0 FF0 ww0 ∧ (fun x I2 J2 F2 w2 => x = .int (nI (pasN R n (2 + 6 * a + 4))) ∧ MdP I J F w Rs I2 J2 F2 w2) xx0 II0 JJ0 FF0 ww0)) args s 0 0 A) 0 [some (.ref (ga g 43)), some (.int (nI a)), some (.int (nI n)), none] [] (hp g I J F w)
  refine a_aload_n X dX5_knowsBehind_0 (i := 0) rfl rfl ?_
  refine a_iload_n X dX5_knowsBehind_1 (i := 2) rfl rfl ?_
  refine s_callV_Y X dX5_knowsBehind_2 lk_X5_152 ko_43 rfl rfl (c_X5_passes hR ok hN) ⟨Nat.le_of_ble_eq_true rfl, Nat.le_of_ble_eq_true rfl⟩ rfl rfl (Nat.le_of_ble_eq_true rfl) ⟨Nat.le_of_ble_eq_true rfl, Nat.le_of_ble_eq_true rfl⟩ (fun I2 J2 F2 w2 hpo => ?_)
  obtain ⟨e1, e2, rfl, rfl, rfl⟩ := hpo
  refine a_aload_n X dX5_knowsBehind_5 (i := 0) rfl rfl ?_
  refine a_iload_n X dX5_knowsBehind_6 (i := 1) rfl rfl ?_
  refine a_iconst X dX5_knowsBehind_7 (v := nI 4) (by decide +kernel) ?_
  refine s_callV_R X dX5_knowsBehind_8 lk_X5_55 ko_43 rfl rfl (c_X5_its e1 (by omega)) ⟨Nat.le_of_ble_eq_true rfl, Nat.le_of_ble_eq_true rfl⟩ rfl rfl (Nat.le_of_ble_eq_true rfl) ⟨Nat.le_of_ble_eq_true rfl, Nat.le_of_ble_eq_true rfl⟩ ?_
  refine a_istore_n X dX5_knowsBehind_11 (i := 3) rfl (by decide) rfl ?_
  refine a_aload_n X dX5_knowsBehind_12 (i := 0) rfl rfl ?_
  refine a_iconst X dX5_knowsBehind_13 (v := nI 0) (by decide +kernel) ?_
  refine a_aload_n X dX5_knowsBehind_14 (i := 0) rfl rfl ?_
  refine s_getr X dX5_knowsBehind_15 fl_X5_22 ko_43 rfl ?_
  refine s_callV_V X dX5_knowsBehind_18 lk_X5_156 ko_43 rfl rfl (c_X5_moveAll_f e1 ki_48 (by decide) (fun k hk => by rw [e2 48 (by decide) (by decide) (by decide)]; exact hs k hk) (fun k hk => (hz k hk).trans ((okR_pas ok n).2.2.2 k hk).symm)) ⟨Nat.le_of_ble_eq_true rfl, Nat.le_of_ble_eq_true rfl⟩ rfl rfl (Nat.le_of_ble_eq_true rfl) ⟨Nat.le_of_ble_eq_true rfl, Nat.le_of_ble_eq_true rfl⟩ ?_
  refine a_iload_n X dX5_knowsBehind_21 (i := 3) rfl rfl ?_
  refine a_iret X hA dX5_knowsBehind_22 ?_
  exact ⟨_, _, _, _, _, rfl, rfl, rfl, up_s _ _ _, fun P q1 q2 q3 => by rw [up_n _ _ q1]; exact e2 P q1 q2 q3, rfl, rfl, rfl⟩
set_option maxRecDepth 100000 in
set_option maxHeartbeats 4000000 in
theorem c_X5_learns {l : Launch} {g : GG} {I : TI} {J : TJ} {F : TI} {w : Int64} {R : Nat → Nat} (hR : I 44 = nr R) (ok : okR R) {x y : Int32} (hN : R 0 < 1000000) : RV l g mX5_learns [.ref (ga g 43), .int x, .int y] I J F w (MdR I J F w (sp_learns R x y)) := by
  have hn10 := ok.1
  refine ct_start (M := mX5_learns) (by decide +kernel) (Nat.le_of_ble_eq_true rfl) ?_
  intro p e s m args below meth c A X hA
  have X : AX p s m args meth c g A cX5_learns 4 RX5 (Cond.code yX5_learns cX5_learns 4 (some .int)) (some .int) := X
  show AW p l e (rmM 6 137) s m args below meth c g A 4 0 0 (MQ below (CQ g (hp g I J F w) s.heap.size (fun vv0 hh0 => ∃ xx0 II0 JJ0 FF0 ww0, vv0 = some xx0 ∧ hh0 = hp g II0 JJ0 FF0 ww0 ∧ (MdR I J F w (sp_learns R x y)) xx0 II0 JJ0 FF0 ww0)) args s 0 0 A) 0 [some (.ref (ga g 43)), some (.int x), some (.int y), none] [] (hp g I J F w)
  have L33 : ∀ (fu : Nat) (a : Nat) (v : Nat) (k : Nat) (I1 : TI), 101 - k < fu → (x = nI a) → (y = nI v) → (isM (R 1) x = true) → (inB y (nI 0) (nI 9) = true) → (a < R 1) → (v < 10) → (k ≤ 101) → (AhK 48 I R (pasN R k) I1) → (firF (fun k => (pasN R k (2 + 6 * a + 4)).testBit v) (101 - k) k = firF (fun k => (pasN R k (2 + 6 * a + 4)).testBit v) 101 0) → AW p l e (rmM 6 137) s m args below meth c g A 4 0 0 (MQ below (CQ g (hp g I J F w) s.heap.size (fun vv0 hh0 => ∃ xx0 II0 JJ0 FF0 ww0, vv0 = some xx0 ∧ hh0 = hp g II0 JJ0 FF0 ww0 ∧ (MdR I J F w (sp_learns R x y)) xx0 II0 JJ0 FF0 ww0)) args s 0 0 A) 33 [some (.ref (ga g 43)), some (.int (nI a)), some (.int (nI v)), some (.int (nI k))] [] (hp g I1 J F w) := by
    intro fu
    induction fu with
    | zero => intro a v k I1 hfu; exact absurd hfu (by omega)
    | succ fu ih =>
      intro a v k I1 hfu hx hy hc5 hc12 ha hv hk K hfir
      subst hx; subst hy
      refine a_iload_n X dX5_learns_33 (i := 3) rfl rfl ?_
      refine a_bipush X dX5_learns_34 (v := nI 100) (by decide +kernel) ?_
      refine s_icmp_gtN X dX5_learns_36 (tgt := 58) (by decide) (by omega) (by omega) (fun hc36 => ?_) (fun hc36 => ?_)
      · skip
        refine a_aload_n X dX5_learns_58 (i := 0) rfl rfl ?_
        refine a_iconst X dX5_learns_59 (v := nI 0) (by decide +kernel) ?_
        refine a_aload_n X dX5_learns_60 (i := 0) rfl rfl ?_
        refine s_getr X dX5_learns_61 fl_X5_22 ko_43 rfl ?_
        refine s_callV_V X dX5_learns_64 lk_X5_156 ko_43 rfl rfl (c_X5_moveAll_f K.1 ki_48 (by decide) K.2.1 (fun i hi => (ok.2.2.2 i hi).trans ((okR_pas ok k).2.2.2 i hi).symm)) ⟨Nat.le_of_ble_eq_true rfl, Nat.le_of_ble_eq_true rfl⟩ rfl rfl (Nat.le_of_ble_eq_true rfl) ⟨Nat.le_of_ble_eq_true rfl, Nat.le_of_ble_eq_true rfl⟩ ?_
        refine a_iload_n X dX5_learns_67 (i := 3) rfl rfl ?_
        refine a_bipush X dX5_learns_68 (v := nI 100) (by decide +kernel) ?_
        refine s_icmp_leN X dX5_learns_70 (tgt := 82) (by decide) (by omega) (by omega) (fun hc70 => ?_) (fun hc70 => ?_)
        · skip
          refine a_iload_n X dX5_learns_82 (i := 3) rfl rfl ?_
          refine a_iret X hA dX5_learns_83 ?_
          first | (exfalso; omega) | exact ⟨_, _, _, _, _, rfl, rfl, md_find ((ahk_u K (by decide)).S (Or.inl rfl)) (k := 3) (by decide +kernel) (by rw [sp_learns, if_pos ⟨hc5, hc12⟩, cl_n (show a < 2 ^ 31 by omega), cl_n (show v < 2 ^ 31 by omega), ← hfir, show k = 101 by omega]; rfl)⟩ | exact ⟨_, _, _, _, _, rfl, rfl, md_val ((ahk_u K (by decide)).S (Or.inl rfl)) (by rw [sp_learns, if_pos ⟨hc5, hc12⟩, cl_n (show a < 2 ^ 31 by omega), cl_n (show v < 2 ^ 31 by omega), ← hfir, fir_hit (p := fun k => (pasN R k (2 + 6 * a + 4)).testBit v) (n := 101) (by omega) hc45, firSP_s])⟩
        · skip
          refine a_aload_n X dX5_learns_73 (i := 0) rfl rfl ?_
          refine a_ldc X dX5_learns_74 kc_X5_92 ?_
          refine s_callV_R X dX5_learns_76 lk_X5_67 ko_43 rfl rfl (c_X5_finds (k := 3) (by decide) (by decide +kernel)) ⟨Nat.le_of_ble_eq_true rfl, Nat.le_of_ble_eq_true rfl⟩ rfl rfl (Nat.le_of_ble_eq_true rfl) ⟨Nat.le_of_ble_eq_true rfl, Nat.le_of_ble_eq_true rfl⟩ ?_
          refine a_goto X dX5_learns_79 (tgt := 83) (by decide) ?_
          refine a_iret X hA dX5_learns_83 ?_
          first | (exfalso; omega) | exact ⟨_, _, _, _, _, rfl, rfl, md_find ((ahk_u K (by decide)).S (Or.inl rfl)) (k := 3) (by decide +kernel) (by rw [sp_learns, if_pos ⟨hc5, hc12⟩, cl_n (show a < 2 ^ 31 by omega), cl_n (show v < 2 ^ 31 by omega), ← hfir, show k = 101 by omega]; rfl)⟩ | exact ⟨_, _, _, _, _, rfl, rfl, md_val ((ahk_u K (by decide)).S (Or.inl rfl)) (by rw [sp_learns, if_pos ⟨hc5, hc12⟩, cl_n (show a < 2 ^ 31 by omega), cl_n (show v < 2 ^ 31 by omega), ← hfir, fir_hit (p := fun k => (pasN R k (2 + 6 * a + 4)).testBit v) (n := 101) (by omega) hc45, firSP_s])⟩
      · skip
        refine a_aload_n X dX5_learns_39 (i := 0) rfl rfl ?_
        refine a_iload_n X dX5_learns_40 (i := 1) rfl rfl ?_
        refine a_iload_n X dX5_learns_41 (i := 2) rfl rfl ?_
        refine s_callV_R X dX5_learns_42 lk_X5_160 ko_43 rfl rfl (c_X5_isKnown K.1 (okR_pas ok k) (by rw [pas_1]; exact ha) hv) ⟨Nat.le_of_ble_eq_true rfl, Nat.le_of_ble_eq_true rfl⟩ rfl rfl (Nat.le_of_ble_eq_true rfl) ⟨Nat.le_of_ble_eq_true rfl, Nat.le_of_ble_eq_true rfl⟩ ?_
        refine a_if_ne X dX5_learns_45 (tgt := 58) (by decide) (fun hc45 => ?_) (fun hc45 => ?_)
        · skip
          try simp only [bI_0, Bool.not_eq_false] at hc45
          refine a_aload_n X dX5_learns_58 (i := 0) rfl rfl ?_
          refine a_iconst X dX5_learns_59 (v := nI 0) (by decide +kernel) ?_
          refine a_aload_n X dX5_learns_60 (i := 0) rfl rfl ?_
          refine s_getr X dX5_learns_61 fl_X5_22 ko_43 rfl ?_
          refine s_callV_V X dX5_learns_64 lk_X5_156 ko_43 rfl rfl (c_X5_moveAll_f K.1 ki_48 (by decide) K.2.1 (fun i hi => (ok.2.2.2 i hi).trans ((okR_pas ok k).2.2.2 i hi).symm)) ⟨Nat.le_of_ble_eq_true rfl, Nat.le_of_ble_eq_true rfl⟩ rfl rfl (Nat.le_of_ble_eq_true rfl) ⟨Nat.le_of_ble_eq_true rfl, Nat.le_of_ble_eq_true rfl⟩ ?_
          refine a_iload_n X dX5_learns_67 (i := 3) rfl rfl ?_
          refine a_bipush X dX5_learns_68 (v := nI 100) (by decide +kernel) ?_
          refine s_icmp_leN X dX5_learns_70 (tgt := 82) (by decide) (by omega) (by omega) (fun hc70 => ?_) (fun hc70 => ?_)
          · skip
            refine a_iload_n X dX5_learns_82 (i := 3) rfl rfl ?_
            refine a_iret X hA dX5_learns_83 ?_
            first | (exfalso; omega) | exact ⟨_, _, _, _, _, rfl, rfl, md_find ((ahk_u K (by decide)).S (Or.inl rfl)) (k := 3) (by decide +kernel) (by rw [sp_learns, if_pos ⟨hc5, hc12⟩, cl_n (show a < 2 ^ 31 by omega), cl_n (show v < 2 ^ 31 by omega), ← hfir, show k = 101 by omega]; rfl)⟩ | exact ⟨_, _, _, _, _, rfl, rfl, md_val ((ahk_u K (by decide)).S (Or.inl rfl)) (by rw [sp_learns, if_pos ⟨hc5, hc12⟩, cl_n (show a < 2 ^ 31 by omega), cl_n (show v < 2 ^ 31 by omega), ← hfir, fir_hit (p := fun k => (pasN R k (2 + 6 * a + 4)).testBit v) (n := 101) (by omega) hc45, firSP_s])⟩
          · skip
            refine a_aload_n X dX5_learns_73 (i := 0) rfl rfl ?_
            refine a_ldc X dX5_learns_74 kc_X5_92 ?_
            refine s_callV_R X dX5_learns_76 lk_X5_67 ko_43 rfl rfl (c_X5_finds (k := 3) (by decide) (by decide +kernel)) ⟨Nat.le_of_ble_eq_true rfl, Nat.le_of_ble_eq_true rfl⟩ rfl rfl (Nat.le_of_ble_eq_true rfl) ⟨Nat.le_of_ble_eq_true rfl, Nat.le_of_ble_eq_true rfl⟩ ?_
            refine a_goto X dX5_learns_79 (tgt := 83) (by decide) ?_
            refine a_iret X hA dX5_learns_83 ?_
            first | (exfalso; omega) | exact ⟨_, _, _, _, _, rfl, rfl, md_find ((ahk_u K (by decide)).S (Or.inl rfl)) (k := 3) (by decide +kernel) (by rw [sp_learns, if_pos ⟨hc5, hc12⟩, cl_n (show a < 2 ^ 31 by omega), cl_n (show v < 2 ^ 31 by omega), ← hfir, show k = 101 by omega]; rfl)⟩ | exact ⟨_, _, _, _, _, rfl, rfl, md_val ((ahk_u K (by decide)).S (Or.inl rfl)) (by rw [sp_learns, if_pos ⟨hc5, hc12⟩, cl_n (show a < 2 ^ 31 by omega), cl_n (show v < 2 ^ 31 by omega), ← hfir, fir_hit (p := fun k => (pasN R k (2 + 6 * a + 4)).testBit v) (n := 101) (by omega) hc45, firSP_s])⟩
        · skip
          try simp only [bI_0, Bool.not_eq_false] at hc45
          refine a_aload_n X dX5_learns_48 (i := 0) rfl rfl ?_
          refine s_callV_Y X dX5_learns_49 lk_X5_148 ko_43 rfl rfl (c_X5_oneNight K.1 (okR_pas ok k) (by rw [pas_0]; omega)) ⟨Nat.le_of_ble_eq_true rfl, Nat.le_of_ble_eq_true rfl⟩ rfl rfl (Nat.le_of_ble_eq_true rfl) ⟨Nat.le_of_ble_eq_true rfl, Nat.le_of_ble_eq_true rfl⟩ (fun I2 J2 F2 w2 hpo => ?_)
          refine a_iinc X dX5_learns_52 rfl (v := nI (_ + 1)) (iincN _ 1) (by decide) rfl ?_
          refine a_goto X dX5_learns_55 (tgt := 33) (by decide) ?_
          have K2 := ahk_m K (Or.inl rfl) hpo
          obtain ⟨e1, e2, rfl, rfl, rfl⟩ := hpo
          exact ih a v (k + 1) I2 (by omega) rfl rfl hc5 hc12 ha hv (by omega) K2 ((fir_go (p := fun k => (pasN R k (2 + 6 * a + 4)).testBit v) (n := 101) (by omega) hc45).symm.trans hfir)
  refine a_aload_n X dX5_learns_0 (i := 0) rfl rfl ?_
  refine a_iload_n X dX5_learns_1 (i := 1) rfl rfl ?_
  refine s_callV_R X dX5_learns_2 lk_X5_124 ko_43 rfl rfl (c_X5_isOne hR) ⟨Nat.le_of_ble_eq_true rfl, Nat.le_of_ble_eq_true rfl⟩ rfl rfl (Nat.le_of_ble_eq_true rfl) ⟨Nat.le_of_ble_eq_true rfl, Nat.le_of_ble_eq_true rfl⟩ ?_
  refine a_if_eq X dX5_learns_5 (tgt := 15) (by decide) (fun hc5 => ?_) (fun hc5 => ?_)
  · skip
    try simp only [bI_0, Bool.not_eq_false] at hc5
    refine a_aload_n X dX5_learns_15 (i := 0) rfl rfl ?_
    refine a_ldc X dX5_learns_16 kc_X5_50 ?_
    refine s_callV_R X dX5_learns_18 lk_X5_67 ko_43 rfl rfl (c_X5_finds (k := 0) (by decide) (by decide +kernel)) ⟨Nat.le_of_ble_eq_true rfl, Nat.le_of_ble_eq_true rfl⟩ rfl rfl (Nat.le_of_ble_eq_true rfl) ⟨Nat.le_of_ble_eq_true rfl, Nat.le_of_ble_eq_true rfl⟩ ?_
    refine a_iret X hA dX5_learns_21 ?_
    exact ⟨_, _, _, _, _, rfl, rfl, md_find (ah_0 hR) (k := 0) (by decide +kernel) (by rw [sp_learns, if_neg (by simp [*])])⟩
  · skip
    try simp only [bI_0, Bool.not_eq_false] at hc5
    obtain ⟨a, ha, rfl⟩ := isM_t (by omega) hc5
    obtain ⟨g0, g1, g2, g3, g4, g5⟩ := ok.2.1 a ha
    refine a_iload_n X dX5_learns_8 (i := 2) rfl rfl ?_
    refine s_callS_R X dX5_learns_9 lk_X5_115 c_X5_isVerse ⟨Nat.le_of_ble_eq_true rfl, Nat.le_of_ble_eq_true rfl⟩ rfl rfl (Nat.le_of_ble_eq_true rfl) ⟨Nat.le_of_ble_eq_true rfl, Nat.le_of_ble_eq_true rfl⟩ ?_
    refine a_if_ne X dX5_learns_12 (tgt := 22) (by decide) (fun hc12 => ?_) (fun hc12 => ?_)
    · skip
      try simp only [bI_0, Bool.not_eq_false] at hc12
      obtain ⟨v, hv0, hv, rfl⟩ := inB_r (by decide) (by decide) hc12
      refine a_aload_n X dX5_learns_22 (i := 0) rfl rfl ?_
      refine a_iconst X dX5_learns_23 (v := nI 1) (by decide +kernel) ?_
      refine a_aload_n X dX5_learns_24 (i := 0) rfl rfl ?_
      refine s_getr X dX5_learns_25 fl_X5_22 ko_43 rfl ?_
      refine s_callV_V X dX5_learns_28 lk_X5_156 ko_43 rfl rfl (c_X5_moveAll_t ki_48 (by decide)) ⟨Nat.le_of_ble_eq_true rfl, Nat.le_of_ble_eq_true rfl⟩ rfl rfl (Nat.le_of_ble_eq_true rfl) ⟨Nat.le_of_ble_eq_true rfl, Nat.le_of_ble_eq_true rfl⟩ ?_
      refine a_iconst X dX5_learns_31 (v := nI 0) (by decide +kernel) ?_
      refine a_istore_n X dX5_learns_32 (i := 3) rfl (by decide) rfl ?_
      exact L33 102 a v 0 _ (by omega) rfl rfl hc5 hc12 ha (by omega) (by omega) (ahk_0 (Q := 48) hR (by decide)) rfl
    · skip
      try simp only [bI_0, Bool.not_eq_false] at hc12
      refine a_aload_n X dX5_learns_15 (i := 0) rfl rfl ?_
      refine a_ldc X dX5_learns_16 kc_X5_50 ?_
      refine s_callV_R X dX5_learns_18 lk_X5_67 ko_43 rfl rfl (c_X5_finds (k := 0) (by decide) (by decide +kernel)) ⟨Nat.le_of_ble_eq_true rfl, Nat.le_of_ble_eq_true rfl⟩ rfl rfl (Nat.le_of_ble_eq_true rfl) ⟨Nat.le_of_ble_eq_true rfl, Nat.le_of_ble_eq_true rfl⟩ ?_
      refine a_iret X hA dX5_learns_21 ?_
      exact ⟨_, _, _, _, _, rfl, rfl, md_find (ah_0 hR) (k := 0) (by decide +kernel) (by rw [sp_learns, if_neg (by simp [*])])⟩
set_option maxRecDepth 100000 in
set_option maxHeartbeats 4000000 in
theorem c_X5_spreads {l : Launch} {g : GG} {I : TI} {J : TJ} {F : TI} {w : Int64} {R : Nat → Nat} (hR : I 44 = nr R) (ok : okR R) {y : Int32} (hN : R 0 < 1000000) : RV l g mX5_spreads [.ref (ga g 43), .int y] I J F w (MdR I J F w (sp_spreads R y)) := by
  have hn10 := ok.1
  refine ct_start (M := mX5_spreads) (by decide +kernel) (Nat.le_of_ble_eq_true rfl) ?_
  intro p e s m args below meth c A X hA
  have X : AX p s m args meth c g A cX5_spreads 3 RX5 (Cond.code yX5_spreads cX5_spreads 3 (some .int)) (some .int) := X
  show AW p l e (rmM 6 137) s m args below meth c g A 3 0 0 (MQ below (CQ g (hp g I J F w) s.heap.size (fun vv0 hh0 => ∃ xx0 II0 JJ0 FF0 ww0, vv0 = some xx0 ∧ hh0 = hp g II0 JJ0 FF0 ww0 ∧ (MdR I J F w (sp_spreads R y)) xx0 II0 JJ0 FF0 ww0)) args s 0 0 A) 0 [some (.ref (ga g 43)), some (.int y), none] [] (hp g I J F w)
  have L25 : ∀ (fu : Nat) (v : Nat) (k : Nat) (I1 : TI), 101 - k < fu → (y = nI v) → (inB y (nI 0) (nI 9) = true) → (v < 10) → (k ≤ 101) → (AhK 48 I R (pasN R k) I1) → (firF (fun k => allB (sprF (pasN R k) v) (R 1)) (101 - k) k = firF (fun k => allB (sprF (pasN R k) v) (R 1)) 101 0) → AW p l e (rmM 6 137) s m args below meth c g A 3 0 0 (MQ below (CQ g (hp g I J F w) s.heap.size (fun vv0 hh0 => ∃ xx0 II0 JJ0 FF0 ww0, vv0 = some xx0 ∧ hh0 = hp g II0 JJ0 FF0 ww0 ∧ (MdR I J F w (sp_spreads R y)) xx0 II0 JJ0 FF0 ww0)) args s 0 0 A) 25 [some (.ref (ga g 43)), some (.int (nI v)), some (.int (nI k))] [] (hp g I1 J F w) := by
    intro fu
    induction fu with
    | zero => intro v k I1 hfu; exact absurd hfu (by omega)
    | succ fu ih =>
      intro v k I1 hfu hy hc4 hv hk K hfir
      subst hy
      refine a_iload_n X dX5_spreads_25 (i := 2) rfl rfl ?_
      refine a_bipush X dX5_spreads_26 (v := nI 100) (by decide +kernel) ?_
      refine s_icmp_gtN X dX5_spreads_28 (tgt := 49) (by decide) (by omega) (by omega) (fun hc28 => ?_) (fun hc28 => ?_)
      · skip
        refine a_aload_n X dX5_spreads_49 (i := 0) rfl rfl ?_
        refine a_iconst X dX5_spreads_50 (v := nI 0) (by decide +kernel) ?_
        refine a_aload_n X dX5_spreads_51 (i := 0) rfl rfl ?_
        refine s_getr X dX5_spreads_52 fl_X5_22 ko_43 rfl ?_
        refine s_callV_V X dX5_spreads_55 lk_X5_156 ko_43 rfl rfl (c_X5_moveAll_f K.1 ki_48 (by decide) K.2.1 (fun i hi => (ok.2.2.2 i hi).trans ((okR_pas ok k).2.2.2 i hi).symm)) ⟨Nat.le_of_ble_eq_true rfl, Nat.le_of_ble_eq_true rfl⟩ rfl rfl (Nat.le_of_ble_eq_true rfl) ⟨Nat.le_of_ble_eq_true rfl, Nat.le_of_ble_eq_true rfl⟩ ?_
        refine a_iload_n X dX5_spreads_58 (i := 2) rfl rfl ?_
        refine a_bipush X dX5_spreads_59 (v := nI 100) (by decide +kernel) ?_
        refine s_icmp_leN X dX5_spreads_61 (tgt := 73) (by decide) (by omega) (by omega) (fun hc61 => ?_) (fun hc61 => ?_)
        · skip
          refine a_iload_n X dX5_spreads_73 (i := 2) rfl rfl ?_
          refine a_iret X hA dX5_spreads_74 ?_
          first | (exfalso; omega) | exact ⟨_, _, _, _, _, rfl, rfl, md_find ((ahk_u K (by decide)).S (Or.inl rfl)) (k := 3) (by decide +kernel) (by rw [sp_spreads, if_pos hc4, cl_n (show v < 2 ^ 31 by omega), ← hfir, show k = 101 by omega]; rfl)⟩ | exact ⟨_, _, _, _, _, rfl, rfl, md_val ((ahk_u K (by decide)).S (Or.inl rfl)) (by rw [sp_spreads, if_pos hc4, cl_n (show v < 2 ^ 31 by omega), ← hfir, fir_hit (p := fun k => allB (sprF (pasN R k) v) (R 1)) (n := 101) (by omega) hc36, firSP_s])⟩
        · skip
          refine a_aload_n X dX5_spreads_64 (i := 0) rfl rfl ?_
          refine a_ldc X dX5_spreads_65 kc_X5_92 ?_
          refine s_callV_R X dX5_spreads_67 lk_X5_67 ko_43 rfl rfl (c_X5_finds (k := 3) (by decide) (by decide +kernel)) ⟨Nat.le_of_ble_eq_true rfl, Nat.le_of_ble_eq_true rfl⟩ rfl rfl (Nat.le_of_ble_eq_true rfl) ⟨Nat.le_of_ble_eq_true rfl, Nat.le_of_ble_eq_true rfl⟩ ?_
          refine a_goto X dX5_spreads_70 (tgt := 74) (by decide) ?_
          refine a_iret X hA dX5_spreads_74 ?_
          first | (exfalso; omega) | exact ⟨_, _, _, _, _, rfl, rfl, md_find ((ahk_u K (by decide)).S (Or.inl rfl)) (k := 3) (by decide +kernel) (by rw [sp_spreads, if_pos hc4, cl_n (show v < 2 ^ 31 by omega), ← hfir, show k = 101 by omega]; rfl)⟩ | exact ⟨_, _, _, _, _, rfl, rfl, md_val ((ahk_u K (by decide)).S (Or.inl rfl)) (by rw [sp_spreads, if_pos hc4, cl_n (show v < 2 ^ 31 by omega), ← hfir, fir_hit (p := fun k => allB (sprF (pasN R k) v) (R 1)) (n := 101) (by omega) hc36, firSP_s])⟩
      · skip
        refine a_aload_n X dX5_spreads_31 (i := 0) rfl rfl ?_
        refine a_iload_n X dX5_spreads_32 (i := 1) rfl rfl ?_
        refine s_callV_R X dX5_spreads_33 lk_X5_163 ko_43 rfl rfl (by have := c_X5_isSpread (l := l) (g := g) (I := I1) (J := J) (F := F) (w := w) K.1 (okR_pas ok k) hv; rw [pas_1] at this; exact this) ⟨Nat.le_of_ble_eq_true rfl, Nat.le_of_ble_eq_true rfl⟩ rfl rfl (Nat.le_of_ble_eq_true rfl) ⟨Nat.le_of_ble_eq_true rfl, Nat.le_of_ble_eq_true rfl⟩ ?_
        refine a_if_ne X dX5_spreads_36 (tgt := 49) (by decide) (fun hc36 => ?_) (fun hc36 => ?_)
        · skip
          try simp only [bI_0, Bool.not_eq_false] at hc36
          refine a_aload_n X dX5_spreads_49 (i := 0) rfl rfl ?_
          refine a_iconst X dX5_spreads_50 (v := nI 0) (by decide +kernel) ?_
          refine a_aload_n X dX5_spreads_51 (i := 0) rfl rfl ?_
          refine s_getr X dX5_spreads_52 fl_X5_22 ko_43 rfl ?_
          refine s_callV_V X dX5_spreads_55 lk_X5_156 ko_43 rfl rfl (c_X5_moveAll_f K.1 ki_48 (by decide) K.2.1 (fun i hi => (ok.2.2.2 i hi).trans ((okR_pas ok k).2.2.2 i hi).symm)) ⟨Nat.le_of_ble_eq_true rfl, Nat.le_of_ble_eq_true rfl⟩ rfl rfl (Nat.le_of_ble_eq_true rfl) ⟨Nat.le_of_ble_eq_true rfl, Nat.le_of_ble_eq_true rfl⟩ ?_
          refine a_iload_n X dX5_spreads_58 (i := 2) rfl rfl ?_
          refine a_bipush X dX5_spreads_59 (v := nI 100) (by decide +kernel) ?_
          refine s_icmp_leN X dX5_spreads_61 (tgt := 73) (by decide) (by omega) (by omega) (fun hc61 => ?_) (fun hc61 => ?_)
          · skip
            refine a_iload_n X dX5_spreads_73 (i := 2) rfl rfl ?_
            refine a_iret X hA dX5_spreads_74 ?_
            first | (exfalso; omega) | exact ⟨_, _, _, _, _, rfl, rfl, md_find ((ahk_u K (by decide)).S (Or.inl rfl)) (k := 3) (by decide +kernel) (by rw [sp_spreads, if_pos hc4, cl_n (show v < 2 ^ 31 by omega), ← hfir, show k = 101 by omega]; rfl)⟩ | exact ⟨_, _, _, _, _, rfl, rfl, md_val ((ahk_u K (by decide)).S (Or.inl rfl)) (by rw [sp_spreads, if_pos hc4, cl_n (show v < 2 ^ 31 by omega), ← hfir, fir_hit (p := fun k => allB (sprF (pasN R k) v) (R 1)) (n := 101) (by omega) hc36, firSP_s])⟩
          · skip
            refine a_aload_n X dX5_spreads_64 (i := 0) rfl rfl ?_
            refine a_ldc X dX5_spreads_65 kc_X5_92 ?_
            refine s_callV_R X dX5_spreads_67 lk_X5_67 ko_43 rfl rfl (c_X5_finds (k := 3) (by decide) (by decide +kernel)) ⟨Nat.le_of_ble_eq_true rfl, Nat.le_of_ble_eq_true rfl⟩ rfl rfl (Nat.le_of_ble_eq_true rfl) ⟨Nat.le_of_ble_eq_true rfl, Nat.le_of_ble_eq_true rfl⟩ ?_
            refine a_goto X dX5_spreads_70 (tgt := 74) (by decide) ?_
            refine a_iret X hA dX5_spreads_74 ?_
            first | (exfalso; omega) | exact ⟨_, _, _, _, _, rfl, rfl, md_find ((ahk_u K (by decide)).S (Or.inl rfl)) (k := 3) (by decide +kernel) (by rw [sp_spreads, if_pos hc4, cl_n (show v < 2 ^ 31 by omega), ← hfir, show k = 101 by omega]; rfl)⟩ | exact ⟨_, _, _, _, _, rfl, rfl, md_val ((ahk_u K (by decide)).S (Or.inl rfl)) (by rw [sp_spreads, if_pos hc4, cl_n (show v < 2 ^ 31 by omega), ← hfir, fir_hit (p := fun k => allB (sprF (pasN R k) v) (R 1)) (n := 101) (by omega) hc36, firSP_s])⟩
        · skip
          try simp only [bI_0, Bool.not_eq_false] at hc36
          refine a_aload_n X dX5_spreads_39 (i := 0) rfl rfl ?_
          refine s_callV_Y X dX5_spreads_40 lk_X5_148 ko_43 rfl rfl (c_X5_oneNight K.1 (okR_pas ok k) (by rw [pas_0]; omega)) ⟨Nat.le_of_ble_eq_true rfl, Nat.le_of_ble_eq_true rfl⟩ rfl rfl (Nat.le_of_ble_eq_true rfl) ⟨Nat.le_of_ble_eq_true rfl, Nat.le_of_ble_eq_true rfl⟩ (fun I2 J2 F2 w2 hpo => ?_)
          refine a_iinc X dX5_spreads_43 rfl (v := nI (_ + 1)) (iincN _ 1) (by decide) rfl ?_
          refine a_goto X dX5_spreads_46 (tgt := 25) (by decide) ?_
          have K2 := ahk_m K (Or.inl rfl) hpo
          obtain ⟨e1, e2, rfl, rfl, rfl⟩ := hpo
          exact ih v (k + 1) I2 (by omega) rfl hc4 hv (by omega) K2 ((fir_go (p := fun k => allB (sprF (pasN R k) v) (R 1)) (n := 101) (by omega) hc36).symm.trans hfir)
  refine a_iload_n X dX5_spreads_0 (i := 1) rfl rfl ?_
  refine s_callS_R X dX5_spreads_1 lk_X5_115 c_X5_isVerse ⟨Nat.le_of_ble_eq_true rfl, Nat.le_of_ble_eq_true rfl⟩ rfl rfl (Nat.le_of_ble_eq_true rfl) ⟨Nat.le_of_ble_eq_true rfl, Nat.le_of_ble_eq_true rfl⟩ ?_
  refine a_if_ne X dX5_spreads_4 (tgt := 14) (by decide) (fun hc4 => ?_) (fun hc4 => ?_)
  · skip
    try simp only [bI_0, Bool.not_eq_false] at hc4
    obtain ⟨v, hv0, hv, rfl⟩ := inB_r (by decide) (by decide) hc4
    refine a_aload_n X dX5_spreads_14 (i := 0) rfl rfl ?_
    refine a_iconst X dX5_spreads_15 (v := nI 1) (by decide +kernel) ?_
    refine a_aload_n X dX5_spreads_16 (i := 0) rfl rfl ?_
    refine s_getr X dX5_spreads_17 fl_X5_22 ko_43 rfl ?_
    refine s_callV_V X dX5_spreads_20 lk_X5_156 ko_43 rfl rfl (c_X5_moveAll_t ki_48 (by decide)) ⟨Nat.le_of_ble_eq_true rfl, Nat.le_of_ble_eq_true rfl⟩ rfl rfl (Nat.le_of_ble_eq_true rfl) ⟨Nat.le_of_ble_eq_true rfl, Nat.le_of_ble_eq_true rfl⟩ ?_
    refine a_iconst X dX5_spreads_23 (v := nI 0) (by decide +kernel) ?_
    refine a_istore_n X dX5_spreads_24 (i := 2) rfl (by decide) rfl ?_
    exact L25 102 v 0 _ (by omega) rfl hc4 (by omega) (by omega) (ahk_0 (Q := 48) hR (by decide)) rfl
  · skip
    try simp only [bI_0, Bool.not_eq_false] at hc4
    refine a_aload_n X dX5_spreads_7 (i := 0) rfl rfl ?_
    refine a_ldc X dX5_spreads_8 kc_X5_50 ?_
    refine s_callV_R X dX5_spreads_10 lk_X5_67 ko_43 rfl rfl (c_X5_finds (k := 0) (by decide) (by decide +kernel)) ⟨Nat.le_of_ble_eq_true rfl, Nat.le_of_ble_eq_true rfl⟩ rfl rfl (Nat.le_of_ble_eq_true rfl) ⟨Nat.le_of_ble_eq_true rfl, Nat.le_of_ble_eq_true rfl⟩ ?_
    refine a_iret X hA dX5_spreads_13 ?_
    exact ⟨_, _, _, _, _, rfl, rfl, md_find (ah_0 hR) (k := 0) (by decide +kernel) (by rw [sp_spreads, if_neg (by rw [hc4]; decide)])⟩
set_option maxRecDepth 100000 in
set_option maxHeartbeats 4000000 in
theorem c_X5_heresy {l : Launch} {g : GG} {I : TI} {J : TJ} {F : TI} {w : Int64} {R : Nat → Nat} (hR : I 44 = nr R) (ok : okR R)  (hN : R 0 < 1000000) : RV l g mX5_heresy [.ref (ga g 43)] I J F w (MdR I J F w (sp_heresy R)) := by
  have hn10 := ok.1
  refine ct_start (M := mX5_heresy) (by decide +kernel) (Nat.le_of_ble_eq_true rfl) ?_
  intro p e s m args below meth c A X hA
  have X : AX p s m args meth c g A cX5_heresy 2 RX5 (Cond.code yX5_heresy cX5_heresy 2 (some .int)) (some .int) := X
  show AW p l e (rmM 6 137) s m args below meth c g A 2 0 0 (MQ below (CQ g (hp g I J F w) s.heap.size (fun vv0 hh0 => ∃ xx0 II0 JJ0 FF0 ww0, vv0 = some xx0 ∧ hh0 = hp g II0 JJ0 FF0 ww0 ∧ (MdR I J F w (sp_heresy R)) xx0 II0 JJ0 FF0 ww0)) args s 0 0 A) 0 [some (.ref (ga g 43)), none] [] (hp g I J F w)
  have L11 : ∀ (fu : Nat) (k : Nat) (I1 : TI), 101 - k < fu → (k ≤ 101) → (AhK 48 I R (pasN R k) I1) → (firF (fun k => anyB (herF (pasN R k)) (R 1)) (101 - k) k = firF (fun k => anyB (herF (pasN R k)) (R 1)) 101 0) → AW p l e (rmM 6 137) s m args below meth c g A 2 0 0 (MQ below (CQ g (hp g I J F w) s.heap.size (fun vv0 hh0 => ∃ xx0 II0 JJ0 FF0 ww0, vv0 = some xx0 ∧ hh0 = hp g II0 JJ0 FF0 ww0 ∧ (MdR I J F w (sp_heresy R)) xx0 II0 JJ0 FF0 ww0)) args s 0 0 A) 11 [some (.ref (ga g 43)), some (.int (nI k))] [] (hp g I1 J F w) := by
    intro fu
    induction fu with
    | zero => intro k I1 hfu; exact absurd hfu (by omega)
    | succ fu ih =>
      intro k I1 hfu hk K hfir
      refine a_iload_n X dX5_heresy_11 (i := 1) rfl rfl ?_
      refine a_bipush X dX5_heresy_12 (v := nI 100) (by decide +kernel) ?_
      refine s_icmp_gtN X dX5_heresy_14 (tgt := 34) (by decide) (by omega) (by omega) (fun hc14 => ?_) (fun hc14 => ?_)
      · skip
        refine a_aload_n X dX5_heresy_34 (i := 0) rfl rfl ?_
        refine a_iconst X dX5_heresy_35 (v := nI 0) (by decide +kernel) ?_
        refine a_aload_n X dX5_heresy_36 (i := 0) rfl rfl ?_
        refine s_getr X dX5_heresy_37 fl_X5_22 ko_43 rfl ?_
        refine s_callV_V X dX5_heresy_40 lk_X5_156 ko_43 rfl rfl (c_X5_moveAll_f K.1 ki_48 (by decide) K.2.1 (fun i hi => (ok.2.2.2 i hi).trans ((okR_pas ok k).2.2.2 i hi).symm)) ⟨Nat.le_of_ble_eq_true rfl, Nat.le_of_ble_eq_true rfl⟩ rfl rfl (Nat.le_of_ble_eq_true rfl) ⟨Nat.le_of_ble_eq_true rfl, Nat.le_of_ble_eq_true rfl⟩ ?_
        refine a_iload_n X dX5_heresy_43 (i := 1) rfl rfl ?_
        refine a_bipush X dX5_heresy_44 (v := nI 100) (by decide +kernel) ?_
        refine s_icmp_leN X dX5_heresy_46 (tgt := 58) (by decide) (by omega) (by omega) (fun hc46 => ?_) (fun hc46 => ?_)
        · skip
          refine a_iload_n X dX5_heresy_58 (i := 1) rfl rfl ?_
          refine a_iret X hA dX5_heresy_59 ?_
          first | (exfalso; omega) | exact ⟨_, _, _, _, _, rfl, rfl, md_find ((ahk_u K (by decide)).S (Or.inl rfl)) (k := 3) (by decide +kernel) (by rw [sp_heresy, ← hfir, show k = 101 by omega]; rfl)⟩ | exact ⟨_, _, _, _, _, rfl, rfl, md_val ((ahk_u K (by decide)).S (Or.inl rfl)) (by rw [sp_heresy, ← hfir, fir_hit (p := fun k => anyB (herF (pasN R k)) (R 1)) (n := 101) (by omega) hc21, firSP_s])⟩
        · skip
          refine a_aload_n X dX5_heresy_49 (i := 0) rfl rfl ?_
          refine a_ldc X dX5_heresy_50 kc_X5_92 ?_
          refine s_callV_R X dX5_heresy_52 lk_X5_67 ko_43 rfl rfl (c_X5_finds (k := 3) (by decide) (by decide +kernel)) ⟨Nat.le_of_ble_eq_true rfl, Nat.le_of_ble_eq_true rfl⟩ rfl rfl (Nat.le_of_ble_eq_true rfl) ⟨Nat.le_of_ble_eq_true rfl, Nat.le_of_ble_eq_true rfl⟩ ?_
          refine a_goto X dX5_heresy_55 (tgt := 59) (by decide) ?_
          refine a_iret X hA dX5_heresy_59 ?_
          first | (exfalso; omega) | exact ⟨_, _, _, _, _, rfl, rfl, md_find ((ahk_u K (by decide)).S (Or.inl rfl)) (k := 3) (by decide +kernel) (by rw [sp_heresy, ← hfir, show k = 101 by omega]; rfl)⟩ | exact ⟨_, _, _, _, _, rfl, rfl, md_val ((ahk_u K (by decide)).S (Or.inl rfl)) (by rw [sp_heresy, ← hfir, fir_hit (p := fun k => anyB (herF (pasN R k)) (R 1)) (n := 101) (by omega) hc21, firSP_s])⟩
      · skip
        refine a_aload_n X dX5_heresy_17 (i := 0) rfl rfl ?_
        refine s_callV_R X dX5_heresy_18 lk_X5_166 ko_43 rfl rfl (by have := c_X5_isHeresy (l := l) (g := g) (I := I1) (J := J) (F := F) (w := w) K.1 (okR_pas ok k); rw [pas_1] at this; exact this) ⟨Nat.le_of_ble_eq_true rfl, Nat.le_of_ble_eq_true rfl⟩ rfl rfl (Nat.le_of_ble_eq_true rfl) ⟨Nat.le_of_ble_eq_true rfl, Nat.le_of_ble_eq_true rfl⟩ ?_
        refine a_if_ne X dX5_heresy_21 (tgt := 34) (by decide) (fun hc21 => ?_) (fun hc21 => ?_)
        · skip
          try simp only [bI_0, Bool.not_eq_false] at hc21
          refine a_aload_n X dX5_heresy_34 (i := 0) rfl rfl ?_
          refine a_iconst X dX5_heresy_35 (v := nI 0) (by decide +kernel) ?_
          refine a_aload_n X dX5_heresy_36 (i := 0) rfl rfl ?_
          refine s_getr X dX5_heresy_37 fl_X5_22 ko_43 rfl ?_
          refine s_callV_V X dX5_heresy_40 lk_X5_156 ko_43 rfl rfl (c_X5_moveAll_f K.1 ki_48 (by decide) K.2.1 (fun i hi => (ok.2.2.2 i hi).trans ((okR_pas ok k).2.2.2 i hi).symm)) ⟨Nat.le_of_ble_eq_true rfl, Nat.le_of_ble_eq_true rfl⟩ rfl rfl (Nat.le_of_ble_eq_true rfl) ⟨Nat.le_of_ble_eq_true rfl, Nat.le_of_ble_eq_true rfl⟩ ?_
          refine a_iload_n X dX5_heresy_43 (i := 1) rfl rfl ?_
          refine a_bipush X dX5_heresy_44 (v := nI 100) (by decide +kernel) ?_
          refine s_icmp_leN X dX5_heresy_46 (tgt := 58) (by decide) (by omega) (by omega) (fun hc46 => ?_) (fun hc46 => ?_)
          · skip
            refine a_iload_n X dX5_heresy_58 (i := 1) rfl rfl ?_
            refine a_iret X hA dX5_heresy_59 ?_
            first | (exfalso; omega) | exact ⟨_, _, _, _, _, rfl, rfl, md_find ((ahk_u K (by decide)).S (Or.inl rfl)) (k := 3) (by decide +kernel) (by rw [sp_heresy, ← hfir, show k = 101 by omega]; rfl)⟩ | exact ⟨_, _, _, _, _, rfl, rfl, md_val ((ahk_u K (by decide)).S (Or.inl rfl)) (by rw [sp_heresy, ← hfir, fir_hit (p := fun k => anyB (herF (pasN R k)) (R 1)) (n := 101) (by omega) hc21, firSP_s])⟩
          · skip
            refine a_aload_n X dX5_heresy_49 (i := 0) rfl rfl ?_
            refine a_ldc X dX5_heresy_50 kc_X5_92 ?_
            refine s_callV_R X dX5_heresy_52 lk_X5_67 ko_43 rfl rfl (c_X5_finds (k := 3) (by decide) (by decide +kernel)) ⟨Nat.le_of_ble_eq_true rfl, Nat.le_of_ble_eq_true rfl⟩ rfl rfl (Nat.le_of_ble_eq_true rfl) ⟨Nat.le_of_ble_eq_true rfl, Nat.le_of_ble_eq_true rfl⟩ ?_
            refine a_goto X dX5_heresy_55 (tgt := 59) (by decide) ?_
            refine a_iret X hA dX5_heresy_59 ?_
            first | (exfalso; omega) | exact ⟨_, _, _, _, _, rfl, rfl, md_find ((ahk_u K (by decide)).S (Or.inl rfl)) (k := 3) (by decide +kernel) (by rw [sp_heresy, ← hfir, show k = 101 by omega]; rfl)⟩ | exact ⟨_, _, _, _, _, rfl, rfl, md_val ((ahk_u K (by decide)).S (Or.inl rfl)) (by rw [sp_heresy, ← hfir, fir_hit (p := fun k => anyB (herF (pasN R k)) (R 1)) (n := 101) (by omega) hc21, firSP_s])⟩
        · skip
          try simp only [bI_0, Bool.not_eq_false] at hc21
          refine a_aload_n X dX5_heresy_24 (i := 0) rfl rfl ?_
          refine s_callV_Y X dX5_heresy_25 lk_X5_148 ko_43 rfl rfl (c_X5_oneNight K.1 (okR_pas ok k) (by rw [pas_0]; omega)) ⟨Nat.le_of_ble_eq_true rfl, Nat.le_of_ble_eq_true rfl⟩ rfl rfl (Nat.le_of_ble_eq_true rfl) ⟨Nat.le_of_ble_eq_true rfl, Nat.le_of_ble_eq_true rfl⟩ (fun I2 J2 F2 w2 hpo => ?_)
          refine a_iinc X dX5_heresy_28 rfl (v := nI (_ + 1)) (iincN _ 1) (by decide) rfl ?_
          refine a_goto X dX5_heresy_31 (tgt := 11) (by decide) ?_
          have K2 := ahk_m K (Or.inl rfl) hpo
          obtain ⟨e1, e2, rfl, rfl, rfl⟩ := hpo
          exact ih (k + 1) I2 (by omega) (by omega) K2 ((fir_go (p := fun k => anyB (herF (pasN R k)) (R 1)) (n := 101) (by omega) hc21).symm.trans hfir)
  refine a_aload_n X dX5_heresy_0 (i := 0) rfl rfl ?_
  refine a_iconst X dX5_heresy_1 (v := nI 1) (by decide +kernel) ?_
  refine a_aload_n X dX5_heresy_2 (i := 0) rfl rfl ?_
  refine s_getr X dX5_heresy_3 fl_X5_22 ko_43 rfl ?_
  refine s_callV_V X dX5_heresy_6 lk_X5_156 ko_43 rfl rfl (c_X5_moveAll_t ki_48 (by decide)) ⟨Nat.le_of_ble_eq_true rfl, Nat.le_of_ble_eq_true rfl⟩ rfl rfl (Nat.le_of_ble_eq_true rfl) ⟨Nat.le_of_ble_eq_true rfl, Nat.le_of_ble_eq_true rfl⟩ ?_
  refine a_iconst X dX5_heresy_9 (v := nI 0) (by decide +kernel) ?_
  refine a_istore_n X dX5_heresy_10 (i := 1) rfl (by decide) rfl ?_
  exact L11 102 0 _ (by omega) (by omega) (ahk_0 (Q := 48) hR (by decide)) rfl
set_option maxRecDepth 100000 in
set_option maxHeartbeats 4000000 in
theorem c_X5_best {l : Launch} {g : GG} {I : TI} {J : TJ} {F : TI} {w : Int64} {R : Nat → Nat} (hR : I 44 = nr R) (ok : okR R) {x y : Int32} (hN : R 0 < 1000000) : RV l g mX5_best [.ref (ga g 43), .int x, .int y] I J F w (MdR I J F w (sp_best R x y)) := by
  have hn10 := ok.1
  refine ct_start (M := mX5_best) (by decide +kernel) (Nat.le_of_ble_eq_true rfl) ?_
  intro p e s m args below meth c A X hA
  have X : AX p s m args meth c g A cX5_best 8 RX5 (Cond.code yX5_best cX5_best 8 (some .int)) (some .int) := X
  show AW p l e (rmM 8 182) s m args below meth c g A 8 0 0 (MQ below (CQ g (hp g I J F w) s.heap.size (fun vv0 hh0 => ∃ xx0 II0 JJ0 FF0 ww0, vv0 = some xx0 ∧ hh0 = hp g II0 JJ0 FF0 ww0 ∧ (MdR I J F w (sp_best R x y)) xx0 II0 JJ0 FF0 ww0)) args s 0 0 A) 0 [some (.ref (ga g 43)), some (.int x), some (.int y), none, none, none, none, none] [] (hp g I J F w)
  have L42 : ∀ (fu : Nat) (a : Nat) (j : Nat) (k : Nat) (I1 : TI), 12 - k < fu → (x = nI a) → (y = nI j) → (isM (R 1) x = true) → (inB y (nI 1) (nI 40) = true) → (a < R 1) → (j ≤ 40) → (k ≤ 12) → (AhK 48 I R R I1) → AW p l e (rmM 8 182) s m args below meth c g A 8 0 0 (MQ below (CQ g (hp g I J F w) s.heap.size (fun vv0 hh0 => ∃ xx0 II0 JJ0 FF0 ww0, vv0 = some xx0 ∧ hh0 = hp g II0 JJ0 FF0 ww0 ∧ (MdR I J F w (sp_best R x y)) xx0 II0 JJ0 FF0 ww0)) args s 0 0 A) 42 [some (.ref (ga g 43)), some (.int (nI a)), some (.int (nI j)), some (.int (nI (bstF 0 (bvS R a j) k).1)), some (.int (moI (bstF 0 (bvS R a j) k).2)), some (.int (nI k)), none, none] [] (hp g I1 J F w) := by
    intro fu
    induction fu with
    | zero => intro a j k I1 hfu; exact absurd hfu (by omega)
    | succ fu ih =>
      intro a j k I1 hfu hx hy hc5 hc15 ha hj hk K
      subst hx; subst hy
      obtain ⟨g0, g1, g2, g3, g4, g5⟩ := ok.2.1 a ha
      refine a_iload X dX5_best_42 rfl ?_
      refine a_bipush X dX5_best_44 (v := nI 12) (by decide +kernel) ?_
      refine s_icmp_geN X dX5_best_46 (tgt := 123) (by decide) (by omega) (by omega) (fun hc46 => ?_) (fun hc46 => ?_)
      · skip
        have hk2 : k = 12 := by omega
        subst hk2
        refine a_iload_n X dX5_best_123 (i := 3) rfl rfl ?_
        refine a_iret X hA dX5_best_124 ?_
        exact ⟨_, _, _, _, _, rfl, rfl, md_val (K.S (Or.inl rfl)) (by rw [sp_best, if_pos ⟨hc5, hc15⟩, cl_n (show a < 2 ^ 31 by omega), cl_n (show j < 2 ^ 31 by omega)])⟩
      · skip
        have hmb := bst_b (b := 0) (bvS_b (R := R) (m := a) (n := j)) k
        refine a_aload_n X dX5_best_49 (i := 0) rfl rfl ?_
        refine a_iload X dX5_best_50 rfl ?_
        refine s_callV_R X dX5_best_52 lk_X5_63 ko_43 rfl rfl (c_X5_whoIn K.1 ok.1 (by omega) (fun m hm => Nat.lt_trans (ok.2.1 m hm).2.1 (by decide))) ⟨Nat.le_of_ble_eq_true rfl, Nat.le_of_ble_eq_true rfl⟩ rfl rfl (Nat.le_of_ble_eq_true rfl) ⟨Nat.le_of_ble_eq_true rfl, Nat.le_of_ble_eq_true rfl⟩ ?_
        refine a_istore X dX5_best_55 (by decide) rfl ?_
        refine a_iload X dX5_best_57 rfl ?_
        refine a_if_lt X dX5_best_59 (tgt := 68) (by decide) (fun hc59 => ?_) (fun hc59 => ?_)
        · skip
          have hw := whoNone' (who_b hn10) hc59
          have hw2 : who R k (R 1) = none ∨ who R k (R 1) = some a := Or.inl hw
          have okm := ok_seat ok ha (by omega) hw2
          have hcs : bvS R a j k = some (pcn (pasN (va_up R (2 + 6 * a + 1) k) j (2 + 6 * a + 4))) := by rw [bvS, if_pos hw2]
          refine a_aload_n X dX5_best_68 (i := 0) rfl rfl ?_
          refine a_iload_n X dX5_best_69 (i := 1) rfl rfl ?_
          refine a_iconst X dX5_best_70 (v := nI 1) (by decide +kernel) ?_
          refine a_iload X dX5_best_71 rfl ?_
          refine s_callV_V X dX5_best_73 lk_X5_108 ko_43 rfl rfl (c_X5_puts K.1 (by omega)) ⟨Nat.le_of_ble_eq_true rfl, Nat.le_of_ble_eq_true rfl⟩ rfl rfl (Nat.le_of_ble_eq_true rfl) ⟨Nat.le_of_ble_eq_true rfl, Nat.le_of_ble_eq_true rfl⟩ ?_
          refine a_aload_n X dX5_best_76 (i := 0) rfl rfl ?_
          refine a_iload_n X dX5_best_77 (i := 1) rfl rfl ?_
          refine a_iload_n X dX5_best_78 (i := 2) rfl rfl ?_
          refine s_callV_X X dX5_best_79 lk_X5_170 ko_43 rfl rfl (c_X5_knowsBehind (a := a) (n := j) (up_s _ _ _) okm (by rw [up_n _ _ (by omega)]; exact ha) (by rw [up_n _ _ (by omega)]; omega) (ahk_u K (by decide)).2.1 ok.2.2.2) ⟨Nat.le_of_ble_eq_true rfl, Nat.le_of_ble_eq_true rfl⟩ rfl rfl (Nat.le_of_ble_eq_true rfl) ⟨Nat.le_of_ble_eq_true rfl, Nat.le_of_ble_eq_true rfl⟩ (fun x2 I2 J2 F2 w2 hpo => ?_)
          obtain ⟨rfl, hm⟩ := hpo
          have K3 := ahk_m (ahk_u K (by decide)) (Or.inl rfl) hm
          obtain ⟨-, -, rfl, rfl, rfl⟩ := hm
          refine s_callS_R X dX5_best_82 lk_X5_74 (c_X5_bits ((okR_pas okm j).2.1 a (by rw [pas_1, up_n _ _ (by omega)]; exact ha)).2.2.2.2.1) ⟨Nat.le_of_ble_eq_true rfl, Nat.le_of_ble_eq_true rfl⟩ rfl rfl (Nat.le_of_ble_eq_true rfl) ⟨Nat.le_of_ble_eq_true rfl, Nat.le_of_ble_eq_true rfl⟩ ?_
          refine a_istore X dX5_best_85 (by decide) rfl ?_
          refine a_iload X dX5_best_87 rfl ?_
          refine a_iload X dX5_best_89 rfl ?_
          refine a_icmp_le X dX5_best_91 (tgt := 99) (by decide) (fun hc91 => ?_) (fun hc91 => ?_)
          · skip
            refine a_iload_n X dX5_best_99 (i := 3) rfl rfl ?_
            refine a_istore_n X dX5_best_100 (i := 3) rfl (by decide) rfl ?_
            refine a_iload X dX5_best_101 rfl ?_
            refine a_iload X dX5_best_103 rfl ?_
            refine a_icmp_le X dX5_best_105 (tgt := 113) (by decide) (fun hc105 => ?_) (fun hc105 => ?_)
            · skip
              refine a_iload X dX5_best_113 rfl ?_
              refine a_istore X dX5_best_115 (by decide) rfl ?_
              refine a_iinc X dX5_best_117 rfl (v := nI (_ + 1)) (iincN _ 1) (by decide) rfl ?_
              refine a_goto X dX5_best_120 (tgt := 42) (by decide) ?_
              first
                | exact absurd hc91 hc105
                | exact absurd hc105 hc91
                | (have e := bst_n (b := 0) (k := k) hcn
                   have := ih a j (k + 1) I1 (by omega) rfl rfl hc5 hc15 ha hj (by omega) K
                   rw [e] at this
                   exact s_dropAt 6 (s_dropAt 7 this))
                | (have e := bst_le (b := 0) (k := k) hcs ((moI_le (Nat.lt_of_le_of_lt (pcn_le _) (by decide)) (by omega)).mp hc91)
                   have := ih a j (k + 1) I2 (by omega) rfl rfl hc5 hc15 ha hj (by omega) K3
                   rw [e] at this
                   exact s_dropAt 6 (s_dropAt 7 this))
                | (have e := bst_gt (b := 0) (k := k) hcs (fun z => hc91 ((moI_le (Nat.lt_of_le_of_lt (pcn_le _) (by decide)) (by omega)).mpr z))
                   have := ih a j (k + 1) I2 (by omega) rfl rfl hc5 hc15 ha hj (by omega) K3
                   rw [e] at this
                   exact s_dropAt 6 (s_dropAt 7 this))
            · skip
              refine a_iload X dX5_best_108 rfl ?_
              refine a_goto X dX5_best_110 (tgt := 115) (by decide) ?_
              refine a_istore X dX5_best_115 (by decide) rfl ?_
              refine a_iinc X dX5_best_117 rfl (v := nI (_ + 1)) (iincN _ 1) (by decide) rfl ?_
              refine a_goto X dX5_best_120 (tgt := 42) (by decide) ?_
              first
                | exact absurd hc91 hc105
                | exact absurd hc105 hc91
                | (have e := bst_n (b := 0) (k := k) hcn
                   have := ih a j (k + 1) I1 (by omega) rfl rfl hc5 hc15 ha hj (by omega) K
                   rw [e] at this
                   exact s_dropAt 6 (s_dropAt 7 this))
                | (have e := bst_le (b := 0) (k := k) hcs ((moI_le (Nat.lt_of_le_of_lt (pcn_le _) (by decide)) (by omega)).mp hc91)
                   have := ih a j (k + 1) I2 (by omega) rfl rfl hc5 hc15 ha hj (by omega) K3
                   rw [e] at this
                   exact s_dropAt 6 (s_dropAt 7 this))
                | (have e := bst_gt (b := 0) (k := k) hcs (fun z => hc91 ((moI_le (Nat.lt_of_le_of_lt (pcn_le _) (by decide)) (by omega)).mpr z))
                   have := ih a j (k + 1) I2 (by omega) rfl rfl hc5 hc15 ha hj (by omega) K3
                   rw [e] at this
                   exact s_dropAt 6 (s_dropAt 7 this))
          · skip
            refine a_iload X dX5_best_94 rfl ?_
            refine a_goto X dX5_best_96 (tgt := 100) (by decide) ?_
            refine a_istore_n X dX5_best_100 (i := 3) rfl (by decide) rfl ?_
            refine a_iload X dX5_best_101 rfl ?_
            refine a_iload X dX5_best_103 rfl ?_
            refine a_icmp_le X dX5_best_105 (tgt := 113) (by decide) (fun hc105 => ?_) (fun hc105 => ?_)
            · skip
              refine a_iload X dX5_best_113 rfl ?_
              refine a_istore X dX5_best_115 (by decide) rfl ?_
              refine a_iinc X dX5_best_117 rfl (v := nI (_ + 1)) (iincN _ 1) (by decide) rfl ?_
              refine a_goto X dX5_best_120 (tgt := 42) (by decide) ?_
              first
                | exact absurd hc91 hc105
                | exact absurd hc105 hc91
                | (have e := bst_n (b := 0) (k := k) hcn
                   have := ih a j (k + 1) I1 (by omega) rfl rfl hc5 hc15 ha hj (by omega) K
                   rw [e] at this
                   exact s_dropAt 6 (s_dropAt 7 this))
                | (have e := bst_le (b := 0) (k := k) hcs ((moI_le (Nat.lt_of_le_of_lt (pcn_le _) (by decide)) (by omega)).mp hc91)
                   have := ih a j (k + 1) I2 (by omega) rfl rfl hc5 hc15 ha hj (by omega) K3
                   rw [e] at this
                   exact s_dropAt 6 (s_dropAt 7 this))
                | (have e := bst_gt (b := 0) (k := k) hcs (fun z => hc91 ((moI_le (Nat.lt_of_le_of_lt (pcn_le _) (by decide)) (by omega)).mpr z))
                   have := ih a j (k + 1) I2 (by omega) rfl rfl hc5 hc15 ha hj (by omega) K3
                   rw [e] at this
                   exact s_dropAt 6 (s_dropAt 7 this))
            · skip
              refine a_iload X dX5_best_108 rfl ?_
              refine a_goto X dX5_best_110 (tgt := 115) (by decide) ?_
              refine a_istore X dX5_best_115 (by decide) rfl ?_
              refine a_iinc X dX5_best_117 rfl (v := nI (_ + 1)) (iincN _ 1) (by decide) rfl ?_
              refine a_goto X dX5_best_120 (tgt := 42) (by decide) ?_
              first
                | exact absurd hc91 hc105
                | exact absurd hc105 hc91
                | (have e := bst_n (b := 0) (k := k) hcn
                   have := ih a j (k + 1) I1 (by omega) rfl rfl hc5 hc15 ha hj (by omega) K
                   rw [e] at this
                   exact s_dropAt 6 (s_dropAt 7 this))
                | (have e := bst_le (b := 0) (k := k) hcs ((moI_le (Nat.lt_of_le_of_lt (pcn_le _) (by decide)) (by omega)).mp hc91)
                   have := ih a j (k + 1) I2 (by omega) rfl rfl hc5 hc15 ha hj (by omega) K3
                   rw [e] at this
                   exact s_dropAt 6 (s_dropAt 7 this))
                | (have e := bst_gt (b := 0) (k := k) hcs (fun z => hc91 ((moI_le (Nat.lt_of_le_of_lt (pcn_le _) (by decide)) (by omega)).mpr z))
                   have := ih a j (k + 1) I2 (by omega) rfl rfl hc5 hc15 ha hj (by omega) K3
                   rw [e] at this
                   exact s_dropAt 6 (s_dropAt 7 this))
        · skip
          obtain ⟨q, hw⟩ := whoSome' hc59
          have hq := (who_lt hw).1
          rw [hw, wI_s]
          refine a_iload X dX5_best_62 rfl ?_
          refine a_iload_n X dX5_best_64 (i := 1) rfl rfl ?_
          refine s_icmp_neN X dX5_best_65 (tgt := 117) (by decide) (by omega) (by omega) (fun hc65 => ?_) (fun hc65 => ?_)
          · skip
            have hcn : bvS R a j k = none := by rw [bvS, if_neg (by rw [hw]; simp; omega)]
            refine a_iinc X dX5_best_117 rfl (v := nI (_ + 1)) (iincN _ 1) (by decide) rfl ?_
            refine a_goto X dX5_best_120 (tgt := 42) (by decide) ?_
            first
              | exact absurd hc91 hc105
              | exact absurd hc105 hc91
              | (have e := bst_n (b := 0) (k := k) hcn
                 have := ih a j (k + 1) I1 (by omega) rfl rfl hc5 hc15 ha hj (by omega) K
                 rw [e] at this
                 exact s_dropAt 6 (s_dropAt 7 this))
              | (have e := bst_le (b := 0) (k := k) hcs ((moI_le (Nat.lt_of_le_of_lt (pcn_le _) (by decide)) (by omega)).mp hc91)
                 have := ih a j (k + 1) I2 (by omega) rfl rfl hc5 hc15 ha hj (by omega) K3
                 rw [e] at this
                 exact s_dropAt 6 (s_dropAt 7 this))
              | (have e := bst_gt (b := 0) (k := k) hcs (fun z => hc91 ((moI_le (Nat.lt_of_le_of_lt (pcn_le _) (by decide)) (by omega)).mpr z))
                 have := ih a j (k + 1) I2 (by omega) rfl rfl hc5 hc15 ha hj (by omega) K3
                 rw [e] at this
                 exact s_dropAt 6 (s_dropAt 7 this))
          · skip
            have hw2 : who R k (R 1) = none ∨ who R k (R 1) = some a := Or.inr (by rw [hw, hc65])
            have okm := ok_seat ok ha (by omega) hw2
            have hcs : bvS R a j k = some (pcn (pasN (va_up R (2 + 6 * a + 1) k) j (2 + 6 * a + 4))) := by rw [bvS, if_pos hw2]
            refine a_aload_n X dX5_best_68 (i := 0) rfl rfl ?_
            refine a_iload_n X dX5_best_69 (i := 1) rfl rfl ?_
            refine a_iconst X dX5_best_70 (v := nI 1) (by decide +kernel) ?_
            refine a_iload X dX5_best_71 rfl ?_
            refine s_callV_V X dX5_best_73 lk_X5_108 ko_43 rfl rfl (c_X5_puts K.1 (by omega)) ⟨Nat.le_of_ble_eq_true rfl, Nat.le_of_ble_eq_true rfl⟩ rfl rfl (Nat.le_of_ble_eq_true rfl) ⟨Nat.le_of_ble_eq_true rfl, Nat.le_of_ble_eq_true rfl⟩ ?_
            refine a_aload_n X dX5_best_76 (i := 0) rfl rfl ?_
            refine a_iload_n X dX5_best_77 (i := 1) rfl rfl ?_
            refine a_iload_n X dX5_best_78 (i := 2) rfl rfl ?_
            refine s_callV_X X dX5_best_79 lk_X5_170 ko_43 rfl rfl (c_X5_knowsBehind (a := a) (n := j) (up_s _ _ _) okm (by rw [up_n _ _ (by omega)]; exact ha) (by rw [up_n _ _ (by omega)]; omega) (ahk_u K (by decide)).2.1 ok.2.2.2) ⟨Nat.le_of_ble_eq_true rfl, Nat.le_of_ble_eq_true rfl⟩ rfl rfl (Nat.le_of_ble_eq_true rfl) ⟨Nat.le_of_ble_eq_true rfl, Nat.le_of_ble_eq_true rfl⟩ (fun x2 I2 J2 F2 w2 hpo => ?_)
            obtain ⟨rfl, hm⟩ := hpo
            have K3 := ahk_m (ahk_u K (by decide)) (Or.inl rfl) hm
            obtain ⟨-, -, rfl, rfl, rfl⟩ := hm
            refine s_callS_R X dX5_best_82 lk_X5_74 (c_X5_bits ((okR_pas okm j).2.1 a (by rw [pas_1, up_n _ _ (by omega)]; exact ha)).2.2.2.2.1) ⟨Nat.le_of_ble_eq_true rfl, Nat.le_of_ble_eq_true rfl⟩ rfl rfl (Nat.le_of_ble_eq_true rfl) ⟨Nat.le_of_ble_eq_true rfl, Nat.le_of_ble_eq_true rfl⟩ ?_
            refine a_istore X dX5_best_85 (by decide) rfl ?_
            refine a_iload X dX5_best_87 rfl ?_
            refine a_iload X dX5_best_89 rfl ?_
            refine a_icmp_le X dX5_best_91 (tgt := 99) (by decide) (fun hc91 => ?_) (fun hc91 => ?_)
            · skip
              refine a_iload_n X dX5_best_99 (i := 3) rfl rfl ?_
              refine a_istore_n X dX5_best_100 (i := 3) rfl (by decide) rfl ?_
              refine a_iload X dX5_best_101 rfl ?_
              refine a_iload X dX5_best_103 rfl ?_
              refine a_icmp_le X dX5_best_105 (tgt := 113) (by decide) (fun hc105 => ?_) (fun hc105 => ?_)
              · skip
                refine a_iload X dX5_best_113 rfl ?_
                refine a_istore X dX5_best_115 (by decide) rfl ?_
                refine a_iinc X dX5_best_117 rfl (v := nI (_ + 1)) (iincN _ 1) (by decide) rfl ?_
                refine a_goto X dX5_best_120 (tgt := 42) (by decide) ?_
                first
                  | exact absurd hc91 hc105
                  | exact absurd hc105 hc91
                  | (have e := bst_n (b := 0) (k := k) hcn
                     have := ih a j (k + 1) I1 (by omega) rfl rfl hc5 hc15 ha hj (by omega) K
                     rw [e] at this
                     exact s_dropAt 6 (s_dropAt 7 this))
                  | (have e := bst_le (b := 0) (k := k) hcs ((moI_le (Nat.lt_of_le_of_lt (pcn_le _) (by decide)) (by omega)).mp hc91)
                     have := ih a j (k + 1) I2 (by omega) rfl rfl hc5 hc15 ha hj (by omega) K3
                     rw [e] at this
                     exact s_dropAt 6 (s_dropAt 7 this))
                  | (have e := bst_gt (b := 0) (k := k) hcs (fun z => hc91 ((moI_le (Nat.lt_of_le_of_lt (pcn_le _) (by decide)) (by omega)).mpr z))
                     have := ih a j (k + 1) I2 (by omega) rfl rfl hc5 hc15 ha hj (by omega) K3
                     rw [e] at this
                     exact s_dropAt 6 (s_dropAt 7 this))
              · skip
                refine a_iload X dX5_best_108 rfl ?_
                refine a_goto X dX5_best_110 (tgt := 115) (by decide) ?_
                refine a_istore X dX5_best_115 (by decide) rfl ?_
                refine a_iinc X dX5_best_117 rfl (v := nI (_ + 1)) (iincN _ 1) (by decide) rfl ?_
                refine a_goto X dX5_best_120 (tgt := 42) (by decide) ?_
                first
                  | exact absurd hc91 hc105
                  | exact absurd hc105 hc91
                  | (have e := bst_n (b := 0) (k := k) hcn
                     have := ih a j (k + 1) I1 (by omega) rfl rfl hc5 hc15 ha hj (by omega) K
                     rw [e] at this
                     exact s_dropAt 6 (s_dropAt 7 this))
                  | (have e := bst_le (b := 0) (k := k) hcs ((moI_le (Nat.lt_of_le_of_lt (pcn_le _) (by decide)) (by omega)).mp hc91)
                     have := ih a j (k + 1) I2 (by omega) rfl rfl hc5 hc15 ha hj (by omega) K3
                     rw [e] at this
                     exact s_dropAt 6 (s_dropAt 7 this))
                  | (have e := bst_gt (b := 0) (k := k) hcs (fun z => hc91 ((moI_le (Nat.lt_of_le_of_lt (pcn_le _) (by decide)) (by omega)).mpr z))
                     have := ih a j (k + 1) I2 (by omega) rfl rfl hc5 hc15 ha hj (by omega) K3
                     rw [e] at this
                     exact s_dropAt 6 (s_dropAt 7 this))
            · skip
              refine a_iload X dX5_best_94 rfl ?_
              refine a_goto X dX5_best_96 (tgt := 100) (by decide) ?_
              refine a_istore_n X dX5_best_100 (i := 3) rfl (by decide) rfl ?_
              refine a_iload X dX5_best_101 rfl ?_
              refine a_iload X dX5_best_103 rfl ?_
              refine a_icmp_le X dX5_best_105 (tgt := 113) (by decide) (fun hc105 => ?_) (fun hc105 => ?_)
              · skip
                refine a_iload X dX5_best_113 rfl ?_
                refine a_istore X dX5_best_115 (by decide) rfl ?_
                refine a_iinc X dX5_best_117 rfl (v := nI (_ + 1)) (iincN _ 1) (by decide) rfl ?_
                refine a_goto X dX5_best_120 (tgt := 42) (by decide) ?_
                first
                  | exact absurd hc91 hc105
                  | exact absurd hc105 hc91
                  | (have e := bst_n (b := 0) (k := k) hcn
                     have := ih a j (k + 1) I1 (by omega) rfl rfl hc5 hc15 ha hj (by omega) K
                     rw [e] at this
                     exact s_dropAt 6 (s_dropAt 7 this))
                  | (have e := bst_le (b := 0) (k := k) hcs ((moI_le (Nat.lt_of_le_of_lt (pcn_le _) (by decide)) (by omega)).mp hc91)
                     have := ih a j (k + 1) I2 (by omega) rfl rfl hc5 hc15 ha hj (by omega) K3
                     rw [e] at this
                     exact s_dropAt 6 (s_dropAt 7 this))
                  | (have e := bst_gt (b := 0) (k := k) hcs (fun z => hc91 ((moI_le (Nat.lt_of_le_of_lt (pcn_le _) (by decide)) (by omega)).mpr z))
                     have := ih a j (k + 1) I2 (by omega) rfl rfl hc5 hc15 ha hj (by omega) K3
                     rw [e] at this
                     exact s_dropAt 6 (s_dropAt 7 this))
              · skip
                refine a_iload X dX5_best_108 rfl ?_
                refine a_goto X dX5_best_110 (tgt := 115) (by decide) ?_
                refine a_istore X dX5_best_115 (by decide) rfl ?_
                refine a_iinc X dX5_best_117 rfl (v := nI (_ + 1)) (iincN _ 1) (by decide) rfl ?_
                refine a_goto X dX5_best_120 (tgt := 42) (by decide) ?_
                first
                  | exact absurd hc91 hc105
                  | exact absurd hc105 hc91
                  | (have e := bst_n (b := 0) (k := k) hcn
                     have := ih a j (k + 1) I1 (by omega) rfl rfl hc5 hc15 ha hj (by omega) K
                     rw [e] at this
                     exact s_dropAt 6 (s_dropAt 7 this))
                  | (have e := bst_le (b := 0) (k := k) hcs ((moI_le (Nat.lt_of_le_of_lt (pcn_le _) (by decide)) (by omega)).mp hc91)
                     have := ih a j (k + 1) I2 (by omega) rfl rfl hc5 hc15 ha hj (by omega) K3
                     rw [e] at this
                     exact s_dropAt 6 (s_dropAt 7 this))
                  | (have e := bst_gt (b := 0) (k := k) hcs (fun z => hc91 ((moI_le (Nat.lt_of_le_of_lt (pcn_le _) (by decide)) (by omega)).mpr z))
                     have := ih a j (k + 1) I2 (by omega) rfl rfl hc5 hc15 ha hj (by omega) K3
                     rw [e] at this
                     exact s_dropAt 6 (s_dropAt 7 this))
  refine a_aload_n X dX5_best_0 (i := 0) rfl rfl ?_
  refine a_iload_n X dX5_best_1 (i := 1) rfl rfl ?_
  refine s_callV_R X dX5_best_2 lk_X5_124 ko_43 rfl rfl (c_X5_isOne hR) ⟨Nat.le_of_ble_eq_true rfl, Nat.le_of_ble_eq_true rfl⟩ rfl rfl (Nat.le_of_ble_eq_true rfl) ⟨Nat.le_of_ble_eq_true rfl, Nat.le_of_ble_eq_true rfl⟩ ?_
  refine a_if_eq X dX5_best_5 (tgt := 18) (by decide) (fun hc5 => ?_) (fun hc5 => ?_)
  · skip
    try simp only [bI_0, Bool.not_eq_false] at hc5
    refine a_aload_n X dX5_best_18 (i := 0) rfl rfl ?_
    refine a_ldc X dX5_best_19 kc_X5_50 ?_
    refine s_callV_R X dX5_best_21 lk_X5_67 ko_43 rfl rfl (c_X5_finds (k := 0) (by decide) (by decide +kernel)) ⟨Nat.le_of_ble_eq_true rfl, Nat.le_of_ble_eq_true rfl⟩ rfl rfl (Nat.le_of_ble_eq_true rfl) ⟨Nat.le_of_ble_eq_true rfl, Nat.le_of_ble_eq_true rfl⟩ ?_
    refine a_iret X hA dX5_best_24 ?_
    exact ⟨_, _, _, _, _, rfl, rfl, md_find (ah_0 hR) (k := 0) (by decide +kernel) (by rw [sp_best, if_neg (by simp [*])])⟩
  · skip
    try simp only [bI_0, Bool.not_eq_false] at hc5
    obtain ⟨a, ha, rfl⟩ := isM_t (by omega) hc5
    obtain ⟨g0, g1, g2, g3, g4, g5⟩ := ok.2.1 a ha
    refine a_iload_n X dX5_best_8 (i := 2) rfl rfl ?_
    refine a_iconst X dX5_best_9 (v := nI 1) (by decide +kernel) ?_
    refine a_bipush X dX5_best_10 (v := nI 40) (by decide +kernel) ?_
    refine s_callS_R X dX5_best_12 lk_X5_51 c_X5_in ⟨Nat.le_of_ble_eq_true rfl, Nat.le_of_ble_eq_true rfl⟩ rfl rfl (Nat.le_of_ble_eq_true rfl) ⟨Nat.le_of_ble_eq_true rfl, Nat.le_of_ble_eq_true rfl⟩ ?_
    refine a_if_ne X dX5_best_15 (tgt := 25) (by decide) (fun hc15 => ?_) (fun hc15 => ?_)
    · skip
      try simp only [bI_0, Bool.not_eq_false] at hc15
      obtain ⟨j, hj0, hj, rfl⟩ := inB_r (by decide) (by decide) hc15
      refine a_aload_n X dX5_best_25 (i := 0) rfl rfl ?_
      refine a_iconst X dX5_best_26 (v := nI 1) (by decide +kernel) ?_
      refine a_aload_n X dX5_best_27 (i := 0) rfl rfl ?_
      refine s_getr X dX5_best_28 fl_X5_22 ko_43 rfl ?_
      refine s_callV_V X dX5_best_31 lk_X5_156 ko_43 rfl rfl (c_X5_moveAll_t ki_48 (by decide)) ⟨Nat.le_of_ble_eq_true rfl, Nat.le_of_ble_eq_true rfl⟩ rfl rfl (Nat.le_of_ble_eq_true rfl) ⟨Nat.le_of_ble_eq_true rfl, Nat.le_of_ble_eq_true rfl⟩ ?_
      refine a_iconst X dX5_best_34 (v := nI 0) (by decide +kernel) ?_
      refine a_istore_n X dX5_best_35 (i := 3) rfl (by decide) rfl ?_
      refine a_iconst X dX5_best_36 (v := (-1)) (by decide +kernel) ?_
      refine a_istore X dX5_best_37 (by decide) rfl ?_
      refine a_iconst X dX5_best_39 (v := nI 0) (by decide +kernel) ?_
      refine a_istore X dX5_best_40 (by decide) rfl ?_
      exact L42 13 a j 0 _ (by omega) rfl rfl hc5 hc15 ha (by omega) (by omega) (ahk_0 (Q := 48) hR (by decide))
    · skip
      try simp only [bI_0, Bool.not_eq_false] at hc15
      refine a_aload_n X dX5_best_18 (i := 0) rfl rfl ?_
      refine a_ldc X dX5_best_19 kc_X5_50 ?_
      refine s_callV_R X dX5_best_21 lk_X5_67 ko_43 rfl rfl (c_X5_finds (k := 0) (by decide) (by decide +kernel)) ⟨Nat.le_of_ble_eq_true rfl, Nat.le_of_ble_eq_true rfl⟩ rfl rfl (Nat.le_of_ble_eq_true rfl) ⟨Nat.le_of_ble_eq_true rfl, Nat.le_of_ble_eq_true rfl⟩ ?_
      refine a_iret X hA dX5_best_24 ?_
      exact ⟨_, _, _, _, _, rfl, rfl, md_find (ah_0 hR) (k := 0) (by decide +kernel) (by rw [sp_best, if_neg (by simp [*])])⟩
set_option maxRecDepth 100000 in
set_option maxHeartbeats 4000000 in
theorem c_X5_kind {l : Launch} {g : GG} {I : TI} {J : TJ} {F : TI} {w : Int64} {R : Nat → Nat} (hR : I 44 = nr R) (ok : okR R) {x y : Int32} (hN : R 0 < 1000000) : RV l g mX5_kind [.ref (ga g 43), .int x, .int y] I J F w (MdR I J F w (sp_kind R x y)) := by
  have hn10 := ok.1
  refine ct_start (M := mX5_kind) (by decide +kernel) (Nat.le_of_ble_eq_true rfl) ?_
  intro p e s m args below meth c A X hA
  have X : AX p s m args meth c g A cX5_kind 7 RX5 (Cond.code yX5_kind cX5_kind 7 (some .int)) (some .int) := X
  show AW p l e (rmM 8 182) s m args below meth c g A 7 0 0 (MQ below (CQ g (hp g I J F w) s.heap.size (fun vv0 hh0 => ∃ xx0 II0 JJ0 FF0 ww0, vv0 = some xx0 ∧ hh0 = hp g II0 JJ0 FF0 ww0 ∧ (MdR I J F w (sp_kind R x y)) xx0 II0 JJ0 FF0 ww0)) args s 0 0 A) 0 [some (.ref (ga g 43)), some (.int x), some (.int y), none, none, none, none] [] (hp g I J F w)
  have L42 : ∀ (fu : Nat) (a : Nat) (j : Nat) (k : Nat) (I1 : TI), 6 - k < fu → (x = nI a) → (y = nI j) → (isM (R 1) x = true) → (inB y (nI 1) (nI 40) = true) → (a < R 1) → (j ≤ 40) → (k ≤ 6) → (AhK 48 I R R I1) → AW p l e (rmM 8 182) s m args below meth c g A 7 0 0 (MQ below (CQ g (hp g I J F w) s.heap.size (fun vv0 hh0 => ∃ xx0 II0 JJ0 FF0 ww0, vv0 = some xx0 ∧ hh0 = hp g II0 JJ0 FF0 ww0 ∧ (MdR I J F w (sp_kind R x y)) xx0 II0 JJ0 FF0 ww0)) args s 0 0 A) 42 [some (.ref (ga g 43)), some (.int (nI a)), some (.int (nI j)), some (.int (nI (bstF 0 (bvK R a j) k).1)), some (.int (moI (bstF 0 (bvK R a j) k).2)), some (.int (nI k)), none] [] (hp g I1 J F w) := by
    intro fu
    induction fu with
    | zero => intro a j k I1 hfu; exact absurd hfu (by omega)
    | succ fu ih =>
      intro a j k I1 hfu hx hy hc5 hc15 ha hj hk K
      subst hx; subst hy
      obtain ⟨g0, g1, g2, g3, g4, g5⟩ := ok.2.1 a ha
      refine a_iload X dX5_kind_42 rfl ?_
      refine a_bipush X dX5_kind_44 (v := nI 6) (by decide +kernel) ?_
      refine s_icmp_geN X dX5_kind_46 (tgt := 104) (by decide) (by omega) (by omega) (fun hc46 => ?_) (fun hc46 => ?_)
      · skip
        have hk2 : k = 6 := by omega
        subst hk2
        refine a_iload_n X dX5_kind_104 (i := 3) rfl rfl ?_
        refine a_iret X hA dX5_kind_105 ?_
        exact ⟨_, _, _, _, _, rfl, rfl, md_val (K.S (Or.inl rfl)) (by rw [sp_kind, if_pos ⟨hc5, hc15⟩, cl_n (show a < 2 ^ 31 by omega), cl_n (show j < 2 ^ 31 by omega)])⟩
      · skip
        have hmb := bst_b (b := 0) (bvK_b (R := R) (m := a) (n := j)) k
        have okm := ok_put (j := 0) (v := k) ok ha (by decide) (by omega) (by decide) (by omega) (by omega) (by omega) (by omega)
        have hcs : bvK R a j k = some (pcn (pasN (va_up R (2 + 6 * a + 0) k) j (2 + 6 * a + 4))) := rfl
        refine a_aload_n X dX5_kind_49 (i := 0) rfl rfl ?_
        refine a_iload_n X dX5_kind_50 (i := 1) rfl rfl ?_
        refine a_iconst X dX5_kind_51 (v := nI 0) (by decide +kernel) ?_
        refine a_iload X dX5_kind_52 rfl ?_
        refine s_callV_V X dX5_kind_54 lk_X5_108 ko_43 rfl rfl (c_X5_puts K.1 (by omega)) ⟨Nat.le_of_ble_eq_true rfl, Nat.le_of_ble_eq_true rfl⟩ rfl rfl (Nat.le_of_ble_eq_true rfl) ⟨Nat.le_of_ble_eq_true rfl, Nat.le_of_ble_eq_true rfl⟩ ?_
        refine a_aload_n X dX5_kind_57 (i := 0) rfl rfl ?_
        refine a_iload_n X dX5_kind_58 (i := 1) rfl rfl ?_
        refine a_iload_n X dX5_kind_59 (i := 2) rfl rfl ?_
        refine s_callV_X X dX5_kind_60 lk_X5_170 ko_43 rfl rfl (c_X5_knowsBehind (a := a) (n := j) (up_s _ _ _) okm (by rw [up_n _ _ (by omega)]; exact ha) (by rw [up_n _ _ (by omega)]; omega) (ahk_u K (by decide)).2.1 ok.2.2.2) ⟨Nat.le_of_ble_eq_true rfl, Nat.le_of_ble_eq_true rfl⟩ rfl rfl (Nat.le_of_ble_eq_true rfl) ⟨Nat.le_of_ble_eq_true rfl, Nat.le_of_ble_eq_true rfl⟩ (fun x2 I2 J2 F2 w2 hpo => ?_)
        obtain ⟨rfl, hm⟩ := hpo
        have K3 := ahk_m (ahk_u K (by decide)) (Or.inl rfl) hm
        obtain ⟨-, -, rfl, rfl, rfl⟩ := hm
        refine s_callS_R X dX5_kind_63 lk_X5_74 (c_X5_bits ((okR_pas okm j).2.1 a (by rw [pas_1, up_n _ _ (by omega)]; exact ha)).2.2.2.2.1) ⟨Nat.le_of_ble_eq_true rfl, Nat.le_of_ble_eq_true rfl⟩ rfl rfl (Nat.le_of_ble_eq_true rfl) ⟨Nat.le_of_ble_eq_true rfl, Nat.le_of_ble_eq_true rfl⟩ ?_
        refine a_istore X dX5_kind_66 (by decide) rfl ?_
        refine a_iload X dX5_kind_68 rfl ?_
        refine a_iload X dX5_kind_70 rfl ?_
        refine a_icmp_le X dX5_kind_72 (tgt := 80) (by decide) (fun hc72 => ?_) (fun hc72 => ?_)
        · skip
          refine a_iload_n X dX5_kind_80 (i := 3) rfl rfl ?_
          refine a_istore_n X dX5_kind_81 (i := 3) rfl (by decide) rfl ?_
          refine a_iload X dX5_kind_82 rfl ?_
          refine a_iload X dX5_kind_84 rfl ?_
          refine a_icmp_le X dX5_kind_86 (tgt := 94) (by decide) (fun hc86 => ?_) (fun hc86 => ?_)
          · skip
            refine a_iload X dX5_kind_94 rfl ?_
            refine a_istore X dX5_kind_96 (by decide) rfl ?_
            refine a_iinc X dX5_kind_98 rfl (v := nI (_ + 1)) (iincN _ 1) (by decide) rfl ?_
            refine a_goto X dX5_kind_101 (tgt := 42) (by decide) ?_
            first
              | exact absurd hc72 hc86
              | exact absurd hc86 hc72
              | (have e := bst_n (b := 0) (k := k) hcn
                 have := ih a j (k + 1) I1 (by omega) rfl rfl hc5 hc15 ha hj (by omega) K
                 rw [e] at this
                 exact s_dropAt 6 this)
              | (have e := bst_le (b := 0) (k := k) hcs ((moI_le (Nat.lt_of_le_of_lt (pcn_le _) (by decide)) (by omega)).mp hc72)
                 have := ih a j (k + 1) I2 (by omega) rfl rfl hc5 hc15 ha hj (by omega) K3
                 rw [e] at this
                 exact s_dropAt 6 this)
              | (have e := bst_gt (b := 0) (k := k) hcs (fun z => hc72 ((moI_le (Nat.lt_of_le_of_lt (pcn_le _) (by decide)) (by omega)).mpr z))
                 have := ih a j (k + 1) I2 (by omega) rfl rfl hc5 hc15 ha hj (by omega) K3
                 rw [e] at this
                 exact s_dropAt 6 this)
          · skip
            refine a_iload X dX5_kind_89 rfl ?_
            refine a_goto X dX5_kind_91 (tgt := 96) (by decide) ?_
            refine a_istore X dX5_kind_96 (by decide) rfl ?_
            refine a_iinc X dX5_kind_98 rfl (v := nI (_ + 1)) (iincN _ 1) (by decide) rfl ?_
            refine a_goto X dX5_kind_101 (tgt := 42) (by decide) ?_
            first
              | exact absurd hc72 hc86
              | exact absurd hc86 hc72
              | (have e := bst_n (b := 0) (k := k) hcn
                 have := ih a j (k + 1) I1 (by omega) rfl rfl hc5 hc15 ha hj (by omega) K
                 rw [e] at this
                 exact s_dropAt 6 this)
              | (have e := bst_le (b := 0) (k := k) hcs ((moI_le (Nat.lt_of_le_of_lt (pcn_le _) (by decide)) (by omega)).mp hc72)
                 have := ih a j (k + 1) I2 (by omega) rfl rfl hc5 hc15 ha hj (by omega) K3
                 rw [e] at this
                 exact s_dropAt 6 this)
              | (have e := bst_gt (b := 0) (k := k) hcs (fun z => hc72 ((moI_le (Nat.lt_of_le_of_lt (pcn_le _) (by decide)) (by omega)).mpr z))
                 have := ih a j (k + 1) I2 (by omega) rfl rfl hc5 hc15 ha hj (by omega) K3
                 rw [e] at this
                 exact s_dropAt 6 this)
        · skip
          refine a_iload X dX5_kind_75 rfl ?_
          refine a_goto X dX5_kind_77 (tgt := 81) (by decide) ?_
          refine a_istore_n X dX5_kind_81 (i := 3) rfl (by decide) rfl ?_
          refine a_iload X dX5_kind_82 rfl ?_
          refine a_iload X dX5_kind_84 rfl ?_
          refine a_icmp_le X dX5_kind_86 (tgt := 94) (by decide) (fun hc86 => ?_) (fun hc86 => ?_)
          · skip
            refine a_iload X dX5_kind_94 rfl ?_
            refine a_istore X dX5_kind_96 (by decide) rfl ?_
            refine a_iinc X dX5_kind_98 rfl (v := nI (_ + 1)) (iincN _ 1) (by decide) rfl ?_
            refine a_goto X dX5_kind_101 (tgt := 42) (by decide) ?_
            first
              | exact absurd hc72 hc86
              | exact absurd hc86 hc72
              | (have e := bst_n (b := 0) (k := k) hcn
                 have := ih a j (k + 1) I1 (by omega) rfl rfl hc5 hc15 ha hj (by omega) K
                 rw [e] at this
                 exact s_dropAt 6 this)
              | (have e := bst_le (b := 0) (k := k) hcs ((moI_le (Nat.lt_of_le_of_lt (pcn_le _) (by decide)) (by omega)).mp hc72)
                 have := ih a j (k + 1) I2 (by omega) rfl rfl hc5 hc15 ha hj (by omega) K3
                 rw [e] at this
                 exact s_dropAt 6 this)
              | (have e := bst_gt (b := 0) (k := k) hcs (fun z => hc72 ((moI_le (Nat.lt_of_le_of_lt (pcn_le _) (by decide)) (by omega)).mpr z))
                 have := ih a j (k + 1) I2 (by omega) rfl rfl hc5 hc15 ha hj (by omega) K3
                 rw [e] at this
                 exact s_dropAt 6 this)
          · skip
            refine a_iload X dX5_kind_89 rfl ?_
            refine a_goto X dX5_kind_91 (tgt := 96) (by decide) ?_
            refine a_istore X dX5_kind_96 (by decide) rfl ?_
            refine a_iinc X dX5_kind_98 rfl (v := nI (_ + 1)) (iincN _ 1) (by decide) rfl ?_
            refine a_goto X dX5_kind_101 (tgt := 42) (by decide) ?_
            first
              | exact absurd hc72 hc86
              | exact absurd hc86 hc72
              | (have e := bst_n (b := 0) (k := k) hcn
                 have := ih a j (k + 1) I1 (by omega) rfl rfl hc5 hc15 ha hj (by omega) K
                 rw [e] at this
                 exact s_dropAt 6 this)
              | (have e := bst_le (b := 0) (k := k) hcs ((moI_le (Nat.lt_of_le_of_lt (pcn_le _) (by decide)) (by omega)).mp hc72)
                 have := ih a j (k + 1) I2 (by omega) rfl rfl hc5 hc15 ha hj (by omega) K3
                 rw [e] at this
                 exact s_dropAt 6 this)
              | (have e := bst_gt (b := 0) (k := k) hcs (fun z => hc72 ((moI_le (Nat.lt_of_le_of_lt (pcn_le _) (by decide)) (by omega)).mpr z))
                 have := ih a j (k + 1) I2 (by omega) rfl rfl hc5 hc15 ha hj (by omega) K3
                 rw [e] at this
                 exact s_dropAt 6 this)
  refine a_aload_n X dX5_kind_0 (i := 0) rfl rfl ?_
  refine a_iload_n X dX5_kind_1 (i := 1) rfl rfl ?_
  refine s_callV_R X dX5_kind_2 lk_X5_124 ko_43 rfl rfl (c_X5_isOne hR) ⟨Nat.le_of_ble_eq_true rfl, Nat.le_of_ble_eq_true rfl⟩ rfl rfl (Nat.le_of_ble_eq_true rfl) ⟨Nat.le_of_ble_eq_true rfl, Nat.le_of_ble_eq_true rfl⟩ ?_
  refine a_if_eq X dX5_kind_5 (tgt := 18) (by decide) (fun hc5 => ?_) (fun hc5 => ?_)
  · skip
    try simp only [bI_0, Bool.not_eq_false] at hc5
    refine a_aload_n X dX5_kind_18 (i := 0) rfl rfl ?_
    refine a_ldc X dX5_kind_19 kc_X5_50 ?_
    refine s_callV_R X dX5_kind_21 lk_X5_67 ko_43 rfl rfl (c_X5_finds (k := 0) (by decide) (by decide +kernel)) ⟨Nat.le_of_ble_eq_true rfl, Nat.le_of_ble_eq_true rfl⟩ rfl rfl (Nat.le_of_ble_eq_true rfl) ⟨Nat.le_of_ble_eq_true rfl, Nat.le_of_ble_eq_true rfl⟩ ?_
    refine a_iret X hA dX5_kind_24 ?_
    exact ⟨_, _, _, _, _, rfl, rfl, md_find (ah_0 hR) (k := 0) (by decide +kernel) (by rw [sp_kind, if_neg (by simp [*])])⟩
  · skip
    try simp only [bI_0, Bool.not_eq_false] at hc5
    obtain ⟨a, ha, rfl⟩ := isM_t (by omega) hc5
    obtain ⟨g0, g1, g2, g3, g4, g5⟩ := ok.2.1 a ha
    refine a_iload_n X dX5_kind_8 (i := 2) rfl rfl ?_
    refine a_iconst X dX5_kind_9 (v := nI 1) (by decide +kernel) ?_
    refine a_bipush X dX5_kind_10 (v := nI 40) (by decide +kernel) ?_
    refine s_callS_R X dX5_kind_12 lk_X5_51 c_X5_in ⟨Nat.le_of_ble_eq_true rfl, Nat.le_of_ble_eq_true rfl⟩ rfl rfl (Nat.le_of_ble_eq_true rfl) ⟨Nat.le_of_ble_eq_true rfl, Nat.le_of_ble_eq_true rfl⟩ ?_
    refine a_if_ne X dX5_kind_15 (tgt := 25) (by decide) (fun hc15 => ?_) (fun hc15 => ?_)
    · skip
      try simp only [bI_0, Bool.not_eq_false] at hc15
      obtain ⟨j, hj0, hj, rfl⟩ := inB_r (by decide) (by decide) hc15
      refine a_aload_n X dX5_kind_25 (i := 0) rfl rfl ?_
      refine a_iconst X dX5_kind_26 (v := nI 1) (by decide +kernel) ?_
      refine a_aload_n X dX5_kind_27 (i := 0) rfl rfl ?_
      refine s_getr X dX5_kind_28 fl_X5_22 ko_43 rfl ?_
      refine s_callV_V X dX5_kind_31 lk_X5_156 ko_43 rfl rfl (c_X5_moveAll_t ki_48 (by decide)) ⟨Nat.le_of_ble_eq_true rfl, Nat.le_of_ble_eq_true rfl⟩ rfl rfl (Nat.le_of_ble_eq_true rfl) ⟨Nat.le_of_ble_eq_true rfl, Nat.le_of_ble_eq_true rfl⟩ ?_
      refine a_iconst X dX5_kind_34 (v := nI 0) (by decide +kernel) ?_
      refine a_istore_n X dX5_kind_35 (i := 3) rfl (by decide) rfl ?_
      refine a_iconst X dX5_kind_36 (v := (-1)) (by decide +kernel) ?_
      refine a_istore X dX5_kind_37 (by decide) rfl ?_
      refine a_iconst X dX5_kind_39 (v := nI 0) (by decide +kernel) ?_
      refine a_istore X dX5_kind_40 (by decide) rfl ?_
      exact L42 7 a j 0 _ (by omega) rfl rfl hc5 hc15 ha (by omega) (by omega) (ahk_0 (Q := 48) hR (by decide))
    · skip
      try simp only [bI_0, Bool.not_eq_false] at hc15
      refine a_aload_n X dX5_kind_18 (i := 0) rfl rfl ?_
      refine a_ldc X dX5_kind_19 kc_X5_50 ?_
      refine s_callV_R X dX5_kind_21 lk_X5_67 ko_43 rfl rfl (c_X5_finds (k := 0) (by decide) (by decide +kernel)) ⟨Nat.le_of_ble_eq_true rfl, Nat.le_of_ble_eq_true rfl⟩ rfl rfl (Nat.le_of_ble_eq_true rfl) ⟨Nat.le_of_ble_eq_true rfl, Nat.le_of_ble_eq_true rfl⟩ ?_
      refine a_iret X hA dX5_kind_24 ?_
      exact ⟨_, _, _, _, _, rfl, rfl, md_find (ah_0 hR) (k := 0) (by decide +kernel) (by rw [sp_kind, if_neg (by simp [*])])⟩
