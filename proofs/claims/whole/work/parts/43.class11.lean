set_option maxRecDepth 100000 in
set_option maxHeartbeats 4000000 in
theorem c_X4_copy {l : Launch} {g : GG} {I : TI} {J : TJ} {F : TI} {w : Int64} {x f y t n : Int32} {Z : Nat → Nat} (hZ : ∀ i, i < 4 → I 52 i = nI (Z i) ∧ Z i ≤ 40) (hS : ShH I F) : RV l g mX4_copy [.ref (ga g 0), .int x, .int f, .int y, .int t, .int n] I J F w (CpC I J F w x f y t n) := by
  refine ct_start (M := mX4_copy) (by decide +kernel) (Nat.le_of_ble_eq_true rfl) ?_
  intro p e s m args below meth c A X hA
  have X : AX p s m args meth c g A cX4_copy 8 RX4 (Cond.code yX4_copy cX4_copy 8 (some .int)) (some .int) := X
  show AW p l e (rmM 2 44) s m args below meth c g A 8 0 0 (MQ below (CQ g (hp g I J F w) s.heap.size (fun vv0 hh0 => ∃ xx0 II0 JJ0 FF0 ww0, vv0 = some xx0 ∧ hh0 = hp g II0 JJ0 FF0 ww0 ∧ (CpC I J F w x f y t n) xx0 II0 JJ0 FF0 ww0)) args s 0 0 A) 0 [some (.ref (ga g 0)), some (.int x), some (.int f), some (.int y), some (.int t), some (.int n), none, none] [] (hp g I J F w)
  refine a_iload_n X dX4_copy_0 (i := 1) rfl rfl ?_
  refine s_callS_R X dX4_copy_1 lk_X4_190 c_X4_isSheet ⟨Nat.le_of_ble_eq_true rfl, Nat.le_of_ble_eq_true rfl⟩ rfl rfl (Nat.le_of_ble_eq_true rfl) ⟨Nat.le_of_ble_eq_true rfl, Nat.le_of_ble_eq_true rfl⟩ ?_
  refine a_if_eq X dX4_copy_4 (tgt := 14) (by decide) (fun hc4 => ?_) (fun hc4 => ?_)
  · skip
    try simp only [bI_0, Bool.not_eq_false] at hc4
    refine a_aload_n X dX4_copy_14 (i := 0) rfl rfl ?_
    refine a_ldc X dX4_copy_15 kc_X4_48 ?_
    refine s_callV_R X dX4_copy_17 lk_X4_49 ko_0 rfl rfl (c_X4_found (k := 0) (by decide) (by decide +kernel)) ⟨Nat.le_of_ble_eq_true rfl, Nat.le_of_ble_eq_true rfl⟩ rfl rfl (Nat.le_of_ble_eq_true rfl) ⟨Nat.le_of_ble_eq_true rfl, Nat.le_of_ble_eq_true rfl⟩ ?_
    refine a_iret X hA dX4_copy_20 ?_
    exact ⟨_, _, _, _, _, rfl, rfl, (fun q => by rw [cpO, if_neg (by simp [*])] at q; cases q), (fun i q => by rw [cpO, if_neg (by simp [*])] at q; cases q; exact ⟨by congr 1, rfl, rfl⟩), rfl, rfl⟩
  · skip
    try simp only [bI_0, Bool.not_eq_false] at hc4
    obtain ⟨a, ha0, ha, rfl⟩ := inB_r (by decide) (by decide) hc4
    have sa := hS a (by omega)
    have za := hZ a (by omega)
    refine a_iload_n X dX4_copy_7 (i := 3) rfl rfl ?_
    refine s_callS_R X dX4_copy_8 lk_X4_190 c_X4_isSheet ⟨Nat.le_of_ble_eq_true rfl, Nat.le_of_ble_eq_true rfl⟩ rfl rfl (Nat.le_of_ble_eq_true rfl) ⟨Nat.le_of_ble_eq_true rfl, Nat.le_of_ble_eq_true rfl⟩ ?_
    refine a_if_ne X dX4_copy_11 (tgt := 21) (by decide) (fun hc11 => ?_) (fun hc11 => ?_)
    · skip
      try simp only [bI_0, Bool.not_eq_false] at hc11
      obtain ⟨c0, hc00, hc0, rfl⟩ := inB_r (by decide) (by decide) hc11
      have sc0 := hS c0 (by omega)
      have zc0 := hZ c0 (by omega)
      refine a_aload_n X dX4_copy_21 (i := 0) rfl rfl ?_
      refine s_getr X dX4_copy_22 fl_X4_35 ko_0 rfl ?_
      refine a_iload_n X dX4_copy_25 (i := 1) rfl rfl ?_
      refine s_ald X dX4_copy_26 (show a < 4 by omega) ?_
      refine a_astore X dX4_copy_27 (by decide) rfl ?_
      refine a_aload_n X dX4_copy_29 (i := 0) rfl rfl ?_
      refine s_getr X dX4_copy_30 fl_X4_35 ko_0 rfl ?_
      refine a_iload_n X dX4_copy_33 (i := 3) rfl rfl ?_
      refine s_ald X dX4_copy_34 (show c0 < 4 by omega) ?_
      refine a_astore X dX4_copy_35 (by decide) rfl ?_
      refine a_aload X dX4_copy_37 rfl ?_
      refine s_callV_R X dX4_copy_39 lk_X4_198 (ko_sh (show a < 4 by omega)) rfl rfl (c_X2_isMissing (by omega)) ⟨Nat.le_of_ble_eq_true rfl, Nat.le_of_ble_eq_true rfl⟩ rfl rfl (Nat.le_of_ble_eq_true rfl) ⟨Nat.le_of_ble_eq_true rfl, Nat.le_of_ble_eq_true rfl⟩ ?_
      refine a_if_ne X dX4_copy_42 (tgt := 53) (by decide) (fun hc42 => ?_) (fun hc42 => ?_)
      · skip
        try simp only [bI_0, Bool.not_eq_false, decide_eq_true_eq, decide_eq_false_iff_not, Classical.not_not] at hc42
        rw [sa.1] at hc42
        refine a_aload_n X dX4_copy_53 (i := 0) rfl rfl ?_
        refine a_ldc X dX4_copy_54 kc_X4_201 ?_
        refine s_callV_R X dX4_copy_56 lk_X4_49 ko_0 rfl rfl (c_X4_found (k := 5) (by decide) (by decide +kernel)) ⟨Nat.le_of_ble_eq_true rfl, Nat.le_of_ble_eq_true rfl⟩ rfl rfl (Nat.le_of_ble_eq_true rfl) ⟨Nat.le_of_ble_eq_true rfl, Nat.le_of_ble_eq_true rfl⟩ ?_
        refine a_iret X hA dX4_copy_59 ?_
        exact ⟨_, _, _, _, _, rfl, rfl, (fun q => by rw [cpO, if_pos ⟨hc4, hc11⟩, cl_n (show a < 2 ^ 31 by omega), cl_n (show c0 < 2 ^ 31 by omega), if_pos (by simp [*])] at q; cases q), (fun i q => by rw [cpO, if_pos ⟨hc4, hc11⟩, cl_n (show a < 2 ^ 31 by omega), cl_n (show c0 < 2 ^ 31 by omega), if_pos (by simp [*])] at q; cases q; exact ⟨by congr 1, rfl, rfl⟩), rfl, rfl⟩
      · skip
        try simp only [bI_0, Bool.not_eq_false, decide_eq_true_eq, decide_eq_false_iff_not, Classical.not_not] at hc42
        rw [sa.1] at hc42
        refine a_aload X dX4_copy_45 rfl ?_
        refine s_callV_R X dX4_copy_47 lk_X4_198 (ko_sh (show c0 < 4 by omega)) rfl rfl (c_X2_isMissing (by omega)) ⟨Nat.le_of_ble_eq_true rfl, Nat.le_of_ble_eq_true rfl⟩ rfl rfl (Nat.le_of_ble_eq_true rfl) ⟨Nat.le_of_ble_eq_true rfl, Nat.le_of_ble_eq_true rfl⟩ ?_
        refine a_if_eq X dX4_copy_50 (tgt := 60) (by decide) (fun hc50 => ?_) (fun hc50 => ?_)
        · skip
          try simp only [bI_0, Bool.not_eq_false, decide_eq_true_eq, decide_eq_false_iff_not, Classical.not_not] at hc50
          rw [sc0.1] at hc50
          refine a_aload X dX4_copy_60 rfl ?_
          refine s_geti X dX4_copy_62 fl_X4_210 (ko_sh (show a < 4 by omega)) rfl ?_
          rw [sa.1]
          refine a_aload X dX4_copy_65 rfl ?_
          refine s_geti X dX4_copy_67 fl_X4_210 (ko_sh (show c0 < 4 by omega)) rfl ?_
          rw [sc0.1]
          refine a_icmp_eq X dX4_copy_70 (tgt := 80) (by decide) (fun hc70 => ?_) (fun hc70 => ?_)
          · skip
            refine a_aload X dX4_copy_80 rfl ?_
            refine a_iload_n X dX4_copy_82 (i := 2) rfl rfl ?_
            refine a_iload X dX4_copy_83 rfl ?_
            refine s_callV_R X dX4_copy_85 lk_X4_213 (ko_sh (show a < 4 by omega)) rfl rfl (c_X2_hasPart (by omega)) ⟨Nat.le_of_ble_eq_true rfl, Nat.le_of_ble_eq_true rfl⟩ rfl rfl (Nat.le_of_ble_eq_true rfl) ⟨Nat.le_of_ble_eq_true rfl, Nat.le_of_ble_eq_true rfl⟩ ?_
            refine a_if_eq X dX4_copy_88 (tgt := 103) (by decide) (fun hc88 => ?_) (fun hc88 => ?_)
            · skip
              try simp only [bI_0, Bool.not_eq_false] at hc88
              rw [sa.2] at hc88
              refine a_aload_n X dX4_copy_103 (i := 0) rfl rfl ?_
              refine a_ldc X dX4_copy_104 kc_X4_48 ?_
              refine s_callV_R X dX4_copy_106 lk_X4_49 ko_0 rfl rfl (c_X4_found (k := 0) (by decide) (by decide +kernel)) ⟨Nat.le_of_ble_eq_true rfl, Nat.le_of_ble_eq_true rfl⟩ rfl rfl (Nat.le_of_ble_eq_true rfl) ⟨Nat.le_of_ble_eq_true rfl, Nat.le_of_ble_eq_true rfl⟩ ?_
              refine a_iret X hA dX4_copy_109 ?_
              exact ⟨_, _, _, _, _, rfl, rfl, (fun q => by rw [cpO, if_pos ⟨hc4, hc11⟩, cl_n (show a < 2 ^ 31 by omega), cl_n (show c0 < 2 ^ 31 by omega), if_neg (by simp [hc42, hc50]), if_pos hc70, if_neg (by first | (intro qq; rw [qq.1] at hc88; cases hc88; done) | (intro qq; rw [qq.2] at hc100; cases hc100; done))] at q; cases q), (fun i q => by rw [cpO, if_pos ⟨hc4, hc11⟩, cl_n (show a < 2 ^ 31 by omega), cl_n (show c0 < 2 ^ 31 by omega), if_neg (by simp [hc42, hc50]), if_pos hc70, if_neg (by first | (intro qq; rw [qq.1] at hc88; cases hc88; done) | (intro qq; rw [qq.2] at hc100; cases hc100; done))] at q; cases q; exact ⟨by congr 1, rfl, rfl⟩), rfl, rfl⟩
            · skip
              try simp only [bI_0, Bool.not_eq_false] at hc88
              rw [sa.2] at hc88
              refine a_aload X dX4_copy_91 rfl ?_
              refine a_iload X dX4_copy_93 rfl ?_
              refine a_iload X dX4_copy_95 rfl ?_
              refine s_callV_R X dX4_copy_97 lk_X4_213 (ko_sh (show c0 < 4 by omega)) rfl rfl (c_X2_hasPart (by omega)) ⟨Nat.le_of_ble_eq_true rfl, Nat.le_of_ble_eq_true rfl⟩ rfl rfl (Nat.le_of_ble_eq_true rfl) ⟨Nat.le_of_ble_eq_true rfl, Nat.le_of_ble_eq_true rfl⟩ ?_
              refine a_if_ne X dX4_copy_100 (tgt := 110) (by decide) (fun hc100 => ?_) (fun hc100 => ?_)
              · skip
                try simp only [bI_0, Bool.not_eq_false] at hc100
                rw [sc0.2] at hc100
                have ho : cpO I (nI a) f (nI c0) t n = none := by rw [cpO, if_pos ⟨hc4, hc11⟩, cl_n (show a < 2 ^ 31 by omega), cl_n (show c0 < 2 ^ 31 by omega), if_neg (by simp [*]), if_pos hc70, if_pos ⟨hc88, hc100⟩]
                rw [za.1] at hc88
                rw [zc0.1] at hc100
                obtain ⟨b, n0, rfl, rfl, q1⟩ := par_t za.2 hc88
                obtain ⟨d, n1, rfl, hn1, q2⟩ := par_t zc0.2 hc100
                have hnn : n0 = n1 := (nI_eq (by omega) (by omega)).mp hn1
                subst hnn
                have zz1 := za.2
                have zz2 := zc0.2
                refine a_aload X dX4_copy_110 rfl ?_
                refine s_getr X dX4_copy_112 fl_X4_202 (ko_sh (show a < 4 by omega)) rfl ?_
                refine a_iload_n X dX4_copy_115 (i := 2) rfl rfl ?_
                refine a_aload X dX4_copy_116 rfl ?_
                refine s_getr X dX4_copy_118 fl_X4_202 (ko_sh (show c0 < 4 by omega)) rfl ?_
                refine a_iload X dX4_copy_121 rfl ?_
                refine a_iload X dX4_copy_123 rfl ?_
                refine s_copyl X dX4_copy_125 ml_X4_216 (kj_sh (show a < 4 by omega)) (kj_sh (show c0 < 4 by omega)) ⟨by decide, by decide⟩ (by omega) (by omega) ⟨Nat.le_of_ble_eq_true rfl, Nat.le_of_ble_eq_true rfl⟩ ?_
                refine a_iload X dX4_copy_128 rfl ?_
                refine a_iret X hA dX4_copy_130 ?_
                exact ⟨_, _, _, _, _, rfl, rfl, (fun _ => by rw [cl_n (show a < 2 ^ 31 by omega), cl_n (show b < 2 ^ 31 by omega), cl_n (show c0 < 2 ^ 31 by omega), cl_n (show d < 2 ^ 31 by omega), cl_n (show n0 < 2 ^ 31 by omega)]; exact ⟨rfl, rfl, rfl⟩), (fun i q => by rw [ho] at q; cases q), rfl, rfl⟩
              · skip
                try simp only [bI_0, Bool.not_eq_false] at hc100
                rw [sc0.2] at hc100
                refine a_aload_n X dX4_copy_103 (i := 0) rfl rfl ?_
                refine a_ldc X dX4_copy_104 kc_X4_48 ?_
                refine s_callV_R X dX4_copy_106 lk_X4_49 ko_0 rfl rfl (c_X4_found (k := 0) (by decide) (by decide +kernel)) ⟨Nat.le_of_ble_eq_true rfl, Nat.le_of_ble_eq_true rfl⟩ rfl rfl (Nat.le_of_ble_eq_true rfl) ⟨Nat.le_of_ble_eq_true rfl, Nat.le_of_ble_eq_true rfl⟩ ?_
                refine a_iret X hA dX4_copy_109 ?_
                exact ⟨_, _, _, _, _, rfl, rfl, (fun q => by rw [cpO, if_pos ⟨hc4, hc11⟩, cl_n (show a < 2 ^ 31 by omega), cl_n (show c0 < 2 ^ 31 by omega), if_neg (by simp [hc42, hc50]), if_pos hc70, if_neg (by first | (intro qq; rw [qq.1] at hc88; cases hc88; done) | (intro qq; rw [qq.2] at hc100; cases hc100; done))] at q; cases q), (fun i q => by rw [cpO, if_pos ⟨hc4, hc11⟩, cl_n (show a < 2 ^ 31 by omega), cl_n (show c0 < 2 ^ 31 by omega), if_neg (by simp [hc42, hc50]), if_pos hc70, if_neg (by first | (intro qq; rw [qq.1] at hc88; cases hc88; done) | (intro qq; rw [qq.2] at hc100; cases hc100; done))] at q; cases q; exact ⟨by congr 1, rfl, rfl⟩), rfl, rfl⟩
          · skip
            refine a_aload_n X dX4_copy_73 (i := 0) rfl rfl ?_
            refine a_ldc X dX4_copy_74 kc_X4_149 ?_
            refine s_callV_R X dX4_copy_76 lk_X4_49 ko_0 rfl rfl (c_X4_found (k := 2) (by decide) (by decide +kernel)) ⟨Nat.le_of_ble_eq_true rfl, Nat.le_of_ble_eq_true rfl⟩ rfl rfl (Nat.le_of_ble_eq_true rfl) ⟨Nat.le_of_ble_eq_true rfl, Nat.le_of_ble_eq_true rfl⟩ ?_
            refine a_iret X hA dX4_copy_79 ?_
            exact ⟨_, _, _, _, _, rfl, rfl, (fun q => by rw [cpO, if_pos ⟨hc4, hc11⟩, cl_n (show a < 2 ^ 31 by omega), cl_n (show c0 < 2 ^ 31 by omega), if_neg (by simp [*]), if_neg hc70] at q; cases q), (fun i q => by rw [cpO, if_pos ⟨hc4, hc11⟩, cl_n (show a < 2 ^ 31 by omega), cl_n (show c0 < 2 ^ 31 by omega), if_neg (by simp [*]), if_neg hc70] at q; cases q; exact ⟨by congr 1, rfl, rfl⟩), rfl, rfl⟩
        · skip
          try simp only [bI_0, Bool.not_eq_false, decide_eq_true_eq, decide_eq_false_iff_not, Classical.not_not] at hc50
          rw [sc0.1] at hc50
          refine a_aload_n X dX4_copy_53 (i := 0) rfl rfl ?_
          refine a_ldc X dX4_copy_54 kc_X4_201 ?_
          refine s_callV_R X dX4_copy_56 lk_X4_49 ko_0 rfl rfl (c_X4_found (k := 5) (by decide) (by decide +kernel)) ⟨Nat.le_of_ble_eq_true rfl, Nat.le_of_ble_eq_true rfl⟩ rfl rfl (Nat.le_of_ble_eq_true rfl) ⟨Nat.le_of_ble_eq_true rfl, Nat.le_of_ble_eq_true rfl⟩ ?_
          refine a_iret X hA dX4_copy_59 ?_
          exact ⟨_, _, _, _, _, rfl, rfl, (fun q => by rw [cpO, if_pos ⟨hc4, hc11⟩, cl_n (show a < 2 ^ 31 by omega), cl_n (show c0 < 2 ^ 31 by omega), if_pos (by simp [*])] at q; cases q), (fun i q => by rw [cpO, if_pos ⟨hc4, hc11⟩, cl_n (show a < 2 ^ 31 by omega), cl_n (show c0 < 2 ^ 31 by omega), if_pos (by simp [*])] at q; cases q; exact ⟨by congr 1, rfl, rfl⟩), rfl, rfl⟩
    · skip
      try simp only [bI_0, Bool.not_eq_false] at hc11
      refine a_aload_n X dX4_copy_14 (i := 0) rfl rfl ?_
      refine a_ldc X dX4_copy_15 kc_X4_48 ?_
      refine s_callV_R X dX4_copy_17 lk_X4_49 ko_0 rfl rfl (c_X4_found (k := 0) (by decide) (by decide +kernel)) ⟨Nat.le_of_ble_eq_true rfl, Nat.le_of_ble_eq_true rfl⟩ rfl rfl (Nat.le_of_ble_eq_true rfl) ⟨Nat.le_of_ble_eq_true rfl, Nat.le_of_ble_eq_true rfl⟩ ?_
      refine a_iret X hA dX4_copy_20 ?_
      exact ⟨_, _, _, _, _, rfl, rfl, (fun q => by rw [cpO, if_neg (by simp [*])] at q; cases q), (fun i q => by rw [cpO, if_neg (by simp [*])] at q; cases q; exact ⟨by congr 1, rfl, rfl⟩), rfl, rfl⟩
