set_option maxRecDepth 100000 in
set_option maxHeartbeats 4000000 in
theorem c_X4_lays {l : Launch} {g : GG} {I : TI} {J : TJ} {F : TI} {w : Int64} {R : Nat → Nat} (ok : okR R) (hC : Ch I F 1 R) {x : Int32} {Z : Nat → Nat} (hZ : ∀ i, i < 4 → I 52 i = nI (Z i) ∧ Z i ≤ 40) (hS : ShH I F) : RV l g mX4_lays [.ref (ga g 0), .int x] I J F w (LaC I J F w R x Z) := by
  have hn10 := ok.1
  obtain ⟨c0, c1, cm, cs⟩ := id hC
  have cm : ∀ m, m < R 1 → I 2 m = nI (R (2 + 6 * m + 0)) ∧ I 3 m = nI (R (2 + 6 * m + 1)) ∧ I 4 m = nI (R (2 + 6 * m + 2)) ∧ I 5 m = nI (R (2 + 6 * m + 3)) ∧ I 6 m = nI (R (2 + 6 * m + 4)) ∧ I 7 m = nI (R (2 + 6 * m + 5)) := cm
  refine ct_start (M := mX4_lays) (by decide +kernel) (Nat.le_of_ble_eq_true rfl) ?_
  intro p e s m args below meth c A X hA
  have X : AX p s m args meth c g A cX4_lays 7 RX4 (Cond.code yX4_lays cX4_lays 7 (some .int)) (some .int) := X
  show AW p l e (rmM 2 44) s m args below meth c g A 7 0 0 (MQ below (CQ g (hp g I J F w) s.heap.size (fun vv0 hh0 => ∃ xx0 II0 JJ0 FF0 ww0, vv0 = some xx0 ∧ hh0 = hp g II0 JJ0 FF0 ww0 ∧ (LaC I J F w R x Z) xx0 II0 JJ0 FF0 ww0)) args s 0 0 A) 0 [some (.ref (ga g 0)), some (.int x), none, none, none, none, none] [] (hp g I J F w)
  have L40 : ∀ (fu : Nat) (a : Nat) (k : Nat) (I1 : TI), 50 - k < fu → (x = nI a) → (bdO I x = none) → (a < 4) → (k ≤ min (Z a) (R 1)) → (BS I F (layN R (J (35 + 2 * a)) k).1 I1 F) → AW p l e (rmM 2 44) s m args below meth c g A 7 0 0 (MQ below (CQ g (hp g I J F w) s.heap.size (fun vv0 hh0 => ∃ xx0 II0 JJ0 FF0 ww0, vv0 = some xx0 ∧ hh0 = hp g II0 JJ0 FF0 ww0 ∧ (LaC I J F w R x Z) xx0 II0 JJ0 FF0 ww0)) args s 0 0 A) 40 [some (.ref (ga g 0)), some (.int (nI a)), some (.ref (ga g (34 + 2 * a))), some (.int (nI (layN R (J (35 + 2 * a)) k).2)), some (.int (nI k)), none, none] [] (hp g I1 J F w) := by
    intro fu
    induction fu with
    | zero => intro a k I1 hfu; exact absurd hfu (by omega)
    | succ fu ih =>
      intro a k I1 hfu hx hb ha hk K
      subst hx
      obtain ⟨z1, z2⟩ := hZ a ha
      have s2 := (hS a ha).2
      refine a_iload X dX4_lays_40 rfl ?_
      refine a_aload_n X dX4_lays_42 (i := 0) rfl rfl ?_
      refine s_getr X dX4_lays_43 fl_X4_10 ko_0 rfl ?_
      refine s_geti X dX4_lays_46 fl_X4_177 ko_1 rfl ?_
      rw [c1]
      refine s_icmp_geN X dX4_lays_49 (tgt := 108) (by decide) (by omega) (by omega) (fun hc49 => ?_) (fun hc49 => ?_)
      · skip
        refine a_iload_n X dX4_lays_108 (i := 3) rfl rfl ?_
        refine a_iret X hA dX4_lays_109 ?_
        exact ⟨_, _, _, _, _, rfl, rfl, (fun _ => by rw [cl_n (show a < 2 ^ 31 by omega), show min (Z a) (R 1) = k by omega]; exact ⟨rfl, K⟩), (fun i q => by rw [hb] at q; cases q), rfl, rfl, rfl⟩
      · skip
        refine a_iload X dX4_lays_52 rfl ?_
        refine a_aload_n X dX4_lays_54 (i := 2) rfl rfl ?_
        refine s_geti X dX4_lays_55 fl_X4_197 (ko_sh ha) rfl ?_
        rw [s2, z1]
        refine s_icmp_geN X dX4_lays_58 (tgt := 108) (by decide) (by omega) (by omega) (fun hc58 => ?_) (fun hc58 => ?_)
        · skip
          refine a_iload_n X dX4_lays_108 (i := 3) rfl rfl ?_
          refine a_iret X hA dX4_lays_109 ?_
          exact ⟨_, _, _, _, _, rfl, rfl, (fun _ => by rw [cl_n (show a < 2 ^ 31 by omega), show min (Z a) (R 1) = k by omega]; exact ⟨rfl, K⟩), (fun i q => by rw [hb] at q; cases q), rfl, rfl, rfl⟩
        · skip
          refine a_aload_n X dX4_lays_61 (i := 2) rfl rfl ?_
          refine s_getr X dX4_lays_62 fl_X4_202 (ko_sh ha) rfl ?_
          refine a_iload X dX4_lays_65 rfl ?_
          refine s_lld X dX4_lays_67 (kj_sh ha) (by omega) (by decide) ?_
          refine a_lstore X dX4_lays_68 (by decide) rfl ?_
          refine a_lload X dX4_lays_70 rfl ?_
          refine a_lconst X dX4_lays_72 (v := 0) (by decide +kernel) ?_
          refine a_lcmp X dX4_lays_73 ?_
          refine a_if_lt X dX4_lays_74 (tgt := 102) (by decide) (fun hc74 => ?_) (fun hc74 => ?_)
          · skip
            refine a_iinc X dX4_lays_102 rfl (v := nI (_ + 1)) (iincN _ 1) (by decide) rfl ?_
            refine a_goto X dX4_lays_105 (tgt := 40) (by decide) ?_
            by_cases hl : layOk (J (35 + 2 * a) k) = true
            · first
                | exact absurd hl (by simp only [layOk, Bool.and_eq_true, decide_eq_true_eq]; exact fun q => Int64.not_le.mpr ((lg_cmp_lt _ _).mp hc74) q.1)
                | exact absurd hl (by simp only [layOk, Bool.and_eq_true, decide_eq_true_eq]; exact fun q => Int64.not_le.mpr ((lg_cmp_gt _ _).mp hc83) q.2)
                | (have := ih a (k + 1) _ (by omega) rfl hb ha (by omega) (bs_lay hl hq hv2 (by omega) K)
                   rw [show (layN R (J (35 + 2 * a)) (k + 1)).2 = (layN R (J (35 + 2 * a)) k).2 + 1 from by rw [lay_t hl]] at this
                   exact s_dropAt 5 this)
            · first
                | exact absurd (by simp only [layOk, Bool.and_eq_true, decide_eq_true_eq]; exact ⟨Int64.not_lt.mp (fun q => hc74 ((lg_cmp_lt _ _).mpr q)), Int64.not_lt.mp (fun q => hc83 ((lg_cmp_gt _ _).mpr q))⟩) hl
                | (have := ih a (k + 1) I1 (by omega) rfl hb ha (by omega) (by rw [lay_f hl]; exact K)
                   rw [lay_f (f := J (35 + 2 * a)) hl] at this
                   exact s_dropAt 5 this)
          · skip
            refine a_lload X dX4_lays_77 rfl ?_
            refine a_ldc2 X dX4_lays_79 kc_X4_222 ?_
            refine a_lcmp X dX4_lays_82 ?_
            refine a_if_gt X dX4_lays_83 (tgt := 102) (by decide) (fun hc83 => ?_) (fun hc83 => ?_)
            · skip
              refine a_iinc X dX4_lays_102 rfl (v := nI (_ + 1)) (iincN _ 1) (by decide) rfl ?_
              refine a_goto X dX4_lays_105 (tgt := 40) (by decide) ?_
              by_cases hl : layOk (J (35 + 2 * a) k) = true
              · first
                  | exact absurd hl (by simp only [layOk, Bool.and_eq_true, decide_eq_true_eq]; exact fun q => Int64.not_le.mpr ((lg_cmp_lt _ _).mp hc74) q.1)
                  | exact absurd hl (by simp only [layOk, Bool.and_eq_true, decide_eq_true_eq]; exact fun q => Int64.not_le.mpr ((lg_cmp_gt _ _).mp hc83) q.2)
                  | (have := ih a (k + 1) _ (by omega) rfl hb ha (by omega) (bs_lay hl hq hv2 (by omega) K)
                     rw [show (layN R (J (35 + 2 * a)) (k + 1)).2 = (layN R (J (35 + 2 * a)) k).2 + 1 from by rw [lay_t hl]] at this
                     exact s_dropAt 5 this)
              · first
                  | exact absurd (by simp only [layOk, Bool.and_eq_true, decide_eq_true_eq]; exact ⟨Int64.not_lt.mp (fun q => hc74 ((lg_cmp_lt _ _).mpr q)), Int64.not_lt.mp (fun q => hc83 ((lg_cmp_gt _ _).mpr q))⟩) hl
                  | (have := ih a (k + 1) I1 (by omega) rfl hb ha (by omega) (by rw [lay_f hl]; exact K)
                     rw [lay_f (f := J (35 + 2 * a)) hl] at this
                     exact s_dropAt 5 this)
            · skip
              have hl0 : layOk (J (35 + 2 * a) k) = true := by simp only [layOk, Bool.and_eq_true, decide_eq_true_eq]; exact ⟨Int64.not_lt.mp (fun q => hc74 ((lg_cmp_lt _ _).mpr q)), Int64.not_lt.mp (fun q => hc83 ((lg_cmp_gt _ _).mpr q))⟩
              obtain ⟨qq, hq, -, hv2⟩ := lay_q hl0
              refine a_aload_n X dX4_lays_86 (i := 0) rfl rfl ?_
              refine s_getr X dX4_lays_87 fl_X4_10 ko_0 rfl ?_
              refine s_getr X dX4_lays_90 fl_X4_115 ko_1 rfl ?_
              refine a_iload X dX4_lays_93 rfl ?_
              refine a_lload X dX4_lays_95 rfl ?_
              refine a_l2i X dX4_lays_97 rfl ?_
              rw [hv2]
              refine s_ist X dX4_lays_98 ki_6 (by omega) (by decide) ?_
              refine a_iinc X dX4_lays_99 rfl (v := nI (_ + 1)) (iincN _ 1) (by decide) rfl ?_
              refine a_iinc X dX4_lays_102 rfl (v := nI (_ + 1)) (iincN _ 1) (by decide) rfl ?_
              refine a_goto X dX4_lays_105 (tgt := 40) (by decide) ?_
              by_cases hl : layOk (J (35 + 2 * a) k) = true
              · first
                  | exact absurd hl (by simp only [layOk, Bool.and_eq_true, decide_eq_true_eq]; exact fun q => Int64.not_le.mpr ((lg_cmp_lt _ _).mp hc74) q.1)
                  | exact absurd hl (by simp only [layOk, Bool.and_eq_true, decide_eq_true_eq]; exact fun q => Int64.not_le.mpr ((lg_cmp_gt _ _).mp hc83) q.2)
                  | (have := ih a (k + 1) _ (by omega) rfl hb ha (by omega) (bs_lay hl hq hv2 (by omega) K)
                     rw [show (layN R (J (35 + 2 * a)) (k + 1)).2 = (layN R (J (35 + 2 * a)) k).2 + 1 from by rw [lay_t hl]] at this
                     exact s_dropAt 5 this)
              · first
                  | exact absurd (by simp only [layOk, Bool.and_eq_true, decide_eq_true_eq]; exact ⟨Int64.not_lt.mp (fun q => hc74 ((lg_cmp_lt _ _).mpr q)), Int64.not_lt.mp (fun q => hc83 ((lg_cmp_gt _ _).mpr q))⟩) hl
                  | (have := ih a (k + 1) I1 (by omega) rfl hb ha (by omega) (by rw [lay_f hl]; exact K)
                     rw [lay_f (f := J (35 + 2 * a)) hl] at this
                     exact s_dropAt 5 this)
  refine a_iload_n X dX4_lays_0 (i := 1) rfl rfl ?_
  refine s_callS_R X dX4_lays_1 lk_X4_190 c_X4_isSheet ⟨Nat.le_of_ble_eq_true rfl, Nat.le_of_ble_eq_true rfl⟩ rfl rfl (Nat.le_of_ble_eq_true rfl) ⟨Nat.le_of_ble_eq_true rfl, Nat.le_of_ble_eq_true rfl⟩ ?_
  refine a_if_ne X dX4_lays_4 (tgt := 14) (by decide) (fun hc4 => ?_) (fun hc4 => ?_)
  · skip
    try simp only [bI_0, Bool.not_eq_false] at hc4
    obtain ⟨a, ha0, ha, rfl⟩ := inB_r (by decide) (by decide) hc4
    have sa := hS a (by omega)
    have za := hZ a (by omega)
    refine a_aload_n X dX4_lays_14 (i := 0) rfl rfl ?_
    refine s_getr X dX4_lays_15 fl_X4_35 ko_0 rfl ?_
    refine a_iload_n X dX4_lays_18 (i := 1) rfl rfl ?_
    refine s_ald X dX4_lays_19 (show a < 4 by omega) ?_
    refine a_astore_n X dX4_lays_20 (i := 2) rfl (by decide) rfl ?_
    refine a_aload_n X dX4_lays_21 (i := 2) rfl rfl ?_
    refine s_callV_R X dX4_lays_22 lk_X4_198 (ko_sh (show a < 4 by omega)) rfl rfl (c_X2_isMissing (by omega)) ⟨Nat.le_of_ble_eq_true rfl, Nat.le_of_ble_eq_true rfl⟩ rfl rfl (Nat.le_of_ble_eq_true rfl) ⟨Nat.le_of_ble_eq_true rfl, Nat.le_of_ble_eq_true rfl⟩ ?_
    refine a_if_eq X dX4_lays_25 (tgt := 35) (by decide) (fun hc25 => ?_) (fun hc25 => ?_)
    · skip
      try simp only [bI_0, Bool.not_eq_false, decide_eq_true_eq, decide_eq_false_iff_not, Classical.not_not] at hc25
      rw [sa.1] at hc25
      refine a_iconst X dX4_lays_35 (v := nI 0) (by decide +kernel) ?_
      refine a_istore_n X dX4_lays_36 (i := 3) rfl (by decide) rfl ?_
      refine a_iconst X dX4_lays_37 (v := nI 0) (by decide +kernel) ?_
      refine a_istore X dX4_lays_38 (by decide) rfl ?_
      exact L40 51 a 0 _ (by omega) rfl (by rw [bdO, if_pos hc4, cl_n (show a < 2 ^ 31 by omega), if_neg hc25]) (by omega) (Nat.zero_le _) (bs_0 hC)
    · skip
      try simp only [bI_0, Bool.not_eq_false, decide_eq_true_eq, decide_eq_false_iff_not, Classical.not_not] at hc25
      rw [sa.1] at hc25
      refine a_aload_n X dX4_lays_28 (i := 0) rfl rfl ?_
      refine a_ldc X dX4_lays_29 kc_X4_201 ?_
      refine s_callV_R X dX4_lays_31 lk_X4_49 ko_0 rfl rfl (c_X4_found (k := 5) (by decide) (by decide +kernel)) ⟨Nat.le_of_ble_eq_true rfl, Nat.le_of_ble_eq_true rfl⟩ rfl rfl (Nat.le_of_ble_eq_true rfl) ⟨Nat.le_of_ble_eq_true rfl, Nat.le_of_ble_eq_true rfl⟩ ?_
      refine a_iret X hA dX4_lays_34 ?_
      exact ⟨_, _, _, _, _, rfl, rfl, (fun q => by rw [bdO, if_pos hc4, cl_n (show a < 2 ^ 31 by omega), if_pos hc25] at q; cases q), (fun i q => by rw [bdO, if_pos hc4, cl_n (show a < 2 ^ 31 by omega), if_pos hc25] at q; cases q; exact ⟨by congr 1, rfl⟩), rfl, rfl, rfl⟩
  · skip
    try simp only [bI_0, Bool.not_eq_false] at hc4
    refine a_aload_n X dX4_lays_7 (i := 0) rfl rfl ?_
    refine a_ldc X dX4_lays_8 kc_X4_48 ?_
    refine s_callV_R X dX4_lays_10 lk_X4_49 ko_0 rfl rfl (c_X4_found (k := 0) (by decide) (by decide +kernel)) ⟨Nat.le_of_ble_eq_true rfl, Nat.le_of_ble_eq_true rfl⟩ rfl rfl (Nat.le_of_ble_eq_true rfl) ⟨Nat.le_of_ble_eq_true rfl, Nat.le_of_ble_eq_true rfl⟩ ?_
    refine a_iret X hA dX4_lays_13 ?_
    exact ⟨_, _, _, _, _, rfl, rfl, (fun q => by rw [bdO, if_neg (by rw [hc4]; decide)] at q; cases q), (fun i q => by rw [bdO, if_neg (by rw [hc4]; decide)] at q; cases q; exact ⟨by congr 1, rfl⟩), rfl, rfl, rfl⟩
