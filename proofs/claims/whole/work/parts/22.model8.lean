set_option maxRecDepth 100000 in
set_option maxHeartbeats 4000000 in
theorem c_X5_badSheet {l : Launch} {g : GG} {I : TI} {J : TJ} {F : TI} {w : Int64} {x : Int32} : UR l g mX5_badSheet [.ref (ga g 43), .int x] I J F w (.int (bdV I x)) I J F w := by
  refine ct_start (M := mX5_badSheet) (by decide +kernel) (Nat.le_of_ble_eq_true rfl) ?_
  intro p e s m args below meth c A X hA
  have X : AX p s m args meth c g A cX5_badSheet 2 RX5 (Cond.code yX5_badSheet cX5_badSheet 2 (some .int)) (some .int) := X
  show AW p l e (rmM 2 42) s m args below meth c g A 2 0 0 (MQ below (CQ g (hp g I J F w) s.heap.size (fun vv0 hh0 => vv0 = some (.int (bdV I x)) ∧ hh0 = hp g I J F w)) args s 0 0 A) 0 [some (.ref (ga g 43)), some (.int x)] [] (hp g I J F w)
  refine a_iload_n X dX5_badSheet_0 (i := 1) rfl rfl ?_
  refine s_callS_R X dX5_badSheet_1 lk_X5_262 c_X5_isSheet ⟨Nat.le_of_ble_eq_true rfl, Nat.le_of_ble_eq_true rfl⟩ rfl rfl (Nat.le_of_ble_eq_true rfl) ⟨Nat.le_of_ble_eq_true rfl, Nat.le_of_ble_eq_true rfl⟩ ?_
  refine a_if_ne X dX5_badSheet_4 (tgt := 12) (by decide) (fun hc4 => ?_) (fun hc4 => ?_)
  · skip
    try simp only [bI_0, Bool.not_eq_false] at hc4
    obtain ⟨a, ha0, ha, rfl⟩ := inB_r (by decide) (by decide) hc4
    refine a_aload_n X dX5_badSheet_12 (i := 0) rfl rfl ?_
    refine s_getr X dX5_badSheet_13 fl_X5_31 ko_43 rfl ?_
    refine a_iload_n X dX5_badSheet_16 (i := 1) rfl rfl ?_
    refine s_ild X dX5_badSheet_17 ki_51 (by omega) (by decide) ?_
    refine a_if_ne X dX5_badSheet_18 (tgt := 27) (by decide) (fun hc18 => ?_) (fun hc18 => ?_)
    · skip
      refine a_iconst X dX5_badSheet_27 (v := nI 0) (by decide +kernel) ?_
      refine a_iret X hA dX5_badSheet_28 ⟨?_, ?_⟩
      · congr 2; unfold bdV bdO; first | (rw [if_neg (by rw [hc4]; decide)]; decide +kernel) | (rw [if_pos hc4, cl_n (show a < 2 ^ 31 by omega), if_pos hc18]; decide +kernel) | (rw [if_pos hc4, cl_n (show a < 2 ^ 31 by omega), if_neg hc18]; rfl)
      · rfl
    · skip
      refine a_ldcw X dX5_badSheet_21 kc_X5_266 ?_
      refine a_goto X dX5_badSheet_24 (tgt := 28) (by decide) ?_
      refine a_iret X hA dX5_badSheet_28 ⟨?_, ?_⟩
      · congr 2; unfold bdV bdO; first | (rw [if_neg (by rw [hc4]; decide)]; decide +kernel) | (rw [if_pos hc4, cl_n (show a < 2 ^ 31 by omega), if_pos hc18]; decide +kernel) | (rw [if_pos hc4, cl_n (show a < 2 ^ 31 by omega), if_neg hc18]; rfl)
      · rfl
  · skip
    try simp only [bI_0, Bool.not_eq_false] at hc4
    refine a_ldc X dX5_badSheet_7 kc_X5_50 ?_
    refine a_goto X dX5_badSheet_9 (tgt := 28) (by decide) ?_
    refine a_iret X hA dX5_badSheet_28 ⟨?_, ?_⟩
    · congr 2; unfold bdV bdO; first | (rw [if_neg (by rw [hc4]; decide)]; decide +kernel) | (rw [if_pos hc4, cl_n (show a < 2 ^ 31 by omega), if_pos hc18]; decide +kernel) | (rw [if_pos hc4, cl_n (show a < 2 ^ 31 by omega), if_neg hc18]; rfl)
    · rfl
set_option maxRecDepth 100000 in
set_option maxHeartbeats 4000000 in
theorem c_X5_lays {l : Launch} {g : GG} {I : TI} {J : TJ} {F : TI} {w : Int64} {R : Nat → Nat} (hR : I 44 = nr R) (ok : okR R) {x : Int32} {z : Nat} (hz : ∀ a, a < 4 → x = nI a → I 52 a = nI z ∧ z ≤ 40) : RV l g mX5_lays [.ref (ga g 43), .int x] I J F w (LaM I J F w R x z) := by
  have hn10 := ok.1
  refine ct_start (M := mX5_lays) (by decide +kernel) (Nat.le_of_ble_eq_true rfl) ?_
  intro p e s m args below meth c A X hA
  have X : AX p s m args meth c g A cX5_lays 7 RX5 (Cond.code yX5_lays cX5_lays 7 (some .int)) (some .int) := X
  show AW p l e (rmM 3 63) s m args below meth c g A 7 0 0 (MQ below (CQ g (hp g I J F w) s.heap.size (fun vv0 hh0 => ∃ xx0 II0 JJ0 FF0 ww0, vv0 = some xx0 ∧ hh0 = hp g II0 JJ0 FF0 ww0 ∧ (LaM I J F w R x z) xx0 II0 JJ0 FF0 ww0)) args s 0 0 A) 0 [some (.ref (ga g 43)), some (.int x), none, none, none, none, none] [] (hp g I J F w)
  have L21 : ∀ (fu : Nat) (a : Nat) (b2 : Int32) (k : Nat), 50 - k < fu → (x = nI a) → (bdO I x = none) → (a < 4) → (k ≤ min z (R 1)) → AW p l e (rmM 3 63) s m args below meth c g A 7 0 0 (MQ below (CQ g (hp g I J F w) s.heap.size (fun vv0 hh0 => ∃ xx0 II0 JJ0 FF0 ww0, vv0 = some xx0 ∧ hh0 = hp g II0 JJ0 FF0 ww0 ∧ (LaM I J F w R x z) xx0 II0 JJ0 FF0 ww0)) args s 0 0 A) 21 [some (.ref (ga g 43)), some (.int (nI a)), some (.int b2), some (.int (nI (layN R (fun i => J 53 (40 * a + i)) k).2)), some (.int (nI k)), none, none] [] (hp g (va_up I 44 (nr (layN R (fun i => J 53 (40 * a + i)) k).1)) J F w) := by
    intro fu
    induction fu with
    | zero => intro a b2 k hfu; exact absurd hfu (by omega)
    | succ fu ih =>
      intro a b2 k hfu hx hb ha hk
      subst hx
      obtain ⟨z1, z2⟩ := hz a ha rfl
      refine a_iload X dX5_lays_21 rfl ?_
      refine a_aload_n X dX5_lays_23 (i := 0) rfl rfl ?_
      refine s_getr X dX5_lays_24 fl_X5_34 ko_43 rfl ?_
      refine a_iload_n X dX5_lays_27 (i := 1) rfl rfl ?_
      refine s_ild X dX5_lays_28 ki_52 (by omega) (by decide) ?_
      rw [up_n _ _ (by decide), z1]
      refine s_icmp_geN X dX5_lays_29 (tgt := 92) (by decide) (by omega) (by omega) (fun hc29 => ?_) (fun hc29 => ?_)
      · skip
        refine a_iload_n X dX5_lays_92 (i := 3) rfl rfl ?_
        refine a_iret X hA dX5_lays_93 ?_
        exact ⟨_, _, _, _, _, rfl, rfl, (fun _ => by rw [cl_n (show a < 2 ^ 31 by omega), show min z (R 1) = k by omega]; exact ⟨rfl, rfl⟩), (fun i q => by rw [hb] at q; cases q), rfl, rfl, rfl⟩
      · skip
        refine a_iload X dX5_lays_32 rfl ?_
        refine a_aload_n X dX5_lays_34 (i := 0) rfl rfl ?_
        refine s_getr X dX5_lays_35 fl_X5_7 ko_43 rfl ?_
        refine a_iconst X dX5_lays_38 (v := nI 1) (by decide +kernel) ?_
        refine s_ild X dX5_lays_39 ki_44 (by omega) (by decide) ?_
        rw [up_s, show nr (layN R (fun i => J 53 (40 * a + i)) k).1 1 = nI (R 1) from by simp only [nr, lay_1]]
        refine s_icmp_geN X dX5_lays_40 (tgt := 92) (by decide) (by omega) (by omega) (fun hc40 => ?_) (fun hc40 => ?_)
        · skip
          refine a_iload_n X dX5_lays_92 (i := 3) rfl rfl ?_
          refine a_iret X hA dX5_lays_93 ?_
          exact ⟨_, _, _, _, _, rfl, rfl, (fun _ => by rw [cl_n (show a < 2 ^ 31 by omega), show min z (R 1) = k by omega]; exact ⟨rfl, rfl⟩), (fun i q => by rw [hb] at q; cases q), rfl, rfl, rfl⟩
        · skip
          refine a_aload_n X dX5_lays_43 (i := 0) rfl rfl ?_
          refine s_getr X dX5_lays_44 fl_X5_37 ko_43 rfl ?_
          refine a_bipush X dX5_lays_47 (v := nI 40) (by decide +kernel) ?_
          refine a_iload_n X dX5_lays_49 (i := 1) rfl rfl ?_
          refine s_imulN X dX5_lays_50 ?_
          refine a_iload X dX5_lays_51 rfl ?_
          refine s_iaddN X dX5_lays_53 ?_
          refine s_lld X dX5_lays_54 kj_53 (by omega) (by decide) ?_
          refine a_lstore X dX5_lays_55 (by decide) rfl ?_
          refine a_lload X dX5_lays_57 rfl ?_
          refine a_lconst X dX5_lays_59 (v := 0) (by decide +kernel) ?_
          refine a_lcmp X dX5_lays_60 ?_
          refine a_if_lt X dX5_lays_61 (tgt := 86) (by decide) (fun hc61 => ?_) (fun hc61 => ?_)
          · skip
            refine a_iinc X dX5_lays_86 rfl (v := nI (_ + 1)) (iincN _ 1) (by decide) rfl ?_
            refine a_goto X dX5_lays_89 (tgt := 21) (by decide) ?_
            by_cases hl : layOk (J 53 (40 * a + k)) = true
            · first
                | exact absurd hl (by simp only [layOk, Bool.and_eq_true, decide_eq_true_eq]; exact fun q => Int64.not_le.mpr ((lg_cmp_lt _ _).mp hc61) q.1)
                | exact absurd hl (by simp only [layOk, Bool.and_eq_true, decide_eq_true_eq]; exact fun q => Int64.not_le.mpr ((lg_cmp_gt _ _).mp hc70) q.2)
                | (have := ih a b2 (k + 1) (by omega) rfl hb ha (by omega)
                   rw [lay_t (f := fun i => J 53 (40 * a + i)) hl] at this
                   rw [bx_uu]
                   rw [show cl (J 53 (40 * a + k)).toInt32 = qq from by rw [hv2]; exact cl_n (by omega)] at this
                   exact s_dropAt 5 this)
            · first
                | exact absurd (by simp only [layOk, Bool.and_eq_true, decide_eq_true_eq]; exact ⟨Int64.not_lt.mp (fun q => hc61 ((lg_cmp_lt _ _).mpr q)), Int64.not_lt.mp (fun q => hc70 ((lg_cmp_gt _ _).mpr q))⟩) hl
                | (have := ih a b2 (k + 1) (by omega) rfl hb ha (by omega)
                   rw [lay_f (f := fun i => J 53 (40 * a + i)) hl] at this
                   exact s_dropAt 5 this)
          · skip
            refine a_lload X dX5_lays_64 rfl ?_
            refine a_ldc2 X dX5_lays_66 kc_X5_276 ?_
            refine a_lcmp X dX5_lays_69 ?_
            refine a_if_gt X dX5_lays_70 (tgt := 86) (by decide) (fun hc70 => ?_) (fun hc70 => ?_)
            · skip
              refine a_iinc X dX5_lays_86 rfl (v := nI (_ + 1)) (iincN _ 1) (by decide) rfl ?_
              refine a_goto X dX5_lays_89 (tgt := 21) (by decide) ?_
              by_cases hl : layOk (J 53 (40 * a + k)) = true
              · first
                  | exact absurd hl (by simp only [layOk, Bool.and_eq_true, decide_eq_true_eq]; exact fun q => Int64.not_le.mpr ((lg_cmp_lt _ _).mp hc61) q.1)
                  | exact absurd hl (by simp only [layOk, Bool.and_eq_true, decide_eq_true_eq]; exact fun q => Int64.not_le.mpr ((lg_cmp_gt _ _).mp hc70) q.2)
                  | (have := ih a b2 (k + 1) (by omega) rfl hb ha (by omega)
                     rw [lay_t (f := fun i => J 53 (40 * a + i)) hl] at this
                     rw [bx_uu]
                     rw [show cl (J 53 (40 * a + k)).toInt32 = qq from by rw [hv2]; exact cl_n (by omega)] at this
                     exact s_dropAt 5 this)
              · first
                  | exact absurd (by simp only [layOk, Bool.and_eq_true, decide_eq_true_eq]; exact ⟨Int64.not_lt.mp (fun q => hc61 ((lg_cmp_lt _ _).mpr q)), Int64.not_lt.mp (fun q => hc70 ((lg_cmp_gt _ _).mpr q))⟩) hl
                  | (have := ih a b2 (k + 1) (by omega) rfl hb ha (by omega)
                     rw [lay_f (f := fun i => J 53 (40 * a + i)) hl] at this
                     exact s_dropAt 5 this)
            · skip
              have hl0 : layOk (J 53 (40 * a + k)) = true := by simp only [layOk, Bool.and_eq_true, decide_eq_true_eq]; exact ⟨Int64.not_lt.mp (fun q => hc61 ((lg_cmp_lt _ _).mpr q)), Int64.not_lt.mp (fun q => hc70 ((lg_cmp_gt _ _).mpr q))⟩
              obtain ⟨qq, hq, -, hv2⟩ := lay_q hl0
              refine a_aload_n X dX5_lays_73 (i := 0) rfl rfl ?_
              refine a_iload X dX5_lays_74 rfl ?_
              refine a_iconst X dX5_lays_76 (v := nI 4) (by decide +kernel) ?_
              refine a_lload X dX5_lays_77 rfl ?_
              refine a_l2i X dX5_lays_79 rfl ?_
              rw [hv2]
              refine s_callV_V X dX5_lays_80 lk_X5_108 ko_43 rfl rfl (c_X5_puts (up_s _ _ _) (by omega)) ⟨Nat.le_of_ble_eq_true rfl, Nat.le_of_ble_eq_true rfl⟩ rfl rfl (Nat.le_of_ble_eq_true rfl) ⟨Nat.le_of_ble_eq_true rfl, Nat.le_of_ble_eq_true rfl⟩ ?_
              refine a_iinc X dX5_lays_83 rfl (v := nI (_ + 1)) (iincN _ 1) (by decide) rfl ?_
              refine a_iinc X dX5_lays_86 rfl (v := nI (_ + 1)) (iincN _ 1) (by decide) rfl ?_
              refine a_goto X dX5_lays_89 (tgt := 21) (by decide) ?_
              by_cases hl : layOk (J 53 (40 * a + k)) = true
              · first
                  | exact absurd hl (by simp only [layOk, Bool.and_eq_true, decide_eq_true_eq]; exact fun q => Int64.not_le.mpr ((lg_cmp_lt _ _).mp hc61) q.1)
                  | exact absurd hl (by simp only [layOk, Bool.and_eq_true, decide_eq_true_eq]; exact fun q => Int64.not_le.mpr ((lg_cmp_gt _ _).mp hc70) q.2)
                  | (have := ih a b2 (k + 1) (by omega) rfl hb ha (by omega)
                     rw [lay_t (f := fun i => J 53 (40 * a + i)) hl] at this
                     rw [bx_uu]
                     rw [show cl (J 53 (40 * a + k)).toInt32 = qq from by rw [hv2]; exact cl_n (by omega)] at this
                     exact s_dropAt 5 this)
              · first
                  | exact absurd (by simp only [layOk, Bool.and_eq_true, decide_eq_true_eq]; exact ⟨Int64.not_lt.mp (fun q => hc61 ((lg_cmp_lt _ _).mpr q)), Int64.not_lt.mp (fun q => hc70 ((lg_cmp_gt _ _).mpr q))⟩) hl
                  | (have := ih a b2 (k + 1) (by omega) rfl hb ha (by omega)
                     rw [lay_f (f := fun i => J 53 (40 * a + i)) hl] at this
                     exact s_dropAt 5 this)
  refine a_aload_n X dX5_lays_0 (i := 0) rfl rfl ?_
  refine a_iload_n X dX5_lays_1 (i := 1) rfl rfl ?_
  refine s_callV_R X dX5_lays_2 lk_X5_273 ko_43 rfl rfl c_X5_badSheet ⟨Nat.le_of_ble_eq_true rfl, Nat.le_of_ble_eq_true rfl⟩ rfl rfl (Nat.le_of_ble_eq_true rfl) ⟨Nat.le_of_ble_eq_true rfl, Nat.le_of_ble_eq_true rfl⟩ ?_
  refine a_istore_n X dX5_lays_5 (i := 2) rfl (by decide) rfl ?_
  refine a_iload_n X dX5_lays_6 (i := 2) rfl rfl ?_
  refine a_if_eq X dX5_lays_7 (tgt := 16) (by decide) (fun hc7 => ?_) (fun hc7 => ?_)
  · skip
    refine a_iconst X dX5_lays_16 (v := nI 0) (by decide +kernel) ?_
    refine a_istore_n X dX5_lays_17 (i := 3) rfl (by decide) rfl ?_
    refine a_iconst X dX5_lays_18 (v := nI 0) (by decide +kernel) ?_
    refine a_istore X dX5_lays_19 (by decide) rfl ?_
    have hb := bd_0 hc7
    obtain ⟨a, ha, rfl, -⟩ := bd_n hb
    have := L21 51 a (bdV I (nI a)) 0 (by omega) rfl hb ha (Nat.zero_le _)
    rw [show va_up I 44 (nr (layN R (fun i => J 53 (40 * a + i)) 0).1) = I from up_self (by intro i; rw [hR]; rfl)] at this
    exact this
  · skip
    obtain ⟨kk, hb, hbv, hk7, hkx⟩ := bd_1 hc7
    rw [hbv]
    refine a_aload_n X dX5_lays_10 (i := 0) rfl rfl ?_
    refine a_iload_n X dX5_lays_11 (i := 2) rfl rfl ?_
    refine s_callV_R X dX5_lays_12 lk_X5_67 ko_43 rfl rfl (c_X5_finds hk7 hkx) ⟨Nat.le_of_ble_eq_true rfl, Nat.le_of_ble_eq_true rfl⟩ rfl rfl (Nat.le_of_ble_eq_true rfl) ⟨Nat.le_of_ble_eq_true rfl, Nat.le_of_ble_eq_true rfl⟩ ?_
    refine a_iret X hA dX5_lays_15 ?_
    exact ⟨_, _, _, _, _, rfl, rfl, (fun q => by rw [hb] at q; cases q), (fun i q => by rw [hb] at q; cases q; exact ⟨rfl, rfl⟩), rfl, rfl, rfl⟩
set_option maxRecDepth 100000 in
set_option maxHeartbeats 4000000 in
theorem c_X5_book {l : Launch} {g : GG} {I : TI} {J : TJ} {F : TI} {w : Int64} {R : Nat → Nat} (hR : I 44 = nr R) (ok : okR R) {x y : Int32} (hN : R 0 < 1000000) {Z : Nat → Nat} (hZ : ∀ i, i < 4 → I 52 i = nI (Z i) ∧ Z i ≤ 40) : RV l g mX5_book [.ref (ga g 43), .int x, .int y] I J F w (BkM I J F w R x y Z) := by
  have hn10 := ok.1
  refine ct_start (M := mX5_book) (by decide +kernel) (Nat.le_of_ble_eq_true rfl) ?_
  intro p e s m args below meth c A X hA
  have X : AX p s m args meth c g A cX5_book 5 RX5 (Cond.code yX5_book cX5_book 5 (some .int)) (some .int) := X
  show AW p l e (rmM 6 137) s m args below meth c g A 5 0 0 (MQ below (CQ g (hp g I J F w) s.heap.size (fun vv0 hh0 => ∃ xx0 II0 JJ0 FF0 ww0, vv0 = some xx0 ∧ hh0 = hp g II0 JJ0 FF0 ww0 ∧ (BkM I J F w R x y Z) xx0 II0 JJ0 FF0 ww0)) args s 0 0 A) 0 [some (.ref (ga g 43)), some (.int x), some (.int y), none, none] [] (hp g I J F w)
  have L43 : ∀ (fu : Nat) (a : Nat) (b : Nat) (b3 : Int32) (k : Nat) (I1 : TI), 50 - k < fu → (x = nI a) → (y = nI b) → (bkO I (R 1) x y = none) → (a < 4) → (b < R 1) → (k ≤ Z a) → (AhK 48 I R (pasN R k) I1) → AW p l e (rmM 6 137) s m args below meth c g A 5 0 0 (MQ below (CQ g (hp g I J F w) s.heap.size (fun vv0 hh0 => ∃ xx0 II0 JJ0 FF0 ww0, vv0 = some xx0 ∧ hh0 = hp g II0 JJ0 FF0 ww0 ∧ (BkM I J F w R x y Z) xx0 II0 JJ0 FF0 ww0)) args s 0 0 A) 43 [some (.ref (ga g 43)), some (.int (nI a)), some (.int (nI b)), some (.int b3), some (.int (nI k))] [] (hp g I1 (va_up J 53 (bkF R (I 51 a) b a (J 53) k)) F w) := by
    intro fu
    induction fu with
    | zero => intro a b b3 k I1 hfu; exact absurd hfu (by omega)
    | succ fu ih =>
      intro a b b3 k I1 hfu hx hy hb ha hbb hk K
      subst hx; subst hy
      obtain ⟨z1, z2⟩ := hZ a ha
      have k51 : I1 51 = I 51 := K.2.2 51 (by decide) (by decide) (by decide) (by decide)
      have k52 : I1 52 = I 52 := K.2.2 52 (by decide) (by decide) (by decide) (by decide)
      refine a_iload X dX5_book_43 rfl ?_
      refine a_aload_n X dX5_book_45 (i := 0) rfl rfl ?_
      refine s_getr X dX5_book_46 fl_X5_34 ko_43 rfl ?_
      refine a_iload_n X dX5_book_49 (i := 1) rfl rfl ?_
      refine s_ild X dX5_book_50 ki_52 (by omega) (by decide) ?_
      rw [k52, z1]
      refine s_icmp_geN X dX5_book_51 (tgt := 92) (by decide) (by omega) (by omega) (fun hc51 => ?_) (fun hc51 => ?_)
      · skip
        have hk2 : Z a = k := by omega
        refine a_aload_n X dX5_book_92 (i := 0) rfl rfl ?_
        refine a_iconst X dX5_book_93 (v := nI 0) (by decide +kernel) ?_
        refine a_aload_n X dX5_book_94 (i := 0) rfl rfl ?_
        refine s_getr X dX5_book_95 fl_X5_22 ko_43 rfl ?_
        refine s_callV_V X dX5_book_98 lk_X5_156 ko_43 rfl rfl (c_X5_moveAll_f K.1 ki_48 (by decide) K.2.1 (fun i hi => (ok.2.2.2 i hi).trans ((okR_pas ok k).2.2.2 i hi).symm)) ⟨Nat.le_of_ble_eq_true rfl, Nat.le_of_ble_eq_true rfl⟩ rfl rfl (Nat.le_of_ble_eq_true rfl) ⟨Nat.le_of_ble_eq_true rfl, Nat.le_of_ble_eq_true rfl⟩ ?_
        refine a_aload_n X dX5_book_101 (i := 0) rfl rfl ?_
        refine s_getr X dX5_book_102 fl_X5_34 ko_43 rfl ?_
        refine a_iload_n X dX5_book_105 (i := 1) rfl rfl ?_
        refine s_ild X dX5_book_106 ki_52 (by omega) (by decide) ?_
        rw [up_n _ _ (by decide), k52, z1]
        refine a_iret X hA dX5_book_107 ?_
        exact ⟨_, _, _, _, _, rfl, rfl, (fun _ => by rw [cl_n (show a < 2 ^ 31 by omega), cl_n (show b < 2 ^ 31 by omega), hk2]; exact ⟨rfl, (ahk_u K (by decide)).S (Or.inl rfl), rfl⟩), (fun i q => by rw [hb] at q; cases q), rfl, rfl⟩
      · skip
        refine a_aload_n X dX5_book_54 (i := 0) rfl rfl ?_
        refine s_getr X dX5_book_55 fl_X5_37 ko_43 rfl ?_
        refine a_bipush X dX5_book_58 (v := nI 40) (by decide +kernel) ?_
        refine a_iload_n X dX5_book_60 (i := 1) rfl rfl ?_
        refine s_imulN X dX5_book_61 ?_
        refine a_iload X dX5_book_62 rfl ?_
        refine s_iaddN X dX5_book_64 ?_
        refine a_aload_n X dX5_book_65 (i := 0) rfl rfl ?_
        refine s_getr X dX5_book_66 fl_X5_31 ko_43 rfl ?_
        refine a_iload_n X dX5_book_69 (i := 1) rfl rfl ?_
        refine s_ild X dX5_book_70 ki_51 (by omega) (by decide) ?_
        rw [k51]
        refine a_aload_n X dX5_book_71 (i := 0) rfl rfl ?_
        refine a_iload_n X dX5_book_72 (i := 2) rfl rfl ?_
        refine a_iconst X dX5_book_73 (v := nI 4) (by decide +kernel) ?_
        refine s_callV_R X dX5_book_74 lk_X5_55 ko_43 rfl rfl (c_X5_its K.1 (by omega)) ⟨Nat.le_of_ble_eq_true rfl, Nat.le_of_ble_eq_true rfl⟩ rfl rfl (Nat.le_of_ble_eq_true rfl) ⟨Nat.le_of_ble_eq_true rfl, Nat.le_of_ble_eq_true rfl⟩ ?_
        refine a_i2l X dX5_book_77 rfl ?_
        refine s_callS_R X dX5_book_78 lk_X5_267 c_X5_narrow ⟨Nat.le_of_ble_eq_true rfl, Nat.le_of_ble_eq_true rfl⟩ rfl rfl (Nat.le_of_ble_eq_true rfl) ⟨Nat.le_of_ble_eq_true rfl, Nat.le_of_ble_eq_true rfl⟩ ?_
        refine s_lst X dX5_book_81 kj_53 (by omega) (by decide) ?_
        refine a_aload_n X dX5_book_82 (i := 0) rfl rfl ?_
        refine s_callV_Y X dX5_book_83 lk_X5_148 ko_43 rfl rfl (c_X5_oneNight K.1 (okR_pas ok k) (by rw [pas_0]; omega)) ⟨Nat.le_of_ble_eq_true rfl, Nat.le_of_ble_eq_true rfl⟩ rfl rfl (Nat.le_of_ble_eq_true rfl) ⟨Nat.le_of_ble_eq_true rfl, Nat.le_of_ble_eq_true rfl⟩ (fun I2 J2 F2 w2 hpo => ?_)
        refine a_iinc X dX5_book_86 rfl (v := nI (_ + 1)) (iincN _ 1) (by decide) rfl ?_
        refine a_goto X dX5_book_89 (tgt := 43) (by decide) ?_
        have K2 := ahk_m K (Or.inl rfl) hpo
        obtain ⟨e1, e2, eJ, eF, ew⟩ := hpo
        have eJ := eJ.symm
        have eF := eF.symm
        have ew := ew.symm
        subst eJ; subst eF; subst ew
        have := ih a b b3 (k + 1) I2 (by omega) rfl rfl hb ha hbb (by omega) K2
        rw [bx_uu, up_s, bk_step]
        exact this
  refine a_aload_n X dX5_book_0 (i := 0) rfl rfl ?_
  refine a_iload_n X dX5_book_1 (i := 1) rfl rfl ?_
  refine s_callV_R X dX5_book_2 lk_X5_273 ko_43 rfl rfl c_X5_badSheet ⟨Nat.le_of_ble_eq_true rfl, Nat.le_of_ble_eq_true rfl⟩ rfl rfl (Nat.le_of_ble_eq_true rfl) ⟨Nat.le_of_ble_eq_true rfl, Nat.le_of_ble_eq_true rfl⟩ ?_
  refine a_istore_n X dX5_book_5 (i := 3) rfl (by decide) rfl ?_
  refine a_iload_n X dX5_book_6 (i := 3) rfl rfl ?_
  refine a_if_eq X dX5_book_7 (tgt := 16) (by decide) (fun hc7 => ?_) (fun hc7 => ?_)
  · skip
    refine a_aload_n X dX5_book_16 (i := 0) rfl rfl ?_
    refine a_iload_n X dX5_book_17 (i := 2) rfl rfl ?_
    refine s_callV_R X dX5_book_18 lk_X5_124 ko_43 rfl rfl (c_X5_isOne hR) ⟨Nat.le_of_ble_eq_true rfl, Nat.le_of_ble_eq_true rfl⟩ rfl rfl (Nat.le_of_ble_eq_true rfl) ⟨Nat.le_of_ble_eq_true rfl, Nat.le_of_ble_eq_true rfl⟩ ?_
    refine a_if_ne X dX5_book_21 (tgt := 31) (by decide) (fun hc21 => ?_) (fun hc21 => ?_)
    · skip
      try simp only [bI_0, Bool.not_eq_false] at hc21
      obtain ⟨b, hbb, rfl⟩ := isM_t (by omega) hc21
      refine a_aload_n X dX5_book_31 (i := 0) rfl rfl ?_
      refine a_iconst X dX5_book_32 (v := nI 1) (by decide +kernel) ?_
      refine a_aload_n X dX5_book_33 (i := 0) rfl rfl ?_
      refine s_getr X dX5_book_34 fl_X5_22 ko_43 rfl ?_
      refine s_callV_V X dX5_book_37 lk_X5_156 ko_43 rfl rfl (c_X5_moveAll_t ki_48 (by decide)) ⟨Nat.le_of_ble_eq_true rfl, Nat.le_of_ble_eq_true rfl⟩ rfl rfl (Nat.le_of_ble_eq_true rfl) ⟨Nat.le_of_ble_eq_true rfl, Nat.le_of_ble_eq_true rfl⟩ ?_
      refine a_iconst X dX5_book_40 (v := nI 0) (by decide +kernel) ?_
      refine a_istore X dX5_book_41 (by decide) rfl ?_
      have hb := bd_0 hc7
      have hb2 : bkO I (R 1) x (nI b) = none := by unfold bkO; rw [hb]; show (if _ then _ else _) = _; rw [if_pos hc21]
      obtain ⟨a, ha, rfl, -⟩ := bd_n hb
      have := L43 51 a b (bdV I (nI a)) 0 _ (by omega) rfl rfl hb2 ha hbb (Nat.zero_le _) (ahk_0 (Q := 48) hR (by decide))
      rw [bk_0, show va_up J 53 (J 53) = J from up_self (fun _ => rfl)] at this
      exact this
    · skip
      try simp only [bI_0, Bool.not_eq_false] at hc21
      refine a_aload_n X dX5_book_24 (i := 0) rfl rfl ?_
      refine a_ldc X dX5_book_25 kc_X5_50 ?_
      refine s_callV_R X dX5_book_27 lk_X5_67 ko_43 rfl rfl (c_X5_finds (k := 0) (by decide) (by decide +kernel)) ⟨Nat.le_of_ble_eq_true rfl, Nat.le_of_ble_eq_true rfl⟩ rfl rfl (Nat.le_of_ble_eq_true rfl) ⟨Nat.le_of_ble_eq_true rfl, Nat.le_of_ble_eq_true rfl⟩ ?_
      refine a_iret X hA dX5_book_30 ?_
      have hb := bd_0 hc7
      exact ⟨_, _, _, _, _, rfl, rfl, (fun q => by unfold bkO at q; rw [hb] at q; have q : (if isM (R 1) y = true then none else some 0) = none := q; rw [if_neg (by rw [hc21]; decide)] at q; cases q), (fun i q => by unfold bkO at q; rw [hb] at q; have q : (if isM (R 1) y = true then none else some 0) = some i := q; rw [if_neg (by rw [hc21]; decide)] at q; cases q; exact ⟨by congr 1, rfl, rfl⟩), rfl, rfl⟩
  · skip
    obtain ⟨kk, hb, hbv, hk7, hkx⟩ := bd_1 hc7
    rw [hbv]
    refine a_aload_n X dX5_book_10 (i := 0) rfl rfl ?_
    refine a_iload_n X dX5_book_11 (i := 3) rfl rfl ?_
    refine s_callV_R X dX5_book_12 lk_X5_67 ko_43 rfl rfl (c_X5_finds hk7 hkx) ⟨Nat.le_of_ble_eq_true rfl, Nat.le_of_ble_eq_true rfl⟩ rfl rfl (Nat.le_of_ble_eq_true rfl) ⟨Nat.le_of_ble_eq_true rfl, Nat.le_of_ble_eq_true rfl⟩ ?_
    refine a_iret X hA dX5_book_15 ?_
    exact ⟨_, _, _, _, _, rfl, rfl, (fun q => by unfold bkO at q; rw [hb] at q; cases q), (fun i q => by unfold bkO at q; rw [hb] at q; cases q; exact ⟨rfl, rfl, rfl⟩), rfl, rfl⟩
set_option maxRecDepth 100000 in
set_option maxHeartbeats 4000000 in
theorem c_X5_isSo {l : Launch} {g : GG} {I : TI} {J : TJ} {F : TI} {w : Int64} {R : Nat → Nat} (hR : I 44 = nr R) (ok : okR R) {a b z : Nat} (ha : a < 4) (hb : b < R 1) (hN : R 0 < 1000000) (hz : I 52 a = nI z ∧ z ≤ 40) : RV l g mX5_isSo [.ref (ga g 43), .int (nI a), .int (nI b)] I J F w (fun x I2 J2 F2 w2 => x = .int (bI (allB (soF R b (fun i => J 53 (40 * a + i))) z)) ∧ ∃ k, MdP I J F w (pasN R k) I2 J2 F2 w2) := by
  have hn10 := ok.1
  refine ct_start (M := mX5_isSo) (by decide +kernel) (Nat.le_of_ble_eq_true rfl) ?_
  intro p e s m args below meth c A X hA
  have X : AX p s m args meth c g A cX5_isSo 5 RX5 (Cond.code yX5_isSo cX5_isSo 5 (some .boolean)) (some .boolean) := X
  show AW p l e (rmM 6 137) s m args below meth c g A 5 0 0 (MQ below (CQ g (hp g I J F w) s.heap.size (fun vv0 hh0 => ∃ xx0 II0 JJ0 FF0 ww0, vv0 = some xx0 ∧ hh0 = hp g II0 JJ0 FF0 ww0 ∧ (fun x I2 J2 F2 w2 => x = .int (bI (allB (soF R b (fun i => J 53 (40 * a + i))) z)) ∧ ∃ k, MdP I J F w (pasN R k) I2 J2 F2 w2) xx0 II0 JJ0 FF0 ww0)) args s 0 0 A) 0 [some (.ref (ga g 43)), some (.int (nI a)), some (.int (nI b)), none, none] [] (hp g I J F w)
  have L5 : ∀ (fu : Nat) (k : Nat) (I1 : TI), 50 - k < fu → (k ≤ z) → (MdP I J F w (pasN R k) I1 J F w) → AW p l e (rmM 6 137) s m args below meth c g A 5 0 0 (MQ below (CQ g (hp g I J F w) s.heap.size (fun vv0 hh0 => ∃ xx0 II0 JJ0 FF0 ww0, vv0 = some xx0 ∧ hh0 = hp g II0 JJ0 FF0 ww0 ∧ (fun x I2 J2 F2 w2 => x = .int (bI (allB (soF R b (fun i => J 53 (40 * a + i))) z)) ∧ ∃ k, MdP I J F w (pasN R k) I2 J2 F2 w2) xx0 II0 JJ0 FF0 ww0)) args s 0 0 A) 5 [some (.ref (ga g 43)), some (.int (nI a)), some (.int (nI b)), some (.int (bI (allB (soF R b (fun i => J 53 (40 * a + i))) k))), some (.int (nI k))] [] (hp g I1 J F w) := by
    intro fu
    induction fu with
    | zero => intro k I1 hfu; exact absurd hfu (by omega)
    | succ fu ih =>
      intro k I1 hfu hk K
      refine a_iload X dX5_isSo_5 rfl ?_
      refine a_aload_n X dX5_isSo_7 (i := 0) rfl rfl ?_
      refine s_getr X dX5_isSo_8 fl_X5_34 ko_43 rfl ?_
      refine a_iload_n X dX5_isSo_11 (i := 1) rfl rfl ?_
      refine s_ild X dX5_isSo_12 ki_52 (by omega) (by decide) ?_
      rw [K.2.1 52 (by decide) (by decide) (by decide), hz.1]
      refine s_icmp_geN X dX5_isSo_13 (tgt := 59) (by decide) (by omega) (by omega) (fun hc13 => ?_) (fun hc13 => ?_)
      · skip
        refine a_iload_n X dX5_isSo_59 (i := 3) rfl rfl ?_
        refine a_zret X hA dX5_isSo_60 (by first | exact nar_bI _ | decide +kernel) ?_
        refine ⟨_, _, _, _, _, rfl, rfl, ?_, k, K⟩
        first | (rw [show z = k by omega]) | (rw [hc17, all_f hc17 z (by omega)])
      · skip
        refine a_iload_n X dX5_isSo_16 (i := 3) rfl rfl ?_
        refine a_if_eq X dX5_isSo_17 (tgt := 59) (by decide) (fun hc17 => ?_) (fun hc17 => ?_)
        · skip
          try simp only [bI_0, Bool.not_eq_false] at hc17
          refine a_iload_n X dX5_isSo_59 (i := 3) rfl rfl ?_
          refine a_zret X hA dX5_isSo_60 (by first | exact nar_bI _ | decide +kernel) ?_
          refine ⟨_, _, _, _, _, rfl, rfl, ?_, k, K⟩
          first | (rw [show z = k by omega]) | (rw [hc17, all_f hc17 z (by omega)])
        · skip
          try simp only [bI_0, Bool.not_eq_false] at hc17
          refine a_aload_n X dX5_isSo_20 (i := 0) rfl rfl ?_
          refine s_getr X dX5_isSo_21 fl_X5_37 ko_43 rfl ?_
          refine a_bipush X dX5_isSo_24 (v := nI 40) (by decide +kernel) ?_
          refine a_iload_n X dX5_isSo_26 (i := 1) rfl rfl ?_
          refine s_imulN X dX5_isSo_27 ?_
          refine a_iload X dX5_isSo_28 rfl ?_
          refine s_iaddN X dX5_isSo_30 ?_
          refine s_lld X dX5_isSo_31 kj_53 (by omega) (by decide) ?_
          refine a_aload_n X dX5_isSo_32 (i := 0) rfl rfl ?_
          refine a_iload_n X dX5_isSo_33 (i := 2) rfl rfl ?_
          refine a_iconst X dX5_isSo_34 (v := nI 4) (by decide +kernel) ?_
          refine s_callV_R X dX5_isSo_35 lk_X5_55 ko_43 rfl rfl (c_X5_its K.1 (by omega)) ⟨Nat.le_of_ble_eq_true rfl, Nat.le_of_ble_eq_true rfl⟩ rfl rfl (Nat.le_of_ble_eq_true rfl) ⟨Nat.le_of_ble_eq_true rfl, Nat.le_of_ble_eq_true rfl⟩ ?_
          refine a_i2l X dX5_isSo_38 rfl ?_
          refine a_lcmp X dX5_isSo_39 ?_
          refine a_if_ne X dX5_isSo_40 (tgt := 47) (by decide) (fun hc40 => ?_) (fun hc40 => ?_)
          · skip
            refine a_iconst X dX5_isSo_47 (v := nI 0) (by decide +kernel) ?_
            refine a_istore_n X dX5_isSo_48 (i := 3) rfl (by decide) rfl ?_
            refine a_aload_n X dX5_isSo_49 (i := 0) rfl rfl ?_
            refine s_callV_Y X dX5_isSo_50 lk_X5_148 ko_43 rfl rfl (c_X5_oneNight K.1 (okR_pas ok k) (by rw [pas_0]; omega)) ⟨Nat.le_of_ble_eq_true rfl, Nat.le_of_ble_eq_true rfl⟩ rfl rfl (Nat.le_of_ble_eq_true rfl) ⟨Nat.le_of_ble_eq_true rfl, Nat.le_of_ble_eq_true rfl⟩ (fun I2 J2 F2 w2 hpo => ?_)
            refine a_iinc X dX5_isSo_53 rfl (v := nI (_ + 1)) (iincN _ 1) (by decide) rfl ?_
            refine a_goto X dX5_isSo_56 (tgt := 5) (by decide) ?_
            obtain ⟨e1, e2, eJ, eF, ew⟩ := hpo
            have eJ := eJ.symm
            have eF := eF.symm
            have ew := ew.symm
            subst eJ; subst eF; subst ew
            have := ih (k + 1) I2 (by omega) (by omega) ⟨e1, fun P q1 q2 q3 => (e2 P q1 q2 q3).trans (K.2.1 P q1 q2 q3), rfl, rfl, rfl⟩
            first
              | (rw [show bI (allB (soF R b (fun i => J 53 (40 * a + i))) (k + 1)) = nI 1 from (by refine (bt1 ?_).symm; rw [allB, hc17]; simp only [soF, Bool.true_and, decide_eq_true_eq]; exact (lg_cmp_eq _ _).mp hc40)] at this; exact this)
              | (rw [show bI (allB (soF R b (fun i => J 53 (40 * a + i))) (k + 1)) = nI 0 from (by refine (bf0 ?_).symm; rw [allB, hc17]; simp only [soF, Bool.true_and, decide_eq_false_iff_not]; exact fun q => hc40 ((lg_cmp_eq _ _).mpr q))] at this; exact this)
          · skip
            refine a_iconst X dX5_isSo_43 (v := nI 1) (by decide +kernel) ?_
            refine a_goto X dX5_isSo_44 (tgt := 48) (by decide) ?_
            refine a_istore_n X dX5_isSo_48 (i := 3) rfl (by decide) rfl ?_
            refine a_aload_n X dX5_isSo_49 (i := 0) rfl rfl ?_
            refine s_callV_Y X dX5_isSo_50 lk_X5_148 ko_43 rfl rfl (c_X5_oneNight K.1 (okR_pas ok k) (by rw [pas_0]; omega)) ⟨Nat.le_of_ble_eq_true rfl, Nat.le_of_ble_eq_true rfl⟩ rfl rfl (Nat.le_of_ble_eq_true rfl) ⟨Nat.le_of_ble_eq_true rfl, Nat.le_of_ble_eq_true rfl⟩ (fun I2 J2 F2 w2 hpo => ?_)
            refine a_iinc X dX5_isSo_53 rfl (v := nI (_ + 1)) (iincN _ 1) (by decide) rfl ?_
            refine a_goto X dX5_isSo_56 (tgt := 5) (by decide) ?_
            obtain ⟨e1, e2, eJ, eF, ew⟩ := hpo
            have eJ := eJ.symm
            have eF := eF.symm
            have ew := ew.symm
            subst eJ; subst eF; subst ew
            have := ih (k + 1) I2 (by omega) (by omega) ⟨e1, fun P q1 q2 q3 => (e2 P q1 q2 q3).trans (K.2.1 P q1 q2 q3), rfl, rfl, rfl⟩
            first
              | (rw [show bI (allB (soF R b (fun i => J 53 (40 * a + i))) (k + 1)) = nI 1 from (by refine (bt1 ?_).symm; rw [allB, hc17]; simp only [soF, Bool.true_and, decide_eq_true_eq]; exact (lg_cmp_eq _ _).mp hc40)] at this; exact this)
              | (rw [show bI (allB (soF R b (fun i => J 53 (40 * a + i))) (k + 1)) = nI 0 from (by refine (bf0 ?_).symm; rw [allB, hc17]; simp only [soF, Bool.true_and, decide_eq_false_iff_not]; exact fun q => hc40 ((lg_cmp_eq _ _).mpr q))] at this; exact this)
  refine a_iconst X dX5_isSo_0 (v := nI 1) (by decide +kernel) ?_
  refine a_istore_n X dX5_isSo_1 (i := 3) rfl (by decide) rfl ?_
  refine a_iconst X dX5_isSo_2 (v := nI 0) (by decide +kernel) ?_
  refine a_istore X dX5_isSo_3 (by decide) rfl ?_
  exact L5 51 0 I (by omega) (Nat.zero_le _) ⟨hR, fun _ _ _ _ => rfl, rfl, rfl, rfl⟩
set_option maxRecDepth 100000 in
set_option maxHeartbeats 4000000 in
theorem c_X5_read {l : Launch} {g : GG} {I : TI} {J : TJ} {F : TI} {w : Int64} {R : Nat → Nat} (hR : I 44 = nr R) (ok : okR R) {x y z : Int32} (hN : R 0 < 1000000) {Z : Nat → Nat} (hZ : ∀ i, i < 4 → I 52 i = nI (Z i) ∧ Z i ≤ 40) : RV l g mX5_read [.ref (ga g 43), .int x, .int y, .int z] I J F w (RdM I J F w R x y z Z) := by
  have hn10 := ok.1
  refine ct_start (M := mX5_read) (by decide +kernel) (Nat.le_of_ble_eq_true rfl) ?_
  intro p e s m args below meth c A X hA
  have X : AX p s m args meth c g A cX5_read 7 RX5 (Cond.code yX5_read cX5_read 7 (some .int)) (some .int) := X
  show AW p l e (rmM 7 161) s m args below meth c g A 7 0 0 (MQ below (CQ g (hp g I J F w) s.heap.size (fun vv0 hh0 => ∃ xx0 II0 JJ0 FF0 ww0, vv0 = some xx0 ∧ hh0 = hp g II0 JJ0 FF0 ww0 ∧ (RdM I J F w R x y z Z) xx0 II0 JJ0 FF0 ww0)) args s 0 0 A) 0 [some (.ref (ga g 43)), some (.int x), some (.int y), some (.int z), none, none, none] [] (hp g I J F w)
  have L62 : ∀ (fu : Nat) (a : Nat) (b : Nat) (o : Nat) (b4 : Int32) (k : Nat) (I1 : TI), 36 - k < fu → (x = nI a) → (y = nI b) → (z = nI o) → (rdO I (R 1) x y z = none) → (a < 4) → (b < R 1) → (o < R 1) → (k ≤ 36) → (AhK 49 I R R I1) → AW p l e (rmM 7 161) s m args below meth c g A 7 0 0 (MQ below (CQ g (hp g I J F w) s.heap.size (fun vv0 hh0 => ∃ xx0 II0 JJ0 FF0 ww0, vv0 = some xx0 ∧ hh0 = hp g II0 JJ0 FF0 ww0 ∧ (RdM I J F w R x y z Z) xx0 II0 JJ0 FF0 ww0)) args s 0 0 A) 62 [some (.ref (ga g 43)), some (.int (nI a)), some (.int (nI b)), some (.int (nI o)), some (.int b4), some (.int (nI (rdC R b o (fun i => J 53 (40 * a + i)) (Z a) k))), some (.int (nI k))] [] (hp g I1 J F w) := by
    intro fu
    induction fu with
    | zero => intro a b o b4 k I1 hfu; exact absurd hfu (by omega)
    | succ fu ih =>
      intro a b o b4 k I1 hfu hx hy hzz hr ha hbb hoo hk K
      subst hx; subst hy; subst hzz
      obtain ⟨z1, z2⟩ := hZ a ha
      refine a_iload X dX5_read_62 rfl ?_
      refine a_bipush X dX5_read_64 (v := nI 36) (by decide +kernel) ?_
      refine s_icmp_geN X dX5_read_66 (tgt := 125) (by decide) (by omega) (by omega) (fun hc66 => ?_) (fun hc66 => ?_)
      · skip
        have hk2 : k = 36 := by omega
        refine a_iload X dX5_read_125 rfl ?_
        refine a_iret X hA dX5_read_127 ?_
        exact ⟨_, _, _, _, _, rfl, rfl, (fun _ => by rw [cl_n (show a < 2 ^ 31 by omega), cl_n (show b < 2 ^ 31 by omega), cl_n (show o < 2 ^ 31 by omega), ← hk2]; exact ⟨rfl, K.S (Or.inr rfl)⟩), (fun i q => by rw [hr] at q; cases q), rfl, rfl, rfl⟩
      · skip
        have okm := ok_put (j := 0) (v := k % 6) (m := o) (ok_put (j := 0) (v := k / 6) (m := b) ok hbb (by decide) (by omega) (by decide) (by omega) (by omega) (by omega) (by omega)) (by rw [up_n _ _ (by omega)]; exact hoo) (by decide) (by omega) (by decide) (by omega) (by omega) (by omega) (by omega)
        refine a_aload_n X dX5_read_69 (i := 0) rfl rfl ?_
        refine a_iload_n X dX5_read_70 (i := 2) rfl rfl ?_
        refine a_iconst X dX5_read_71 (v := nI 0) (by decide +kernel) ?_
        refine a_iload X dX5_read_72 rfl ?_
        refine a_bipush X dX5_read_74 (v := nI 6) (by decide +kernel) ?_
        refine a_idiv X dX5_read_76 (by decide +kernel) ?_
        rw [pk_div (by omega) (by decide) (by decide)]
        refine s_callV_V X dX5_read_77 lk_X5_108 ko_43 rfl rfl (c_X5_puts K.1 (by omega)) ⟨Nat.le_of_ble_eq_true rfl, Nat.le_of_ble_eq_true rfl⟩ rfl rfl (Nat.le_of_ble_eq_true rfl) ⟨Nat.le_of_ble_eq_true rfl, Nat.le_of_ble_eq_true rfl⟩ ?_
        refine a_aload_n X dX5_read_80 (i := 0) rfl rfl ?_
        refine a_iload_n X dX5_read_81 (i := 3) rfl rfl ?_
        refine a_iconst X dX5_read_82 (v := nI 0) (by decide +kernel) ?_
        refine a_iload X dX5_read_83 rfl ?_
        refine a_bipush X dX5_read_85 (v := nI 6) (by decide +kernel) ?_
        refine a_irem X dX5_read_87 (by decide +kernel) ?_
        rw [pk_rem (by omega) (by decide) (by decide)]
        refine s_callV_V X dX5_read_88 lk_X5_108 ko_43 rfl rfl (c_X5_puts (up_s _ _ _) (by omega)) ⟨Nat.le_of_ble_eq_true rfl, Nat.le_of_ble_eq_true rfl⟩ rfl rfl (Nat.le_of_ble_eq_true rfl) ⟨Nat.le_of_ble_eq_true rfl, Nat.le_of_ble_eq_true rfl⟩ ?_
        refine a_iload X dX5_read_91 rfl ?_
        refine a_aload_n X dX5_read_93 (i := 0) rfl rfl ?_
        refine a_iload_n X dX5_read_94 (i := 1) rfl rfl ?_
        refine a_iload_n X dX5_read_95 (i := 2) rfl rfl ?_
        refine s_callV_X X dX5_read_96 lk_X5_278 ko_43 rfl rfl (c_X5_isSo (up_s _ _ _) okm ha (by rw [up_n _ _ (by omega), up_n _ _ (by omega)]; exact hbb) (by rw [up_n _ _ (by omega), up_n _ _ (by omega)]; exact hN) ⟨by rw [up_n _ _ (by decide), up_n _ _ (by decide), K.2.2 52 (by decide) (by decide) (by decide) (by decide)]; exact z1, z2⟩) ⟨Nat.le_of_ble_eq_true rfl, Nat.le_of_ble_eq_true rfl⟩ rfl rfl (Nat.le_of_ble_eq_true rfl) ⟨Nat.le_of_ble_eq_true rfl, Nat.le_of_ble_eq_true rfl⟩ (fun x2 I2 J2 F2 w2 hpo => ?_)
        obtain ⟨rfl, kk, hm⟩ := hpo
        have K3 := ahk_m (ahk_u (ahk_u K (by decide)) (by decide)) (Or.inr rfl) hm
        obtain ⟨-, -, eJ, eF, ew⟩ := hm
        have eJ := eJ.symm
        have eF := eF.symm
        have ew := ew.symm
        subst eJ; subst eF; subst ew
        refine a_if_eq X dX5_read_99 (tgt := 106) (by decide) (fun hc99 => ?_) (fun hc99 => ?_)
        · skip
          try simp only [bI_0, Bool.not_eq_false] at hc99
          refine a_iconst X dX5_read_106 (v := nI 0) (by decide +kernel) ?_
          refine s_iaddN X dX5_read_107 ?_
          refine a_istore X dX5_read_108 (by decide) rfl ?_
          refine a_aload_n X dX5_read_110 (i := 0) rfl rfl ?_
          refine a_iconst X dX5_read_111 (v := nI 0) (by decide +kernel) ?_
          refine a_aload_n X dX5_read_112 (i := 0) rfl rfl ?_
          refine s_getr X dX5_read_113 fl_X5_25 ko_43 rfl ?_
          refine s_callV_V X dX5_read_116 lk_X5_156 ko_43 rfl rfl (c_X5_moveAll_f K3.1 ki_49 (by decide) K3.2.1 (fun i hi => (ok.2.2.2 i hi).trans ((okR_pas okm kk).2.2.2 i hi).symm)) ⟨Nat.le_of_ble_eq_true rfl, Nat.le_of_ble_eq_true rfl⟩ rfl rfl (Nat.le_of_ble_eq_true rfl) ⟨Nat.le_of_ble_eq_true rfl, Nat.le_of_ble_eq_true rfl⟩ ?_
          refine a_iinc X dX5_read_119 rfl (v := nI (_ + 1)) (iincN _ 1) (by decide) rfl ?_
          refine a_goto X dX5_read_122 (tgt := 62) (by decide) ?_
          have := ih a b o b4 (k + 1) _ (by omega) rfl rfl rfl hr ha hbb hoo (by omega) (ahk_u K3 (by decide))
          first
            | (rw [show rdC R b o (fun i => J 53 (40 * a + i)) (Z a) (k + 1) = rdC R b o (fun i => J 53 (40 * a + i)) (Z a) k + 0 from (by rw [rdC, if_neg (by rw [hc99]; decide)])] at this; exact this)
            | (rw [show rdC R b o (fun i => J 53 (40 * a + i)) (Z a) (k + 1) = rdC R b o (fun i => J 53 (40 * a + i)) (Z a) k + 1 from (by rw [rdC, if_pos hc99])] at this; exact this)
        · skip
          try simp only [bI_0, Bool.not_eq_false] at hc99
          refine a_iconst X dX5_read_102 (v := nI 1) (by decide +kernel) ?_
          refine a_goto X dX5_read_103 (tgt := 107) (by decide) ?_
          refine s_iaddN X dX5_read_107 ?_
          refine a_istore X dX5_read_108 (by decide) rfl ?_
          refine a_aload_n X dX5_read_110 (i := 0) rfl rfl ?_
          refine a_iconst X dX5_read_111 (v := nI 0) (by decide +kernel) ?_
          refine a_aload_n X dX5_read_112 (i := 0) rfl rfl ?_
          refine s_getr X dX5_read_113 fl_X5_25 ko_43 rfl ?_
          refine s_callV_V X dX5_read_116 lk_X5_156 ko_43 rfl rfl (c_X5_moveAll_f K3.1 ki_49 (by decide) K3.2.1 (fun i hi => (ok.2.2.2 i hi).trans ((okR_pas okm kk).2.2.2 i hi).symm)) ⟨Nat.le_of_ble_eq_true rfl, Nat.le_of_ble_eq_true rfl⟩ rfl rfl (Nat.le_of_ble_eq_true rfl) ⟨Nat.le_of_ble_eq_true rfl, Nat.le_of_ble_eq_true rfl⟩ ?_
          refine a_iinc X dX5_read_119 rfl (v := nI (_ + 1)) (iincN _ 1) (by decide) rfl ?_
          refine a_goto X dX5_read_122 (tgt := 62) (by decide) ?_
          have := ih a b o b4 (k + 1) _ (by omega) rfl rfl rfl hr ha hbb hoo (by omega) (ahk_u K3 (by decide))
          first
            | (rw [show rdC R b o (fun i => J 53 (40 * a + i)) (Z a) (k + 1) = rdC R b o (fun i => J 53 (40 * a + i)) (Z a) k + 0 from (by rw [rdC, if_neg (by rw [hc99]; decide)])] at this; exact this)
            | (rw [show rdC R b o (fun i => J 53 (40 * a + i)) (Z a) (k + 1) = rdC R b o (fun i => J 53 (40 * a + i)) (Z a) k + 1 from (by rw [rdC, if_pos hc99])] at this; exact this)
  refine a_aload_n X dX5_read_0 (i := 0) rfl rfl ?_
  refine a_iload_n X dX5_read_1 (i := 1) rfl rfl ?_
  refine s_callV_R X dX5_read_2 lk_X5_273 ko_43 rfl rfl c_X5_badSheet ⟨Nat.le_of_ble_eq_true rfl, Nat.le_of_ble_eq_true rfl⟩ rfl rfl (Nat.le_of_ble_eq_true rfl) ⟨Nat.le_of_ble_eq_true rfl, Nat.le_of_ble_eq_true rfl⟩ ?_
  refine a_istore X dX5_read_5 (by decide) rfl ?_
  refine a_iload X dX5_read_7 rfl ?_
  refine a_if_eq X dX5_read_9 (tgt := 19) (by decide) (fun hc9 => ?_) (fun hc9 => ?_)
  · skip
    refine a_aload_n X dX5_read_19 (i := 0) rfl rfl ?_
    refine a_iload_n X dX5_read_20 (i := 2) rfl rfl ?_
    refine s_callV_R X dX5_read_21 lk_X5_124 ko_43 rfl rfl (c_X5_isOne hR) ⟨Nat.le_of_ble_eq_true rfl, Nat.le_of_ble_eq_true rfl⟩ rfl rfl (Nat.le_of_ble_eq_true rfl) ⟨Nat.le_of_ble_eq_true rfl, Nat.le_of_ble_eq_true rfl⟩ ?_
    refine a_if_eq X dX5_read_24 (tgt := 40) (by decide) (fun hc24 => ?_) (fun hc24 => ?_)
    · skip
      try simp only [bI_0, Bool.not_eq_false] at hc24
      refine a_aload_n X dX5_read_40 (i := 0) rfl rfl ?_
      refine a_ldc X dX5_read_41 kc_X5_50 ?_
      refine s_callV_R X dX5_read_43 lk_X5_67 ko_43 rfl rfl (c_X5_finds (k := 0) (by decide) (by decide +kernel)) ⟨Nat.le_of_ble_eq_true rfl, Nat.le_of_ble_eq_true rfl⟩ rfl rfl (Nat.le_of_ble_eq_true rfl) ⟨Nat.le_of_ble_eq_true rfl, Nat.le_of_ble_eq_true rfl⟩ ?_
      refine a_iret X hA dX5_read_46 ?_
      have hb := bd_0 hc9
      have hn0 : ∀ y z, ¬ (isM (R 1) y = true ∧ isM (R 1) z = true ∧ y ≠ z) → rdO I (R 1) x y z = some 0 := fun y z hh => by
        unfold rdO; rw [hb]; show (if _ then _ else _) = _; rw [if_neg hh]
      exact ⟨_, _, _, _, _, rfl, rfl, (fun q => by rw [hn0 _ _ (by first | exact (fun q => absurd q.1 (by rw [hc24]; decide)) | exact (fun q => absurd q.2.1 (by rw [hc32]; decide)) | exact (fun q => q.2.2 (by rw [hc37])))] at q; cases q), (fun i q => by rw [hn0 _ _ (by first | exact (fun q => absurd q.1 (by rw [hc24]; decide)) | exact (fun q => absurd q.2.1 (by rw [hc32]; decide)) | exact (fun q => q.2.2 (by rw [hc37])))] at q; cases q; exact ⟨by congr 1, rfl⟩), rfl, rfl, rfl⟩
    · skip
      try simp only [bI_0, Bool.not_eq_false] at hc24
      obtain ⟨b, hbb, rfl⟩ := isM_t (by omega) hc24
      refine a_aload_n X dX5_read_27 (i := 0) rfl rfl ?_
      refine a_iload_n X dX5_read_28 (i := 3) rfl rfl ?_
      refine s_callV_R X dX5_read_29 lk_X5_124 ko_43 rfl rfl (c_X5_isOne hR) ⟨Nat.le_of_ble_eq_true rfl, Nat.le_of_ble_eq_true rfl⟩ rfl rfl (Nat.le_of_ble_eq_true rfl) ⟨Nat.le_of_ble_eq_true rfl, Nat.le_of_ble_eq_true rfl⟩ ?_
      refine a_if_eq X dX5_read_32 (tgt := 40) (by decide) (fun hc32 => ?_) (fun hc32 => ?_)
      · skip
        try simp only [bI_0, Bool.not_eq_false] at hc32
        refine a_aload_n X dX5_read_40 (i := 0) rfl rfl ?_
        refine a_ldc X dX5_read_41 kc_X5_50 ?_
        refine s_callV_R X dX5_read_43 lk_X5_67 ko_43 rfl rfl (c_X5_finds (k := 0) (by decide) (by decide +kernel)) ⟨Nat.le_of_ble_eq_true rfl, Nat.le_of_ble_eq_true rfl⟩ rfl rfl (Nat.le_of_ble_eq_true rfl) ⟨Nat.le_of_ble_eq_true rfl, Nat.le_of_ble_eq_true rfl⟩ ?_
        refine a_iret X hA dX5_read_46 ?_
        have hb := bd_0 hc9
        have hn0 : ∀ y z, ¬ (isM (R 1) y = true ∧ isM (R 1) z = true ∧ y ≠ z) → rdO I (R 1) x y z = some 0 := fun y z hh => by
          unfold rdO; rw [hb]; show (if _ then _ else _) = _; rw [if_neg hh]
        exact ⟨_, _, _, _, _, rfl, rfl, (fun q => by rw [hn0 _ _ (by first | exact (fun q => absurd q.1 (by rw [hc24]; decide)) | exact (fun q => absurd q.2.1 (by rw [hc32]; decide)) | exact (fun q => q.2.2 (by rw [hc37])))] at q; cases q), (fun i q => by rw [hn0 _ _ (by first | exact (fun q => absurd q.1 (by rw [hc24]; decide)) | exact (fun q => absurd q.2.1 (by rw [hc32]; decide)) | exact (fun q => q.2.2 (by rw [hc37])))] at q; cases q; exact ⟨by congr 1, rfl⟩), rfl, rfl, rfl⟩
      · skip
        try simp only [bI_0, Bool.not_eq_false] at hc32
        obtain ⟨o, hoo, rfl⟩ := isM_t (by omega) hc32
        refine a_iload_n X dX5_read_35 (i := 2) rfl rfl ?_
        refine a_iload_n X dX5_read_36 (i := 3) rfl rfl ?_
        refine s_icmp_neN X dX5_read_37 (tgt := 47) (by decide) (by omega) (by omega) (fun hc37 => ?_) (fun hc37 => ?_)
        · skip
          refine a_iconst X dX5_read_47 (v := nI 0) (by decide +kernel) ?_
          refine a_istore X dX5_read_48 (by decide) rfl ?_
          refine a_aload_n X dX5_read_50 (i := 0) rfl rfl ?_
          refine a_iconst X dX5_read_51 (v := nI 1) (by decide +kernel) ?_
          refine a_aload_n X dX5_read_52 (i := 0) rfl rfl ?_
          refine s_getr X dX5_read_53 fl_X5_25 ko_43 rfl ?_
          refine s_callV_V X dX5_read_56 lk_X5_156 ko_43 rfl rfl (c_X5_moveAll_t ki_49 (by decide)) ⟨Nat.le_of_ble_eq_true rfl, Nat.le_of_ble_eq_true rfl⟩ rfl rfl (Nat.le_of_ble_eq_true rfl) ⟨Nat.le_of_ble_eq_true rfl, Nat.le_of_ble_eq_true rfl⟩ ?_
          refine a_iconst X dX5_read_59 (v := nI 0) (by decide +kernel) ?_
          refine a_istore X dX5_read_60 (by decide) rfl ?_
          have hb := bd_0 hc9
          have hr : rdO I (R 1) x (nI b) (nI o) = none := by unfold rdO; rw [hb]; show (if _ then _ else _) = _; rw [if_pos ⟨hc24, hc32, fun q => hc37 ((nI_eq (by omega) (by omega)).mp q)⟩]
          obtain ⟨a, ha, rfl, -⟩ := bd_n hb
          exact L62 37 a b o (bdV I (nI a)) 0 _ (by omega) rfl rfl rfl hr ha hbb hoo (by omega) (ahk_0 (Q := 49) hR (by decide))
        · skip
          refine a_aload_n X dX5_read_40 (i := 0) rfl rfl ?_
          refine a_ldc X dX5_read_41 kc_X5_50 ?_
          refine s_callV_R X dX5_read_43 lk_X5_67 ko_43 rfl rfl (c_X5_finds (k := 0) (by decide) (by decide +kernel)) ⟨Nat.le_of_ble_eq_true rfl, Nat.le_of_ble_eq_true rfl⟩ rfl rfl (Nat.le_of_ble_eq_true rfl) ⟨Nat.le_of_ble_eq_true rfl, Nat.le_of_ble_eq_true rfl⟩ ?_
          refine a_iret X hA dX5_read_46 ?_
          have hb := bd_0 hc9
          have hn0 : ∀ y z, ¬ (isM (R 1) y = true ∧ isM (R 1) z = true ∧ y ≠ z) → rdO I (R 1) x y z = some 0 := fun y z hh => by
            unfold rdO; rw [hb]; show (if _ then _ else _) = _; rw [if_neg hh]
          exact ⟨_, _, _, _, _, rfl, rfl, (fun q => by rw [hn0 _ _ (by first | exact (fun q => absurd q.1 (by rw [hc24]; decide)) | exact (fun q => absurd q.2.1 (by rw [hc32]; decide)) | exact (fun q => q.2.2 (by rw [hc37])))] at q; cases q), (fun i q => by rw [hn0 _ _ (by first | exact (fun q => absurd q.1 (by rw [hc24]; decide)) | exact (fun q => absurd q.2.1 (by rw [hc32]; decide)) | exact (fun q => q.2.2 (by rw [hc37])))] at q; cases q; exact ⟨by congr 1, rfl⟩), rfl, rfl, rfl⟩
  · skip
    obtain ⟨kk, hb, hbv, hk7, hkx⟩ := bd_1 hc9
    rw [hbv]
    refine a_aload_n X dX5_read_12 (i := 0) rfl rfl ?_
    refine a_iload X dX5_read_13 rfl ?_
    refine s_callV_R X dX5_read_15 lk_X5_67 ko_43 rfl rfl (c_X5_finds hk7 hkx) ⟨Nat.le_of_ble_eq_true rfl, Nat.le_of_ble_eq_true rfl⟩ rfl rfl (Nat.le_of_ble_eq_true rfl) ⟨Nat.le_of_ble_eq_true rfl, Nat.le_of_ble_eq_true rfl⟩ ?_
    refine a_iret X hA dX5_read_18 ?_
    exact ⟨_, _, _, _, _, rfl, rfl, (fun q => by unfold rdO at q; rw [hb] at q; cases q), (fun i q => by unfold rdO at q; rw [hb] at q; cases q; exact ⟨rfl, rfl⟩), rfl, rfl, rfl⟩
