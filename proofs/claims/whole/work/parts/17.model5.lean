set_option maxRecDepth 100000 in
set_option maxHeartbeats 4000000 in
theorem c_X5_deep {l : Launch} {g : GG} {I : TI} {J : TJ} {F : TI} {w : Int64} {R : Nat → Nat} (hR : I 44 = nr R) (ok : okR R) {x y z : Int32} (hN : R 0 < 1000000) : RV l g mX5_deep [.ref (ga g 43), .int x, .int y, .int z] I J F w (MdR I J F w (sp_deep R x y z)) := by
  have hn10 := ok.1
  refine ct_start (M := mX5_deep) (by decide +kernel) (Nat.le_of_ble_eq_true rfl) ?_
  intro p e s m args below meth c A X hA
  have X : AX p s m args meth c g A cX5_deep 7 RX5 (Cond.code yX5_deep cX5_deep 7 (some .int)) (some .int) := X
  show AW p l e (rmM 8 182) s m args below meth c g A 7 0 0 (MQ below (CQ g (hp g I J F w) s.heap.size (fun vv0 hh0 => ∃ xx0 II0 JJ0 FF0 ww0, vv0 = some xx0 ∧ hh0 = hp g II0 JJ0 FF0 ww0 ∧ (MdR I J F w (sp_deep R x y z)) xx0 II0 JJ0 FF0 ww0)) args s 0 0 A) 0 [some (.ref (ga g 43)), some (.int x), some (.int y), some (.int z), none, none, none] [] (hp g I J F w)
  have L61 : ∀ (fu : Nat) (a : Nat) (b : Nat) (j : Nat) (k : Nat) (u : Bool) (I1 : TI), 9 - k < fu → (x = nI a) → (y = nI b) → (z = nI j) → (isM (R 1) x = true ∧ isM (R 1) y = true ∧ x ≠ y ∧ inB z (nI 0) (nI 40) = true) → (a < R 1) → (b < R 1) → (j ≤ 40) → (k ≤ 9) → (AhK 48 I R R I1) → ((u = false ∧ firF (depP R a b j) (9 - k) (k + 1) = firF (depP R a b j) 9 1) ∨ (u = true ∧ firF (depP R a b j) 9 1 = some k)) → AW p l e (rmM 8 182) s m args below meth c g A 7 0 0 (MQ below (CQ g (hp g I J F w) s.heap.size (fun vv0 hh0 => ∃ xx0 II0 JJ0 FF0 ww0, vv0 = some xx0 ∧ hh0 = hp g II0 JJ0 FF0 ww0 ∧ (MdR I J F w (sp_deep R x y z)) xx0 II0 JJ0 FF0 ww0)) args s 0 0 A) 61 [some (.ref (ga g 43)), some (.int (nI a)), some (.int (nI b)), some (.int (nI j)), some (.int (nI (R (2 + 6 * a + 2)))), some (.int (nI k)), some (.int (bI u))] [] (hp g I1 J F w) := by
    intro fu
    induction fu with
    | zero => intro a b j k u I1 hfu; exact absurd hfu (by omega)
    | succ fu ih =>
      intro a b j k u I1 hfu hx hy hz hall ha hb hj hk K hu
      subst hx; subst hy; subst hz
      obtain ⟨g0, g1, g2, g3, g4, g5⟩ := ok.2.1 a ha
      refine a_iload X dX5_deep_61 rfl ?_
      refine a_bipush X dX5_deep_63 (v := nI 9) (by decide +kernel) ?_
      refine s_icmp_geN X dX5_deep_65 (tgt := 109) (by decide) (by omega) (by omega) (fun hc65 => ?_) (fun hc65 => ?_)
      · skip
        refine a_iload X dX5_deep_109 rfl ?_
        refine a_if_eq X dX5_deep_111 (tgt := 119) (by decide) (fun hc111 => ?_) (fun hc111 => ?_)
        · skip
          try simp only [bI_0, Bool.not_eq_false] at hc111
          refine a_aload_n X dX5_deep_119 (i := 0) rfl rfl ?_
          refine a_ldc X dX5_deep_120 kc_X5_92 ?_
          refine s_callV_R X dX5_deep_122 lk_X5_67 ko_43 rfl rfl (c_X5_finds (k := 3) (by decide) (by decide +kernel)) ⟨Nat.le_of_ble_eq_true rfl, Nat.le_of_ble_eq_true rfl⟩ rfl rfl (Nat.le_of_ble_eq_true rfl) ⟨Nat.le_of_ble_eq_true rfl, Nat.le_of_ble_eq_true rfl⟩ ?_
          refine a_iret X hA dX5_deep_125 ?_
          rcases hu with ⟨q1, q2⟩ | ⟨q1, q2⟩
          · first
              | (rw [q1] at hc111; cases hc111; done)
              | (rw [q1] at hc70; cases hc70; done)
              | exact ⟨_, _, _, _, _, rfl, rfl, md_find (K.S (Or.inl rfl)) (k := 3) (by decide +kernel) (by rw [sp_deep, if_pos hall, cl_n (show a < 2 ^ 31 by omega), cl_n (show b < 2 ^ 31 by omega), cl_n (show j < 2 ^ 31 by omega), ← q2, show k = 9 by omega]; rfl)⟩
          · first
              | (rw [q1] at hc111; cases hc111; done)
              | exact ⟨_, _, _, _, _, rfl, rfl, md_val (K.S (Or.inl rfl)) (by rw [sp_deep, if_pos hall, cl_n (show a < 2 ^ 31 by omega), cl_n (show b < 2 ^ 31 by omega), cl_n (show j < 2 ^ 31 by omega), q2, firSP_s])⟩
        · skip
          try simp only [bI_0, Bool.not_eq_false] at hc111
          refine a_iload X dX5_deep_114 rfl ?_
          refine a_goto X dX5_deep_116 (tgt := 125) (by decide) ?_
          refine a_iret X hA dX5_deep_125 ?_
          rcases hu with ⟨q1, q2⟩ | ⟨q1, q2⟩
          · first
              | (rw [q1] at hc111; cases hc111; done)
              | (rw [q1] at hc70; cases hc70; done)
              | exact ⟨_, _, _, _, _, rfl, rfl, md_find (K.S (Or.inl rfl)) (k := 3) (by decide +kernel) (by rw [sp_deep, if_pos hall, cl_n (show a < 2 ^ 31 by omega), cl_n (show b < 2 ^ 31 by omega), cl_n (show j < 2 ^ 31 by omega), ← q2, show k = 9 by omega]; rfl)⟩
          · first
              | (rw [q1] at hc111; cases hc111; done)
              | exact ⟨_, _, _, _, _, rfl, rfl, md_val (K.S (Or.inl rfl)) (by rw [sp_deep, if_pos hall, cl_n (show a < 2 ^ 31 by omega), cl_n (show b < 2 ^ 31 by omega), cl_n (show j < 2 ^ 31 by omega), q2, firSP_s])⟩
      · skip
        refine a_iload X dX5_deep_68 rfl ?_
        refine a_if_ne X dX5_deep_70 (tgt := 109) (by decide) (fun hc70 => ?_) (fun hc70 => ?_)
        · skip
          try simp only [bI_0, Bool.not_eq_false] at hc70
          refine a_iload X dX5_deep_109 rfl ?_
          refine a_if_eq X dX5_deep_111 (tgt := 119) (by decide) (fun hc111 => ?_) (fun hc111 => ?_)
          · skip
            try simp only [bI_0, Bool.not_eq_false] at hc111
            refine a_aload_n X dX5_deep_119 (i := 0) rfl rfl ?_
            refine a_ldc X dX5_deep_120 kc_X5_92 ?_
            refine s_callV_R X dX5_deep_122 lk_X5_67 ko_43 rfl rfl (c_X5_finds (k := 3) (by decide) (by decide +kernel)) ⟨Nat.le_of_ble_eq_true rfl, Nat.le_of_ble_eq_true rfl⟩ rfl rfl (Nat.le_of_ble_eq_true rfl) ⟨Nat.le_of_ble_eq_true rfl, Nat.le_of_ble_eq_true rfl⟩ ?_
            refine a_iret X hA dX5_deep_125 ?_
            rcases hu with ⟨q1, q2⟩ | ⟨q1, q2⟩
            · first
                | (rw [q1] at hc111; cases hc111; done)
                | (rw [q1] at hc70; cases hc70; done)
                | exact ⟨_, _, _, _, _, rfl, rfl, md_find (K.S (Or.inl rfl)) (k := 3) (by decide +kernel) (by rw [sp_deep, if_pos hall, cl_n (show a < 2 ^ 31 by omega), cl_n (show b < 2 ^ 31 by omega), cl_n (show j < 2 ^ 31 by omega), ← q2, show k = 9 by omega]; rfl)⟩
            · first
                | (rw [q1] at hc111; cases hc111; done)
                | exact ⟨_, _, _, _, _, rfl, rfl, md_val (K.S (Or.inl rfl)) (by rw [sp_deep, if_pos hall, cl_n (show a < 2 ^ 31 by omega), cl_n (show b < 2 ^ 31 by omega), cl_n (show j < 2 ^ 31 by omega), q2, firSP_s])⟩
          · skip
            try simp only [bI_0, Bool.not_eq_false] at hc111
            refine a_iload X dX5_deep_114 rfl ?_
            refine a_goto X dX5_deep_116 (tgt := 125) (by decide) ?_
            refine a_iret X hA dX5_deep_125 ?_
            rcases hu with ⟨q1, q2⟩ | ⟨q1, q2⟩
            · first
                | (rw [q1] at hc111; cases hc111; done)
                | (rw [q1] at hc70; cases hc70; done)
                | exact ⟨_, _, _, _, _, rfl, rfl, md_find (K.S (Or.inl rfl)) (k := 3) (by decide +kernel) (by rw [sp_deep, if_pos hall, cl_n (show a < 2 ^ 31 by omega), cl_n (show b < 2 ^ 31 by omega), cl_n (show j < 2 ^ 31 by omega), ← q2, show k = 9 by omega]; rfl)⟩
            · first
                | (rw [q1] at hc111; cases hc111; done)
                | exact ⟨_, _, _, _, _, rfl, rfl, md_val (K.S (Or.inl rfl)) (by rw [sp_deep, if_pos hall, cl_n (show a < 2 ^ 31 by omega), cl_n (show b < 2 ^ 31 by omega), cl_n (show j < 2 ^ 31 by omega), q2, firSP_s])⟩
        · skip
          try simp only [bI_0, Bool.not_eq_false] at hc70
          refine a_iinc X dX5_deep_73 rfl (v := nI (_ + 1)) (iincN _ 1) (by decide) rfl ?_
          have okm := ok_put (j := 3) (v := k + 1) ok ha (by decide) (by omega) (by decide) (by omega) (by omega) (by omega) (by omega)
          refine a_aload_n X dX5_deep_76 (i := 0) rfl rfl ?_
          refine a_iload_n X dX5_deep_77 (i := 1) rfl rfl ?_
          refine a_iconst X dX5_deep_78 (v := nI 3) (by decide +kernel) ?_
          refine a_iload X dX5_deep_79 rfl ?_
          refine s_callV_V X dX5_deep_81 lk_X5_108 ko_43 rfl rfl (c_X5_puts K.1 (by omega)) ⟨Nat.le_of_ble_eq_true rfl, Nat.le_of_ble_eq_true rfl⟩ rfl rfl (Nat.le_of_ble_eq_true rfl) ⟨Nat.le_of_ble_eq_true rfl, Nat.le_of_ble_eq_true rfl⟩ ?_
          refine a_aload_n X dX5_deep_84 (i := 0) rfl rfl ?_
          refine a_iload_n X dX5_deep_85 (i := 2) rfl rfl ?_
          refine a_iload_n X dX5_deep_86 (i := 3) rfl rfl ?_
          refine s_callV_X X dX5_deep_87 lk_X5_170 ko_43 rfl rfl (c_X5_knowsBehind (a := b) (n := j) (up_s _ _ _) okm (by rw [up_n _ _ (by omega)]; exact hb) (by rw [up_n _ _ (by omega)]; omega) (ahk_u K (by decide)).2.1 ok.2.2.2) ⟨Nat.le_of_ble_eq_true rfl, Nat.le_of_ble_eq_true rfl⟩ rfl rfl (Nat.le_of_ble_eq_true rfl) ⟨Nat.le_of_ble_eq_true rfl, Nat.le_of_ble_eq_true rfl⟩ (fun x2 I2 J2 F2 w2 hpo => ?_)
          obtain ⟨rfl, hm⟩ := hpo
          have K3 := ahk_m (ahk_u K (by decide)) (Or.inl rfl) hm
          obtain ⟨-, -, rfl, rfl, rfl⟩ := hm
          have hq1 := ((okR_pas okm j).2.1 b (by rw [pas_1, up_n _ _ (by omega)]; exact hb)).2.2.2.2.1
          refine a_iload X dX5_deep_90 rfl ?_
          refine a_ishr X dX5_deep_92 ?_
          refine a_iconst X dX5_deep_93 (v := nI 1) (by decide +kernel) ?_
          refine a_iand X dX5_deep_94 ?_
          refine a_iconst X dX5_deep_95 (v := nI 1) (by decide +kernel) ?_
          refine a_icmp_ne X dX5_deep_96 (tgt := 103) (by decide) (fun hc96 => ?_) (fun hc96 => ?_)
          · skip
            refine a_iconst X dX5_deep_103 (v := nI 0) (by decide +kernel) ?_
            refine a_istore X dX5_deep_104 (by decide) rfl ?_
            refine a_goto X dX5_deep_106 (tgt := 61) (by decide) ?_
            have hfir : firF (depP R a b j) (9 - k) (k + 1) = firF (depP R a b j) 9 1 := by
              rcases hu with q1 | q1
              · exact q1.2
              · rw [q1.1] at hc70; cases hc70
            by_cases hd : depP R a b j (k + 1) = true
            · have hz1 := (set_bit _ g2 _ hq1).mpr hd
              first
                | exact absurd hz1 hc96
                | (have := ih a b j (k + 1) true I2 (by omega) rfl rfl rfl hall ha hb hj (by omega) K3 (Or.inr ⟨rfl, hfir.symm.trans (by have := fir_hit (p := depP R a b j) (k := k + 1) (n := 10) (by omega) hd; rwa [show 10 - (k + 1) = 9 - k by omega] at this)⟩)
                   rw [bI_t] at this
                   exact this)
            · have hd2 : depP R a b j (k + 1) = false := by simpa using hd
              have hz0 : ¬ _ := fun z => hd ((set_bit _ g2 _ hq1).mp z)
              first
                | exact absurd hc96 hz0
                | (have := ih a b j (k + 1) false I2 (by omega) rfl rfl rfl hall ha hb hj (by omega) K3 (Or.inl ⟨rfl, (by have := fir_go (p := depP R a b j) (k := k + 1) (n := 10) (by omega) hd2; rw [show 10 - (k + 1) = 9 - k by omega, show 10 - (k + 1 + 1) = 9 - (k + 1) by omega] at this; exact this.symm.trans hfir)⟩)
                   rw [bI_f] at this
                   exact this)
          · skip
            refine a_iconst X dX5_deep_99 (v := nI 1) (by decide +kernel) ?_
            refine a_goto X dX5_deep_100 (tgt := 104) (by decide) ?_
            refine a_istore X dX5_deep_104 (by decide) rfl ?_
            refine a_goto X dX5_deep_106 (tgt := 61) (by decide) ?_
            have hfir : firF (depP R a b j) (9 - k) (k + 1) = firF (depP R a b j) 9 1 := by
              rcases hu with q1 | q1
              · exact q1.2
              · rw [q1.1] at hc70; cases hc70
            by_cases hd : depP R a b j (k + 1) = true
            · have hz1 := (set_bit _ g2 _ hq1).mpr hd
              first
                | exact absurd hz1 hc96
                | (have := ih a b j (k + 1) true I2 (by omega) rfl rfl rfl hall ha hb hj (by omega) K3 (Or.inr ⟨rfl, hfir.symm.trans (by have := fir_hit (p := depP R a b j) (k := k + 1) (n := 10) (by omega) hd; rwa [show 10 - (k + 1) = 9 - k by omega] at this)⟩)
                   rw [bI_t] at this
                   exact this)
            · have hd2 : depP R a b j (k + 1) = false := by simpa using hd
              have hz0 : ¬ _ := fun z => hd ((set_bit _ g2 _ hq1).mp z)
              first
                | exact absurd hc96 hz0
                | (have := ih a b j (k + 1) false I2 (by omega) rfl rfl rfl hall ha hb hj (by omega) K3 (Or.inl ⟨rfl, (by have := fir_go (p := depP R a b j) (k := k + 1) (n := 10) (by omega) hd2; rw [show 10 - (k + 1) = 9 - k by omega, show 10 - (k + 1 + 1) = 9 - (k + 1) by omega] at this; exact this.symm.trans hfir)⟩)
                   rw [bI_f] at this
                   exact this)
  refine a_aload_n X dX5_deep_0 (i := 0) rfl rfl ?_
  refine a_iload_n X dX5_deep_1 (i := 1) rfl rfl ?_
  refine s_callV_R X dX5_deep_2 lk_X5_124 ko_43 rfl rfl (c_X5_isOne hR) ⟨Nat.le_of_ble_eq_true rfl, Nat.le_of_ble_eq_true rfl⟩ rfl rfl (Nat.le_of_ble_eq_true rfl) ⟨Nat.le_of_ble_eq_true rfl, Nat.le_of_ble_eq_true rfl⟩ ?_
  refine a_if_eq X dX5_deep_5 (tgt := 31) (by decide) (fun hc5 => ?_) (fun hc5 => ?_)
  · skip
    try simp only [bI_0, Bool.not_eq_false] at hc5
    refine a_aload_n X dX5_deep_31 (i := 0) rfl rfl ?_
    refine a_ldc X dX5_deep_32 kc_X5_50 ?_
    refine s_callV_R X dX5_deep_34 lk_X5_67 ko_43 rfl rfl (c_X5_finds (k := 0) (by decide) (by decide +kernel)) ⟨Nat.le_of_ble_eq_true rfl, Nat.le_of_ble_eq_true rfl⟩ rfl rfl (Nat.le_of_ble_eq_true rfl) ⟨Nat.le_of_ble_eq_true rfl, Nat.le_of_ble_eq_true rfl⟩ ?_
    refine a_iret X hA dX5_deep_37 ?_
    first | exact ⟨_, _, _, _, _, rfl, rfl, md_find (ah_0 hR) (k := 0) (by decide +kernel) (by rw [sp_deep, if_neg (by simp [*])])⟩ | exact ⟨_, _, _, _, _, rfl, rfl, md_find (ah_0 hR) (k := 0) (by decide +kernel) (by rw [sp_deep, if_neg (fun q => q.2.2.1 (by rw [hc18]))])⟩
  · skip
    try simp only [bI_0, Bool.not_eq_false] at hc5
    obtain ⟨a, ha, rfl⟩ := isM_t (by omega) hc5
    obtain ⟨g0, g1, g2, g3, g4, g5⟩ := ok.2.1 a ha
    refine a_aload_n X dX5_deep_8 (i := 0) rfl rfl ?_
    refine a_iload_n X dX5_deep_9 (i := 2) rfl rfl ?_
    refine s_callV_R X dX5_deep_10 lk_X5_124 ko_43 rfl rfl (c_X5_isOne hR) ⟨Nat.le_of_ble_eq_true rfl, Nat.le_of_ble_eq_true rfl⟩ rfl rfl (Nat.le_of_ble_eq_true rfl) ⟨Nat.le_of_ble_eq_true rfl, Nat.le_of_ble_eq_true rfl⟩ ?_
    refine a_if_eq X dX5_deep_13 (tgt := 31) (by decide) (fun hc13 => ?_) (fun hc13 => ?_)
    · skip
      try simp only [bI_0, Bool.not_eq_false] at hc13
      refine a_aload_n X dX5_deep_31 (i := 0) rfl rfl ?_
      refine a_ldc X dX5_deep_32 kc_X5_50 ?_
      refine s_callV_R X dX5_deep_34 lk_X5_67 ko_43 rfl rfl (c_X5_finds (k := 0) (by decide) (by decide +kernel)) ⟨Nat.le_of_ble_eq_true rfl, Nat.le_of_ble_eq_true rfl⟩ rfl rfl (Nat.le_of_ble_eq_true rfl) ⟨Nat.le_of_ble_eq_true rfl, Nat.le_of_ble_eq_true rfl⟩ ?_
      refine a_iret X hA dX5_deep_37 ?_
      first | exact ⟨_, _, _, _, _, rfl, rfl, md_find (ah_0 hR) (k := 0) (by decide +kernel) (by rw [sp_deep, if_neg (by simp [*])])⟩ | exact ⟨_, _, _, _, _, rfl, rfl, md_find (ah_0 hR) (k := 0) (by decide +kernel) (by rw [sp_deep, if_neg (fun q => q.2.2.1 (by rw [hc18]))])⟩
    · skip
      try simp only [bI_0, Bool.not_eq_false] at hc13
      obtain ⟨b, hb, rfl⟩ := isM_t (by omega) hc13
      refine a_iload_n X dX5_deep_16 (i := 1) rfl rfl ?_
      refine a_iload_n X dX5_deep_17 (i := 2) rfl rfl ?_
      refine s_icmp_eqN X dX5_deep_18 (tgt := 31) (by decide) (by omega) (by omega) (fun hc18 => ?_) (fun hc18 => ?_)
      · skip
        refine a_aload_n X dX5_deep_31 (i := 0) rfl rfl ?_
        refine a_ldc X dX5_deep_32 kc_X5_50 ?_
        refine s_callV_R X dX5_deep_34 lk_X5_67 ko_43 rfl rfl (c_X5_finds (k := 0) (by decide) (by decide +kernel)) ⟨Nat.le_of_ble_eq_true rfl, Nat.le_of_ble_eq_true rfl⟩ rfl rfl (Nat.le_of_ble_eq_true rfl) ⟨Nat.le_of_ble_eq_true rfl, Nat.le_of_ble_eq_true rfl⟩ ?_
        refine a_iret X hA dX5_deep_37 ?_
        first | exact ⟨_, _, _, _, _, rfl, rfl, md_find (ah_0 hR) (k := 0) (by decide +kernel) (by rw [sp_deep, if_neg (by simp [*])])⟩ | exact ⟨_, _, _, _, _, rfl, rfl, md_find (ah_0 hR) (k := 0) (by decide +kernel) (by rw [sp_deep, if_neg (fun q => q.2.2.1 (by rw [hc18]))])⟩
      · skip
        refine a_iload_n X dX5_deep_21 (i := 3) rfl rfl ?_
        refine a_iconst X dX5_deep_22 (v := nI 0) (by decide +kernel) ?_
        refine a_bipush X dX5_deep_23 (v := nI 40) (by decide +kernel) ?_
        refine s_callS_R X dX5_deep_25 lk_X5_51 c_X5_in ⟨Nat.le_of_ble_eq_true rfl, Nat.le_of_ble_eq_true rfl⟩ rfl rfl (Nat.le_of_ble_eq_true rfl) ⟨Nat.le_of_ble_eq_true rfl, Nat.le_of_ble_eq_true rfl⟩ ?_
        refine a_if_ne X dX5_deep_28 (tgt := 38) (by decide) (fun hc28 => ?_) (fun hc28 => ?_)
        · skip
          try simp only [bI_0, Bool.not_eq_false] at hc28
          obtain ⟨j, hj0, hj, rfl⟩ := inB_r (by decide) (by decide) hc28
          refine a_aload_n X dX5_deep_38 (i := 0) rfl rfl ?_
          refine a_iconst X dX5_deep_39 (v := nI 1) (by decide +kernel) ?_
          refine a_aload_n X dX5_deep_40 (i := 0) rfl rfl ?_
          refine s_getr X dX5_deep_41 fl_X5_22 ko_43 rfl ?_
          refine s_callV_V X dX5_deep_44 lk_X5_156 ko_43 rfl rfl (c_X5_moveAll_t ki_48 (by decide)) ⟨Nat.le_of_ble_eq_true rfl, Nat.le_of_ble_eq_true rfl⟩ rfl rfl (Nat.le_of_ble_eq_true rfl) ⟨Nat.le_of_ble_eq_true rfl, Nat.le_of_ble_eq_true rfl⟩ ?_
          refine a_aload_n X dX5_deep_47 (i := 0) rfl rfl ?_
          refine a_iload_n X dX5_deep_48 (i := 1) rfl rfl ?_
          refine a_iconst X dX5_deep_49 (v := nI 2) (by decide +kernel) ?_
          refine s_callV_R X dX5_deep_50 lk_X5_55 ko_43 rfl rfl (c_X5_its (ahk_0 (Q := 48) hR (by decide)).1 (by omega)) ⟨Nat.le_of_ble_eq_true rfl, Nat.le_of_ble_eq_true rfl⟩ rfl rfl (Nat.le_of_ble_eq_true rfl) ⟨Nat.le_of_ble_eq_true rfl, Nat.le_of_ble_eq_true rfl⟩ ?_
          refine a_istore X dX5_deep_53 (by decide) rfl ?_
          refine a_iconst X dX5_deep_55 (v := nI 0) (by decide +kernel) ?_
          refine a_istore X dX5_deep_56 (by decide) rfl ?_
          refine a_iconst X dX5_deep_58 (v := nI 0) (by decide +kernel) ?_
          refine a_istore X dX5_deep_59 (by decide) rfl ?_
          exact (by have := L61 10 a b j 0 false _ (by omega) rfl rfl rfl ⟨hc5, hc13, fun z => hc18 ((nI_eq (by omega) (by omega)).mp z), hc28⟩ ha hb (by omega) (by omega) (ahk_0 (Q := 48) hR (by decide)) (Or.inl ⟨rfl, rfl⟩); rw [bI_f] at this; exact this)
        · skip
          try simp only [bI_0, Bool.not_eq_false] at hc28
          refine a_aload_n X dX5_deep_31 (i := 0) rfl rfl ?_
          refine a_ldc X dX5_deep_32 kc_X5_50 ?_
          refine s_callV_R X dX5_deep_34 lk_X5_67 ko_43 rfl rfl (c_X5_finds (k := 0) (by decide) (by decide +kernel)) ⟨Nat.le_of_ble_eq_true rfl, Nat.le_of_ble_eq_true rfl⟩ rfl rfl (Nat.le_of_ble_eq_true rfl) ⟨Nat.le_of_ble_eq_true rfl, Nat.le_of_ble_eq_true rfl⟩ ?_
          refine a_iret X hA dX5_deep_37 ?_
          first | exact ⟨_, _, _, _, _, rfl, rfl, md_find (ah_0 hR) (k := 0) (by decide +kernel) (by rw [sp_deep, if_neg (by simp [*])])⟩ | exact ⟨_, _, _, _, _, rfl, rfl, md_find (ah_0 hR) (k := 0) (by decide +kernel) (by rw [sp_deep, if_neg (fun q => q.2.2.1 (by rw [hc18]))])⟩
set_option maxRecDepth 100000 in
set_option maxHeartbeats 4000000 in
theorem c_X5_bears {l : Launch} {g : GG} {I : TI} {J : TJ} {F : TI} {w : Int64} {R : Nat → Nat} (hR : I 44 = nr R) (ok : okR R) {x y z : Int32} (hN : R 0 < 1000000) : RV l g mX5_bears [.ref (ga g 43), .int x, .int y, .int z] I J F w (MdR I J F w (sp_bears R x y z)) := by
  have hn10 := ok.1
  refine ct_start (M := mX5_bears) (by decide +kernel) (Nat.le_of_ble_eq_true rfl) ?_
  intro p e s m args below meth c A X hA
  have X : AX p s m args meth c g A cX5_bears 6 RX5 (Cond.code yX5_bears cX5_bears 6 (some .int)) (some .int) := X
  show AW p l e (rmM 8 182) s m args below meth c g A 6 0 0 (MQ below (CQ g (hp g I J F w) s.heap.size (fun vv0 hh0 => ∃ xx0 II0 JJ0 FF0 ww0, vv0 = some xx0 ∧ hh0 = hp g II0 JJ0 FF0 ww0 ∧ (MdR I J F w (sp_bears R x y z)) xx0 II0 JJ0 FF0 ww0)) args s 0 0 A) 0 [some (.ref (ga g 43)), some (.int x), some (.int y), some (.int z), none, none] [] (hp g I J F w)
  have L51 : ∀ (fu : Nat) (a : Nat) (j : Nat) (b : Nat) (k : Nat) (u : Bool) (I1 : TI), k < fu → (x = nI a) → (y = nI j) → (z = nI b) → (isM (R 1) x = true ∧ inB y (nI 0) (nI 40) = true ∧ inB z (nI 0) (nI 10) = true) → (a < R 1) → (j ≤ 40) → (b ≤ 10) → (k ≤ 100) → (AhK 48 I R R I1) → ((u = false ∧ dnF (beaP R a j b) k = dnF (beaP R a j b) 100) ∨ (u = true ∧ dnF (beaP R a j b) 100 = some k)) → AW p l e (rmM 8 182) s m args below meth c g A 6 0 0 (MQ below (CQ g (hp g I J F w) s.heap.size (fun vv0 hh0 => ∃ xx0 II0 JJ0 FF0 ww0, vv0 = some xx0 ∧ hh0 = hp g II0 JJ0 FF0 ww0 ∧ (MdR I J F w (sp_bears R x y z)) xx0 II0 JJ0 FF0 ww0)) args s 0 0 A) 51 [some (.ref (ga g 43)), some (.int (nI a)), some (.int (nI j)), some (.int (nI b)), some (.int (nI k)), some (.int (bI u))] [] (hp g I1 J F w) := by
    intro fu
    induction fu with
    | zero => intro a j b k u I1 hfu; exact absurd hfu (by omega)
    | succ fu ih =>
      intro a j b k u I1 hfu hx hy hz hall ha hj hb hk K hu
      subst hx; subst hy; subst hz
      obtain ⟨g0, g1, g2, g3, g4, g5⟩ := ok.2.1 a ha
      refine a_iload X dX5_bears_51 rfl ?_
      refine a_if_le X dX5_bears_53 (tgt := 95) (by decide) (fun hc53 => ?_) (fun hc53 => ?_)
      · skip
        have hk0 : k = 0 := nI_le0 (by omega) hc53
        refine a_iload X dX5_bears_95 rfl ?_
        refine a_if_eq X dX5_bears_97 (tgt := 105) (by decide) (fun hc97 => ?_) (fun hc97 => ?_)
        · skip
          try simp only [bI_0, Bool.not_eq_false] at hc97
          refine a_aload_n X dX5_bears_105 (i := 0) rfl rfl ?_
          refine a_ldc X dX5_bears_106 kc_X5_92 ?_
          refine s_callV_R X dX5_bears_108 lk_X5_67 ko_43 rfl rfl (c_X5_finds (k := 3) (by decide) (by decide +kernel)) ⟨Nat.le_of_ble_eq_true rfl, Nat.le_of_ble_eq_true rfl⟩ rfl rfl (Nat.le_of_ble_eq_true rfl) ⟨Nat.le_of_ble_eq_true rfl, Nat.le_of_ble_eq_true rfl⟩ ?_
          refine a_iret X hA dX5_bears_111 ?_
          rcases hu with ⟨q1, q2⟩ | ⟨q1, q2⟩
          · first
              | (rw [q1] at hc97; cases hc97; done)
              | (rw [q1] at hc58; cases hc58; done)
              | exact ⟨_, _, _, _, _, rfl, rfl, md_find (K.S (Or.inl rfl)) (k := 3) (by decide +kernel) (by rw [sp_bears, if_pos hall, cl_n (show a < 2 ^ 31 by omega), cl_n (show j < 2 ^ 31 by omega), cl_n (show b < 2 ^ 31 by omega), ← q2, hk0]; rfl)⟩
          · first
              | (rw [q1] at hc97; cases hc97; done)
              | exact ⟨_, _, _, _, _, rfl, rfl, md_val (K.S (Or.inl rfl)) (by rw [sp_bears, if_pos hall, cl_n (show a < 2 ^ 31 by omega), cl_n (show j < 2 ^ 31 by omega), cl_n (show b < 2 ^ 31 by omega), q2, firSP_s])⟩
        · skip
          try simp only [bI_0, Bool.not_eq_false] at hc97
          refine a_iload X dX5_bears_100 rfl ?_
          refine a_goto X dX5_bears_102 (tgt := 111) (by decide) ?_
          refine a_iret X hA dX5_bears_111 ?_
          rcases hu with ⟨q1, q2⟩ | ⟨q1, q2⟩
          · first
              | (rw [q1] at hc97; cases hc97; done)
              | (rw [q1] at hc58; cases hc58; done)
              | exact ⟨_, _, _, _, _, rfl, rfl, md_find (K.S (Or.inl rfl)) (k := 3) (by decide +kernel) (by rw [sp_bears, if_pos hall, cl_n (show a < 2 ^ 31 by omega), cl_n (show j < 2 ^ 31 by omega), cl_n (show b < 2 ^ 31 by omega), ← q2, hk0]; rfl)⟩
          · first
              | (rw [q1] at hc97; cases hc97; done)
              | exact ⟨_, _, _, _, _, rfl, rfl, md_val (K.S (Or.inl rfl)) (by rw [sp_bears, if_pos hall, cl_n (show a < 2 ^ 31 by omega), cl_n (show j < 2 ^ 31 by omega), cl_n (show b < 2 ^ 31 by omega), q2, firSP_s])⟩
      · skip
        have hk0 := nI_gt0 hc53
        refine a_iload X dX5_bears_56 rfl ?_
        refine a_if_ne X dX5_bears_58 (tgt := 95) (by decide) (fun hc58 => ?_) (fun hc58 => ?_)
        · skip
          try simp only [bI_0, Bool.not_eq_false] at hc58
          refine a_iload X dX5_bears_95 rfl ?_
          refine a_if_eq X dX5_bears_97 (tgt := 105) (by decide) (fun hc97 => ?_) (fun hc97 => ?_)
          · skip
            try simp only [bI_0, Bool.not_eq_false] at hc97
            refine a_aload_n X dX5_bears_105 (i := 0) rfl rfl ?_
            refine a_ldc X dX5_bears_106 kc_X5_92 ?_
            refine s_callV_R X dX5_bears_108 lk_X5_67 ko_43 rfl rfl (c_X5_finds (k := 3) (by decide) (by decide +kernel)) ⟨Nat.le_of_ble_eq_true rfl, Nat.le_of_ble_eq_true rfl⟩ rfl rfl (Nat.le_of_ble_eq_true rfl) ⟨Nat.le_of_ble_eq_true rfl, Nat.le_of_ble_eq_true rfl⟩ ?_
            refine a_iret X hA dX5_bears_111 ?_
            rcases hu with ⟨q1, q2⟩ | ⟨q1, q2⟩
            · first
                | (rw [q1] at hc97; cases hc97; done)
                | (rw [q1] at hc58; cases hc58; done)
                | exact ⟨_, _, _, _, _, rfl, rfl, md_find (K.S (Or.inl rfl)) (k := 3) (by decide +kernel) (by rw [sp_bears, if_pos hall, cl_n (show a < 2 ^ 31 by omega), cl_n (show j < 2 ^ 31 by omega), cl_n (show b < 2 ^ 31 by omega), ← q2, hk0]; rfl)⟩
            · first
                | (rw [q1] at hc97; cases hc97; done)
                | exact ⟨_, _, _, _, _, rfl, rfl, md_val (K.S (Or.inl rfl)) (by rw [sp_bears, if_pos hall, cl_n (show a < 2 ^ 31 by omega), cl_n (show j < 2 ^ 31 by omega), cl_n (show b < 2 ^ 31 by omega), q2, firSP_s])⟩
          · skip
            try simp only [bI_0, Bool.not_eq_false] at hc97
            refine a_iload X dX5_bears_100 rfl ?_
            refine a_goto X dX5_bears_102 (tgt := 111) (by decide) ?_
            refine a_iret X hA dX5_bears_111 ?_
            rcases hu with ⟨q1, q2⟩ | ⟨q1, q2⟩
            · first
                | (rw [q1] at hc97; cases hc97; done)
                | (rw [q1] at hc58; cases hc58; done)
                | exact ⟨_, _, _, _, _, rfl, rfl, md_find (K.S (Or.inl rfl)) (k := 3) (by decide +kernel) (by rw [sp_bears, if_pos hall, cl_n (show a < 2 ^ 31 by omega), cl_n (show j < 2 ^ 31 by omega), cl_n (show b < 2 ^ 31 by omega), ← q2, hk0]; rfl)⟩
            · first
                | (rw [q1] at hc97; cases hc97; done)
                | exact ⟨_, _, _, _, _, rfl, rfl, md_val (K.S (Or.inl rfl)) (by rw [sp_bears, if_pos hall, cl_n (show a < 2 ^ 31 by omega), cl_n (show j < 2 ^ 31 by omega), cl_n (show b < 2 ^ 31 by omega), q2, firSP_s])⟩
        · skip
          try simp only [bI_0, Bool.not_eq_false] at hc58
          refine a_iinc X dX5_bears_61 rfl (v := nI (_ - 1)) (iincD (by omega)) (by decide) rfl ?_
          have okm := ok_put (j := 5) (v := k - 1) ok ha (by decide) (by omega) (by decide) (by omega) (by omega) (by omega) (by omega)
          refine a_aload_n X dX5_bears_64 (i := 0) rfl rfl ?_
          refine a_iload_n X dX5_bears_65 (i := 1) rfl rfl ?_
          refine a_iconst X dX5_bears_66 (v := nI 5) (by decide +kernel) ?_
          refine a_iload X dX5_bears_67 rfl ?_
          refine s_callV_V X dX5_bears_69 lk_X5_108 ko_43 rfl rfl (c_X5_puts K.1 (by omega)) ⟨Nat.le_of_ble_eq_true rfl, Nat.le_of_ble_eq_true rfl⟩ rfl rfl (Nat.le_of_ble_eq_true rfl) ⟨Nat.le_of_ble_eq_true rfl, Nat.le_of_ble_eq_true rfl⟩ ?_
          refine a_aload_n X dX5_bears_72 (i := 0) rfl rfl ?_
          refine a_iload_n X dX5_bears_73 (i := 1) rfl rfl ?_
          refine a_iload_n X dX5_bears_74 (i := 2) rfl rfl ?_
          refine s_callV_X X dX5_bears_75 lk_X5_170 ko_43 rfl rfl (c_X5_knowsBehind (a := a) (n := j) (up_s _ _ _) okm (by rw [up_n _ _ (by omega)]; exact ha) (by rw [up_n _ _ (by omega)]; omega) (ahk_u K (by decide)).2.1 ok.2.2.2) ⟨Nat.le_of_ble_eq_true rfl, Nat.le_of_ble_eq_true rfl⟩ rfl rfl (Nat.le_of_ble_eq_true rfl) ⟨Nat.le_of_ble_eq_true rfl, Nat.le_of_ble_eq_true rfl⟩ (fun x2 I2 J2 F2 w2 hpo => ?_)
          obtain ⟨rfl, hm⟩ := hpo
          have K3 := ahk_m (ahk_u K (by decide)) (Or.inl rfl) hm
          obtain ⟨-, -, rfl, rfl, rfl⟩ := hm
          have hq1 := ((okR_pas okm j).2.1 a (by rw [pas_1, up_n _ _ (by omega)]; exact ha)).2.2.2.2.1
          have hpc := pcn_le (pasN (va_up R (2 + 6 * a + 5) (k - 1)) j (2 + 6 * a + 4))
          refine s_callS_R X dX5_bears_78 lk_X5_74 (c_X5_bits hq1) ⟨Nat.le_of_ble_eq_true rfl, Nat.le_of_ble_eq_true rfl⟩ rfl rfl (Nat.le_of_ble_eq_true rfl) ⟨Nat.le_of_ble_eq_true rfl, Nat.le_of_ble_eq_true rfl⟩ ?_
          refine a_iload_n X dX5_bears_81 (i := 3) rfl rfl ?_
          refine s_icmp_ltN X dX5_bears_82 (tgt := 89) (by decide) (by omega) (by omega) (fun hc82 => ?_) (fun hc82 => ?_)
          · skip
            refine a_iconst X dX5_bears_89 (v := nI 0) (by decide +kernel) ?_
            refine a_istore X dX5_bears_90 (by decide) rfl ?_
            refine a_goto X dX5_bears_92 (tgt := 51) (by decide) ?_
            have hfir : dnF (beaP R a j b) k = dnF (beaP R a j b) 100 := by
              rcases hu with q1 | q1
              · exact q1.2
              · rw [q1.1] at hc58; cases hc58
            by_cases hd : beaP R a j b (k - 1) = true
            · have hz1 : b ≤ pcn (pasN (va_up R (2 + 6 * a + 5) (k - 1)) j (2 + 6 * a + 4)) := by simpa [beaP] using hd
              first
                | exact absurd hc82 (by omega)
                | (have := ih a j b (k - 1) true I2 (by omega) rfl rfl rfl hall ha hj hb (by omega) K3 (Or.inr ⟨rfl, hfir.symm.trans (by have := dn_hit (p := beaP R a j b) (t := k - 1) hd; rwa [show k - 1 + 1 = k by omega] at this)⟩)
                   rw [bI_t] at this
                   exact this)
            · have hd2 : beaP R a j b (k - 1) = false := by simpa using hd
              have hz0 : ¬ b ≤ pcn (pasN (va_up R (2 + 6 * a + 5) (k - 1)) j (2 + 6 * a + 4)) := by simpa [beaP] using hd
              first
                | exact absurd hc82 (by omega)
                | (have := ih a j b (k - 1) false I2 (by omega) rfl rfl rfl hall ha hj hb (by omega) K3 (Or.inl ⟨rfl, (by have := dn_go (p := beaP R a j b) (t := k - 1) hd2; rw [show k - 1 + 1 = k by omega] at this; exact this.symm.trans hfir)⟩)
                   rw [bI_f] at this
                   exact this)
          · skip
            refine a_iconst X dX5_bears_85 (v := nI 1) (by decide +kernel) ?_
            refine a_goto X dX5_bears_86 (tgt := 90) (by decide) ?_
            refine a_istore X dX5_bears_90 (by decide) rfl ?_
            refine a_goto X dX5_bears_92 (tgt := 51) (by decide) ?_
            have hfir : dnF (beaP R a j b) k = dnF (beaP R a j b) 100 := by
              rcases hu with q1 | q1
              · exact q1.2
              · rw [q1.1] at hc58; cases hc58
            by_cases hd : beaP R a j b (k - 1) = true
            · have hz1 : b ≤ pcn (pasN (va_up R (2 + 6 * a + 5) (k - 1)) j (2 + 6 * a + 4)) := by simpa [beaP] using hd
              first
                | exact absurd hc82 (by omega)
                | (have := ih a j b (k - 1) true I2 (by omega) rfl rfl rfl hall ha hj hb (by omega) K3 (Or.inr ⟨rfl, hfir.symm.trans (by have := dn_hit (p := beaP R a j b) (t := k - 1) hd; rwa [show k - 1 + 1 = k by omega] at this)⟩)
                   rw [bI_t] at this
                   exact this)
            · have hd2 : beaP R a j b (k - 1) = false := by simpa using hd
              have hz0 : ¬ b ≤ pcn (pasN (va_up R (2 + 6 * a + 5) (k - 1)) j (2 + 6 * a + 4)) := by simpa [beaP] using hd
              first
                | exact absurd hc82 (by omega)
                | (have := ih a j b (k - 1) false I2 (by omega) rfl rfl rfl hall ha hj hb (by omega) K3 (Or.inl ⟨rfl, (by have := dn_go (p := beaP R a j b) (t := k - 1) hd2; rw [show k - 1 + 1 = k by omega] at this; exact this.symm.trans hfir)⟩)
                   rw [bI_f] at this
                   exact this)
  refine a_aload_n X dX5_bears_0 (i := 0) rfl rfl ?_
  refine a_iload_n X dX5_bears_1 (i := 1) rfl rfl ?_
  refine s_callV_R X dX5_bears_2 lk_X5_124 ko_43 rfl rfl (c_X5_isOne hR) ⟨Nat.le_of_ble_eq_true rfl, Nat.le_of_ble_eq_true rfl⟩ rfl rfl (Nat.le_of_ble_eq_true rfl) ⟨Nat.le_of_ble_eq_true rfl, Nat.le_of_ble_eq_true rfl⟩ ?_
  refine a_if_eq X dX5_bears_5 (tgt := 28) (by decide) (fun hc5 => ?_) (fun hc5 => ?_)
  · skip
    try simp only [bI_0, Bool.not_eq_false] at hc5
    refine a_aload_n X dX5_bears_28 (i := 0) rfl rfl ?_
    refine a_ldc X dX5_bears_29 kc_X5_50 ?_
    refine s_callV_R X dX5_bears_31 lk_X5_67 ko_43 rfl rfl (c_X5_finds (k := 0) (by decide) (by decide +kernel)) ⟨Nat.le_of_ble_eq_true rfl, Nat.le_of_ble_eq_true rfl⟩ rfl rfl (Nat.le_of_ble_eq_true rfl) ⟨Nat.le_of_ble_eq_true rfl, Nat.le_of_ble_eq_true rfl⟩ ?_
    refine a_iret X hA dX5_bears_34 ?_
    exact ⟨_, _, _, _, _, rfl, rfl, md_find (ah_0 hR) (k := 0) (by decide +kernel) (by rw [sp_bears, if_neg (by simp [*])])⟩
  · skip
    try simp only [bI_0, Bool.not_eq_false] at hc5
    obtain ⟨a, ha, rfl⟩ := isM_t (by omega) hc5
    obtain ⟨g0, g1, g2, g3, g4, g5⟩ := ok.2.1 a ha
    refine a_iload_n X dX5_bears_8 (i := 2) rfl rfl ?_
    refine a_iconst X dX5_bears_9 (v := nI 0) (by decide +kernel) ?_
    refine a_bipush X dX5_bears_10 (v := nI 40) (by decide +kernel) ?_
    refine s_callS_R X dX5_bears_12 lk_X5_51 c_X5_in ⟨Nat.le_of_ble_eq_true rfl, Nat.le_of_ble_eq_true rfl⟩ rfl rfl (Nat.le_of_ble_eq_true rfl) ⟨Nat.le_of_ble_eq_true rfl, Nat.le_of_ble_eq_true rfl⟩ ?_
    refine a_if_eq X dX5_bears_15 (tgt := 28) (by decide) (fun hc15 => ?_) (fun hc15 => ?_)
    · skip
      try simp only [bI_0, Bool.not_eq_false] at hc15
      refine a_aload_n X dX5_bears_28 (i := 0) rfl rfl ?_
      refine a_ldc X dX5_bears_29 kc_X5_50 ?_
      refine s_callV_R X dX5_bears_31 lk_X5_67 ko_43 rfl rfl (c_X5_finds (k := 0) (by decide) (by decide +kernel)) ⟨Nat.le_of_ble_eq_true rfl, Nat.le_of_ble_eq_true rfl⟩ rfl rfl (Nat.le_of_ble_eq_true rfl) ⟨Nat.le_of_ble_eq_true rfl, Nat.le_of_ble_eq_true rfl⟩ ?_
      refine a_iret X hA dX5_bears_34 ?_
      exact ⟨_, _, _, _, _, rfl, rfl, md_find (ah_0 hR) (k := 0) (by decide +kernel) (by rw [sp_bears, if_neg (by simp [*])])⟩
    · skip
      try simp only [bI_0, Bool.not_eq_false] at hc15
      obtain ⟨j, hj0, hj, rfl⟩ := inB_r (by decide) (by decide) hc15
      refine a_iload_n X dX5_bears_18 (i := 3) rfl rfl ?_
      refine a_iconst X dX5_bears_19 (v := nI 0) (by decide +kernel) ?_
      refine a_bipush X dX5_bears_20 (v := nI 10) (by decide +kernel) ?_
      refine s_callS_R X dX5_bears_22 lk_X5_51 c_X5_in ⟨Nat.le_of_ble_eq_true rfl, Nat.le_of_ble_eq_true rfl⟩ rfl rfl (Nat.le_of_ble_eq_true rfl) ⟨Nat.le_of_ble_eq_true rfl, Nat.le_of_ble_eq_true rfl⟩ ?_
      refine a_if_ne X dX5_bears_25 (tgt := 35) (by decide) (fun hc25 => ?_) (fun hc25 => ?_)
      · skip
        try simp only [bI_0, Bool.not_eq_false] at hc25
        obtain ⟨b, hb0, hb, rfl⟩ := inB_r (by decide) (by decide) hc25
        refine a_aload_n X dX5_bears_35 (i := 0) rfl rfl ?_
        refine a_iconst X dX5_bears_36 (v := nI 1) (by decide +kernel) ?_
        refine a_aload_n X dX5_bears_37 (i := 0) rfl rfl ?_
        refine s_getr X dX5_bears_38 fl_X5_22 ko_43 rfl ?_
        refine s_callV_V X dX5_bears_41 lk_X5_156 ko_43 rfl rfl (c_X5_moveAll_t ki_48 (by decide)) ⟨Nat.le_of_ble_eq_true rfl, Nat.le_of_ble_eq_true rfl⟩ rfl rfl (Nat.le_of_ble_eq_true rfl) ⟨Nat.le_of_ble_eq_true rfl, Nat.le_of_ble_eq_true rfl⟩ ?_
        refine a_bipush X dX5_bears_44 (v := nI 100) (by decide +kernel) ?_
        refine a_istore X dX5_bears_46 (by decide) rfl ?_
        refine a_iconst X dX5_bears_48 (v := nI 0) (by decide +kernel) ?_
        refine a_istore X dX5_bears_49 (by decide) rfl ?_
        exact (by have := L51 101 a j b 100 false _ (by omega) rfl rfl rfl ⟨hc5, hc15, hc25⟩ ha (by omega) (by omega) (by omega) (ahk_0 (Q := 48) hR (by decide)) (Or.inl ⟨rfl, rfl⟩); rw [bI_f] at this; exact this)
      · skip
        try simp only [bI_0, Bool.not_eq_false] at hc25
        refine a_aload_n X dX5_bears_28 (i := 0) rfl rfl ?_
        refine a_ldc X dX5_bears_29 kc_X5_50 ?_
        refine s_callV_R X dX5_bears_31 lk_X5_67 ko_43 rfl rfl (c_X5_finds (k := 0) (by decide) (by decide +kernel)) ⟨Nat.le_of_ble_eq_true rfl, Nat.le_of_ble_eq_true rfl⟩ rfl rfl (Nat.le_of_ble_eq_true rfl) ⟨Nat.le_of_ble_eq_true rfl, Nat.le_of_ble_eq_true rfl⟩ ?_
        refine a_iret X hA dX5_bears_34 ?_
        exact ⟨_, _, _, _, _, rfl, rfl, md_find (ah_0 hR) (k := 0) (by decide +kernel) (by rw [sp_bears, if_neg (by simp [*])])⟩
set_option maxRecDepth 100000 in
set_option maxHeartbeats 4000000 in
theorem c_X5_wisest {l : Launch} {g : GG} {I : TI} {J : TJ} {F : TI} {w : Int64} {R : Nat → Nat} (hR : I 44 = nr R) (ok : okR R) {y : Int32} (hN : R 0 < 1000000) : RV l g mX5_wisest [.ref (ga g 43), .int y] I J F w (MdR I J F w (sp_wisest R y)) := by
  have hn10 := ok.1
  refine ct_start (M := mX5_wisest) (by decide +kernel) (Nat.le_of_ble_eq_true rfl) ?_
  intro p e s m args below meth c A X hA
  have X : AX p s m args meth c g A cX5_wisest 4 RX5 (Cond.code yX5_wisest cX5_wisest 4 (some .int)) (some .int) := X
  show AW p l e (rmM 7 159) s m args below meth c g A 4 0 0 (MQ below (CQ g (hp g I J F w) s.heap.size (fun vv0 hh0 => ∃ xx0 II0 JJ0 FF0 ww0, vv0 = some xx0 ∧ hh0 = hp g II0 JJ0 FF0 ww0 ∧ (MdR I J F w (sp_wisest R y)) xx0 II0 JJ0 FF0 ww0)) args s 0 0 A) 0 [some (.ref (ga g 43)), some (.int y), none, none] [] (hp g I J F w)
  have L35 : ∀ (fu : Nat) (j : Nat) (k : Nat) (I1 : TI), R 1 - k < fu → (y = nI j) → (inB y (nI 0) (nI 100) = true) → (j ≤ 100) → (k ≤ R 1) → (AhK 48 I R (pasN R j) I1) → AW p l e (rmM 7 159) s m args below meth c g A 4 0 0 (MQ below (CQ g (hp g I J F w) s.heap.size (fun vv0 hh0 => ∃ xx0 II0 JJ0 FF0 ww0, vv0 = some xx0 ∧ hh0 = hp g II0 JJ0 FF0 ww0 ∧ (MdR I J F w (sp_wisest R y)) xx0 II0 JJ0 FF0 ww0)) args s 0 0 A) 35 [some (.ref (ga g 43)), some (.int (nI j)), some (.int (wI (wisF (fun m => pcn (pasN R j (2 + 6 * m + 4))) k))), some (.int (nI k))] [] (hp g I1 J F w) := by
    intro fu
    induction fu with
    | zero => intro j k I1 hfu; exact absurd hfu (by omega)
    | succ fu ih =>
      intro j k I1 hfu hy hc7 hj hk K
      subst hy
      refine a_iload_n X dX5_wisest_35 (i := 3) rfl rfl ?_
      refine a_aload_n X dX5_wisest_36 (i := 0) rfl rfl ?_
      refine s_getr X dX5_wisest_37 fl_X5_7 ko_43 rfl ?_
      refine a_iconst X dX5_wisest_40 (v := nI 1) (by decide +kernel) ?_
      refine s_ild X dX5_wisest_41 ki_44 (by omega) (by decide) ?_
      rw [show I1 44 1 = nI (R 1) from by rw [K.1]; simp only [nr, pas_1]]
      refine s_icmp_geN X dX5_wisest_42 (tgt := 82) (by decide) (by omega) (by omega) (fun hc42 => ?_) (fun hc42 => ?_)
      · skip
        have hk2 : k = R 1 := by omega
        subst hk2
        refine a_aload_n X dX5_wisest_82 (i := 0) rfl rfl ?_
        refine a_iconst X dX5_wisest_83 (v := nI 0) (by decide +kernel) ?_
        refine a_aload_n X dX5_wisest_84 (i := 0) rfl rfl ?_
        refine s_getr X dX5_wisest_85 fl_X5_22 ko_43 rfl ?_
        refine s_callV_V X dX5_wisest_88 lk_X5_156 ko_43 rfl rfl (c_X5_moveAll_f K.1 ki_48 (by decide) K.2.1 (fun i hi => (ok.2.2.2 i hi).trans ((okR_pas ok j).2.2.2 i hi).symm)) ⟨Nat.le_of_ble_eq_true rfl, Nat.le_of_ble_eq_true rfl⟩ rfl rfl (Nat.le_of_ble_eq_true rfl) ⟨Nat.le_of_ble_eq_true rfl, Nat.le_of_ble_eq_true rfl⟩ ?_
        refine a_iload_n X dX5_wisest_91 (i := 2) rfl rfl ?_
        refine a_if_ge X dX5_wisest_92 (tgt := 104) (by decide) (fun hc92 => ?_) (fun hc92 => ?_)
        · skip
          obtain ⟨b, hw⟩ := whoSome hc92
          refine a_iload_n X dX5_wisest_104 (i := 2) rfl rfl ?_
          refine a_iret X hA dX5_wisest_105 ?_
          first | exact ⟨_, _, _, _, _, rfl, rfl, md_val ((ahk_u K (by decide)).S (Or.inl rfl)) (by rw [sp_wisest, if_pos hc7, cl_n (show j < 2 ^ 31 by omega), hw]; rfl)⟩ | exact ⟨_, _, _, _, _, rfl, rfl, md_find ((ahk_u K (by decide)).S (Or.inl rfl)) (k := 3) (by decide +kernel) (by rw [sp_wisest, if_pos hc7, cl_n (show j < 2 ^ 31 by omega), hw]; rfl)⟩
        · skip
          have hw := whoNone (wis_b (Nat.le_refl _) hn10) hc92
          refine a_aload_n X dX5_wisest_95 (i := 0) rfl rfl ?_
          refine a_ldc X dX5_wisest_96 kc_X5_92 ?_
          refine s_callV_R X dX5_wisest_98 lk_X5_67 ko_43 rfl rfl (c_X5_finds (k := 3) (by decide) (by decide +kernel)) ⟨Nat.le_of_ble_eq_true rfl, Nat.le_of_ble_eq_true rfl⟩ rfl rfl (Nat.le_of_ble_eq_true rfl) ⟨Nat.le_of_ble_eq_true rfl, Nat.le_of_ble_eq_true rfl⟩ ?_
          refine a_goto X dX5_wisest_101 (tgt := 105) (by decide) ?_
          refine a_iret X hA dX5_wisest_105 ?_
          first | exact ⟨_, _, _, _, _, rfl, rfl, md_val ((ahk_u K (by decide)).S (Or.inl rfl)) (by rw [sp_wisest, if_pos hc7, cl_n (show j < 2 ^ 31 by omega), hw]; rfl)⟩ | exact ⟨_, _, _, _, _, rfl, rfl, md_find ((ahk_u K (by decide)).S (Or.inl rfl)) (k := 3) (by decide +kernel) (by rw [sp_wisest, if_pos hc7, cl_n (show j < 2 ^ 31 by omega), hw]; rfl)⟩
      · skip
        have hlt : k < R 1 := by omega
        refine a_iload_n X dX5_wisest_45 (i := 2) rfl rfl ?_
        refine a_if_lt X dX5_wisest_46 (tgt := 70) (by decide) (fun hc46 => ?_) (fun hc46 => ?_)
        · skip
          have hw := whoNone' (wis_b hk hn10) hc46
          refine a_iload_n X dX5_wisest_70 (i := 3) rfl rfl ?_
          refine a_goto X dX5_wisest_71 (tgt := 75) (by decide) ?_
          refine a_istore_n X dX5_wisest_75 (i := 2) rfl (by decide) rfl ?_
          refine a_iinc X dX5_wisest_76 rfl (v := nI (_ + 1)) (iincN _ 1) (by decide) rfl ?_
          refine a_goto X dX5_wisest_79 (tgt := 35) (by decide) ?_
          have := ih j (k + 1) I1 (by omega) rfl hc7 hj (by omega) K
          first
            | (rw [show wisF (fun m => pcn (pasN R j (2 + 6 * m + 4))) (k + 1) = some k from (by rw [wisF, hw]; rfl)] at this; exact this)
            | (rw [show wisF (fun m => pcn (pasN R j (2 + 6 * m + 4))) (k + 1) = some b from (by rw [wisF, hw]; show (if _ then _ else _) = _; rw [if_pos hc67])] at this; exact this)
            | (rw [show wisF (fun m => pcn (pasN R j (2 + 6 * m + 4))) (k + 1) = some k from (by rw [wisF, hw]; show (if _ then _ else _) = _; rw [if_neg hc67])] at this; exact this)
        · skip
          obtain ⟨b, hw⟩ := whoSome' hc46
          have hb := wis_lt hw
          have hp1 := pcn_le (pasN R j (2 + 6 * k + 4))
          have hp2 := pcn_le (pasN R j (2 + 6 * b + 4))
          rw [hw, wI_s]
          refine a_aload_n X dX5_wisest_49 (i := 0) rfl rfl ?_
          refine a_iload_n X dX5_wisest_50 (i := 3) rfl rfl ?_
          refine a_iconst X dX5_wisest_51 (v := nI 4) (by decide +kernel) ?_
          refine s_callV_R X dX5_wisest_52 lk_X5_55 ko_43 rfl rfl (c_X5_its K.1 (by omega)) ⟨Nat.le_of_ble_eq_true rfl, Nat.le_of_ble_eq_true rfl⟩ rfl rfl (Nat.le_of_ble_eq_true rfl) ⟨Nat.le_of_ble_eq_true rfl, Nat.le_of_ble_eq_true rfl⟩ ?_
          refine s_callS_R X dX5_wisest_55 lk_X5_74 (c_X5_bits ((okR_pas ok j).2.1 k (by rw [pas_1]; exact hlt)).2.2.2.2.1) ⟨Nat.le_of_ble_eq_true rfl, Nat.le_of_ble_eq_true rfl⟩ rfl rfl (Nat.le_of_ble_eq_true rfl) ⟨Nat.le_of_ble_eq_true rfl, Nat.le_of_ble_eq_true rfl⟩ ?_
          refine a_aload_n X dX5_wisest_58 (i := 0) rfl rfl ?_
          refine a_iload_n X dX5_wisest_59 (i := 2) rfl rfl ?_
          refine a_iconst X dX5_wisest_60 (v := nI 4) (by decide +kernel) ?_
          refine s_callV_R X dX5_wisest_61 lk_X5_55 ko_43 rfl rfl (c_X5_its K.1 (by omega)) ⟨Nat.le_of_ble_eq_true rfl, Nat.le_of_ble_eq_true rfl⟩ rfl rfl (Nat.le_of_ble_eq_true rfl) ⟨Nat.le_of_ble_eq_true rfl, Nat.le_of_ble_eq_true rfl⟩ ?_
          refine s_callS_R X dX5_wisest_64 lk_X5_74 (c_X5_bits ((okR_pas ok j).2.1 b (by rw [pas_1]; omega)).2.2.2.2.1) ⟨Nat.le_of_ble_eq_true rfl, Nat.le_of_ble_eq_true rfl⟩ rfl rfl (Nat.le_of_ble_eq_true rfl) ⟨Nat.le_of_ble_eq_true rfl, Nat.le_of_ble_eq_true rfl⟩ ?_
          refine s_icmp_leN X dX5_wisest_67 (tgt := 74) (by decide) (by omega) (by omega) (fun hc67 => ?_) (fun hc67 => ?_)
          · skip
            refine a_iload_n X dX5_wisest_74 (i := 2) rfl rfl ?_
            refine a_istore_n X dX5_wisest_75 (i := 2) rfl (by decide) rfl ?_
            refine a_iinc X dX5_wisest_76 rfl (v := nI (_ + 1)) (iincN _ 1) (by decide) rfl ?_
            refine a_goto X dX5_wisest_79 (tgt := 35) (by decide) ?_
            have := ih j (k + 1) I1 (by omega) rfl hc7 hj (by omega) K
            first
              | (rw [show wisF (fun m => pcn (pasN R j (2 + 6 * m + 4))) (k + 1) = some k from (by rw [wisF, hw]; rfl)] at this; exact this)
              | (rw [show wisF (fun m => pcn (pasN R j (2 + 6 * m + 4))) (k + 1) = some b from (by rw [wisF, hw]; show (if _ then _ else _) = _; rw [if_pos hc67])] at this; exact this)
              | (rw [show wisF (fun m => pcn (pasN R j (2 + 6 * m + 4))) (k + 1) = some k from (by rw [wisF, hw]; show (if _ then _ else _) = _; rw [if_neg hc67])] at this; exact this)
          · skip
            refine a_iload_n X dX5_wisest_70 (i := 3) rfl rfl ?_
            refine a_goto X dX5_wisest_71 (tgt := 75) (by decide) ?_
            refine a_istore_n X dX5_wisest_75 (i := 2) rfl (by decide) rfl ?_
            refine a_iinc X dX5_wisest_76 rfl (v := nI (_ + 1)) (iincN _ 1) (by decide) rfl ?_
            refine a_goto X dX5_wisest_79 (tgt := 35) (by decide) ?_
            have := ih j (k + 1) I1 (by omega) rfl hc7 hj (by omega) K
            first
              | (rw [show wisF (fun m => pcn (pasN R j (2 + 6 * m + 4))) (k + 1) = some k from (by rw [wisF, hw]; rfl)] at this; exact this)
              | (rw [show wisF (fun m => pcn (pasN R j (2 + 6 * m + 4))) (k + 1) = some b from (by rw [wisF, hw]; show (if _ then _ else _) = _; rw [if_pos hc67])] at this; exact this)
              | (rw [show wisF (fun m => pcn (pasN R j (2 + 6 * m + 4))) (k + 1) = some k from (by rw [wisF, hw]; show (if _ then _ else _) = _; rw [if_neg hc67])] at this; exact this)
  refine a_iload_n X dX5_wisest_0 (i := 1) rfl rfl ?_
  refine a_iconst X dX5_wisest_1 (v := nI 0) (by decide +kernel) ?_
  refine a_bipush X dX5_wisest_2 (v := nI 100) (by decide +kernel) ?_
  refine s_callS_R X dX5_wisest_4 lk_X5_51 c_X5_in ⟨Nat.le_of_ble_eq_true rfl, Nat.le_of_ble_eq_true rfl⟩ rfl rfl (Nat.le_of_ble_eq_true rfl) ⟨Nat.le_of_ble_eq_true rfl, Nat.le_of_ble_eq_true rfl⟩ ?_
  refine a_if_ne X dX5_wisest_7 (tgt := 17) (by decide) (fun hc7 => ?_) (fun hc7 => ?_)
  · skip
    try simp only [bI_0, Bool.not_eq_false] at hc7
    obtain ⟨j, hj0, hj, rfl⟩ := inB_r (by decide) (by decide) hc7
    refine a_aload_n X dX5_wisest_17 (i := 0) rfl rfl ?_
    refine a_iconst X dX5_wisest_18 (v := nI 1) (by decide +kernel) ?_
    refine a_aload_n X dX5_wisest_19 (i := 0) rfl rfl ?_
    refine s_getr X dX5_wisest_20 fl_X5_22 ko_43 rfl ?_
    refine s_callV_V X dX5_wisest_23 lk_X5_156 ko_43 rfl rfl (c_X5_moveAll_t ki_48 (by decide)) ⟨Nat.le_of_ble_eq_true rfl, Nat.le_of_ble_eq_true rfl⟩ rfl rfl (Nat.le_of_ble_eq_true rfl) ⟨Nat.le_of_ble_eq_true rfl, Nat.le_of_ble_eq_true rfl⟩ ?_
    refine a_aload_n X dX5_wisest_26 (i := 0) rfl rfl ?_
    refine a_iload_n X dX5_wisest_27 (i := 1) rfl rfl ?_
    refine s_callV_Y X dX5_wisest_28 lk_X5_152 ko_43 rfl rfl (c_X5_passes (ahk_0 (Q := 48) hR (by decide)).1 ok (by omega)) ⟨Nat.le_of_ble_eq_true rfl, Nat.le_of_ble_eq_true rfl⟩ rfl rfl (Nat.le_of_ble_eq_true rfl) ⟨Nat.le_of_ble_eq_true rfl, Nat.le_of_ble_eq_true rfl⟩ (fun I2 J2 F2 w2 hpo => ?_)
    refine a_iconst X dX5_wisest_31 (v := (-1)) (by decide +kernel) ?_
    refine a_istore_n X dX5_wisest_32 (i := 2) rfl (by decide) rfl ?_
    refine a_iconst X dX5_wisest_33 (v := nI 0) (by decide +kernel) ?_
    refine a_istore_n X dX5_wisest_34 (i := 3) rfl (by decide) rfl ?_
    have K2 := ahk_m (ahk_0 (Q := 48) hR (by decide)) (Or.inl rfl) hpo
    obtain ⟨e1, e2, rfl, rfl, rfl⟩ := hpo
    exact L35 (R 1 + 1) j 0 I2 (by omega) rfl hc7 (by omega) (by omega) K2
  · skip
    try simp only [bI_0, Bool.not_eq_false] at hc7
    refine a_aload_n X dX5_wisest_10 (i := 0) rfl rfl ?_
    refine a_ldc X dX5_wisest_11 kc_X5_50 ?_
    refine s_callV_R X dX5_wisest_13 lk_X5_67 ko_43 rfl rfl (c_X5_finds (k := 0) (by decide) (by decide +kernel)) ⟨Nat.le_of_ble_eq_true rfl, Nat.le_of_ble_eq_true rfl⟩ rfl rfl (Nat.le_of_ble_eq_true rfl) ⟨Nat.le_of_ble_eq_true rfl, Nat.le_of_ble_eq_true rfl⟩ ?_
    refine a_iret X hA dX5_wisest_16 ?_
    exact ⟨_, _, _, _, _, rfl, rfl, md_find (ah_0 hR) (k := 0) (by decide +kernel) (by rw [sp_wisest, if_neg (by rw [hc7]; decide)])⟩
set_option maxRecDepth 100000 in
set_option maxHeartbeats 4000000 in
theorem c_X5_verse {l : Launch} {g : GG} {I : TI} {J : TJ} {F : TI} {w : Int64} {R : Nat → Nat} (hR : I 44 = nr R) (ok : okR R) {x : Int32} : RV l g mX5_verse [.ref (ga g 43), .int x] I J F w (MdR I J F w (sp_verse R x)) := by
  have hn10 := ok.1
  have h1 : I 44 1 = nI (R 1) := by rw [hR]; rfl
  refine ct_start (M := mX5_verse) (by decide +kernel) (Nat.le_of_ble_eq_true rfl) ?_
  intro p e s m args below meth c A X hA
  have X : AX p s m args meth c g A cX5_verse 4 RX5 (Cond.code yX5_verse cX5_verse 4 (some .int)) (some .int) := X
  show AW p l e (rmM 2 45) s m args below meth c g A 4 0 0 (MQ below (CQ g (hp g I J F w) s.heap.size (fun vv0 hh0 => ∃ xx0 II0 JJ0 FF0 ww0, vv0 = some xx0 ∧ hh0 = hp g II0 JJ0 FF0 ww0 ∧ (MdR I J F w (sp_verse R x)) xx0 II0 JJ0 FF0 ww0)) args s 0 0 A) 0 [some (.ref (ga g 43)), some (.int x), none, none] [] (hp g I J F w)
  have L32 : ∀ (fu : Nat) (j : Nat) (i : Nat) (k : Nat) (q0 : Nat), 12 - k < fu → (x = nI j) → (¬ x < 0) → (¬ nI (R 1) ≤ x) → (j < R 1) → (i ≤ j) → (k ≤ 12) → (ordS R (R 1) (12 - k) k i = some q0) → (ordS R (R 1) 12 0 j = some q0) → AW p l e (rmM 2 45) s m args below meth c g A 4 0 0 (MQ below (CQ g (hp g I J F w) s.heap.size (fun vv0 hh0 => ∃ xx0 II0 JJ0 FF0 ww0, vv0 = some xx0 ∧ hh0 = hp g II0 JJ0 FF0 ww0 ∧ (MdR I J F w (sp_verse R x)) xx0 II0 JJ0 FF0 ww0)) args s 0 0 A) 32 [some (.ref (ga g 43)), some (.int (nI j)), some (.int (nI i)), some (.int (nI k))] [] (hp g I J F w) := by
    intro fu
    induction fu with
    | zero => intro j i k q0 hfu; exact absurd hfu (by omega)
    | succ fu ih =>
      intro j i k q0 hfu hx hc1 hc18 hj hi hk ho ho2
      subst hx
      have hk12 : k < 12 := by
        rcases Nat.lt_or_ge k 12 with z | z
        · exact z
        · rw [show 12 - k = 0 by omega] at ho; cases ho
      refine a_aload_n X dX5_verse_32 (i := 0) rfl rfl ?_
      refine a_iload_n X dX5_verse_33 (i := 3) rfl rfl ?_
      refine s_callV_R X dX5_verse_34 lk_X5_63 ko_43 rfl rfl (c_X5_whoIn hR ok.1 (by omega) (fun m hm => Nat.lt_trans (ok.2.1 m hm).2.1 (by decide))) ⟨Nat.le_of_ble_eq_true rfl, Nat.le_of_ble_eq_true rfl⟩ rfl rfl (Nat.le_of_ble_eq_true rfl) ⟨Nat.le_of_ble_eq_true rfl, Nat.le_of_ble_eq_true rfl⟩ ?_
      refine a_if_lt X dX5_verse_37 (tgt := 44) (by decide) (fun hc37 => ?_) (fun hc37 => ?_)
      · skip
        have hw := whoNone' (who_b hn10) hc37
        refine a_iload_n X dX5_verse_44 (i := 2) rfl rfl ?_
        refine a_aload_n X dX5_verse_45 (i := 0) rfl rfl ?_
        refine a_iload_n X dX5_verse_46 (i := 3) rfl rfl ?_
        refine s_callV_R X dX5_verse_47 lk_X5_63 ko_43 rfl rfl (c_X5_whoIn hR ok.1 (by omega) (fun m hm => Nat.lt_trans (ok.2.1 m hm).2.1 (by decide))) ⟨Nat.le_of_ble_eq_true rfl, Nat.le_of_ble_eq_true rfl⟩ rfl rfl (Nat.le_of_ble_eq_true rfl) ⟨Nat.le_of_ble_eq_true rfl, Nat.le_of_ble_eq_true rfl⟩ ?_
        refine a_if_ge X dX5_verse_50 (tgt := 57) (by decide) (fun hc50 => ?_) (fun hc50 => ?_)
        · skip
          refine a_iconst X dX5_verse_57 (v := nI 1) (by decide +kernel) ?_
          refine s_isubN X dX5_verse_58 (by first | omega | exact absurd hc50 (by rw [hw]; decide +kernel)) ?_
          refine a_istore_n X dX5_verse_59 (i := 2) rfl (by decide) rfl ?_
          refine a_iinc X dX5_verse_60 rfl (v := nI (_ + 1)) (iincN _ 1) (by decide) rfl ?_
          refine a_goto X dX5_verse_63 (tgt := 32) (by decide) ?_
          first
            | exact absurd hc50 (by rw [hw]; decide +kernel)
            | exact absurd (by rw [hw]; exact nI_pos' (by have := (who_lt hw).1; omega)) hc50
            | (have := ih j i (k + 1) q0 (by omega) rfl hc1 hc18 hj (by omega) (by omega) ((ord_stepN hk12 hw).symm.trans ho) ho2
               exact this)
            | (have := ih j (i - 1) (k + 1) q0 (by omega) rfl hc1 hc18 hj (by omega) (by omega) ((ord_stepS hk12 hw hi0).symm.trans ho) ho2
               exact this)
        · skip
          refine a_iconst X dX5_verse_53 (v := nI 0) (by decide +kernel) ?_
          refine a_goto X dX5_verse_54 (tgt := 58) (by decide) ?_
          refine s_isubN X dX5_verse_58 (by first | omega | exact absurd hc50 (by rw [hw]; decide +kernel)) ?_
          refine a_istore_n X dX5_verse_59 (i := 2) rfl (by decide) rfl ?_
          refine a_iinc X dX5_verse_60 rfl (v := nI (_ + 1)) (iincN _ 1) (by decide) rfl ?_
          refine a_goto X dX5_verse_63 (tgt := 32) (by decide) ?_
          first
            | exact absurd hc50 (by rw [hw]; decide +kernel)
            | exact absurd (by rw [hw]; exact nI_pos' (by have := (who_lt hw).1; omega)) hc50
            | (have := ih j i (k + 1) q0 (by omega) rfl hc1 hc18 hj (by omega) (by omega) ((ord_stepN hk12 hw).symm.trans ho) ho2
               exact this)
            | (have := ih j (i - 1) (k + 1) q0 (by omega) rfl hc1 hc18 hj (by omega) (by omega) ((ord_stepS hk12 hw hi0).symm.trans ho) ho2
               exact this)
      · skip
        obtain ⟨q, hw⟩ := whoSome' hc37
        refine a_iload_n X dX5_verse_40 (i := 2) rfl rfl ?_
        refine a_if_le X dX5_verse_41 (tgt := 66) (by decide) (fun hc41 => ?_) (fun hc41 => ?_)
        · skip
          have hi0 : i = 0 := nI_le0 (by omega) hc41
          subst hi0
          have hqq := (ord_hit hk12 hw).symm.trans ho
          cases hqq
          refine a_aload_n X dX5_verse_66 (i := 0) rfl rfl ?_
          refine a_aload_n X dX5_verse_67 (i := 0) rfl rfl ?_
          refine a_iload_n X dX5_verse_68 (i := 3) rfl rfl ?_
          have hqn := (who_lt hw).1
          refine s_callV_R X dX5_verse_69 lk_X5_63 ko_43 rfl rfl (c_X5_whoIn hR ok.1 (by omega) (fun m hm => Nat.lt_trans (ok.2.1 m hm).2.1 (by decide))) ⟨Nat.le_of_ble_eq_true rfl, Nat.le_of_ble_eq_true rfl⟩ rfl rfl (Nat.le_of_ble_eq_true rfl) ⟨Nat.le_of_ble_eq_true rfl, Nat.le_of_ble_eq_true rfl⟩ ?_
          rw [hw, wI_s]
          refine a_iconst X dX5_verse_72 (v := nI 2) (by decide +kernel) ?_
          refine s_callV_R X dX5_verse_73 lk_X5_55 ko_43 rfl rfl (c_X5_its hR (by omega)) ⟨Nat.le_of_ble_eq_true rfl, Nat.le_of_ble_eq_true rfl⟩ rfl rfl (Nat.le_of_ble_eq_true rfl) ⟨Nat.le_of_ble_eq_true rfl, Nat.le_of_ble_eq_true rfl⟩ ?_
          refine a_iret X hA dX5_verse_76 ?_
          exact ⟨_, _, _, _, _, rfl, rfl, md_val (ah_0 hR) (by rw [sp_verse, if_neg hc1, if_neg hc18, cl_n (show j < 2 ^ 31 by omega), ho2]; rfl)⟩
        · skip
          have hi0 := nI_gt0 hc41
          refine a_iload_n X dX5_verse_44 (i := 2) rfl rfl ?_
          refine a_aload_n X dX5_verse_45 (i := 0) rfl rfl ?_
          refine a_iload_n X dX5_verse_46 (i := 3) rfl rfl ?_
          refine s_callV_R X dX5_verse_47 lk_X5_63 ko_43 rfl rfl (c_X5_whoIn hR ok.1 (by omega) (fun m hm => Nat.lt_trans (ok.2.1 m hm).2.1 (by decide))) ⟨Nat.le_of_ble_eq_true rfl, Nat.le_of_ble_eq_true rfl⟩ rfl rfl (Nat.le_of_ble_eq_true rfl) ⟨Nat.le_of_ble_eq_true rfl, Nat.le_of_ble_eq_true rfl⟩ ?_
          refine a_if_ge X dX5_verse_50 (tgt := 57) (by decide) (fun hc50 => ?_) (fun hc50 => ?_)
          · skip
            refine a_iconst X dX5_verse_57 (v := nI 1) (by decide +kernel) ?_
            refine s_isubN X dX5_verse_58 (by first | omega | exact absurd hc50 (by rw [hw]; decide +kernel)) ?_
            refine a_istore_n X dX5_verse_59 (i := 2) rfl (by decide) rfl ?_
            refine a_iinc X dX5_verse_60 rfl (v := nI (_ + 1)) (iincN _ 1) (by decide) rfl ?_
            refine a_goto X dX5_verse_63 (tgt := 32) (by decide) ?_
            first
              | exact absurd hc50 (by rw [hw]; decide +kernel)
              | exact absurd (by rw [hw]; exact nI_pos' (by have := (who_lt hw).1; omega)) hc50
              | (have := ih j i (k + 1) q0 (by omega) rfl hc1 hc18 hj (by omega) (by omega) ((ord_stepN hk12 hw).symm.trans ho) ho2
                 exact this)
              | (have := ih j (i - 1) (k + 1) q0 (by omega) rfl hc1 hc18 hj (by omega) (by omega) ((ord_stepS hk12 hw hi0).symm.trans ho) ho2
                 exact this)
          · skip
            refine a_iconst X dX5_verse_53 (v := nI 0) (by decide +kernel) ?_
            refine a_goto X dX5_verse_54 (tgt := 58) (by decide) ?_
            refine s_isubN X dX5_verse_58 (by first | omega | exact absurd hc50 (by rw [hw]; decide +kernel)) ?_
            refine a_istore_n X dX5_verse_59 (i := 2) rfl (by decide) rfl ?_
            refine a_iinc X dX5_verse_60 rfl (v := nI (_ + 1)) (iincN _ 1) (by decide) rfl ?_
            refine a_goto X dX5_verse_63 (tgt := 32) (by decide) ?_
            first
              | exact absurd hc50 (by rw [hw]; decide +kernel)
              | exact absurd (by rw [hw]; exact nI_pos' (by have := (who_lt hw).1; omega)) hc50
              | (have := ih j i (k + 1) q0 (by omega) rfl hc1 hc18 hj (by omega) (by omega) ((ord_stepN hk12 hw).symm.trans ho) ho2
                 exact this)
              | (have := ih j (i - 1) (k + 1) q0 (by omega) rfl hc1 hc18 hj (by omega) (by omega) ((ord_stepS hk12 hw hi0).symm.trans ho) ho2
                 exact this)
  refine a_iload_n X dX5_verse_0 (i := 1) rfl rfl ?_
  refine a_if_ge X dX5_verse_1 (tgt := 11) (by decide) (fun hc1 => ?_) (fun hc1 => ?_)
  · skip
    have hc1 := Int32.not_lt.mpr hc1
    obtain ⟨j, hj31, rfl⟩ := nI_of hc1
    refine a_iload_n X dX5_verse_11 (i := 1) rfl rfl ?_
    refine a_aload_n X dX5_verse_12 (i := 0) rfl rfl ?_
    refine s_getr X dX5_verse_13 fl_X5_7 ko_43 rfl ?_
    refine a_iconst X dX5_verse_16 (v := nI 1) (by decide +kernel) ?_
    refine s_ild X dX5_verse_17 ki_44 (by omega) (by decide) ?_
    rw [h1]
    refine s_icmp_ltN X dX5_verse_18 (tgt := 28) (by decide) hj31 (by omega) (fun hc18 => ?_) (fun hc18 => ?_)
    · skip
      refine a_iload_n X dX5_verse_28 (i := 1) rfl rfl ?_
      refine a_istore_n X dX5_verse_29 (i := 2) rfl (by decide) rfl ?_
      refine a_iconst X dX5_verse_30 (v := nI 0) (by decide +kernel) ?_
      refine a_istore_n X dX5_verse_31 (i := 3) rfl (by decide) rfl ?_
      have hjn : j < R 1 := by omega
      obtain ⟨q0, hq0, -⟩ := ord_some (R := R) (n := R 1) 12 0 j (by rw [cnt_ok ok]; exact hjn)
      exact L32 13 j j 0 q0 (by omega) rfl hc1 (by rw [nI_leI (by omega) (by omega)]; omega) hjn (Nat.le_refl j) (by omega) hq0 hq0
    · skip
      refine a_aload_n X dX5_verse_21 (i := 0) rfl rfl ?_
      refine a_ldc X dX5_verse_22 kc_X5_92 ?_
      refine s_callV_R X dX5_verse_24 lk_X5_67 ko_43 rfl rfl (c_X5_finds (k := 3) (by decide) (by decide +kernel)) ⟨Nat.le_of_ble_eq_true rfl, Nat.le_of_ble_eq_true rfl⟩ rfl rfl (Nat.le_of_ble_eq_true rfl) ⟨Nat.le_of_ble_eq_true rfl, Nat.le_of_ble_eq_true rfl⟩ ?_
      refine a_iret X hA dX5_verse_27 ?_
      exact ⟨_, _, _, _, _, rfl, rfl, md_find (ah_0 hR) (k := 3) (by decide +kernel) (by rw [sp_verse, if_neg hc1, if_pos ((nI_leI (by omega) hj31).mpr (by omega))])⟩
  · skip
    refine a_aload_n X dX5_verse_4 (i := 0) rfl rfl ?_
    refine a_ldc X dX5_verse_5 kc_X5_50 ?_
    refine s_callV_R X dX5_verse_7 lk_X5_67 ko_43 rfl rfl (c_X5_finds (k := 0) (by decide) (by decide +kernel)) ⟨Nat.le_of_ble_eq_true rfl, Nat.le_of_ble_eq_true rfl⟩ rfl rfl (Nat.le_of_ble_eq_true rfl) ⟨Nat.le_of_ble_eq_true rfl, Nat.le_of_ble_eq_true rfl⟩ ?_
    refine a_iret X hA dX5_verse_10 ?_
    exact ⟨_, _, _, _, _, rfl, rfl, md_find (ah_0 hR) (k := 0) (by decide +kernel) (by rw [sp_verse, if_pos (Int32.not_le.mp hc1)])⟩
