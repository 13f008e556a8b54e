/-! the law's loop and its end -/
theorem l_le {L i : Nat} (hL : L ≤ 3072) (hi : i ≤ L) (h : ¬ nI L - nI 6 < nI i) : i + 6 ≤ L := by
  by_cases h6 : 6 ≤ L
  · have e : nI L - nI 6 = nI (L - 6) := by
      have := nI_add (L - 6) 6
      rw [show L - 6 + 6 = L by omega] at this
      rw [← this, Int32.add_sub_cancel]
    rw [e, nI_ltI (by omega) (by omega)] at h
    omega
  · have : ∀ L, L < 6 → nI L - nI 6 < 0 := by decide +kernel
    exact absurd (Int32.lt_of_lt_of_le (this L (by omega)) (nI_pos' (by omega))) h
theorem l_end {p : Program} {l : Launch} {e : Env} {s : State} {m : MethodId} {below : List Frame} {meth : Method} {c : Code} {g : GG} {w0 : Cond} {b : Nat} {lv : List (Option Value)} {h : Hp} (X : AX p s m #[Value.ref b] meth c g (fun q => s.heap.size ≤ q) code 4 RL w0 (some .boolean)) : AW p l e room_1 s m #[Value.ref b] below meth c g (fun q => s.heap.size ≤ q) 4 57 1311 (lw_Z below #[Value.ref b] s) 1233 lv [] h := fun H locs ls hP hD hS hv => by
  refine lv_iconst X.1.1 X.1.2.1 dL_law_1233 (v := 1) (by decide +kernel) ?_
  refine va_forget (fun q hq => hS.2.2 q hq) ?_
  refine W.widen (k := 600000) (n := 7302250) (Nat.le_of_ble_eq_true rfl) (Nat.le_of_ble_eq_true rfl) ?_
  exact lw_ret X.1.1 X.1.2.1 X.2.2.2.2.1 X.2.2.2.2.2 dL_law_1234
set_option maxRecDepth 100000 in
set_option maxHeartbeats 4000000 in
theorem l_loop {p : Program} {l : Launch} {e : Env} {s : State} {m : MethodId} {args : Array Value} {below : List Frame} {meth : Method} {c : Code} {g : GG} {A : Nat → Prop} {w0 : Cond} {Q : State → Prop} {b L : Nat} {xs : Nat → Int32} (X : AX p s m args meth c g A code 4 RL w0 (some .boolean)) (hX : va_X b L xs s s.heap) (hbl : b < s.heap.size) (hbA : ¬ A b) (hL : L ≤ 3072) (kend : ∀ (i : Nat) (I : TI) (J : TJ) (F : TI) (w : Int64), AW p l e room_1 s m args below meth c g A 4 57 1311 Q 1233 [some (.ref b), some (.ref (ga g 0)), some (.ref (ga g 43)), some (.int (nI i))] [] (hp g I J F w)) : ∀ (fu i : Nat), L - i < fu → i ≤ L → ∀ (I : TI) (J : TJ) (F : TI) (w : Int64), LwI I J F → AW p l e room_1 s m args below meth c g A 4 57 1311 Q 18 [some (.ref b), some (.ref (ga g 0)), some (.ref (ga g 43)), some (.int (nI i))] [] (hp g I J F w) := by
  intro fu
  induction fu with
  | zero => intro i hfu; exact absurd hfu (by omega)
  | succ fu ih =>
    intro i hfu hi I J F w hI
    refine a_iload_n X dL_law_18 (i := 3) rfl rfl ?_
    refine a_aload_n X dL_law_19 (i := 0) rfl rfl ?_
    refine a_slen X hX hbl hbA dL_law_20 ?_
    refine a_bipush X dL_law_21 (v := nI 6) (by decide +kernel) ?_
    refine a_isub X dL_law_23 ?_
    refine a_icmp_gt X dL_law_24 (tgt := 1233) (by decide) (fun hc24 => ?_) (fun hc24 => ?_)
    · exact kend i I J F w
    · have hi6 := l_le hL hi hc24
      have h27 : ∀ (I2 : TI) (J2 : TJ) (F2 : TI) (w2 : Int64), LwI I2 J2 F2 → AW p l e room_1 s m args below meth c g A 4 57 1311 Q 1227 [some (.ref b), some (.ref (ga g 0)), some (.ref (ga g 43)), some (.int (nI i))] [] (hp g I2 J2 F2 w2) := by
        intro I2 J2 F2 w2 h2
        refine a_iinc X dL_law_1227 rfl (v := nI (i + 6)) (iincN i 6) (by decide) rfl ?_
        refine a_goto X dL_law_1230 (tgt := 18) (by decide) ?_
        exact ih (i + 6) (by omega) (by omega) I2 J2 F2 w2 h2
      refine a_aload_n X dL_law_27 (i := 0) rfl rfl ?_
      refine a_iload_n X dL_law_28 (i := 3) rfl rfl ?_
      refine a_sld X hX hbl hbA dL_law_29 (by omega) hL ?_
      refine a_bipush X dL_law_30 (v := nI 63) (by decide +kernel) ?_
      refine a_iand X dL_law_32 ?_
      refine s_name (fun x33 ex33 => ?_)
      by_cases hs33_0 : x33 = nI 0
      · skip
        refine a_tsIn X dL_law_33 (by rw [hs33_0]; decide +kernel) (by rw [hs33_0]; decide +kernel) (off := 151) (by rw [hs33_0]; decide +kernel) (tgt := 184) (by decide) ?_
        exact lc_0 X hX hbl hbA hL hi6 hI h27
      · skip
        by_cases hs33_1 : x33 = nI 1
        · skip
          refine a_tsIn X dL_law_33 (by rw [hs33_1]; decide +kernel) (by rw [hs33_1]; decide +kernel) (off := 174) (by rw [hs33_1]; decide +kernel) (tgt := 207) (by decide) ?_
          exact lc_1 X hX hbl hbA hL hi6 hI h27
        · skip
          by_cases hs33_2 : x33 = nI 2
          · skip
            refine a_tsIn X dL_law_33 (by rw [hs33_2]; decide +kernel) (by rw [hs33_2]; decide +kernel) (off := 197) (by rw [hs33_2]; decide +kernel) (tgt := 230) (by decide) ?_
            exact lc_2 X hX hbl hbA hL hi6 hI h27
          · skip
            by_cases hs33_3 : x33 = nI 3
            · skip
              refine a_tsIn X dL_law_33 (by rw [hs33_3]; decide +kernel) (by rw [hs33_3]; decide +kernel) (off := 220) (by rw [hs33_3]; decide +kernel) (tgt := 253) (by decide) ?_
              exact lc_3 X hX hbl hbA hL hi6 hI h27
            · skip
              by_cases hs33_4 : x33 = nI 4
              · skip
                refine a_tsIn X dL_law_33 (by rw [hs33_4]; decide +kernel) (by rw [hs33_4]; decide +kernel) (off := 263) (by rw [hs33_4]; decide +kernel) (tgt := 296) (by decide) ?_
                exact lc_4 X hX hbl hbA hL hi6 hI h27
              · skip
                by_cases hs33_5 : x33 = nI 5
                · skip
                  refine a_tsIn X dL_law_33 (by rw [hs33_5]; decide +kernel) (by rw [hs33_5]; decide +kernel) (off := 296) (by rw [hs33_5]; decide +kernel) (tgt := 329) (by decide) ?_
                  exact lc_5 X hX hbl hbA hL hi6 hI h27
                · skip
                  by_cases hs33_6 : x33 = nI 6
                  · skip
                    refine a_tsIn X dL_law_33 (by rw [hs33_6]; decide +kernel) (by rw [hs33_6]; decide +kernel) (off := 339) (by rw [hs33_6]; decide +kernel) (tgt := 372) (by decide) ?_
                    exact lc_6 X hX hbl hbA hL hi6 hI h27
                  · skip
                    by_cases hs33_7 : x33 = nI 7
                    · skip
                      refine a_tsIn X dL_law_33 (by rw [hs33_7]; decide +kernel) (by rw [hs33_7]; decide +kernel) (off := 372) (by rw [hs33_7]; decide +kernel) (tgt := 405) (by decide) ?_
                      exact lc_7 X hX hbl hbA hL hi6 hI h27
                    · skip
                      by_cases hs33_8 : x33 = nI 8
                      · skip
                        refine a_tsIn X dL_law_33 (by rw [hs33_8]; decide +kernel) (by rw [hs33_8]; decide +kernel) (off := 405) (by rw [hs33_8]; decide +kernel) (tgt := 438) (by decide) ?_
                        exact lc_8 X hX hbl hbA hL hi6 hI h27
                      · skip
                        by_cases hs33_9 : x33 = nI 9
                        · skip
                          refine a_tsIn X dL_law_33 (by rw [hs33_9]; decide +kernel) (by rw [hs33_9]; decide +kernel) (off := 438) (by rw [hs33_9]; decide +kernel) (tgt := 471) (by decide) ?_
                          exact lc_9 X hX hbl hbA hL hi6 hI h27
                        · skip
                          by_cases hs33_10 : x33 = nI 10
                          · skip
                            refine a_tsIn X dL_law_33 (by rw [hs33_10]; decide +kernel) (by rw [hs33_10]; decide +kernel) (off := 461) (by rw [hs33_10]; decide +kernel) (tgt := 494) (by decide) ?_
                            exact lc_10 X hX hbl hbA hL hi6 hI h27
                          · skip
                            by_cases hs33_11 : x33 = nI 11
                            · skip
                              refine a_tsIn X dL_law_33 (by rw [hs33_11]; decide +kernel) (by rw [hs33_11]; decide +kernel) (off := 504) (by rw [hs33_11]; decide +kernel) (tgt := 537) (by decide) ?_
                              exact lc_11 X hX hbl hbA hL hi6 hI h27
                            · skip
                              by_cases hs33_12 : x33 = nI 12
                              · skip
                                refine a_tsIn X dL_law_33 (by rw [hs33_12]; decide +kernel) (by rw [hs33_12]; decide +kernel) (off := 537) (by rw [hs33_12]; decide +kernel) (tgt := 570) (by decide) ?_
                                exact lc_12 X hX hbl hbA hL hi6 hI h27
                              · skip
                                by_cases hs33_13 : x33 = nI 13
                                · skip
                                  refine a_tsIn X dL_law_33 (by rw [hs33_13]; decide +kernel) (by rw [hs33_13]; decide +kernel) (off := 560) (by rw [hs33_13]; decide +kernel) (tgt := 593) (by decide) ?_
                                  exact lc_13 X hX hbl hbA hL hi6 hI h27
                                · skip
                                  by_cases hs33_14 : x33 = nI 14
                                  · skip
                                    refine a_tsIn X dL_law_33 (by rw [hs33_14]; decide +kernel) (by rw [hs33_14]; decide +kernel) (off := 573) (by rw [hs33_14]; decide +kernel) (tgt := 606) (by decide) ?_
                                    exact lc_14 X hX hbl hbA hL hi6 hI h27
                                  · skip
                                    by_cases hs33_15 : x33 = nI 15
                                    · skip
                                      refine a_tsIn X dL_law_33 (by rw [hs33_15]; decide +kernel) (by rw [hs33_15]; decide +kernel) (off := 606) (by rw [hs33_15]; decide +kernel) (tgt := 639) (by decide) ?_
                                      exact lc_15 X hX hbl hbA hL hi6 hI h27
                                    · skip
                                      by_cases hs33_16 : x33 = nI 16
                                      · skip
                                        refine a_tsIn X dL_law_33 (by rw [hs33_16]; decide +kernel) (by rw [hs33_16]; decide +kernel) (off := 639) (by rw [hs33_16]; decide +kernel) (tgt := 672) (by decide) ?_
                                        exact lc_16 X hX hbl hbA hL hi6 hI h27
                                      · skip
                                        by_cases hs33_17 : x33 = nI 17
                                        · skip
                                          refine a_tsIn X dL_law_33 (by rw [hs33_17]; decide +kernel) (by rw [hs33_17]; decide +kernel) (off := 682) (by rw [hs33_17]; decide +kernel) (tgt := 715) (by decide) ?_
                                          exact lc_17 X hX hbl hbA hL hi6 hI h27
                                        · skip
                                          by_cases hs33_18 : x33 = nI 18
                                          · skip
                                            refine a_tsIn X dL_law_33 (by rw [hs33_18]; decide +kernel) (by rw [hs33_18]; decide +kernel) (off := 705) (by rw [hs33_18]; decide +kernel) (tgt := 738) (by decide) ?_
                                            exact lc_18 X hX hbl hbA hL hi6 hI h27
                                          · skip
                                            by_cases hs33_19 : x33 = nI 19
                                            · skip
                                              refine a_tsIn X dL_law_33 (by rw [hs33_19]; decide +kernel) (by rw [hs33_19]; decide +kernel) (off := 748) (by rw [hs33_19]; decide +kernel) (tgt := 781) (by decide) ?_
                                              exact lc_19 X hX hbl hbA hL hi6 hI h27
                                            · skip
                                              by_cases hs33_20 : x33 = nI 20
                                              · skip
                                                refine a_tsIn X dL_law_33 (by rw [hs33_20]; decide +kernel) (by rw [hs33_20]; decide +kernel) (off := 771) (by rw [hs33_20]; decide +kernel) (tgt := 804) (by decide) ?_
                                                exact lc_20 X hX hbl hbA hL hi6 hI h27
                                              · skip
                                                by_cases hs33_21 : x33 = nI 21
                                                · skip
                                                  refine a_tsIn X dL_law_33 (by rw [hs33_21]; decide +kernel) (by rw [hs33_21]; decide +kernel) (off := 804) (by rw [hs33_21]; decide +kernel) (tgt := 837) (by decide) ?_
                                                  exact lc_21 X hX hbl hbA hL hi6 hI h27
                                                · skip
                                                  by_cases hs33_22 : x33 = nI 22
                                                  · skip
                                                    refine a_tsIn X dL_law_33 (by rw [hs33_22]; decide +kernel) (by rw [hs33_22]; decide +kernel) (off := 817) (by rw [hs33_22]; decide +kernel) (tgt := 850) (by decide) ?_
                                                    exact lc_22 X hX hbl hbA hL hi6 hI h27
                                                  · skip
                                                    by_cases hs33_23 : x33 = nI 23
                                                    · skip
                                                      refine a_tsIn X dL_law_33 (by rw [hs33_23]; decide +kernel) (by rw [hs33_23]; decide +kernel) (off := 830) (by rw [hs33_23]; decide +kernel) (tgt := 863) (by decide) ?_
                                                      exact lc_23 X hX hbl hbA hL hi6 hI h27
                                                    · skip
                                                      by_cases hs33_24 : x33 = nI 24
                                                      · skip
                                                        refine a_tsIn X dL_law_33 (by rw [hs33_24]; decide +kernel) (by rw [hs33_24]; decide +kernel) (off := 873) (by rw [hs33_24]; decide +kernel) (tgt := 906) (by decide) ?_
                                                        exact lc_24 X hX hbl hbA hL hi6 hI h27
                                                      · skip
                                                        by_cases hs33_25 : x33 = nI 25
                                                        · skip
                                                          refine a_tsIn X dL_law_33 (by rw [hs33_25]; decide +kernel) (by rw [hs33_25]; decide +kernel) (off := 947) (by rw [hs33_25]; decide +kernel) (tgt := 980) (by decide) ?_
                                                          exact lc_25 X hX hbl hbA hL hi6 hI h27
                                                        · skip
                                                          by_cases hs33_26 : x33 = nI 26
                                                          · skip
                                                            refine a_tsIn X dL_law_33 (by rw [hs33_26]; decide +kernel) (by rw [hs33_26]; decide +kernel) (off := 1010) (by rw [hs33_26]; decide +kernel) (tgt := 1043) (by decide) ?_
                                                            exact lc_26 X hX hbl hbA hL hi6 hI h27
                                                          · skip
                                                            by_cases hs33_27 : x33 = nI 27
                                                            · skip
                                                              refine a_tsIn X dL_law_33 (by rw [hs33_27]; decide +kernel) (by rw [hs33_27]; decide +kernel) (off := 1033) (by rw [hs33_27]; decide +kernel) (tgt := 1066) (by decide) ?_
                                                              exact lc_27 X hX hbl hbA hL hi6 hI h27
                                                            · skip
                                                              by_cases hs33_28 : x33 = nI 28
                                                              · skip
                                                                refine a_tsIn X dL_law_33 (by rw [hs33_28]; decide +kernel) (by rw [hs33_28]; decide +kernel) (off := 1066) (by rw [hs33_28]; decide +kernel) (tgt := 1099) (by decide) ?_
                                                                exact lc_28 X hX hbl hbA hL hi6 hI h27
                                                              · skip
                                                                by_cases hs33_29 : x33 = nI 29
                                                                · skip
                                                                  refine a_tsIn X dL_law_33 (by rw [hs33_29]; decide +kernel) (by rw [hs33_29]; decide +kernel) (off := 1109) (by rw [hs33_29]; decide +kernel) (tgt := 1142) (by decide) ?_
                                                                  exact lc_29 X hX hbl hbA hL hi6 hI h27
                                                                · skip
                                                                  by_cases hs33_30 : x33 = nI 30
                                                                  · skip
                                                                    refine a_tsIn X dL_law_33 (by rw [hs33_30]; decide +kernel) (by rw [hs33_30]; decide +kernel) (off := 1122) (by rw [hs33_30]; decide +kernel) (tgt := 1155) (by decide) ?_
                                                                    exact lc_30 X hX hbl hbA hL hi6 hI h27
                                                                  · skip
                                                                    by_cases hs33_31 : x33 = nI 31
                                                                    · skip
                                                                      refine a_tsIn X dL_law_33 (by rw [hs33_31]; decide +kernel) (by rw [hs33_31]; decide +kernel) (off := 1135) (by rw [hs33_31]; decide +kernel) (tgt := 1168) (by decide) ?_
                                                                      exact lc_31 X hX hbl hbA hL hi6 hI h27
                                                                    · skip
                                                                      by_cases hs33_32 : x33 = nI 32
                                                                      · skip
                                                                        refine a_tsIn X dL_law_33 (by rw [hs33_32]; decide +kernel) (by rw [hs33_32]; decide +kernel) (off := 1148) (by rw [hs33_32]; decide +kernel) (tgt := 1181) (by decide) ?_
                                                                        exact lc_32 X hX hbl hbA hL hi6 hI h27
                                                                      · skip
                                                                        by_cases hs33_33 : x33 = nI 33
                                                                        · skip
                                                                          refine a_tsIn X dL_law_33 (by rw [hs33_33]; decide +kernel) (by rw [hs33_33]; decide +kernel) (off := 1171) (by rw [hs33_33]; decide +kernel) (tgt := 1204) (by decide) ?_
                                                                          exact lc_33 X hX hbl hbA hL hi6 hI h27
                                                                        · skip
                                                                          refine a_tsOut X dL_law_33 (by have z0 := lv_neT hs33_0 (a := 0) (by decide +kernel); have z1 := lv_neT hs33_1 (a := 1) (by decide +kernel); have z2 := lv_neT hs33_2 (a := 2) (by decide +kernel); have z3 := lv_neT hs33_3 (a := 3) (by decide +kernel); have z4 := lv_neT hs33_4 (a := 4) (by decide +kernel); have z5 := lv_neT hs33_5 (a := 5) (by decide +kernel); have z6 := lv_neT hs33_6 (a := 6) (by decide +kernel); have z7 := lv_neT hs33_7 (a := 7) (by decide +kernel); have z8 := lv_neT hs33_8 (a := 8) (by decide +kernel); have z9 := lv_neT hs33_9 (a := 9) (by decide +kernel); have z10 := lv_neT hs33_10 (a := 10) (by decide +kernel); have z11 := lv_neT hs33_11 (a := 11) (by decide +kernel); have z12 := lv_neT hs33_12 (a := 12) (by decide +kernel); have z13 := lv_neT hs33_13 (a := 13) (by decide +kernel); have z14 := lv_neT hs33_14 (a := 14) (by decide +kernel); have z15 := lv_neT hs33_15 (a := 15) (by decide +kernel); have z16 := lv_neT hs33_16 (a := 16) (by decide +kernel); have z17 := lv_neT hs33_17 (a := 17) (by decide +kernel); have z18 := lv_neT hs33_18 (a := 18) (by decide +kernel); have z19 := lv_neT hs33_19 (a := 19) (by decide +kernel); have z20 := lv_neT hs33_20 (a := 20) (by decide +kernel); have z21 := lv_neT hs33_21 (a := 21) (by decide +kernel); have z22 := lv_neT hs33_22 (a := 22) (by decide +kernel); have z23 := lv_neT hs33_23 (a := 23) (by decide +kernel); have z24 := lv_neT hs33_24 (a := 24) (by decide +kernel); have z25 := lv_neT hs33_25 (a := 25) (by decide +kernel); have z26 := lv_neT hs33_26 (a := 26) (by decide +kernel); have z27 := lv_neT hs33_27 (a := 27) (by decide +kernel); have z28 := lv_neT hs33_28 (a := 28) (by decide +kernel); have z29 := lv_neT hs33_29 (a := 29) (by decide +kernel); have z30 := lv_neT hs33_30 (a := 30) (by decide +kernel); have z31 := lv_neT hs33_31 (a := 31) (by decide +kernel); have z32 := lv_neT hs33_32 (a := 32) (by decide +kernel); have z33 := lv_neT hs33_33 (a := 33) (by decide +kernel); omega) (tgt := 1227) (by decide) ?_
                                                                          exact h27 _ _ _ _ hI
/-! the world at the start of the loop -/
def I0 : TI := fun P => if P = 8 ∨ P = 18 ∨ P = 28 then flF (fun _ => 0) (-1) 12 else if P = 44 then upd (fun _ => 0) (nI 0).toNatClampNeg (nI 0) else fun _ => 0
def J0 : TJ := fun _ _ => 0
def F00 : TI := fun _ _ => 0
theorem lwi_start : LwI I0 J0 F00 := by
  have ok : okR (fun _ => 0) ∧ (0 : Nat) ≤ 99999 := ⟨⟨Nat.zero_le _, fun m hm => absurd hm (Nat.not_lt_zero _), fun m k hm => absurd hm (Nat.not_lt_zero _), fun _ _ => rfl⟩, by omega⟩
  refine ⟨fun _ => 0, fun _ => 0, fun _ => 0, 0, fun _ => 0, ⟨ok, ?_, ?_, ?_, fun m hm => absurd hm (Nat.not_lt_zero _), fun q hq => ?_⟩, rfl, ⟨rfl, ok, fun q => absurd rfl q⟩, ⟨⟨by decide +kernel, by omega, fun k hk => absurd hk (by omega)⟩, ⟨by decide +kernel, by omega, fun k hk => absurd hk (by omega)⟩⟩, fun i _ => ⟨?_, Nat.zero_le _⟩, fun a _ => ⟨?_, ?_⟩, fun _ _ _ _ => rfl⟩
  · funext k
    show upd (fun _ => 0) (nI 0).toNatClampNeg (nI 0) k = nI 0
    unfold upd
    split
    · rfl
    · show (0 : Int32) = nI 0
      decide +kernel
  · show (0 : Int32) = nI 0
    decide +kernel
  · show (0 : Int32) = nI 0
    decide +kernel
  · show flF (fun _ => 0) (-1) 12 q = wI (who (fun _ => 0) q 0)
    rw [flF, if_pos hq]
    rfl
  · show (0 : Int32) = nI 0
    decide +kernel
  · rfl
  · rfl
theorem sh_eq {g : GG} {s0 s1 s2 s3 : Nat} (h0 : ga g 34 = s0) (h1 : ga g 36 = s1) (h2 : ga g 38 = s2) (h3 : ga g 40 = s3) : va_up (va_up (va_up (va_up (fun _ => none) (nI 0).toNatClampNeg (some s0)) (nI 1).toNatClampNeg (some s1)) (nI 2).toNatClampNeg (some s2)) (nI 3).toNatClampNeg (some s3) = shF g := by
  rw [nI_clamp (n := 0) (by decide), nI_clamp (n := 1) (by decide), nI_clamp (n := 2) (by decide), nI_clamp (n := 3) (by decide)]
  funext i
  match i with
  | 0 => simp [va_up, shF, h0]
  | 1 => simp [va_up, shF, h1]
  | 2 => simp [va_up, shF, h2]
  | 3 => simp [va_up, shF, h3]
  | i + 4 => simp [va_up, shF]
theorem wl57 (g : GG) (h : Hp) : wl g h = [(ga g 0, h 0), (ga g 1, h 1), (ga g 2, h 2), (ga g 3, h 3), (ga g 4, h 4), (ga g 5, h 5), (ga g 6, h 6), (ga g 7, h 7), (ga g 8, h 8), (ga g 9, h 9), (ga g 10, h 10), (ga g 11, h 11), (ga g 12, h 12), (ga g 13, h 13), (ga g 14, h 14), (ga g 15, h 15), (ga g 16, h 16), (ga g 17, h 17), (ga g 18, h 18), (ga g 19, h 19), (ga g 20, h 20), (ga g 21, h 21), (ga g 22, h 22), (ga g 23, h 23), (ga g 24, h 24), (ga g 25, h 25), (ga g 26, h 26), (ga g 27, h 27), (ga g 28, h 28), (ga g 29, h 29), (ga g 30, h 30), (ga g 31, h 31), (ga g 32, h 32), (ga g 33, h 33), (ga g 34, h 34), (ga g 35, h 35), (ga g 36, h 36), (ga g 37, h 37), (ga g 38, h 38), (ga g 39, h 39), (ga g 40, h 40), (ga g 41, h 41), (ga g 42, h 42), (ga g 43, h 43), (ga g 44, h 44), (ga g 45, h 45), (ga g 46, h 46), (ga g 47, h 47), (ga g 48, h 48), (ga g 49, h 49), (ga g 50, h 50), (ga g 51, h 51), (ga g 52, h 52), (ga g 53, h 53), (ga g 54, h 54), (ga g 55, h 55), (ga g 56, h 56)] := rfl
theorem h0_0 (g : GG) : hp g I0 J0 F00 0 0 = co 3 [.ref (ga g 1), .ref (ga g 11), .ref (ga g 21), .int (nI 0), .ref (ga g 31), .ref (ga g 33), .ref (ga g 42)] := rfl
theorem h0_1 (g : GG) : hp g I0 J0 F00 0 1 = co 0 [.int (nI 0), .int (nI 0), .ref (ga g 2), .ref (ga g 3), .ref (ga g 4), .ref (ga g 5), .ref (ga g 6), .ref (ga g 7), .ref (ga g 8), .ref (ga g 9), .ref (ga g 10)] := rfl
theorem h0_2 (g : GG) : hp g I0 J0 F00 0 2 = ci g 10 (fun _ => 0) := rfl
theorem h0_3 (g : GG) : hp g I0 J0 F00 0 3 = ci g 10 (fun _ => 0) := rfl
theorem h0_4 (g : GG) : hp g I0 J0 F00 0 4 = ci g 10 (fun _ => 0) := rfl
theorem h0_5 (g : GG) : hp g I0 J0 F00 0 5 = ci g 10 (fun _ => 0) := rfl
theorem h0_6 (g : GG) : hp g I0 J0 F00 0 6 = ci g 10 (fun _ => 0) := rfl
theorem h0_7 (g : GG) : hp g I0 J0 F00 0 7 = ci g 10 (fun _ => 0) := rfl
theorem h0_8 (g : GG) : hp g I0 J0 F00 0 8 = ci g 12 (flF (fun _ => 0) (-1) 12) := rfl
theorem h0_9 (g : GG) : hp g I0 J0 F00 0 9 = ci g 10 (fun _ => 0) := rfl
theorem h0_10 (g : GG) : hp g I0 J0 F00 0 10 = ci g 10 (fun _ => 0) := rfl
theorem h0_11 (g : GG) : hp g I0 J0 F00 0 11 = co 0 [.int (nI 0), .int (nI 0), .ref (ga g 12), .ref (ga g 13), .ref (ga g 14), .ref (ga g 15), .ref (ga g 16), .ref (ga g 17), .ref (ga g 18), .ref (ga g 19), .ref (ga g 20)] := rfl
theorem h0_12 (g : GG) : hp g I0 J0 F00 0 12 = ci g 10 (fun _ => 0) := rfl
theorem h0_13 (g : GG) : hp g I0 J0 F00 0 13 = ci g 10 (fun _ => 0) := rfl
theorem h0_14 (g : GG) : hp g I0 J0 F00 0 14 = ci g 10 (fun _ => 0) := rfl
theorem h0_15 (g : GG) : hp g I0 J0 F00 0 15 = ci g 10 (fun _ => 0) := rfl
theorem h0_16 (g : GG) : hp g I0 J0 F00 0 16 = ci g 10 (fun _ => 0) := rfl
theorem h0_17 (g : GG) : hp g I0 J0 F00 0 17 = ci g 10 (fun _ => 0) := rfl
theorem h0_18 (g : GG) : hp g I0 J0 F00 0 18 = ci g 12 (flF (fun _ => 0) (-1) 12) := rfl
theorem h0_19 (g : GG) : hp g I0 J0 F00 0 19 = ci g 10 (fun _ => 0) := rfl
theorem h0_20 (g : GG) : hp g I0 J0 F00 0 20 = ci g 10 (fun _ => 0) := rfl
theorem h0_21 (g : GG) : hp g I0 J0 F00 0 21 = co 0 [.int (nI 0), .int (nI 0), .ref (ga g 22), .ref (ga g 23), .ref (ga g 24), .ref (ga g 25), .ref (ga g 26), .ref (ga g 27), .ref (ga g 28), .ref (ga g 29), .ref (ga g 30)] := rfl
theorem h0_22 (g : GG) : hp g I0 J0 F00 0 22 = ci g 10 (fun _ => 0) := rfl
theorem h0_23 (g : GG) : hp g I0 J0 F00 0 23 = ci g 10 (fun _ => 0) := rfl
theorem h0_24 (g : GG) : hp g I0 J0 F00 0 24 = ci g 10 (fun _ => 0) := rfl
theorem h0_25 (g : GG) : hp g I0 J0 F00 0 25 = ci g 10 (fun _ => 0) := rfl
theorem h0_26 (g : GG) : hp g I0 J0 F00 0 26 = ci g 10 (fun _ => 0) := rfl
theorem h0_27 (g : GG) : hp g I0 J0 F00 0 27 = ci g 10 (fun _ => 0) := rfl
theorem h0_28 (g : GG) : hp g I0 J0 F00 0 28 = ci g 12 (flF (fun _ => 0) (-1) 12) := rfl
theorem h0_29 (g : GG) : hp g I0 J0 F00 0 29 = ci g 10 (fun _ => 0) := rfl
theorem h0_30 (g : GG) : hp g I0 J0 F00 0 30 = ci g 10 (fun _ => 0) := rfl
theorem h0_31 (g : GG) : hp g I0 J0 F00 0 31 = co 2 [.int (nI 0), .ref (ga g 32), .int (nI 0), .int (nI 0), .int (nI 0), .int (nI 0)] := rfl
theorem h0_32 (g : GG) : hp g I0 J0 F00 0 32 = ci g 120 (fun _ => 0) := rfl
theorem h0_33 (g : GG) : hp g I0 J0 F00 0 33 = cs g 4 (shF g) := rfl
theorem h0_34 (g : GG) : hp g I0 J0 F00 0 34 = co 1 [.int (nI 0), .int (nI 0), .ref (ga g 35)] := rfl
theorem h0_35 (g : GG) : hp g I0 J0 F00 0 35 = cj g 40 (fun _ => 0) := rfl
theorem h0_36 (g : GG) : hp g I0 J0 F00 0 36 = co 1 [.int (nI 0), .int (nI 0), .ref (ga g 37)] := rfl
theorem h0_37 (g : GG) : hp g I0 J0 F00 0 37 = cj g 40 (fun _ => 0) := rfl
theorem h0_38 (g : GG) : hp g I0 J0 F00 0 38 = co 1 [.int (nI 0), .int (nI 0), .ref (ga g 39)] := rfl
theorem h0_39 (g : GG) : hp g I0 J0 F00 0 39 = cj g 40 (fun _ => 0) := rfl
theorem h0_40 (g : GG) : hp g I0 J0 F00 0 40 = co 1 [.int (nI 0), .int (nI 0), .ref (ga g 41)] := rfl
theorem h0_41 (g : GG) : hp g I0 J0 F00 0 41 = cj g 40 (fun _ => 0) := rfl
theorem h0_42 (g : GG) : hp g I0 J0 F00 0 42 = ci g 7 (fun _ => 0) := rfl
theorem h0_43 (g : GG) : hp g I0 J0 F00 0 43 = co 4 [.ref (ga g 44), .ref (ga g 45), .ref (ga g 46), .ref (ga g 47), .ref (ga g 48), .ref (ga g 49), .ref (ga g 50), .int 0, .int 0, .int 0, .int 0, .long 0, .int 0, .int 0, .ref (ga g 51), .ref (ga g 52), .ref (ga g 53), .ref (ga g 54), .ref (ga g 55), .ref (ga g 56), .int 0] := rfl
theorem h0_44 (g : GG) : hp g I0 J0 F00 0 44 = ci g 62 (upd (fun _ => 0) (nI 0).toNatClampNeg (nI 0)) := rfl
theorem h0_45 (g : GG) : hp g I0 J0 F00 0 45 = ci g 7 (fun _ => 0) := rfl
theorem h0_46 (g : GG) : hp g I0 J0 F00 0 46 = ci g 10 (fun _ => 0) := rfl
theorem h0_47 (g : GG) : hp g I0 J0 F00 0 47 = ci g 10 (fun _ => 0) := rfl
theorem h0_48 (g : GG) : hp g I0 J0 F00 0 48 = ci g 62 (fun _ => 0) := rfl
theorem h0_49 (g : GG) : hp g I0 J0 F00 0 49 = ci g 62 (fun _ => 0) := rfl
theorem h0_50 (g : GG) : hp g I0 J0 F00 0 50 = ci g 120 (fun _ => 0) := rfl
theorem h0_51 (g : GG) : hp g I0 J0 F00 0 51 = ci g 4 (fun _ => 0) := rfl
theorem h0_52 (g : GG) : hp g I0 J0 F00 0 52 = ci g 4 (fun _ => 0) := rfl
theorem h0_53 (g : GG) : hp g I0 J0 F00 0 53 = cj g 160 (fun _ => 0) := rfl
theorem h0_54 (g : GG) : hp g I0 J0 F00 0 54 = cj g 40 (fun _ => 0) := rfl
theorem h0_55 (g : GG) : hp g I0 J0 F00 0 55 = ci g 62 (fun _ => 0) := rfl
theorem h0_56 (g : GG) : hp g I0 J0 F00 0 56 = ci g 62 (fun _ => 0) := rfl
