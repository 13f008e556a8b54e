/-! the law's calls, one by one -/
section ROWSL
variable {p : Program} {l : Launch} {e : Env} {R : Room} {s : State} {m : MethodId} {args : Array Value} {below : List Frame} {meth : Method} {c : Code} {g : GG} {A : Nat → Prop} {cc : ByteArray} {nL : Nat} {own : String} {w0 : Cond} {ret : Option FieldType} {cells slots : Nat} {Q : State → Prop} {pc : Nat} {lv : List (Option Value)} {st : List Value} {h : Hp} {b L : Nat} {xs : Nat → Int32}
theorem a_sld (X : AX p s m args meth c g A cc nL own w0 ret) (hX : va_X b L xs s s.heap) (hbl : b < s.heap.size) (hbA : ¬ A b) {j : Nat} (hd : decode cc pc = .ok (.iaload, 1)) (hj : j < L) (hL : L ≤ 3072) (kk : AW p l e R s m args below meth c g A nL cells slots Q (pc + 1) lv (.int (xs j) :: st) h) : AW p l e R s m args below meth c g A nL cells slots Q pc lv (.int (nI j) :: .ref b :: st) h := fun H locs ls hP hD hS hv => by
  have kk2 := kk H locs ls hP hD hS hv
  rw [← nI_clamp (n := j) (by omega)] at kk2
  exact va_sld X.1.1 X.1.2.1 hX hbl hbA hS (vp_in_nI hj (by omega)) hd kk2
theorem a_slen (X : AX p s m args meth c g A cc nL own w0 ret) (hX : va_X b L xs s s.heap) (hbl : b < s.heap.size) (hbA : ¬ A b) (hd : decode cc pc = .ok (.arraylength, 1)) (kk : AW p l e R s m args below meth c g A nL cells slots Q (pc + 1) lv (.int (nI L) :: st) h) : AW p l e R s m args below meth c g A nL cells slots Q pc lv (.ref b :: st) h := fun H locs ls hP hD hS hv => va_slen X.1.1 X.1.2.1 hX hbl hbA hS hd (kk H locs ls hP hD hS hv)
end ROWSL
theorem in_Bv {I I2 : TI} {J J2 : TJ} {F F2 : TI} {w w2 : Int64} {v : Value} {sp : SP} (h : BvR I J F w sp v I2 J2 F2 w2) : ∃ z, v = .int z := ⟨_, h.1⟩
theorem in_Md {I I2 : TI} {J J2 : TJ} {F F2 : TI} {w w2 : Int64} {v : Value} {sp : SP} (h : MdR I J F w sp v I2 J2 F2 w2) : ∃ z, v = .int z := ⟨_, h.1⟩
theorem in_ChC {I I2 : TI} {J J2 : TJ} {F F2 : TI} {w w2 : Int64} {v : Value} {sp : SP} (h : ChC I J F w sp v I2 J2 F2 w2) : ∃ z, v = .int z := ⟨_, h.1⟩
theorem in_ChM {I I2 : TI} {J J2 : TJ} {F F2 : TI} {w2 : Int64} {v : Value} {sp : SP} (h : ChM I J F sp v I2 J2 F2 w2) : ∃ z, v = .int z := ⟨_, h.1⟩
theorem in_Im {I I2 : TI} {J J2 : TJ} {F F2 : TI} {w w2 : Int64} {v : Value} {R : Nat → Nat} (h : ImC I J F w R v I2 J2 F2 w2) : ∃ z, v = .int z := ⟨_, h.1⟩
theorem in_FdC {I I2 : TI} {J J2 : TJ} {F F2 : TI} {w w2 : Int64} {v : Value} {t : Nat} {x y : Int32} (h : FdC I J F w t x y v I2 J2 F2 w2) : ∃ z, v = .int z := by
  rcases h0 : fdO t y with _ | k
  · exact ⟨_, (h.1 h0).1⟩
  · exact ⟨_, (h.2.1 k h0).1⟩
theorem in_ShC {I I2 : TI} {J J2 : TJ} {F F2 : TI} {w w2 : Int64} {v : Value} {x y z : Int32} (h : ShC I J F w x y z v I2 J2 F2 w2) : ∃ z, v = .int z := by
  rcases h0 : shO x y z with _ | k
  · exact ⟨_, (h.1 h0).1⟩
  · exact ⟨_, (h.2.1 k h0).1⟩
theorem in_WrC {I I2 : TI} {J J2 : TJ} {F F2 : TI} {w w2 : Int64} {v : Value} {x y : Int32} {u : Int64} (h : WrC I J F w x y u v I2 J2 F2 w2) : ∃ z, v = .long z := by
  rcases h0 : wrO I x y with _ | k
  · exact ⟨_, (h.1 h0).1⟩
  · exact ⟨_, (h.2.1 k h0).1⟩
theorem in_CpC {I I2 : TI} {J J2 : TJ} {F F2 : TI} {w w2 : Int64} {v : Value} {x y z : Int32} {u n : Int32} (h : CpC I J F w x y z u n v I2 J2 F2 w2) : ∃ z, v = .int z := by
  rcases h0 : cpO I x y z u n with _ | k
  · exact ⟨_, (h.1 h0).1⟩
  · exact ⟨_, (h.2.1 k h0).1⟩
theorem in_LaC {I I2 : TI} {J J2 : TJ} {F F2 : TI} {w w2 : Int64} {v : Value} {R : Nat → Nat} {x : Int32} {Z : Nat → Nat} (h : LaC I J F w R x Z v I2 J2 F2 w2) : ∃ z, v = .int z := by
  rcases h0 : bdO I x with _ | k
  · exact ⟨_, (h.1 h0).1⟩
  · exact ⟨_, (h.2.1 k h0).1⟩
theorem in_BkC {I I2 : TI} {J J2 : TJ} {F F2 : TI} {w w2 : Int64} {v : Value} {R Z : Nat → Nat} {x y : Int32} (h : BkC I J F w R x y Z v I2 J2 F2 w2) : ∃ z, v = .int z := by
  rcases h0 : bkO I (R 1) x y with _ | k
  · exact ⟨_, (h.1 h0).1⟩
  · exact ⟨_, (h.2.1 k h0).1⟩
theorem in_RdC {I I2 : TI} {J J2 : TJ} {F F2 : TI} {w w2 : Int64} {v : Value} {R Z : Nat → Nat} {x y z : Int32} (h : RdC I J F w R x y z Z v I2 J2 F2 w2) : ∃ z, v = .int z := by
  rcases h0 : rdO I (R 1) x y z with _ | k
  · exact ⟨_, (h.1 h0).1⟩
  · exact ⟨_, (h.2.1 k h0).1⟩
theorem in_FdM {I I2 : TI} {J J2 : TJ} {F F2 : TI} {w w2 : Int64} {v : Value} {t : Nat} {x y : Int32} (h : FdM I J F w t x y v I2 J2 F2 w2) : ∃ z, v = .int z := by
  rcases h0 : fdO t y with _ | k
  · exact ⟨_, (h.1 h0).1⟩
  · exact ⟨_, (h.2.1 k h0).1⟩
theorem in_ShM {I I2 : TI} {J J2 : TJ} {F F2 : TI} {w w2 : Int64} {v : Value} {x y z : Int32} (h : ShM I J F w x y z v I2 J2 F2 w2) : ∃ z, v = .int z := by
  rcases h0 : shO x y z with _ | k
  · exact ⟨_, (h.1 h0).1⟩
  · exact ⟨_, (h.2.1 k h0).1⟩
theorem in_WrM {I I2 : TI} {J J2 : TJ} {F F2 : TI} {w w2 : Int64} {v : Value} {x y : Int32} {u : Int64} (h : WrM I J F w x y u v I2 J2 F2 w2) : ∃ z, v = .long z := by
  rcases h0 : wrO I x y with _ | k
  · exact ⟨_, (h.1 h0).1⟩
  · exact ⟨_, (h.2.1 k h0).1⟩
theorem in_CpM {I I2 : TI} {J J2 : TJ} {F F2 : TI} {w w2 : Int64} {v : Value} {x y z : Int32} {u n : Int32} (h : CpM I J F w x y z u n v I2 J2 F2 w2) : ∃ z, v = .int z := by
  rcases h0 : cpO I x y z u n with _ | k
  · exact ⟨_, (h.1 h0).1⟩
  · exact ⟨_, (h.2.1 k h0).1⟩
theorem in_LaM {I I2 : TI} {J J2 : TJ} {F F2 : TI} {w w2 : Int64} {v : Value} {R : Nat → Nat} {x : Int32} {Z : Nat} (h : LaM I J F w R x Z v I2 J2 F2 w2) : ∃ z, v = .int z := by
  rcases h0 : bdO I x with _ | k
  · exact ⟨_, (h.1 h0).1⟩
  · exact ⟨_, (h.2.1 k h0).1⟩
theorem in_BkM {I I2 : TI} {J J2 : TJ} {F F2 : TI} {w w2 : Int64} {v : Value} {R Z : Nat → Nat} {x y : Int32} (h : BkM I J F w R x y Z v I2 J2 F2 w2) : ∃ z, v = .int z := by
  rcases h0 : bkO I (R 1) x y with _ | k
  · exact ⟨_, (h.1 h0).1⟩
  · exact ⟨_, (h.2.1 k h0).1⟩
theorem in_RdM {I I2 : TI} {J J2 : TJ} {F F2 : TI} {w w2 : Int64} {v : Value} {R Z : Nat → Nat} {x y z : Int32} (h : RdM I J F w R x y z Z v I2 J2 F2 w2) : ∃ z, v = .int z := by
  rcases h0 : rdO I (R 1) x y z with _ | k
  · exact ⟨_, (h.1 h0).1⟩
  · exact ⟨_, (h.2.1 k h0).1⟩
set_option maxRecDepth 100000 in
set_option maxHeartbeats 4000000 in
theorem lc_0 {p : Program} {l : Launch} {e : Env} {s : State} {m : MethodId} {args : Array Value} {below : List Frame} {meth : Method} {c : Code} {g : GG} {A : Nat → Prop} {w0 : Cond} {Q : State → Prop} {b L : Nat} {xs : Nat → Int32} (X : AX p s m args meth c g A code 4 RL w0 (some .boolean)) (hX : va_X b L xs s s.heap) (hbl : b < s.heap.size) (hbA : ¬ A b) (hL : L ≤ 3072) {i : Nat} (hi : i + 6 ≤ L) {I : TI} {J : TJ} {F : TI} {w : Int64} (hI : LwI I J F) (kk : ∀ (I2 : TI) (J2 : TJ) (F2 : TI) (w2 : Int64), LwI I2 J2 F2 → AW p l e room_1 s m args below meth c g A 4 57 1311 Q 1227 [some (.ref b), some (.ref (ga g 0)), some (.ref (ga g 43)), some (.int (nI i))] [] (hp g I2 J2 F2 w2)) : AW p l e room_1 s m args below meth c g A 4 57 1311 Q 184 [some (.ref b), some (.ref (ga g 0)), some (.ref (ga g 43)), some (.int (nI i))] [] (hp g I J F w) := by
  obtain ⟨R, Rk, B, t, Z, hA, h42, hK, hT, hS⟩ := hI
  obtain ⟨hok, h44, hC⟩ := id hA
  refine a_aload_n X dL_law_184 (i := 1) rfl rfl ?_
  refine a_aload_n X dL_law_185 (i := 0) rfl rfl ?_
  refine a_iload_n X dL_law_186 (i := 3) rfl rfl ?_
  refine a_iconst X dL_law_187 (v := nI 1) (by decide +kernel) ?_
  refine s_iaddN X dL_law_188 ?_
  refine a_sld X hX hbl hbA dL_law_189 (by omega) hL ?_
  refine s_callV_X X dL_law_190 lk_L_13 ko_0 rfl rfl (c_X4_seat hok.1 hC) ⟨Nat.le_of_ble_eq_true rfl, Nat.le_of_ble_eq_true rfl⟩ rfl rfl (Nat.le_of_ble_eq_true rfl) ⟨Nat.le_of_ble_eq_true rfl, Nat.le_of_ble_eq_true rfl⟩ (fun x1 I1 J1 F1 w1 hp1 => ?_)
  obtain ⟨z1, rfl⟩ := in_Bv hp1
  have e44 : I1 44 = nr R := (hp1.2.2.2.1 44 (by decide) (by decide)).trans h44
  refine a_aload_n X dL_law_193 (i := 2) rfl rfl ?_
  refine a_aload_n X dL_law_194 (i := 0) rfl rfl ?_
  refine a_iload_n X dL_law_195 (i := 3) rfl rfl ?_
  refine a_iconst X dL_law_196 (v := nI 1) (by decide +kernel) ?_
  refine s_iaddN X dL_law_197 ?_
  refine a_sld X hX hbl hbA dL_law_198 (by omega) hL ?_
  refine s_callV_X X dL_law_199 lk_L_17 ko_43 rfl rfl (c_X5_seat e44 hok.1) ⟨Nat.le_of_ble_eq_true rfl, Nat.le_of_ble_eq_true rfl⟩ rfl rfl (Nat.le_of_ble_eq_true rfl) ⟨Nat.le_of_ble_eq_true rfl, Nat.le_of_ble_eq_true rfl⟩ (fun y2 I2 J2 F2 w2 hp2 => ?_)
  obtain ⟨z2, rfl⟩ := in_Md hp2
  obtain ⟨ee, hI2⟩ := step_sp hK h42 hT hS hp1 hp2 (ok_sp (o1_seat R _) hok)
  have ez := Value.int.inj ee
  refine a_icmp_eq X dL_law_202 (tgt := 1227) (by decide) (fun hc202 => ?_) (fun hc202 => ?_)
  · skip
    exact kk _ _ _ _ hI2
  · skip
    exact absurd ez hc202
set_option maxRecDepth 100000 in
set_option maxHeartbeats 4000000 in
theorem lc_1 {p : Program} {l : Launch} {e : Env} {s : State} {m : MethodId} {args : Array Value} {below : List Frame} {meth : Method} {c : Code} {g : GG} {A : Nat → Prop} {w0 : Cond} {Q : State → Prop} {b L : Nat} {xs : Nat → Int32} (X : AX p s m args meth c g A code 4 RL w0 (some .boolean)) (hX : va_X b L xs s s.heap) (hbl : b < s.heap.size) (hbA : ¬ A b) (hL : L ≤ 3072) {i : Nat} (hi : i + 6 ≤ L) {I : TI} {J : TJ} {F : TI} {w : Int64} (hI : LwI I J F) (kk : ∀ (I2 : TI) (J2 : TJ) (F2 : TI) (w2 : Int64), LwI I2 J2 F2 → AW p l e room_1 s m args below meth c g A 4 57 1311 Q 1227 [some (.ref b), some (.ref (ga g 0)), some (.ref (ga g 43)), some (.int (nI i))] [] (hp g I2 J2 F2 w2)) : AW p l e room_1 s m args below meth c g A 4 57 1311 Q 207 [some (.ref b), some (.ref (ga g 0)), some (.ref (ga g 43)), some (.int (nI i))] [] (hp g I J F w) := by
  obtain ⟨R, Rk, B, t, Z, hA, h42, hK, hT, hS⟩ := hI
  obtain ⟨hok, h44, hC⟩ := id hA
  refine a_aload_n X dL_law_207 (i := 1) rfl rfl ?_
  refine a_aload_n X dL_law_208 (i := 0) rfl rfl ?_
  refine a_iload_n X dL_law_209 (i := 3) rfl rfl ?_
  refine a_iconst X dL_law_210 (v := nI 1) (by decide +kernel) ?_
  refine s_iaddN X dL_law_211 ?_
  refine a_sld X hX hbl hbA dL_law_212 (by omega) hL ?_
  refine s_callV_X X dL_law_213 lk_L_18 ko_0 rfl rfl (c_X4_now hok.1 hC) ⟨Nat.le_of_ble_eq_true rfl, Nat.le_of_ble_eq_true rfl⟩ rfl rfl (Nat.le_of_ble_eq_true rfl) ⟨Nat.le_of_ble_eq_true rfl, Nat.le_of_ble_eq_true rfl⟩ (fun x1 I1 J1 F1 w1 hp1 => ?_)
  obtain ⟨z1, rfl⟩ := in_Bv hp1
  have e44 : I1 44 = nr R := (hp1.2.2.2.1 44 (by decide) (by decide)).trans h44
  refine a_aload_n X dL_law_216 (i := 2) rfl rfl ?_
  refine a_aload_n X dL_law_217 (i := 0) rfl rfl ?_
  refine a_iload_n X dL_law_218 (i := 3) rfl rfl ?_
  refine a_iconst X dL_law_219 (v := nI 1) (by decide +kernel) ?_
  refine s_iaddN X dL_law_220 ?_
  refine a_sld X hX hbl hbA dL_law_221 (by omega) hL ?_
  refine s_callV_X X dL_law_222 lk_L_21 ko_43 rfl rfl (c_X5_now e44 hok.1) ⟨Nat.le_of_ble_eq_true rfl, Nat.le_of_ble_eq_true rfl⟩ rfl rfl (Nat.le_of_ble_eq_true rfl) ⟨Nat.le_of_ble_eq_true rfl, Nat.le_of_ble_eq_true rfl⟩ (fun y2 I2 J2 F2 w2 hp2 => ?_)
  obtain ⟨z2, rfl⟩ := in_Md hp2
  obtain ⟨ee, hI2⟩ := step_sp hK h42 hT hS hp1 hp2 (ok_sp (o1_now R _) hok)
  have ez := Value.int.inj ee
  refine a_icmp_eq X dL_law_225 (tgt := 1227) (by decide) (fun hc225 => ?_) (fun hc225 => ?_)
  · skip
    exact kk _ _ _ _ hI2
  · skip
    exact absurd ez hc225
set_option maxRecDepth 100000 in
set_option maxHeartbeats 4000000 in
theorem lc_2 {p : Program} {l : Launch} {e : Env} {s : State} {m : MethodId} {args : Array Value} {below : List Frame} {meth : Method} {c : Code} {g : GG} {A : Nat → Prop} {w0 : Cond} {Q : State → Prop} {b L : Nat} {xs : Nat → Int32} (X : AX p s m args meth c g A code 4 RL w0 (some .boolean)) (hX : va_X b L xs s s.heap) (hbl : b < s.heap.size) (hbA : ¬ A b) (hL : L ≤ 3072) {i : Nat} (hi : i + 6 ≤ L) {I : TI} {J : TJ} {F : TI} {w : Int64} (hI : LwI I J F) (kk : ∀ (I2 : TI) (J2 : TJ) (F2 : TI) (w2 : Int64), LwI I2 J2 F2 → AW p l e room_1 s m args below meth c g A 4 57 1311 Q 1227 [some (.ref b), some (.ref (ga g 0)), some (.ref (ga g 43)), some (.int (nI i))] [] (hp g I2 J2 F2 w2)) : AW p l e room_1 s m args below meth c g A 4 57 1311 Q 230 [some (.ref b), some (.ref (ga g 0)), some (.ref (ga g 43)), some (.int (nI i))] [] (hp g I J F w) := by
  obtain ⟨R, Rk, B, t, Z, hA, h42, hK, hT, hS⟩ := hI
  obtain ⟨hok, h44, hC⟩ := id hA
  refine a_aload_n X dL_law_230 (i := 1) rfl rfl ?_
  refine a_aload_n X dL_law_231 (i := 0) rfl rfl ?_
  refine a_iload_n X dL_law_232 (i := 3) rfl rfl ?_
  refine a_iconst X dL_law_233 (v := nI 1) (by decide +kernel) ?_
  refine s_iaddN X dL_law_234 ?_
  refine a_sld X hX hbl hbA dL_law_235 (by omega) hL ?_
  refine s_callV_X X dL_law_236 lk_L_22 ko_0 rfl rfl (c_X4_verse hok.1 hC) ⟨Nat.le_of_ble_eq_true rfl, Nat.le_of_ble_eq_true rfl⟩ rfl rfl (Nat.le_of_ble_eq_true rfl) ⟨Nat.le_of_ble_eq_true rfl, Nat.le_of_ble_eq_true rfl⟩ (fun x1 I1 J1 F1 w1 hp1 => ?_)
  obtain ⟨z1, rfl⟩ := in_Bv hp1
  have e44 : I1 44 = nr R := (hp1.2.2.2.1 44 (by decide) (by decide)).trans h44
  refine a_aload_n X dL_law_239 (i := 2) rfl rfl ?_
  refine a_aload_n X dL_law_240 (i := 0) rfl rfl ?_
  refine a_iload_n X dL_law_241 (i := 3) rfl rfl ?_
  refine a_iconst X dL_law_242 (v := nI 1) (by decide +kernel) ?_
  refine s_iaddN X dL_law_243 ?_
  refine a_sld X hX hbl hbA dL_law_244 (by omega) hL ?_
  refine s_callV_X X dL_law_245 lk_L_25 ko_43 rfl rfl (c_X5_verse e44 hok.1) ⟨Nat.le_of_ble_eq_true rfl, Nat.le_of_ble_eq_true rfl⟩ rfl rfl (Nat.le_of_ble_eq_true rfl) ⟨Nat.le_of_ble_eq_true rfl, Nat.le_of_ble_eq_true rfl⟩ (fun y2 I2 J2 F2 w2 hp2 => ?_)
  obtain ⟨z2, rfl⟩ := in_Md hp2
  obtain ⟨ee, hI2⟩ := step_sp hK h42 hT hS hp1 hp2 (ok_sp (o1_verse R _) hok)
  have ez := Value.int.inj ee
  refine a_icmp_eq X dL_law_248 (tgt := 1227) (by decide) (fun hc248 => ?_) (fun hc248 => ?_)
  · skip
    exact kk _ _ _ _ hI2
  · skip
    exact absurd ez hc248
set_option maxRecDepth 100000 in
set_option maxHeartbeats 4000000 in
theorem lc_3 {p : Program} {l : Launch} {e : Env} {s : State} {m : MethodId} {args : Array Value} {below : List Frame} {meth : Method} {c : Code} {g : GG} {A : Nat → Prop} {w0 : Cond} {Q : State → Prop} {b L : Nat} {xs : Nat → Int32} (X : AX p s m args meth c g A code 4 RL w0 (some .boolean)) (hX : va_X b L xs s s.heap) (hbl : b < s.heap.size) (hbA : ¬ A b) (hL : L ≤ 3072) {i : Nat} (hi : i + 6 ≤ L) {I : TI} {J : TJ} {F : TI} {w : Int64} (hI : LwI I J F) (kk : ∀ (I2 : TI) (J2 : TJ) (F2 : TI) (w2 : Int64), LwI I2 J2 F2 → AW p l e room_1 s m args below meth c g A 4 57 1311 Q 1227 [some (.ref b), some (.ref (ga g 0)), some (.ref (ga g 43)), some (.int (nI i))] [] (hp g I2 J2 F2 w2)) : AW p l e room_1 s m args below meth c g A 4 57 1311 Q 253 [some (.ref b), some (.ref (ga g 0)), some (.ref (ga g 43)), some (.int (nI i))] [] (hp g I J F w) := by
  obtain ⟨R, Rk, B, t, Z, hA, h42, hK, hT, hS⟩ := hI
  obtain ⟨hok, h44, hC⟩ := id hA
  refine a_aload_n X dL_law_253 (i := 1) rfl rfl ?_
  refine a_aload_n X dL_law_254 (i := 0) rfl rfl ?_
  refine a_iload_n X dL_law_255 (i := 3) rfl rfl ?_
  refine a_iconst X dL_law_256 (v := nI 1) (by decide +kernel) ?_
  refine s_iaddN X dL_law_257 ?_
  refine a_sld X hX hbl hbA dL_law_258 (by omega) hL ?_
  refine a_aload_n X dL_law_259 (i := 0) rfl rfl ?_
  refine a_iload_n X dL_law_260 (i := 3) rfl rfl ?_
  refine a_iconst X dL_law_261 (v := nI 2) (by decide +kernel) ?_
  refine s_iaddN X dL_law_262 ?_
  refine a_sld X hX hbl hbA dL_law_263 (by omega) hL ?_
  refine a_aload_n X dL_law_264 (i := 0) rfl rfl ?_
  refine a_iload_n X dL_law_265 (i := 3) rfl rfl ?_
  refine a_iconst X dL_law_266 (v := nI 3) (by decide +kernel) ?_
  refine s_iaddN X dL_law_267 ?_
  refine a_sld X hX hbl hbA dL_law_268 (by omega) hL ?_
  refine s_callV_X X dL_law_269 lk_L_26 ko_0 rfl rfl (c_X4_member hok.1 hC) ⟨Nat.le_of_ble_eq_true rfl, Nat.le_of_ble_eq_true rfl⟩ rfl rfl (Nat.le_of_ble_eq_true rfl) ⟨Nat.le_of_ble_eq_true rfl, Nat.le_of_ble_eq_true rfl⟩ (fun x1 I1 J1 F1 w1 hp1 => ?_)
  obtain ⟨z1, rfl⟩ := in_Bv hp1
  have e44 : I1 44 = nr R := (hp1.2.2.2.1 44 (by decide) (by decide)).trans h44
  refine a_aload_n X dL_law_272 (i := 2) rfl rfl ?_
  refine a_aload_n X dL_law_273 (i := 0) rfl rfl ?_
  refine a_iload_n X dL_law_274 (i := 3) rfl rfl ?_
  refine a_iconst X dL_law_275 (v := nI 1) (by decide +kernel) ?_
  refine s_iaddN X dL_law_276 ?_
  refine a_sld X hX hbl hbA dL_law_277 (by omega) hL ?_
  refine a_aload_n X dL_law_278 (i := 0) rfl rfl ?_
  refine a_iload_n X dL_law_279 (i := 3) rfl rfl ?_
  refine a_iconst X dL_law_280 (v := nI 2) (by decide +kernel) ?_
  refine s_iaddN X dL_law_281 ?_
  refine a_sld X hX hbl hbA dL_law_282 (by omega) hL ?_
  refine a_aload_n X dL_law_283 (i := 0) rfl rfl ?_
  refine a_iload_n X dL_law_284 (i := 3) rfl rfl ?_
  refine a_iconst X dL_law_285 (v := nI 3) (by decide +kernel) ?_
  refine s_iaddN X dL_law_286 ?_
  refine a_sld X hX hbl hbA dL_law_287 (by omega) hL ?_
  refine s_callV_X X dL_law_288 lk_L_30 ko_43 rfl rfl (c_X5_member e44 hok.1) ⟨Nat.le_of_ble_eq_true rfl, Nat.le_of_ble_eq_true rfl⟩ rfl rfl (Nat.le_of_ble_eq_true rfl) ⟨Nat.le_of_ble_eq_true rfl, Nat.le_of_ble_eq_true rfl⟩ (fun y2 I2 J2 F2 w2 hp2 => ?_)
  obtain ⟨z2, rfl⟩ := in_Md hp2
  obtain ⟨ee, hI2⟩ := step_sp hK h42 hT hS hp1 hp2 (om_member hok)
  have ez := Value.int.inj ee
  refine a_icmp_eq X dL_law_291 (tgt := 1227) (by decide) (fun hc291 => ?_) (fun hc291 => ?_)
  · skip
    exact kk _ _ _ _ hI2
  · skip
    exact absurd ez hc291
set_option maxRecDepth 100000 in
set_option maxHeartbeats 4000000 in
theorem lc_4 {p : Program} {l : Launch} {e : Env} {s : State} {m : MethodId} {args : Array Value} {below : List Frame} {meth : Method} {c : Code} {g : GG} {A : Nat → Prop} {w0 : Cond} {Q : State → Prop} {b L : Nat} {xs : Nat → Int32} (X : AX p s m args meth c g A code 4 RL w0 (some .boolean)) (hX : va_X b L xs s s.heap) (hbl : b < s.heap.size) (hbA : ¬ A b) (hL : L ≤ 3072) {i : Nat} (hi : i + 6 ≤ L) {I : TI} {J : TJ} {F : TI} {w : Int64} (hI : LwI I J F) (kk : ∀ (I2 : TI) (J2 : TJ) (F2 : TI) (w2 : Int64), LwI I2 J2 F2 → AW p l e room_1 s m args below meth c g A 4 57 1311 Q 1227 [some (.ref b), some (.ref (ga g 0)), some (.ref (ga g 43)), some (.int (nI i))] [] (hp g I2 J2 F2 w2)) : AW p l e room_1 s m args below meth c g A 4 57 1311 Q 296 [some (.ref b), some (.ref (ga g 0)), some (.ref (ga g 43)), some (.int (nI i))] [] (hp g I J F w) := by
  obtain ⟨R, Rk, B, t, Z, hA, h42, hK, hT, hS⟩ := hI
  obtain ⟨hok, h44, hC⟩ := id hA
  refine a_aload_n X dL_law_296 (i := 1) rfl rfl ?_
  refine a_aload_n X dL_law_297 (i := 0) rfl rfl ?_
  refine a_iload_n X dL_law_298 (i := 3) rfl rfl ?_
  refine a_iconst X dL_law_299 (v := nI 1) (by decide +kernel) ?_
  refine s_iaddN X dL_law_300 ?_
  refine a_sld X hX hbl hbA dL_law_301 (by omega) hL ?_
  refine a_aload_n X dL_law_302 (i := 0) rfl rfl ?_
  refine a_iload_n X dL_law_303 (i := 3) rfl rfl ?_
  refine a_iconst X dL_law_304 (v := nI 2) (by decide +kernel) ?_
  refine s_iaddN X dL_law_305 ?_
  refine a_sld X hX hbl hbA dL_law_306 (by omega) hL ?_
  refine s_callV_X X dL_law_307 lk_L_31 ko_0 rfl rfl (c_X4_of hok.1 hC (by have := hok.2; omega)) ⟨Nat.le_of_ble_eq_true rfl, Nat.le_of_ble_eq_true rfl⟩ rfl rfl (Nat.le_of_ble_eq_true rfl) ⟨Nat.le_of_ble_eq_true rfl, Nat.le_of_ble_eq_true rfl⟩ (fun x1 I1 J1 F1 w1 hp1 => ?_)
  obtain ⟨z1, rfl⟩ := in_Bv hp1
  have e44 : I1 44 = nr R := (hp1.2.2.2.1 44 (by decide) (by decide)).trans h44
  refine a_aload_n X dL_law_310 (i := 2) rfl rfl ?_
  refine a_aload_n X dL_law_311 (i := 0) rfl rfl ?_
  refine a_iload_n X dL_law_312 (i := 3) rfl rfl ?_
  refine a_iconst X dL_law_313 (v := nI 1) (by decide +kernel) ?_
  refine s_iaddN X dL_law_314 ?_
  refine a_sld X hX hbl hbA dL_law_315 (by omega) hL ?_
  refine a_aload_n X dL_law_316 (i := 0) rfl rfl ?_
  refine a_iload_n X dL_law_317 (i := 3) rfl rfl ?_
  refine a_iconst X dL_law_318 (v := nI 2) (by decide +kernel) ?_
  refine s_iaddN X dL_law_319 ?_
  refine a_sld X hX hbl hbA dL_law_320 (by omega) hL ?_
  refine s_callV_X X dL_law_321 lk_L_35 ko_43 rfl rfl (c_X5_of e44 hok.1 (by have := hok.2; omega)) ⟨Nat.le_of_ble_eq_true rfl, Nat.le_of_ble_eq_true rfl⟩ rfl rfl (Nat.le_of_ble_eq_true rfl) ⟨Nat.le_of_ble_eq_true rfl, Nat.le_of_ble_eq_true rfl⟩ (fun y2 I2 J2 F2 w2 hp2 => ?_)
  obtain ⟨z2, rfl⟩ := in_Md hp2
  obtain ⟨ee, hI2⟩ := step_sp hK h42 hT hS hp1 hp2 (ok_sp (o1_of R _ _) hok)
  have ez := Value.int.inj ee
  refine a_icmp_eq X dL_law_324 (tgt := 1227) (by decide) (fun hc324 => ?_) (fun hc324 => ?_)
  · skip
    exact kk _ _ _ _ hI2
  · skip
    exact absurd ez hc324
set_option maxRecDepth 100000 in
set_option maxHeartbeats 4000000 in
theorem lc_5 {p : Program} {l : Launch} {e : Env} {s : State} {m : MethodId} {args : Array Value} {below : List Frame} {meth : Method} {c : Code} {g : GG} {A : Nat → Prop} {w0 : Cond} {Q : State → Prop} {b L : Nat} {xs : Nat → Int32} (X : AX p s m args meth c g A code 4 RL w0 (some .boolean)) (hX : va_X b L xs s s.heap) (hbl : b < s.heap.size) (hbA : ¬ A b) (hL : L ≤ 3072) {i : Nat} (hi : i + 6 ≤ L) {I : TI} {J : TJ} {F : TI} {w : Int64} (hI : LwI I J F) (kk : ∀ (I2 : TI) (J2 : TJ) (F2 : TI) (w2 : Int64), LwI I2 J2 F2 → AW p l e room_1 s m args below meth c g A 4 57 1311 Q 1227 [some (.ref b), some (.ref (ga g 0)), some (.ref (ga g 43)), some (.int (nI i))] [] (hp g I2 J2 F2 w2)) : AW p l e room_1 s m args below meth c g A 4 57 1311 Q 329 [some (.ref b), some (.ref (ga g 0)), some (.ref (ga g 43)), some (.int (nI i))] [] (hp g I J F w) := by
  obtain ⟨R, Rk, B, t, Z, hA, h42, hK, hT, hS⟩ := hI
  obtain ⟨hok, h44, hC⟩ := id hA
  refine a_aload_n X dL_law_329 (i := 1) rfl rfl ?_
  refine a_aload_n X dL_law_330 (i := 0) rfl rfl ?_
  refine a_iload_n X dL_law_331 (i := 3) rfl rfl ?_
  refine a_iconst X dL_law_332 (v := nI 1) (by decide +kernel) ?_
  refine s_iaddN X dL_law_333 ?_
  refine a_sld X hX hbl hbA dL_law_334 (by omega) hL ?_
  refine a_aload_n X dL_law_335 (i := 0) rfl rfl ?_
  refine a_iload_n X dL_law_336 (i := 3) rfl rfl ?_
  refine a_iconst X dL_law_337 (v := nI 2) (by decide +kernel) ?_
  refine s_iaddN X dL_law_338 ?_
  refine a_sld X hX hbl hbA dL_law_339 (by omega) hL ?_
  refine a_aload_n X dL_law_340 (i := 0) rfl rfl ?_
  refine a_iload_n X dL_law_341 (i := 3) rfl rfl ?_
  refine a_iconst X dL_law_342 (v := nI 3) (by decide +kernel) ?_
  refine s_iaddN X dL_law_343 ?_
  refine a_sld X hX hbl hbA dL_law_344 (by omega) hL ?_
  refine s_callV_X X dL_law_345 lk_L_36 ko_0 rfl rfl (c_X4_set hok.1 hC) ⟨Nat.le_of_ble_eq_true rfl, Nat.le_of_ble_eq_true rfl⟩ rfl rfl (Nat.le_of_ble_eq_true rfl) ⟨Nat.le_of_ble_eq_true rfl, Nat.le_of_ble_eq_true rfl⟩ (fun x1 I1 J1 F1 w1 hp1 => ?_)
  obtain ⟨z1, rfl⟩ := in_Bv hp1
  have e44 : I1 44 = nr R := (hp1.2.2.2.1 44 (by decide) (by decide)).trans h44
  refine a_aload_n X dL_law_348 (i := 2) rfl rfl ?_
  refine a_aload_n X dL_law_349 (i := 0) rfl rfl ?_
  refine a_iload_n X dL_law_350 (i := 3) rfl rfl ?_
  refine a_iconst X dL_law_351 (v := nI 1) (by decide +kernel) ?_
  refine s_iaddN X dL_law_352 ?_
  refine a_sld X hX hbl hbA dL_law_353 (by omega) hL ?_
  refine a_aload_n X dL_law_354 (i := 0) rfl rfl ?_
  refine a_iload_n X dL_law_355 (i := 3) rfl rfl ?_
  refine a_iconst X dL_law_356 (v := nI 2) (by decide +kernel) ?_
  refine s_iaddN X dL_law_357 ?_
  refine a_sld X hX hbl hbA dL_law_358 (by omega) hL ?_
  refine a_aload_n X dL_law_359 (i := 0) rfl rfl ?_
  refine a_iload_n X dL_law_360 (i := 3) rfl rfl ?_
  refine a_iconst X dL_law_361 (v := nI 3) (by decide +kernel) ?_
  refine s_iaddN X dL_law_362 ?_
  refine a_sld X hX hbl hbA dL_law_363 (by omega) hL ?_
  refine s_callV_X X dL_law_364 lk_L_39 ko_43 rfl rfl (c_X5_set e44 hok.1) ⟨Nat.le_of_ble_eq_true rfl, Nat.le_of_ble_eq_true rfl⟩ rfl rfl (Nat.le_of_ble_eq_true rfl) ⟨Nat.le_of_ble_eq_true rfl, Nat.le_of_ble_eq_true rfl⟩ (fun y2 I2 J2 F2 w2 hp2 => ?_)
  obtain ⟨z2, rfl⟩ := in_Md hp2
  obtain ⟨ee, hI2⟩ := step_sp hK h42 hT hS hp1 hp2 (om_set hok)
  have ez := Value.int.inj ee
  refine a_icmp_eq X dL_law_367 (tgt := 1227) (by decide) (fun hc367 => ?_) (fun hc367 => ?_)
  · skip
    exact kk _ _ _ _ hI2
  · skip
    exact absurd ez hc367
set_option maxRecDepth 100000 in
set_option maxHeartbeats 4000000 in
theorem lc_6 {p : Program} {l : Launch} {e : Env} {s : State} {m : MethodId} {args : Array Value} {below : List Frame} {meth : Method} {c : Code} {g : GG} {A : Nat → Prop} {w0 : Cond} {Q : State → Prop} {b L : Nat} {xs : Nat → Int32} (X : AX p s m args meth c g A code 4 RL w0 (some .boolean)) (hX : va_X b L xs s s.heap) (hbl : b < s.heap.size) (hbA : ¬ A b) (hL : L ≤ 3072) {i : Nat} (hi : i + 6 ≤ L) {I : TI} {J : TJ} {F : TI} {w : Int64} (hI : LwI I J F) (kk : ∀ (I2 : TI) (J2 : TJ) (F2 : TI) (w2 : Int64), LwI I2 J2 F2 → AW p l e room_1 s m args below meth c g A 4 57 1311 Q 1227 [some (.ref b), some (.ref (ga g 0)), some (.ref (ga g 43)), some (.int (nI i))] [] (hp g I2 J2 F2 w2)) : AW p l e room_1 s m args below meth c g A 4 57 1311 Q 372 [some (.ref b), some (.ref (ga g 0)), some (.ref (ga g 43)), some (.int (nI i))] [] (hp g I J F w) := by
  obtain ⟨R, Rk, B, t, Z, hA, h42, hK, hT, hS⟩ := hI
  obtain ⟨hok, h44, hC⟩ := id hA
  refine a_aload_n X dL_law_372 (i := 1) rfl rfl ?_
  refine a_aload_n X dL_law_373 (i := 0) rfl rfl ?_
  refine a_iload_n X dL_law_374 (i := 3) rfl rfl ?_
  refine a_iconst X dL_law_375 (v := nI 1) (by decide +kernel) ?_
  refine s_iaddN X dL_law_376 ?_
  refine a_sld X hX hbl hbA dL_law_377 (by omega) hL ?_
  refine a_aload_n X dL_law_378 (i := 0) rfl rfl ?_
  refine a_iload_n X dL_law_379 (i := 3) rfl rfl ?_
  refine a_iconst X dL_law_380 (v := nI 2) (by decide +kernel) ?_
  refine s_iaddN X dL_law_381 ?_
  refine a_sld X hX hbl hbA dL_law_382 (by omega) hL ?_
  refine s_callV_X X dL_law_383 lk_L_40 ko_0 rfl rfl (c_X4_move hok.1 hC) ⟨Nat.le_of_ble_eq_true rfl, Nat.le_of_ble_eq_true rfl⟩ rfl rfl (Nat.le_of_ble_eq_true rfl) ⟨Nat.le_of_ble_eq_true rfl, Nat.le_of_ble_eq_true rfl⟩ (fun x1 I1 J1 F1 w1 hp1 => ?_)
  obtain ⟨z1, rfl⟩ := in_Bv hp1
  have e44 : I1 44 = nr R := (hp1.2.2.2.1 44 (by decide) (by decide)).trans h44
  refine a_aload_n X dL_law_386 (i := 2) rfl rfl ?_
  refine a_aload_n X dL_law_387 (i := 0) rfl rfl ?_
  refine a_iload_n X dL_law_388 (i := 3) rfl rfl ?_
  refine a_iconst X dL_law_389 (v := nI 1) (by decide +kernel) ?_
  refine s_iaddN X dL_law_390 ?_
  refine a_sld X hX hbl hbA dL_law_391 (by omega) hL ?_
  refine a_aload_n X dL_law_392 (i := 0) rfl rfl ?_
  refine a_iload_n X dL_law_393 (i := 3) rfl rfl ?_
  refine a_iconst X dL_law_394 (v := nI 2) (by decide +kernel) ?_
  refine s_iaddN X dL_law_395 ?_
  refine a_sld X hX hbl hbA dL_law_396 (by omega) hL ?_
  refine s_callV_X X dL_law_397 lk_L_43 ko_43 rfl rfl (c_X5_move e44 hok.1) ⟨Nat.le_of_ble_eq_true rfl, Nat.le_of_ble_eq_true rfl⟩ rfl rfl (Nat.le_of_ble_eq_true rfl) ⟨Nat.le_of_ble_eq_true rfl, Nat.le_of_ble_eq_true rfl⟩ (fun y2 I2 J2 F2 w2 hp2 => ?_)
  obtain ⟨z2, rfl⟩ := in_Md hp2
  obtain ⟨ee, hI2⟩ := step_sp hK h42 hT hS hp1 hp2 (om_move hok)
  have ez := Value.int.inj ee
  refine a_icmp_eq X dL_law_400 (tgt := 1227) (by decide) (fun hc400 => ?_) (fun hc400 => ?_)
  · skip
    exact kk _ _ _ _ hI2
  · skip
    exact absurd ez hc400
set_option maxRecDepth 100000 in
set_option maxHeartbeats 4000000 in
theorem lc_7 {p : Program} {l : Launch} {e : Env} {s : State} {m : MethodId} {args : Array Value} {below : List Frame} {meth : Method} {c : Code} {g : GG} {A : Nat → Prop} {w0 : Cond} {Q : State → Prop} {b L : Nat} {xs : Nat → Int32} (X : AX p s m args meth c g A code 4 RL w0 (some .boolean)) (hX : va_X b L xs s s.heap) (hbl : b < s.heap.size) (hbA : ¬ A b) (hL : L ≤ 3072) {i : Nat} (hi : i + 6 ≤ L) {I : TI} {J : TJ} {F : TI} {w : Int64} (hI : LwI I J F) (kk : ∀ (I2 : TI) (J2 : TJ) (F2 : TI) (w2 : Int64), LwI I2 J2 F2 → AW p l e room_1 s m args below meth c g A 4 57 1311 Q 1227 [some (.ref b), some (.ref (ga g 0)), some (.ref (ga g 43)), some (.int (nI i))] [] (hp g I2 J2 F2 w2)) : AW p l e room_1 s m args below meth c g A 4 57 1311 Q 405 [some (.ref b), some (.ref (ga g 0)), some (.ref (ga g 43)), some (.int (nI i))] [] (hp g I J F w) := by
  obtain ⟨R, Rk, B, t, Z, hA, h42, hK, hT, hS⟩ := hI
  obtain ⟨hok, h44, hC⟩ := id hA
  refine a_aload_n X dL_law_405 (i := 1) rfl rfl ?_
  refine a_aload_n X dL_law_406 (i := 0) rfl rfl ?_
  refine a_iload_n X dL_law_407 (i := 3) rfl rfl ?_
  refine a_iconst X dL_law_408 (v := nI 1) (by decide +kernel) ?_
  refine s_iaddN X dL_law_409 ?_
  refine a_sld X hX hbl hbA dL_law_410 (by omega) hL ?_
  refine a_aload_n X dL_law_411 (i := 0) rfl rfl ?_
  refine a_iload_n X dL_law_412 (i := 3) rfl rfl ?_
  refine a_iconst X dL_law_413 (v := nI 2) (by decide +kernel) ?_
  refine s_iaddN X dL_law_414 ?_
  refine a_sld X hX hbl hbA dL_law_415 (by omega) hL ?_
  refine s_callV_X X dL_law_416 lk_L_44 ko_0 rfl rfl (c_X4_turn hok.1 hC) ⟨Nat.le_of_ble_eq_true rfl, Nat.le_of_ble_eq_true rfl⟩ rfl rfl (Nat.le_of_ble_eq_true rfl) ⟨Nat.le_of_ble_eq_true rfl, Nat.le_of_ble_eq_true rfl⟩ (fun x1 I1 J1 F1 w1 hp1 => ?_)
  obtain ⟨z1, rfl⟩ := in_Bv hp1
  have e44 : I1 44 = nr R := (hp1.2.2.2.1 44 (by decide) (by decide)).trans h44
  refine a_aload_n X dL_law_419 (i := 2) rfl rfl ?_
  refine a_aload_n X dL_law_420 (i := 0) rfl rfl ?_
  refine a_iload_n X dL_law_421 (i := 3) rfl rfl ?_
  refine a_iconst X dL_law_422 (v := nI 1) (by decide +kernel) ?_
  refine s_iaddN X dL_law_423 ?_
  refine a_sld X hX hbl hbA dL_law_424 (by omega) hL ?_
  refine a_aload_n X dL_law_425 (i := 0) rfl rfl ?_
  refine a_iload_n X dL_law_426 (i := 3) rfl rfl ?_
  refine a_iconst X dL_law_427 (v := nI 2) (by decide +kernel) ?_
  refine s_iaddN X dL_law_428 ?_
  refine a_sld X hX hbl hbA dL_law_429 (by omega) hL ?_
  refine s_callV_X X dL_law_430 lk_L_47 ko_43 rfl rfl (c_X5_turn e44 hok.1) ⟨Nat.le_of_ble_eq_true rfl, Nat.le_of_ble_eq_true rfl⟩ rfl rfl (Nat.le_of_ble_eq_true rfl) ⟨Nat.le_of_ble_eq_true rfl, Nat.le_of_ble_eq_true rfl⟩ (fun y2 I2 J2 F2 w2 hp2 => ?_)
  obtain ⟨z2, rfl⟩ := in_Md hp2
  obtain ⟨ee, hI2⟩ := step_sp hK h42 hT hS hp1 hp2 (om_turn hok)
  have ez := Value.int.inj ee
  refine a_icmp_eq X dL_law_433 (tgt := 1227) (by decide) (fun hc433 => ?_) (fun hc433 => ?_)
  · skip
    exact kk _ _ _ _ hI2
  · skip
    exact absurd ez hc433
set_option maxRecDepth 100000 in
set_option maxHeartbeats 4000000 in
theorem lc_8 {p : Program} {l : Launch} {e : Env} {s : State} {m : MethodId} {args : Array Value} {below : List Frame} {meth : Method} {c : Code} {g : GG} {A : Nat → Prop} {w0 : Cond} {Q : State → Prop} {b L : Nat} {xs : Nat → Int32} (X : AX p s m args meth c g A code 4 RL w0 (some .boolean)) (hX : va_X b L xs s s.heap) (hbl : b < s.heap.size) (hbA : ¬ A b) (hL : L ≤ 3072) {i : Nat} (hi : i + 6 ≤ L) {I : TI} {J : TJ} {F : TI} {w : Int64} (hI : LwI I J F) (kk : ∀ (I2 : TI) (J2 : TJ) (F2 : TI) (w2 : Int64), LwI I2 J2 F2 → AW p l e room_1 s m args below meth c g A 4 57 1311 Q 1227 [some (.ref b), some (.ref (ga g 0)), some (.ref (ga g 43)), some (.int (nI i))] [] (hp g I2 J2 F2 w2)) : AW p l e room_1 s m args below meth c g A 4 57 1311 Q 438 [some (.ref b), some (.ref (ga g 0)), some (.ref (ga g 43)), some (.int (nI i))] [] (hp g I J F w) := by
  obtain ⟨R, Rk, B, t, Z, hA, h42, hK, hT, hS⟩ := hI
  obtain ⟨hok, h44, hC⟩ := id hA
  refine a_aload_n X dL_law_438 (i := 1) rfl rfl ?_
  refine a_aload_n X dL_law_439 (i := 0) rfl rfl ?_
  refine a_iload_n X dL_law_440 (i := 3) rfl rfl ?_
  refine a_iconst X dL_law_441 (v := nI 1) (by decide +kernel) ?_
  refine s_iaddN X dL_law_442 ?_
  refine a_sld X hX hbl hbA dL_law_443 (by omega) hL ?_
  refine a_aload_n X dL_law_444 (i := 0) rfl rfl ?_
  refine a_iload_n X dL_law_445 (i := 3) rfl rfl ?_
  refine a_iconst X dL_law_446 (v := nI 2) (by decide +kernel) ?_
  refine s_iaddN X dL_law_447 ?_
  refine a_sld X hX hbl hbA dL_law_448 (by omega) hL ?_
  refine s_callV_X X dL_law_449 lk_L_48 ko_0 rfl rfl (c_X4_as hok.1 hC) ⟨Nat.le_of_ble_eq_true rfl, Nat.le_of_ble_eq_true rfl⟩ rfl rfl (Nat.le_of_ble_eq_true rfl) ⟨Nat.le_of_ble_eq_true rfl, Nat.le_of_ble_eq_true rfl⟩ (fun x1 I1 J1 F1 w1 hp1 => ?_)
  obtain ⟨z1, rfl⟩ := in_Bv hp1
  have e44 : I1 44 = nr R := (hp1.2.2.2.1 44 (by decide) (by decide)).trans h44
  refine a_aload_n X dL_law_452 (i := 2) rfl rfl ?_
  refine a_aload_n X dL_law_453 (i := 0) rfl rfl ?_
  refine a_iload_n X dL_law_454 (i := 3) rfl rfl ?_
  refine a_iconst X dL_law_455 (v := nI 1) (by decide +kernel) ?_
  refine s_iaddN X dL_law_456 ?_
  refine a_sld X hX hbl hbA dL_law_457 (by omega) hL ?_
  refine a_aload_n X dL_law_458 (i := 0) rfl rfl ?_
  refine a_iload_n X dL_law_459 (i := 3) rfl rfl ?_
  refine a_iconst X dL_law_460 (v := nI 2) (by decide +kernel) ?_
  refine s_iaddN X dL_law_461 ?_
  refine a_sld X hX hbl hbA dL_law_462 (by omega) hL ?_
  refine s_callV_X X dL_law_463 lk_L_51 ko_43 rfl rfl (c_X5_as e44 hok.1) ⟨Nat.le_of_ble_eq_true rfl, Nat.le_of_ble_eq_true rfl⟩ rfl rfl (Nat.le_of_ble_eq_true rfl) ⟨Nat.le_of_ble_eq_true rfl, Nat.le_of_ble_eq_true rfl⟩ (fun y2 I2 J2 F2 w2 hp2 => ?_)
  obtain ⟨z2, rfl⟩ := in_Md hp2
  obtain ⟨ee, hI2⟩ := step_sp hK h42 hT hS hp1 hp2 (ok_sp (o1_as R _ _) hok)
  have ez := Value.int.inj ee
  refine a_icmp_eq X dL_law_466 (tgt := 1227) (by decide) (fun hc466 => ?_) (fun hc466 => ?_)
  · skip
    exact kk _ _ _ _ hI2
  · skip
    exact absurd ez hc466
set_option maxRecDepth 100000 in
set_option maxHeartbeats 4000000 in
theorem lc_9 {p : Program} {l : Launch} {e : Env} {s : State} {m : MethodId} {args : Array Value} {below : List Frame} {meth : Method} {c : Code} {g : GG} {A : Nat → Prop} {w0 : Cond} {Q : State → Prop} {b L : Nat} {xs : Nat → Int32} (X : AX p s m args meth c g A code 4 RL w0 (some .boolean)) (hX : va_X b L xs s s.heap) (hbl : b < s.heap.size) (hbA : ¬ A b) (hL : L ≤ 3072) {i : Nat} (hi : i + 6 ≤ L) {I : TI} {J : TJ} {F : TI} {w : Int64} (hI : LwI I J F) (kk : ∀ (I2 : TI) (J2 : TJ) (F2 : TI) (w2 : Int64), LwI I2 J2 F2 → AW p l e room_1 s m args below meth c g A 4 57 1311 Q 1227 [some (.ref b), some (.ref (ga g 0)), some (.ref (ga g 43)), some (.int (nI i))] [] (hp g I2 J2 F2 w2)) : AW p l e room_1 s m args below meth c g A 4 57 1311 Q 471 [some (.ref b), some (.ref (ga g 0)), some (.ref (ga g 43)), some (.int (nI i))] [] (hp g I J F w) := by
  obtain ⟨R, Rk, B, t, Z, hA, h42, hK, hT, hS⟩ := hI
  obtain ⟨hok, h44, hC⟩ := id hA
  refine a_aload_n X dL_law_471 (i := 1) rfl rfl ?_
  refine a_aload_n X dL_law_472 (i := 0) rfl rfl ?_
  refine a_iload_n X dL_law_473 (i := 3) rfl rfl ?_
  refine a_iconst X dL_law_474 (v := nI 1) (by decide +kernel) ?_
  refine s_iaddN X dL_law_475 ?_
  refine a_sld X hX hbl hbA dL_law_476 (by omega) hL ?_
  refine s_callV_X X dL_law_477 lk_L_52 ko_0 rfl rfl (c_X4_nights hok.1 hC (by have := hok.2; omega)) ⟨Nat.le_of_ble_eq_true rfl, Nat.le_of_ble_eq_true rfl⟩ rfl rfl (Nat.le_of_ble_eq_true rfl) ⟨Nat.le_of_ble_eq_true rfl, Nat.le_of_ble_eq_true rfl⟩ (fun x1 I1 J1 F1 w1 hp1 => ?_)
  obtain ⟨z1, rfl⟩ := in_Bv hp1
  have e44 : I1 44 = nr R := (hp1.2.2.2.1 44 (by decide) (by decide)).trans h44
  refine a_aload_n X dL_law_480 (i := 2) rfl rfl ?_
  refine a_aload_n X dL_law_481 (i := 0) rfl rfl ?_
  refine a_iload_n X dL_law_482 (i := 3) rfl rfl ?_
  refine a_iconst X dL_law_483 (v := nI 1) (by decide +kernel) ?_
  refine s_iaddN X dL_law_484 ?_
  refine a_sld X hX hbl hbA dL_law_485 (by omega) hL ?_
  refine s_callV_X X dL_law_486 lk_L_55 ko_43 rfl rfl (c_X5_nights e44 hok.1 (by have := hok.2; omega)) ⟨Nat.le_of_ble_eq_true rfl, Nat.le_of_ble_eq_true rfl⟩ rfl rfl (Nat.le_of_ble_eq_true rfl) ⟨Nat.le_of_ble_eq_true rfl, Nat.le_of_ble_eq_true rfl⟩ (fun y2 I2 J2 F2 w2 hp2 => ?_)
  obtain ⟨z2, rfl⟩ := in_Md hp2
  obtain ⟨ee, hI2⟩ := step_sp hK h42 hT hS hp1 hp2 (om_nights hok)
  have ez := Value.int.inj ee
  refine a_icmp_eq X dL_law_489 (tgt := 1227) (by decide) (fun hc489 => ?_) (fun hc489 => ?_)
  · skip
    exact kk _ _ _ _ hI2
  · skip
    exact absurd ez hc489
set_option maxRecDepth 100000 in
set_option maxHeartbeats 4000000 in
theorem lc_10 {p : Program} {l : Launch} {e : Env} {s : State} {m : MethodId} {args : Array Value} {below : List Frame} {meth : Method} {c : Code} {g : GG} {A : Nat → Prop} {w0 : Cond} {Q : State → Prop} {b L : Nat} {xs : Nat → Int32} (X : AX p s m args meth c g A code 4 RL w0 (some .boolean)) (hX : va_X b L xs s s.heap) (hbl : b < s.heap.size) (hbA : ¬ A b) (hL : L ≤ 3072) {i : Nat} (hi : i + 6 ≤ L) {I : TI} {J : TJ} {F : TI} {w : Int64} (hI : LwI I J F) (kk : ∀ (I2 : TI) (J2 : TJ) (F2 : TI) (w2 : Int64), LwI I2 J2 F2 → AW p l e room_1 s m args below meth c g A 4 57 1311 Q 1227 [some (.ref b), some (.ref (ga g 0)), some (.ref (ga g 43)), some (.int (nI i))] [] (hp g I2 J2 F2 w2)) : AW p l e room_1 s m args below meth c g A 4 57 1311 Q 494 [some (.ref b), some (.ref (ga g 0)), some (.ref (ga g 43)), some (.int (nI i))] [] (hp g I J F w) := by
  obtain ⟨R, Rk, B, t, Z, hA, h42, hK, hT, hS⟩ := hI
  obtain ⟨hok, h44, hC⟩ := id hA
  refine a_aload_n X dL_law_494 (i := 1) rfl rfl ?_
  refine a_aload_n X dL_law_495 (i := 0) rfl rfl ?_
  refine a_iload_n X dL_law_496 (i := 3) rfl rfl ?_
  refine a_iconst X dL_law_497 (v := nI 1) (by decide +kernel) ?_
  refine s_iaddN X dL_law_498 ?_
  refine a_sld X hX hbl hbA dL_law_499 (by omega) hL ?_
  refine a_aload_n X dL_law_500 (i := 0) rfl rfl ?_
  refine a_iload_n X dL_law_501 (i := 3) rfl rfl ?_
  refine a_iconst X dL_law_502 (v := nI 2) (by decide +kernel) ?_
  refine s_iaddN X dL_law_503 ?_
  refine a_sld X hX hbl hbA dL_law_504 (by omega) hL ?_
  refine a_aload_n X dL_law_505 (i := 0) rfl rfl ?_
  refine a_iload_n X dL_law_506 (i := 3) rfl rfl ?_
  refine a_iconst X dL_law_507 (v := nI 3) (by decide +kernel) ?_
  refine s_iaddN X dL_law_508 ?_
  refine a_sld X hX hbl hbA dL_law_509 (by omega) hL ?_
  refine s_callV_X X dL_law_510 lk_L_56 ko_0 rfl rfl (c_X4_on hok.1 hC (by have := hok.2; omega)) ⟨Nat.le_of_ble_eq_true rfl, Nat.le_of_ble_eq_true rfl⟩ rfl rfl (Nat.le_of_ble_eq_true rfl) ⟨Nat.le_of_ble_eq_true rfl, Nat.le_of_ble_eq_true rfl⟩ (fun x1 I1 J1 F1 w1 hp1 => ?_)
  obtain ⟨z1, rfl⟩ := in_Bv hp1
  have e44 : I1 44 = nr R := (hp1.2.2.2.1 44 (by decide) (by decide)).trans h44
  refine a_aload_n X dL_law_513 (i := 2) rfl rfl ?_
  refine a_aload_n X dL_law_514 (i := 0) rfl rfl ?_
  refine a_iload_n X dL_law_515 (i := 3) rfl rfl ?_
  refine a_iconst X dL_law_516 (v := nI 1) (by decide +kernel) ?_
  refine s_iaddN X dL_law_517 ?_
  refine a_sld X hX hbl hbA dL_law_518 (by omega) hL ?_
  refine a_aload_n X dL_law_519 (i := 0) rfl rfl ?_
  refine a_iload_n X dL_law_520 (i := 3) rfl rfl ?_
  refine a_iconst X dL_law_521 (v := nI 2) (by decide +kernel) ?_
  refine s_iaddN X dL_law_522 ?_
  refine a_sld X hX hbl hbA dL_law_523 (by omega) hL ?_
  refine a_aload_n X dL_law_524 (i := 0) rfl rfl ?_
  refine a_iload_n X dL_law_525 (i := 3) rfl rfl ?_
  refine a_iconst X dL_law_526 (v := nI 3) (by decide +kernel) ?_
  refine s_iaddN X dL_law_527 ?_
  refine a_sld X hX hbl hbA dL_law_528 (by omega) hL ?_
  refine s_callV_X X dL_law_529 lk_L_59 ko_43 rfl rfl (c_X5_on e44 hok.1 (by have := hok.2; omega)) ⟨Nat.le_of_ble_eq_true rfl, Nat.le_of_ble_eq_true rfl⟩ rfl rfl (Nat.le_of_ble_eq_true rfl) ⟨Nat.le_of_ble_eq_true rfl, Nat.le_of_ble_eq_true rfl⟩ (fun y2 I2 J2 F2 w2 hp2 => ?_)
  obtain ⟨z2, rfl⟩ := in_Md hp2
  obtain ⟨ee, hI2⟩ := step_sp hK h42 hT hS hp1 hp2 (ok_sp (o1_on R _ _ _) hok)
  have ez := Value.int.inj ee
  refine a_icmp_eq X dL_law_532 (tgt := 1227) (by decide) (fun hc532 => ?_) (fun hc532 => ?_)
  · skip
    exact kk _ _ _ _ hI2
  · skip
    exact absurd ez hc532
set_option maxRecDepth 100000 in
set_option maxHeartbeats 4000000 in
theorem lc_11 {p : Program} {l : Launch} {e : Env} {s : State} {m : MethodId} {args : Array Value} {below : List Frame} {meth : Method} {c : Code} {g : GG} {A : Nat → Prop} {w0 : Cond} {Q : State → Prop} {b L : Nat} {xs : Nat → Int32} (X : AX p s m args meth c g A code 4 RL w0 (some .boolean)) (hX : va_X b L xs s s.heap) (hbl : b < s.heap.size) (hbA : ¬ A b) (hL : L ≤ 3072) {i : Nat} (hi : i + 6 ≤ L) {I : TI} {J : TJ} {F : TI} {w : Int64} (hI : LwI I J F) (kk : ∀ (I2 : TI) (J2 : TJ) (F2 : TI) (w2 : Int64), LwI I2 J2 F2 → AW p l e room_1 s m args below meth c g A 4 57 1311 Q 1227 [some (.ref b), some (.ref (ga g 0)), some (.ref (ga g 43)), some (.int (nI i))] [] (hp g I2 J2 F2 w2)) : AW p l e room_1 s m args below meth c g A 4 57 1311 Q 537 [some (.ref b), some (.ref (ga g 0)), some (.ref (ga g 43)), some (.int (nI i))] [] (hp g I J F w) := by
  obtain ⟨R, Rk, B, t, Z, hA, h42, hK, hT, hS⟩ := hI
  obtain ⟨hok, h44, hC⟩ := id hA
  refine a_aload_n X dL_law_537 (i := 1) rfl rfl ?_
  refine a_aload_n X dL_law_538 (i := 0) rfl rfl ?_
  refine a_iload_n X dL_law_539 (i := 3) rfl rfl ?_
  refine a_iconst X dL_law_540 (v := nI 1) (by decide +kernel) ?_
  refine s_iaddN X dL_law_541 ?_
  refine a_sld X hX hbl hbA dL_law_542 (by omega) hL ?_
  refine a_aload_n X dL_law_543 (i := 0) rfl rfl ?_
  refine a_iload_n X dL_law_544 (i := 3) rfl rfl ?_
  refine a_iconst X dL_law_545 (v := nI 2) (by decide +kernel) ?_
  refine s_iaddN X dL_law_546 ?_
  refine a_sld X hX hbl hbA dL_law_547 (by omega) hL ?_
  refine s_callV_X X dL_law_548 lk_L_60 ko_0 rfl rfl (c_X4_learns hok.1 hC (by have := hok.2; omega)) ⟨Nat.le_of_ble_eq_true rfl, Nat.le_of_ble_eq_true rfl⟩ rfl rfl (Nat.le_of_ble_eq_true rfl) ⟨Nat.le_of_ble_eq_true rfl, Nat.le_of_ble_eq_true rfl⟩ (fun x1 I1 J1 F1 w1 hp1 => ?_)
  obtain ⟨z1, rfl⟩ := in_Bv hp1
  have e44 : I1 44 = nr R := (hp1.2.2.2.1 44 (by decide) (by decide)).trans h44
  refine a_aload_n X dL_law_551 (i := 2) rfl rfl ?_
  refine a_aload_n X dL_law_552 (i := 0) rfl rfl ?_
  refine a_iload_n X dL_law_553 (i := 3) rfl rfl ?_
  refine a_iconst X dL_law_554 (v := nI 1) (by decide +kernel) ?_
  refine s_iaddN X dL_law_555 ?_
  refine a_sld X hX hbl hbA dL_law_556 (by omega) hL ?_
  refine a_aload_n X dL_law_557 (i := 0) rfl rfl ?_
  refine a_iload_n X dL_law_558 (i := 3) rfl rfl ?_
  refine a_iconst X dL_law_559 (v := nI 2) (by decide +kernel) ?_
  refine s_iaddN X dL_law_560 ?_
  refine a_sld X hX hbl hbA dL_law_561 (by omega) hL ?_
  refine s_callV_X X dL_law_562 lk_L_63 ko_43 rfl rfl (c_X5_learns e44 hok.1 (by have := hok.2; omega)) ⟨Nat.le_of_ble_eq_true rfl, Nat.le_of_ble_eq_true rfl⟩ rfl rfl (Nat.le_of_ble_eq_true rfl) ⟨Nat.le_of_ble_eq_true rfl, Nat.le_of_ble_eq_true rfl⟩ (fun y2 I2 J2 F2 w2 hp2 => ?_)
  obtain ⟨z2, rfl⟩ := in_Md hp2
  obtain ⟨ee, hI2⟩ := step_sp hK h42 hT hS hp1 hp2 (ok_sp (o1_learns R _ _) hok)
  have ez := Value.int.inj ee
  refine a_icmp_eq X dL_law_565 (tgt := 1227) (by decide) (fun hc565 => ?_) (fun hc565 => ?_)
  · skip
    exact kk _ _ _ _ hI2
  · skip
    exact absurd ez hc565
set_option maxRecDepth 100000 in
set_option maxHeartbeats 4000000 in
theorem lc_12 {p : Program} {l : Launch} {e : Env} {s : State} {m : MethodId} {args : Array Value} {below : List Frame} {meth : Method} {c : Code} {g : GG} {A : Nat → Prop} {w0 : Cond} {Q : State → Prop} {b L : Nat} {xs : Nat → Int32} (X : AX p s m args meth c g A code 4 RL w0 (some .boolean)) (hX : va_X b L xs s s.heap) (hbl : b < s.heap.size) (hbA : ¬ A b) (hL : L ≤ 3072) {i : Nat} (hi : i + 6 ≤ L) {I : TI} {J : TJ} {F : TI} {w : Int64} (hI : LwI I J F) (kk : ∀ (I2 : TI) (J2 : TJ) (F2 : TI) (w2 : Int64), LwI I2 J2 F2 → AW p l e room_1 s m args below meth c g A 4 57 1311 Q 1227 [some (.ref b), some (.ref (ga g 0)), some (.ref (ga g 43)), some (.int (nI i))] [] (hp g I2 J2 F2 w2)) : AW p l e room_1 s m args below meth c g A 4 57 1311 Q 570 [some (.ref b), some (.ref (ga g 0)), some (.ref (ga g 43)), some (.int (nI i))] [] (hp g I J F w) := by
  obtain ⟨R, Rk, B, t, Z, hA, h42, hK, hT, hS⟩ := hI
  obtain ⟨hok, h44, hC⟩ := id hA
  refine a_aload_n X dL_law_570 (i := 1) rfl rfl ?_
  refine a_aload_n X dL_law_571 (i := 0) rfl rfl ?_
  refine a_iload_n X dL_law_572 (i := 3) rfl rfl ?_
  refine a_iconst X dL_law_573 (v := nI 1) (by decide +kernel) ?_
  refine s_iaddN X dL_law_574 ?_
  refine a_sld X hX hbl hbA dL_law_575 (by omega) hL ?_
  refine s_callV_X X dL_law_576 lk_L_64 ko_0 rfl rfl (c_X4_spreads hok.1 hC (by have := hok.2; omega)) ⟨Nat.le_of_ble_eq_true rfl, Nat.le_of_ble_eq_true rfl⟩ rfl rfl (Nat.le_of_ble_eq_true rfl) ⟨Nat.le_of_ble_eq_true rfl, Nat.le_of_ble_eq_true rfl⟩ (fun x1 I1 J1 F1 w1 hp1 => ?_)
  obtain ⟨z1, rfl⟩ := in_Bv hp1
  have e44 : I1 44 = nr R := (hp1.2.2.2.1 44 (by decide) (by decide)).trans h44
  refine a_aload_n X dL_law_579 (i := 2) rfl rfl ?_
  refine a_aload_n X dL_law_580 (i := 0) rfl rfl ?_
  refine a_iload_n X dL_law_581 (i := 3) rfl rfl ?_
  refine a_iconst X dL_law_582 (v := nI 1) (by decide +kernel) ?_
  refine s_iaddN X dL_law_583 ?_
  refine a_sld X hX hbl hbA dL_law_584 (by omega) hL ?_
  refine s_callV_X X dL_law_585 lk_L_67 ko_43 rfl rfl (c_X5_spreads e44 hok.1 (by have := hok.2; omega)) ⟨Nat.le_of_ble_eq_true rfl, Nat.le_of_ble_eq_true rfl⟩ rfl rfl (Nat.le_of_ble_eq_true rfl) ⟨Nat.le_of_ble_eq_true rfl, Nat.le_of_ble_eq_true rfl⟩ (fun y2 I2 J2 F2 w2 hp2 => ?_)
  obtain ⟨z2, rfl⟩ := in_Md hp2
  obtain ⟨ee, hI2⟩ := step_sp hK h42 hT hS hp1 hp2 (ok_sp (o1_spreads R _) hok)
  have ez := Value.int.inj ee
  refine a_icmp_eq X dL_law_588 (tgt := 1227) (by decide) (fun hc588 => ?_) (fun hc588 => ?_)
  · skip
    exact kk _ _ _ _ hI2
  · skip
    exact absurd ez hc588
set_option maxRecDepth 100000 in
set_option maxHeartbeats 4000000 in
theorem lc_13 {p : Program} {l : Launch} {e : Env} {s : State} {m : MethodId} {args : Array Value} {below : List Frame} {meth : Method} {c : Code} {g : GG} {A : Nat → Prop} {w0 : Cond} {Q : State → Prop} {b L : Nat} {xs : Nat → Int32} (X : AX p s m args meth c g A code 4 RL w0 (some .boolean)) (hX : va_X b L xs s s.heap) (hbl : b < s.heap.size) (hbA : ¬ A b) (hL : L ≤ 3072) {i : Nat} (hi : i + 6 ≤ L) {I : TI} {J : TJ} {F : TI} {w : Int64} (hI : LwI I J F) (kk : ∀ (I2 : TI) (J2 : TJ) (F2 : TI) (w2 : Int64), LwI I2 J2 F2 → AW p l e room_1 s m args below meth c g A 4 57 1311 Q 1227 [some (.ref b), some (.ref (ga g 0)), some (.ref (ga g 43)), some (.int (nI i))] [] (hp g I2 J2 F2 w2)) : AW p l e room_1 s m args below meth c g A 4 57 1311 Q 593 [some (.ref b), some (.ref (ga g 0)), some (.ref (ga g 43)), some (.int (nI i))] [] (hp g I J F w) := by
  obtain ⟨R, Rk, B, t, Z, hA, h42, hK, hT, hS⟩ := hI
  obtain ⟨hok, h44, hC⟩ := id hA
  refine a_aload_n X dL_law_593 (i := 1) rfl rfl ?_
  refine s_callV_X X dL_law_594 lk_L_68 ko_0 rfl rfl (c_X4_heresy hok.1 hC (by have := hok.2; omega)) ⟨Nat.le_of_ble_eq_true rfl, Nat.le_of_ble_eq_true rfl⟩ rfl rfl (Nat.le_of_ble_eq_true rfl) ⟨Nat.le_of_ble_eq_true rfl, Nat.le_of_ble_eq_true rfl⟩ (fun x1 I1 J1 F1 w1 hp1 => ?_)
  obtain ⟨z1, rfl⟩ := in_Bv hp1
  have e44 : I1 44 = nr R := (hp1.2.2.2.1 44 (by decide) (by decide)).trans h44
  refine a_aload_n X dL_law_597 (i := 2) rfl rfl ?_
  refine s_callV_X X dL_law_598 lk_L_72 ko_43 rfl rfl (c_X5_heresy e44 hok.1 (by have := hok.2; omega)) ⟨Nat.le_of_ble_eq_true rfl, Nat.le_of_ble_eq_true rfl⟩ rfl rfl (Nat.le_of_ble_eq_true rfl) ⟨Nat.le_of_ble_eq_true rfl, Nat.le_of_ble_eq_true rfl⟩ (fun y2 I2 J2 F2 w2 hp2 => ?_)
  obtain ⟨z2, rfl⟩ := in_Md hp2
  obtain ⟨ee, hI2⟩ := step_sp hK h42 hT hS hp1 hp2 (ok_sp (o1_heresy R) hok)
  have ez := Value.int.inj ee
  refine a_icmp_eq X dL_law_601 (tgt := 1227) (by decide) (fun hc601 => ?_) (fun hc601 => ?_)
  · skip
    exact kk _ _ _ _ hI2
  · skip
    exact absurd ez hc601
set_option maxRecDepth 100000 in
set_option maxHeartbeats 4000000 in
theorem lc_14 {p : Program} {l : Launch} {e : Env} {s : State} {m : MethodId} {args : Array Value} {below : List Frame} {meth : Method} {c : Code} {g : GG} {A : Nat → Prop} {w0 : Cond} {Q : State → Prop} {b L : Nat} {xs : Nat → Int32} (X : AX p s m args meth c g A code 4 RL w0 (some .boolean)) (hX : va_X b L xs s s.heap) (hbl : b < s.heap.size) (hbA : ¬ A b) (hL : L ≤ 3072) {i : Nat} (hi : i + 6 ≤ L) {I : TI} {J : TJ} {F : TI} {w : Int64} (hI : LwI I J F) (kk : ∀ (I2 : TI) (J2 : TJ) (F2 : TI) (w2 : Int64), LwI I2 J2 F2 → AW p l e room_1 s m args below meth c g A 4 57 1311 Q 1227 [some (.ref b), some (.ref (ga g 0)), some (.ref (ga g 43)), some (.int (nI i))] [] (hp g I2 J2 F2 w2)) : AW p l e room_1 s m args below meth c g A 4 57 1311 Q 606 [some (.ref b), some (.ref (ga g 0)), some (.ref (ga g 43)), some (.int (nI i))] [] (hp g I J F w) := by
  obtain ⟨R, Rk, B, t, Z, hA, h42, hK, hT, hS⟩ := hI
  obtain ⟨hok, h44, hC⟩ := id hA
  refine a_aload_n X dL_law_606 (i := 1) rfl rfl ?_
  refine a_aload_n X dL_law_607 (i := 0) rfl rfl ?_
  refine a_iload_n X dL_law_608 (i := 3) rfl rfl ?_
  refine a_iconst X dL_law_609 (v := nI 1) (by decide +kernel) ?_
  refine s_iaddN X dL_law_610 ?_
  refine a_sld X hX hbl hbA dL_law_611 (by omega) hL ?_
  refine a_aload_n X dL_law_612 (i := 0) rfl rfl ?_
  refine a_iload_n X dL_law_613 (i := 3) rfl rfl ?_
  refine a_iconst X dL_law_614 (v := nI 2) (by decide +kernel) ?_
  refine s_iaddN X dL_law_615 ?_
  refine a_sld X hX hbl hbA dL_law_616 (by omega) hL ?_
  refine s_callV_X X dL_law_617 lk_L_73 ko_0 rfl rfl (c_X4_best hok.1 hC (by have := hok.2; omega)) ⟨Nat.le_of_ble_eq_true rfl, Nat.le_of_ble_eq_true rfl⟩ rfl rfl (Nat.le_of_ble_eq_true rfl) ⟨Nat.le_of_ble_eq_true rfl, Nat.le_of_ble_eq_true rfl⟩ (fun x1 I1 J1 F1 w1 hp1 => ?_)
  obtain ⟨z1, rfl⟩ := in_Bv hp1
  have e44 : I1 44 = nr R := (hp1.2.2.2.1 44 (by decide) (by decide)).trans h44
  refine a_aload_n X dL_law_620 (i := 2) rfl rfl ?_
  refine a_aload_n X dL_law_621 (i := 0) rfl rfl ?_
  refine a_iload_n X dL_law_622 (i := 3) rfl rfl ?_
  refine a_iconst X dL_law_623 (v := nI 1) (by decide +kernel) ?_
  refine s_iaddN X dL_law_624 ?_
  refine a_sld X hX hbl hbA dL_law_625 (by omega) hL ?_
  refine a_aload_n X dL_law_626 (i := 0) rfl rfl ?_
  refine a_iload_n X dL_law_627 (i := 3) rfl rfl ?_
  refine a_iconst X dL_law_628 (v := nI 2) (by decide +kernel) ?_
  refine s_iaddN X dL_law_629 ?_
  refine a_sld X hX hbl hbA dL_law_630 (by omega) hL ?_
  refine s_callV_X X dL_law_631 lk_L_76 ko_43 rfl rfl (c_X5_best e44 hok.1 (by have := hok.2; omega)) ⟨Nat.le_of_ble_eq_true rfl, Nat.le_of_ble_eq_true rfl⟩ rfl rfl (Nat.le_of_ble_eq_true rfl) ⟨Nat.le_of_ble_eq_true rfl, Nat.le_of_ble_eq_true rfl⟩ (fun y2 I2 J2 F2 w2 hp2 => ?_)
  obtain ⟨z2, rfl⟩ := in_Md hp2
  obtain ⟨ee, hI2⟩ := step_sp hK h42 hT hS hp1 hp2 (ok_sp (o1_best R _ _) hok)
  have ez := Value.int.inj ee
  refine a_icmp_eq X dL_law_634 (tgt := 1227) (by decide) (fun hc634 => ?_) (fun hc634 => ?_)
  · skip
    exact kk _ _ _ _ hI2
  · skip
    exact absurd ez hc634
set_option maxRecDepth 100000 in
set_option maxHeartbeats 4000000 in
theorem lc_15 {p : Program} {l : Launch} {e : Env} {s : State} {m : MethodId} {args : Array Value} {below : List Frame} {meth : Method} {c : Code} {g : GG} {A : Nat → Prop} {w0 : Cond} {Q : State → Prop} {b L : Nat} {xs : Nat → Int32} (X : AX p s m args meth c g A code 4 RL w0 (some .boolean)) (hX : va_X b L xs s s.heap) (hbl : b < s.heap.size) (hbA : ¬ A b) (hL : L ≤ 3072) {i : Nat} (hi : i + 6 ≤ L) {I : TI} {J : TJ} {F : TI} {w : Int64} (hI : LwI I J F) (kk : ∀ (I2 : TI) (J2 : TJ) (F2 : TI) (w2 : Int64), LwI I2 J2 F2 → AW p l e room_1 s m args below meth c g A 4 57 1311 Q 1227 [some (.ref b), some (.ref (ga g 0)), some (.ref (ga g 43)), some (.int (nI i))] [] (hp g I2 J2 F2 w2)) : AW p l e room_1 s m args below meth c g A 4 57 1311 Q 639 [some (.ref b), some (.ref (ga g 0)), some (.ref (ga g 43)), some (.int (nI i))] [] (hp g I J F w) := by
  obtain ⟨R, Rk, B, t, Z, hA, h42, hK, hT, hS⟩ := hI
  obtain ⟨hok, h44, hC⟩ := id hA
  refine a_aload_n X dL_law_639 (i := 1) rfl rfl ?_
  refine a_aload_n X dL_law_640 (i := 0) rfl rfl ?_
  refine a_iload_n X dL_law_641 (i := 3) rfl rfl ?_
  refine a_iconst X dL_law_642 (v := nI 1) (by decide +kernel) ?_
  refine s_iaddN X dL_law_643 ?_
  refine a_sld X hX hbl hbA dL_law_644 (by omega) hL ?_
  refine a_aload_n X dL_law_645 (i := 0) rfl rfl ?_
  refine a_iload_n X dL_law_646 (i := 3) rfl rfl ?_
  refine a_iconst X dL_law_647 (v := nI 2) (by decide +kernel) ?_
  refine s_iaddN X dL_law_648 ?_
  refine a_sld X hX hbl hbA dL_law_649 (by omega) hL ?_
  refine s_callV_X X dL_law_650 lk_L_77 ko_0 rfl rfl (c_X4_kind hok.1 hC (by have := hok.2; omega)) ⟨Nat.le_of_ble_eq_true rfl, Nat.le_of_ble_eq_true rfl⟩ rfl rfl (Nat.le_of_ble_eq_true rfl) ⟨Nat.le_of_ble_eq_true rfl, Nat.le_of_ble_eq_true rfl⟩ (fun x1 I1 J1 F1 w1 hp1 => ?_)
  obtain ⟨z1, rfl⟩ := in_Bv hp1
  have e44 : I1 44 = nr R := (hp1.2.2.2.1 44 (by decide) (by decide)).trans h44
  refine a_aload_n X dL_law_653 (i := 2) rfl rfl ?_
  refine a_aload_n X dL_law_654 (i := 0) rfl rfl ?_
  refine a_iload_n X dL_law_655 (i := 3) rfl rfl ?_
  refine a_iconst X dL_law_656 (v := nI 1) (by decide +kernel) ?_
  refine s_iaddN X dL_law_657 ?_
  refine a_sld X hX hbl hbA dL_law_658 (by omega) hL ?_
  refine a_aload_n X dL_law_659 (i := 0) rfl rfl ?_
  refine a_iload_n X dL_law_660 (i := 3) rfl rfl ?_
  refine a_iconst X dL_law_661 (v := nI 2) (by decide +kernel) ?_
  refine s_iaddN X dL_law_662 ?_
  refine a_sld X hX hbl hbA dL_law_663 (by omega) hL ?_
  refine s_callV_X X dL_law_664 lk_L_80 ko_43 rfl rfl (c_X5_kind e44 hok.1 (by have := hok.2; omega)) ⟨Nat.le_of_ble_eq_true rfl, Nat.le_of_ble_eq_true rfl⟩ rfl rfl (Nat.le_of_ble_eq_true rfl) ⟨Nat.le_of_ble_eq_true rfl, Nat.le_of_ble_eq_true rfl⟩ (fun y2 I2 J2 F2 w2 hp2 => ?_)
  obtain ⟨z2, rfl⟩ := in_Md hp2
  obtain ⟨ee, hI2⟩ := step_sp hK h42 hT hS hp1 hp2 (ok_sp (o1_kind R _ _) hok)
  have ez := Value.int.inj ee
  refine a_icmp_eq X dL_law_667 (tgt := 1227) (by decide) (fun hc667 => ?_) (fun hc667 => ?_)
  · skip
    exact kk _ _ _ _ hI2
  · skip
    exact absurd ez hc667
set_option maxRecDepth 100000 in
set_option maxHeartbeats 4000000 in
theorem lc_16 {p : Program} {l : Launch} {e : Env} {s : State} {m : MethodId} {args : Array Value} {below : List Frame} {meth : Method} {c : Code} {g : GG} {A : Nat → Prop} {w0 : Cond} {Q : State → Prop} {b L : Nat} {xs : Nat → Int32} (X : AX p s m args meth c g A code 4 RL w0 (some .boolean)) (hX : va_X b L xs s s.heap) (hbl : b < s.heap.size) (hbA : ¬ A b) (hL : L ≤ 3072) {i : Nat} (hi : i + 6 ≤ L) {I : TI} {J : TJ} {F : TI} {w : Int64} (hI : LwI I J F) (kk : ∀ (I2 : TI) (J2 : TJ) (F2 : TI) (w2 : Int64), LwI I2 J2 F2 → AW p l e room_1 s m args below meth c g A 4 57 1311 Q 1227 [some (.ref b), some (.ref (ga g 0)), some (.ref (ga g 43)), some (.int (nI i))] [] (hp g I2 J2 F2 w2)) : AW p l e room_1 s m args below meth c g A 4 57 1311 Q 672 [some (.ref b), some (.ref (ga g 0)), some (.ref (ga g 43)), some (.int (nI i))] [] (hp g I J F w) := by
  obtain ⟨R, Rk, B, t, Z, hA, h42, hK, hT, hS⟩ := hI
  obtain ⟨hok, h44, hC⟩ := id hA
  refine a_aload_n X dL_law_672 (i := 1) rfl rfl ?_
  refine a_aload_n X dL_law_673 (i := 0) rfl rfl ?_
  refine a_iload_n X dL_law_674 (i := 3) rfl rfl ?_
  refine a_iconst X dL_law_675 (v := nI 1) (by decide +kernel) ?_
  refine s_iaddN X dL_law_676 ?_
  refine a_sld X hX hbl hbA dL_law_677 (by omega) hL ?_
  refine a_aload_n X dL_law_678 (i := 0) rfl rfl ?_
  refine a_iload_n X dL_law_679 (i := 3) rfl rfl ?_
  refine a_iconst X dL_law_680 (v := nI 2) (by decide +kernel) ?_
  refine s_iaddN X dL_law_681 ?_
  refine a_sld X hX hbl hbA dL_law_682 (by omega) hL ?_
  refine a_aload_n X dL_law_683 (i := 0) rfl rfl ?_
  refine a_iload_n X dL_law_684 (i := 3) rfl rfl ?_
  refine a_iconst X dL_law_685 (v := nI 3) (by decide +kernel) ?_
  refine s_iaddN X dL_law_686 ?_
  refine a_sld X hX hbl hbA dL_law_687 (by omega) hL ?_
  refine s_callV_X X dL_law_688 lk_L_81 ko_0 rfl rfl (c_X4_deep hok.1 hC (by have := hok.2; omega)) ⟨Nat.le_of_ble_eq_true rfl, Nat.le_of_ble_eq_true rfl⟩ rfl rfl (Nat.le_of_ble_eq_true rfl) ⟨Nat.le_of_ble_eq_true rfl, Nat.le_of_ble_eq_true rfl⟩ (fun x1 I1 J1 F1 w1 hp1 => ?_)
  obtain ⟨z1, rfl⟩ := in_Bv hp1
  have e44 : I1 44 = nr R := (hp1.2.2.2.1 44 (by decide) (by decide)).trans h44
  refine a_aload_n X dL_law_691 (i := 2) rfl rfl ?_
  refine a_aload_n X dL_law_692 (i := 0) rfl rfl ?_
  refine a_iload_n X dL_law_693 (i := 3) rfl rfl ?_
  refine a_iconst X dL_law_694 (v := nI 1) (by decide +kernel) ?_
  refine s_iaddN X dL_law_695 ?_
  refine a_sld X hX hbl hbA dL_law_696 (by omega) hL ?_
  refine a_aload_n X dL_law_697 (i := 0) rfl rfl ?_
  refine a_iload_n X dL_law_698 (i := 3) rfl rfl ?_
  refine a_iconst X dL_law_699 (v := nI 2) (by decide +kernel) ?_
  refine s_iaddN X dL_law_700 ?_
  refine a_sld X hX hbl hbA dL_law_701 (by omega) hL ?_
  refine a_aload_n X dL_law_702 (i := 0) rfl rfl ?_
  refine a_iload_n X dL_law_703 (i := 3) rfl rfl ?_
  refine a_iconst X dL_law_704 (v := nI 3) (by decide +kernel) ?_
  refine s_iaddN X dL_law_705 ?_
  refine a_sld X hX hbl hbA dL_law_706 (by omega) hL ?_
  refine s_callV_X X dL_law_707 lk_L_84 ko_43 rfl rfl (c_X5_deep e44 hok.1 (by have := hok.2; omega)) ⟨Nat.le_of_ble_eq_true rfl, Nat.le_of_ble_eq_true rfl⟩ rfl rfl (Nat.le_of_ble_eq_true rfl) ⟨Nat.le_of_ble_eq_true rfl, Nat.le_of_ble_eq_true rfl⟩ (fun y2 I2 J2 F2 w2 hp2 => ?_)
  obtain ⟨z2, rfl⟩ := in_Md hp2
  obtain ⟨ee, hI2⟩ := step_sp hK h42 hT hS hp1 hp2 (ok_sp (o1_deep R _ _ _) hok)
  have ez := Value.int.inj ee
  refine a_icmp_eq X dL_law_710 (tgt := 1227) (by decide) (fun hc710 => ?_) (fun hc710 => ?_)
  · skip
    exact kk _ _ _ _ hI2
  · skip
    exact absurd ez hc710
set_option maxRecDepth 100000 in
set_option maxHeartbeats 4000000 in
theorem lc_17 {p : Program} {l : Launch} {e : Env} {s : State} {m : MethodId} {args : Array Value} {below : List Frame} {meth : Method} {c : Code} {g : GG} {A : Nat → Prop} {w0 : Cond} {Q : State → Prop} {b L : Nat} {xs : Nat → Int32} (X : AX p s m args meth c g A code 4 RL w0 (some .boolean)) (hX : va_X b L xs s s.heap) (hbl : b < s.heap.size) (hbA : ¬ A b) (hL : L ≤ 3072) {i : Nat} (hi : i + 6 ≤ L) {I : TI} {J : TJ} {F : TI} {w : Int64} (hI : LwI I J F) (kk : ∀ (I2 : TI) (J2 : TJ) (F2 : TI) (w2 : Int64), LwI I2 J2 F2 → AW p l e room_1 s m args below meth c g A 4 57 1311 Q 1227 [some (.ref b), some (.ref (ga g 0)), some (.ref (ga g 43)), some (.int (nI i))] [] (hp g I2 J2 F2 w2)) : AW p l e room_1 s m args below meth c g A 4 57 1311 Q 715 [some (.ref b), some (.ref (ga g 0)), some (.ref (ga g 43)), some (.int (nI i))] [] (hp g I J F w) := by
  obtain ⟨R, Rk, B, t, Z, hA, h42, hK, hT, hS⟩ := hI
  obtain ⟨hok, h44, hC⟩ := id hA
  refine a_aload_n X dL_law_715 (i := 1) rfl rfl ?_
  refine a_aload_n X dL_law_716 (i := 0) rfl rfl ?_
  refine a_iload_n X dL_law_717 (i := 3) rfl rfl ?_
  refine a_iconst X dL_law_718 (v := nI 1) (by decide +kernel) ?_
  refine s_iaddN X dL_law_719 ?_
  refine a_sld X hX hbl hbA dL_law_720 (by omega) hL ?_
  refine s_callV_X X dL_law_721 lk_L_85 ko_0 rfl rfl (c_X4_shift hok.1 hC (by have := hok.2; omega)) ⟨Nat.le_of_ble_eq_true rfl, Nat.le_of_ble_eq_true rfl⟩ rfl rfl (Nat.le_of_ble_eq_true rfl) ⟨Nat.le_of_ble_eq_true rfl, Nat.le_of_ble_eq_true rfl⟩ (fun x1 I1 J1 F1 w1 hp1 => ?_)
  obtain ⟨z1, rfl⟩ := in_Bv hp1
  have e44 : I1 44 = nr R := (hp1.2.2.2.1 44 (by decide) (by decide)).trans h44
  refine a_aload_n X dL_law_724 (i := 2) rfl rfl ?_
  refine a_aload_n X dL_law_725 (i := 0) rfl rfl ?_
  refine a_iload_n X dL_law_726 (i := 3) rfl rfl ?_
  refine a_iconst X dL_law_727 (v := nI 1) (by decide +kernel) ?_
  refine s_iaddN X dL_law_728 ?_
  refine a_sld X hX hbl hbA dL_law_729 (by omega) hL ?_
  refine s_callV_X X dL_law_730 lk_L_88 ko_43 rfl rfl (c_X5_shift e44 hok.1 (by have := hok.2; omega)) ⟨Nat.le_of_ble_eq_true rfl, Nat.le_of_ble_eq_true rfl⟩ rfl rfl (Nat.le_of_ble_eq_true rfl) ⟨Nat.le_of_ble_eq_true rfl, Nat.le_of_ble_eq_true rfl⟩ (fun y2 I2 J2 F2 w2 hp2 => ?_)
  obtain ⟨z2, rfl⟩ := in_Md hp2
  obtain ⟨ee, hI2⟩ := step_sp hK h42 hT hS hp1 hp2 (ok_sp (o1_shift R _) hok)
  have ez := Value.int.inj ee
  refine a_icmp_eq X dL_law_733 (tgt := 1227) (by decide) (fun hc733 => ?_) (fun hc733 => ?_)
  · skip
    exact kk _ _ _ _ hI2
  · skip
    exact absurd ez hc733
set_option maxRecDepth 100000 in
set_option maxHeartbeats 4000000 in
theorem lc_18 {p : Program} {l : Launch} {e : Env} {s : State} {m : MethodId} {args : Array Value} {below : List Frame} {meth : Method} {c : Code} {g : GG} {A : Nat → Prop} {w0 : Cond} {Q : State → Prop} {b L : Nat} {xs : Nat → Int32} (X : AX p s m args meth c g A code 4 RL w0 (some .boolean)) (hX : va_X b L xs s s.heap) (hbl : b < s.heap.size) (hbA : ¬ A b) (hL : L ≤ 3072) {i : Nat} (hi : i + 6 ≤ L) {I : TI} {J : TJ} {F : TI} {w : Int64} (hI : LwI I J F) (kk : ∀ (I2 : TI) (J2 : TJ) (F2 : TI) (w2 : Int64), LwI I2 J2 F2 → AW p l e room_1 s m args below meth c g A 4 57 1311 Q 1227 [some (.ref b), some (.ref (ga g 0)), some (.ref (ga g 43)), some (.int (nI i))] [] (hp g I2 J2 F2 w2)) : AW p l e room_1 s m args below meth c g A 4 57 1311 Q 738 [some (.ref b), some (.ref (ga g 0)), some (.ref (ga g 43)), some (.int (nI i))] [] (hp g I J F w) := by
  obtain ⟨R, Rk, B, t, Z, hA, h42, hK, hT, hS⟩ := hI
  obtain ⟨hok, h44, hC⟩ := id hA
  refine a_aload_n X dL_law_738 (i := 1) rfl rfl ?_
  refine a_aload_n X dL_law_739 (i := 0) rfl rfl ?_
  refine a_iload_n X dL_law_740 (i := 3) rfl rfl ?_
  refine a_iconst X dL_law_741 (v := nI 1) (by decide +kernel) ?_
  refine s_iaddN X dL_law_742 ?_
  refine a_sld X hX hbl hbA dL_law_743 (by omega) hL ?_
  refine a_aload_n X dL_law_744 (i := 0) rfl rfl ?_
  refine a_iload_n X dL_law_745 (i := 3) rfl rfl ?_
  refine a_iconst X dL_law_746 (v := nI 2) (by decide +kernel) ?_
  refine s_iaddN X dL_law_747 ?_
  refine a_sld X hX hbl hbA dL_law_748 (by omega) hL ?_
  refine a_aload_n X dL_law_749 (i := 0) rfl rfl ?_
  refine a_iload_n X dL_law_750 (i := 3) rfl rfl ?_
  refine a_iconst X dL_law_751 (v := nI 3) (by decide +kernel) ?_
  refine s_iaddN X dL_law_752 ?_
  refine a_sld X hX hbl hbA dL_law_753 (by omega) hL ?_
  refine s_callV_X X dL_law_754 lk_L_89 ko_0 rfl rfl (c_X4_bears hok.1 hC (by have := hok.2; omega)) ⟨Nat.le_of_ble_eq_true rfl, Nat.le_of_ble_eq_true rfl⟩ rfl rfl (Nat.le_of_ble_eq_true rfl) ⟨Nat.le_of_ble_eq_true rfl, Nat.le_of_ble_eq_true rfl⟩ (fun x1 I1 J1 F1 w1 hp1 => ?_)
  obtain ⟨z1, rfl⟩ := in_Bv hp1
  have e44 : I1 44 = nr R := (hp1.2.2.2.1 44 (by decide) (by decide)).trans h44
  refine a_aload_n X dL_law_757 (i := 2) rfl rfl ?_
  refine a_aload_n X dL_law_758 (i := 0) rfl rfl ?_
  refine a_iload_n X dL_law_759 (i := 3) rfl rfl ?_
  refine a_iconst X dL_law_760 (v := nI 1) (by decide +kernel) ?_
  refine s_iaddN X dL_law_761 ?_
  refine a_sld X hX hbl hbA dL_law_762 (by omega) hL ?_
  refine a_aload_n X dL_law_763 (i := 0) rfl rfl ?_
  refine a_iload_n X dL_law_764 (i := 3) rfl rfl ?_
  refine a_iconst X dL_law_765 (v := nI 2) (by decide +kernel) ?_
  refine s_iaddN X dL_law_766 ?_
  refine a_sld X hX hbl hbA dL_law_767 (by omega) hL ?_
  refine a_aload_n X dL_law_768 (i := 0) rfl rfl ?_
  refine a_iload_n X dL_law_769 (i := 3) rfl rfl ?_
  refine a_iconst X dL_law_770 (v := nI 3) (by decide +kernel) ?_
  refine s_iaddN X dL_law_771 ?_
  refine a_sld X hX hbl hbA dL_law_772 (by omega) hL ?_
  refine s_callV_X X dL_law_773 lk_L_92 ko_43 rfl rfl (c_X5_bears e44 hok.1 (by have := hok.2; omega)) ⟨Nat.le_of_ble_eq_true rfl, Nat.le_of_ble_eq_true rfl⟩ rfl rfl (Nat.le_of_ble_eq_true rfl) ⟨Nat.le_of_ble_eq_true rfl, Nat.le_of_ble_eq_true rfl⟩ (fun y2 I2 J2 F2 w2 hp2 => ?_)
  obtain ⟨z2, rfl⟩ := in_Md hp2
  obtain ⟨ee, hI2⟩ := step_sp hK h42 hT hS hp1 hp2 (ok_sp (o1_bears R _ _ _) hok)
  have ez := Value.int.inj ee
  refine a_icmp_eq X dL_law_776 (tgt := 1227) (by decide) (fun hc776 => ?_) (fun hc776 => ?_)
  · skip
    exact kk _ _ _ _ hI2
  · skip
    exact absurd ez hc776
set_option maxRecDepth 100000 in
set_option maxHeartbeats 4000000 in
theorem lc_19 {p : Program} {l : Launch} {e : Env} {s : State} {m : MethodId} {args : Array Value} {below : List Frame} {meth : Method} {c : Code} {g : GG} {A : Nat → Prop} {w0 : Cond} {Q : State → Prop} {b L : Nat} {xs : Nat → Int32} (X : AX p s m args meth c g A code 4 RL w0 (some .boolean)) (hX : va_X b L xs s s.heap) (hbl : b < s.heap.size) (hbA : ¬ A b) (hL : L ≤ 3072) {i : Nat} (hi : i + 6 ≤ L) {I : TI} {J : TJ} {F : TI} {w : Int64} (hI : LwI I J F) (kk : ∀ (I2 : TI) (J2 : TJ) (F2 : TI) (w2 : Int64), LwI I2 J2 F2 → AW p l e room_1 s m args below meth c g A 4 57 1311 Q 1227 [some (.ref b), some (.ref (ga g 0)), some (.ref (ga g 43)), some (.int (nI i))] [] (hp g I2 J2 F2 w2)) : AW p l e room_1 s m args below meth c g A 4 57 1311 Q 781 [some (.ref b), some (.ref (ga g 0)), some (.ref (ga g 43)), some (.int (nI i))] [] (hp g I J F w) := by
  obtain ⟨R, Rk, B, t, Z, hA, h42, hK, hT, hS⟩ := hI
  obtain ⟨hok, h44, hC⟩ := id hA
  refine a_aload_n X dL_law_781 (i := 1) rfl rfl ?_
  refine a_aload_n X dL_law_782 (i := 0) rfl rfl ?_
  refine a_iload_n X dL_law_783 (i := 3) rfl rfl ?_
  refine a_iconst X dL_law_784 (v := nI 1) (by decide +kernel) ?_
  refine s_iaddN X dL_law_785 ?_
  refine a_sld X hX hbl hbA dL_law_786 (by omega) hL ?_
  refine s_callV_X X dL_law_787 lk_L_93 ko_0 rfl rfl (c_X4_wisest hok.1 hC (by have := hok.2; omega)) ⟨Nat.le_of_ble_eq_true rfl, Nat.le_of_ble_eq_true rfl⟩ rfl rfl (Nat.le_of_ble_eq_true rfl) ⟨Nat.le_of_ble_eq_true rfl, Nat.le_of_ble_eq_true rfl⟩ (fun x1 I1 J1 F1 w1 hp1 => ?_)
  obtain ⟨z1, rfl⟩ := in_Bv hp1
  have e44 : I1 44 = nr R := (hp1.2.2.2.1 44 (by decide) (by decide)).trans h44
  refine a_aload_n X dL_law_790 (i := 2) rfl rfl ?_
  refine a_aload_n X dL_law_791 (i := 0) rfl rfl ?_
  refine a_iload_n X dL_law_792 (i := 3) rfl rfl ?_
  refine a_iconst X dL_law_793 (v := nI 1) (by decide +kernel) ?_
  refine s_iaddN X dL_law_794 ?_
  refine a_sld X hX hbl hbA dL_law_795 (by omega) hL ?_
  refine s_callV_X X dL_law_796 lk_L_96 ko_43 rfl rfl (c_X5_wisest e44 hok.1 (by have := hok.2; omega)) ⟨Nat.le_of_ble_eq_true rfl, Nat.le_of_ble_eq_true rfl⟩ rfl rfl (Nat.le_of_ble_eq_true rfl) ⟨Nat.le_of_ble_eq_true rfl, Nat.le_of_ble_eq_true rfl⟩ (fun y2 I2 J2 F2 w2 hp2 => ?_)
  obtain ⟨z2, rfl⟩ := in_Md hp2
  obtain ⟨ee, hI2⟩ := step_sp hK h42 hT hS hp1 hp2 (ok_sp (o1_wisest R _) hok)
  have ez := Value.int.inj ee
  refine a_icmp_eq X dL_law_799 (tgt := 1227) (by decide) (fun hc799 => ?_) (fun hc799 => ?_)
  · skip
    exact kk _ _ _ _ hI2
  · skip
    exact absurd ez hc799
set_option maxRecDepth 100000 in
set_option maxHeartbeats 4000000 in
theorem lc_20 {p : Program} {l : Launch} {e : Env} {s : State} {m : MethodId} {args : Array Value} {below : List Frame} {meth : Method} {c : Code} {g : GG} {A : Nat → Prop} {w0 : Cond} {Q : State → Prop} {b L : Nat} {xs : Nat → Int32} (X : AX p s m args meth c g A code 4 RL w0 (some .boolean)) (hX : va_X b L xs s s.heap) (hbl : b < s.heap.size) (hbA : ¬ A b) (hL : L ≤ 3072) {i : Nat} (hi : i + 6 ≤ L) {I : TI} {J : TJ} {F : TI} {w : Int64} (hI : LwI I J F) (kk : ∀ (I2 : TI) (J2 : TJ) (F2 : TI) (w2 : Int64), LwI I2 J2 F2 → AW p l e room_1 s m args below meth c g A 4 57 1311 Q 1227 [some (.ref b), some (.ref (ga g 0)), some (.ref (ga g 43)), some (.int (nI i))] [] (hp g I2 J2 F2 w2)) : AW p l e room_1 s m args below meth c g A 4 57 1311 Q 804 [some (.ref b), some (.ref (ga g 0)), some (.ref (ga g 43)), some (.int (nI i))] [] (hp g I J F w) := by
  obtain ⟨R, Rk, B, t, Z, hA, h42, hK, hT, hS⟩ := hI
  obtain ⟨hok, h44, hC⟩ := id hA
  refine a_aload_n X dL_law_804 (i := 1) rfl rfl ?_
  refine a_aload_n X dL_law_805 (i := 0) rfl rfl ?_
  refine a_iload_n X dL_law_806 (i := 3) rfl rfl ?_
  refine a_iconst X dL_law_807 (v := nI 1) (by decide +kernel) ?_
  refine s_iaddN X dL_law_808 ?_
  refine a_sld X hX hbl hbA dL_law_809 (by omega) hL ?_
  refine a_aload_n X dL_law_810 (i := 0) rfl rfl ?_
  refine a_iload_n X dL_law_811 (i := 3) rfl rfl ?_
  refine a_iconst X dL_law_812 (v := nI 2) (by decide +kernel) ?_
  refine s_iaddN X dL_law_813 ?_
  refine a_sld X hX hbl hbA dL_law_814 (by omega) hL ?_
  refine s_callV_X X dL_law_815 lk_L_97 ko_0 rfl rfl (c_X4_feed hT.2.1 hT.2.2.1) ⟨Nat.le_of_ble_eq_true rfl, Nat.le_of_ble_eq_true rfl⟩ rfl rfl (Nat.le_of_ble_eq_true rfl) ⟨Nat.le_of_ble_eq_true rfl, Nat.le_of_ble_eq_true rfl⟩ (fun x1 I1 J1 F1 w1 hp1 => ?_)
  obtain ⟨z1, rfl⟩ := in_FdC hp1
  have h7 : F1 43 7 = nI t := by
    rcases h0 : fdO t (xs (i + 2)) with _ | k
    · rw [(hp1.1 h0).2.2, up_n _ _ (by decide)]; exact hT.1.1
    · rw [(hp1.2.1 k h0).2.2]; exact hT.1.1
  refine a_aload_n X dL_law_818 (i := 2) rfl rfl ?_
  refine a_aload_n X dL_law_819 (i := 0) rfl rfl ?_
  refine a_iload_n X dL_law_820 (i := 3) rfl rfl ?_
  refine a_iconst X dL_law_821 (v := nI 1) (by decide +kernel) ?_
  refine s_iaddN X dL_law_822 ?_
  refine a_sld X hX hbl hbA dL_law_823 (by omega) hL ?_
  refine a_aload_n X dL_law_824 (i := 0) rfl rfl ?_
  refine a_iload_n X dL_law_825 (i := 3) rfl rfl ?_
  refine a_iconst X dL_law_826 (v := nI 2) (by decide +kernel) ?_
  refine s_iaddN X dL_law_827 ?_
  refine a_sld X hX hbl hbA dL_law_828 (by omega) hL ?_
  refine s_callV_X X dL_law_829 lk_L_100 ko_43 rfl rfl (c_X5_feed (t := t) h7 hT.2.2.1) ⟨Nat.le_of_ble_eq_true rfl, Nat.le_of_ble_eq_true rfl⟩ rfl rfl (Nat.le_of_ble_eq_true rfl) ⟨Nat.le_of_ble_eq_true rfl, Nat.le_of_ble_eq_true rfl⟩ (fun y2 I2 J2 F2 w2 hp2 => ?_)
  obtain ⟨z2, rfl⟩ := in_FdM hp2
  obtain ⟨ee, hI2⟩ := step_feed hA hK h42 hT hS hp1 hp2
  have ez := Value.int.inj ee
  refine a_icmp_eq X dL_law_832 (tgt := 1227) (by decide) (fun hc832 => ?_) (fun hc832 => ?_)
  · skip
    exact kk _ _ _ _ hI2
  · skip
    exact absurd ez hc832
set_option maxRecDepth 100000 in
set_option maxHeartbeats 4000000 in
theorem lc_21 {p : Program} {l : Launch} {e : Env} {s : State} {m : MethodId} {args : Array Value} {below : List Frame} {meth : Method} {c : Code} {g : GG} {A : Nat → Prop} {w0 : Cond} {Q : State → Prop} {b L : Nat} {xs : Nat → Int32} (X : AX p s m args meth c g A code 4 RL w0 (some .boolean)) (hX : va_X b L xs s s.heap) (hbl : b < s.heap.size) (hbA : ¬ A b) (hL : L ≤ 3072) {i : Nat} (hi : i + 6 ≤ L) {I : TI} {J : TJ} {F : TI} {w : Int64} (hI : LwI I J F) (kk : ∀ (I2 : TI) (J2 : TJ) (F2 : TI) (w2 : Int64), LwI I2 J2 F2 → AW p l e room_1 s m args below meth c g A 4 57 1311 Q 1227 [some (.ref b), some (.ref (ga g 0)), some (.ref (ga g 43)), some (.int (nI i))] [] (hp g I2 J2 F2 w2)) : AW p l e room_1 s m args below meth c g A 4 57 1311 Q 837 [some (.ref b), some (.ref (ga g 0)), some (.ref (ga g 43)), some (.int (nI i))] [] (hp g I J F w) := by
  obtain ⟨R, Rk, B, t, Z, hA, h42, hK, hT, hS⟩ := hI
  obtain ⟨hok, h44, hC⟩ := id hA
  refine a_aload_n X dL_law_837 (i := 1) rfl rfl ?_
  refine s_callV_R X dL_law_838 lk_L_101 ko_0 rfl rfl c_X4_wipe ⟨Nat.le_of_ble_eq_true rfl, Nat.le_of_ble_eq_true rfl⟩ rfl rfl (Nat.le_of_ble_eq_true rfl) ⟨Nat.le_of_ble_eq_true rfl, Nat.le_of_ble_eq_true rfl⟩ ?_
  refine a_aload_n X dL_law_841 (i := 2) rfl rfl ?_
  refine s_callV_R X dL_law_842 lk_L_104 ko_43 rfl rfl c_X5_wipe ⟨Nat.le_of_ble_eq_true rfl, Nat.le_of_ble_eq_true rfl⟩ rfl rfl (Nat.le_of_ble_eq_true rfl) ⟨Nat.le_of_ble_eq_true rfl, Nat.le_of_ble_eq_true rfl⟩ ?_
  obtain ⟨ez, hI2⟩ := step_wipe hA hK h42 hT hS
  refine a_icmp_eq X dL_law_845 (tgt := 1227) (by decide) (fun hc845 => ?_) (fun hc845 => ?_)
  · skip
    exact kk _ _ _ _ hI2
  · skip
    exact absurd ez hc845
set_option maxRecDepth 100000 in
set_option maxHeartbeats 4000000 in
theorem lc_22 {p : Program} {l : Launch} {e : Env} {s : State} {m : MethodId} {args : Array Value} {below : List Frame} {meth : Method} {c : Code} {g : GG} {A : Nat → Prop} {w0 : Cond} {Q : State → Prop} {b L : Nat} {xs : Nat → Int32} (X : AX p s m args meth c g A code 4 RL w0 (some .boolean)) (hX : va_X b L xs s s.heap) (hbl : b < s.heap.size) (hbA : ¬ A b) (hL : L ≤ 3072) {i : Nat} (hi : i + 6 ≤ L) {I : TI} {J : TJ} {F : TI} {w : Int64} (hI : LwI I J F) (kk : ∀ (I2 : TI) (J2 : TJ) (F2 : TI) (w2 : Int64), LwI I2 J2 F2 → AW p l e room_1 s m args below meth c g A 4 57 1311 Q 1227 [some (.ref b), some (.ref (ga g 0)), some (.ref (ga g 43)), some (.int (nI i))] [] (hp g I2 J2 F2 w2)) : AW p l e room_1 s m args below meth c g A 4 57 1311 Q 850 [some (.ref b), some (.ref (ga g 0)), some (.ref (ga g 43)), some (.int (nI i))] [] (hp g I J F w) := by
  obtain ⟨R, Rk, B, t, Z, hA, h42, hK, hT, hS⟩ := hI
  obtain ⟨hok, h44, hC⟩ := id hA
  refine a_aload_n X dL_law_850 (i := 1) rfl rfl ?_
  refine s_callV_X X dL_law_851 lk_L_105 ko_0 rfl rfl (c_X4_chapel hT.2 hok.1 hC) ⟨Nat.le_of_ble_eq_true rfl, Nat.le_of_ble_eq_true rfl⟩ rfl rfl (Nat.le_of_ble_eq_true rfl) ⟨Nat.le_of_ble_eq_true rfl, Nat.le_of_ble_eq_true rfl⟩ (fun x1 I1 J1 F1 w1 hp1 => ?_)
  obtain ⟨z1, rfl⟩ := in_ChC hp1
  refine a_aload_n X dL_law_854 (i := 2) rfl rfl ?_
  refine s_callV_X X dL_law_855 lk_L_108 ko_43 rfl rfl (c_X5_chapel (tp_k hT.1 (hp1.2.2.1 50 (by decide)) (by rw [hp1.2.2.2.1 43 (by decide) (by decide)])) ((hp1.2.2.1 44 (by decide)).trans h44) hok.1) ⟨Nat.le_of_ble_eq_true rfl, Nat.le_of_ble_eq_true rfl⟩ rfl rfl (Nat.le_of_ble_eq_true rfl) ⟨Nat.le_of_ble_eq_true rfl, Nat.le_of_ble_eq_true rfl⟩ (fun y2 I2 J2 F2 w2 hp2 => ?_)
  obtain ⟨z2, rfl⟩ := in_ChM hp2
  obtain ⟨ee, hI2⟩ := step_chapel hA hK h42 hT hS hp1 hp2
  have ez := Value.int.inj ee
  refine a_icmp_eq X dL_law_858 (tgt := 1227) (by decide) (fun hc858 => ?_) (fun hc858 => ?_)
  · skip
    exact kk _ _ _ _ hI2
  · skip
    exact absurd ez hc858
set_option maxRecDepth 100000 in
set_option maxHeartbeats 4000000 in
theorem lc_23 {p : Program} {l : Launch} {e : Env} {s : State} {m : MethodId} {args : Array Value} {below : List Frame} {meth : Method} {c : Code} {g : GG} {A : Nat → Prop} {w0 : Cond} {Q : State → Prop} {b L : Nat} {xs : Nat → Int32} (X : AX p s m args meth c g A code 4 RL w0 (some .boolean)) (hX : va_X b L xs s s.heap) (hbl : b < s.heap.size) (hbA : ¬ A b) (hL : L ≤ 3072) {i : Nat} (hi : i + 6 ≤ L) {I : TI} {J : TJ} {F : TI} {w : Int64} (hI : LwI I J F) (kk : ∀ (I2 : TI) (J2 : TJ) (F2 : TI) (w2 : Int64), LwI I2 J2 F2 → AW p l e room_1 s m args below meth c g A 4 57 1311 Q 1227 [some (.ref b), some (.ref (ga g 0)), some (.ref (ga g 43)), some (.int (nI i))] [] (hp g I2 J2 F2 w2)) : AW p l e room_1 s m args below meth c g A 4 57 1311 Q 863 [some (.ref b), some (.ref (ga g 0)), some (.ref (ga g 43)), some (.int (nI i))] [] (hp g I J F w) := by
  obtain ⟨R, Rk, B, t, Z, hA, h42, hK, hT, hS⟩ := hI
  obtain ⟨hok, h44, hC⟩ := id hA
  refine a_aload_n X dL_law_863 (i := 1) rfl rfl ?_
  refine a_aload_n X dL_law_864 (i := 0) rfl rfl ?_
  refine a_iload_n X dL_law_865 (i := 3) rfl rfl ?_
  refine a_iconst X dL_law_866 (v := nI 1) (by decide +kernel) ?_
  refine s_iaddN X dL_law_867 ?_
  refine a_sld X hX hbl hbA dL_law_868 (by omega) hL ?_
  refine a_aload_n X dL_law_869 (i := 0) rfl rfl ?_
  refine a_iload_n X dL_law_870 (i := 3) rfl rfl ?_
  refine a_iconst X dL_law_871 (v := nI 2) (by decide +kernel) ?_
  refine s_iaddN X dL_law_872 ?_
  refine a_sld X hX hbl hbA dL_law_873 (by omega) hL ?_
  refine a_aload_n X dL_law_874 (i := 0) rfl rfl ?_
  refine a_iload_n X dL_law_875 (i := 3) rfl rfl ?_
  refine a_iconst X dL_law_876 (v := nI 3) (by decide +kernel) ?_
  refine s_iaddN X dL_law_877 ?_
  refine a_sld X hX hbl hbA dL_law_878 (by omega) hL ?_
  refine s_callV_X X dL_law_879 lk_L_109 ko_0 rfl rfl c_X4_sheet ⟨Nat.le_of_ble_eq_true rfl, Nat.le_of_ble_eq_true rfl⟩ rfl rfl (Nat.le_of_ble_eq_true rfl) ⟨Nat.le_of_ble_eq_true rfl, Nat.le_of_ble_eq_true rfl⟩ (fun x1 I1 J1 F1 w1 hp1 => ?_)
  obtain ⟨z1, rfl⟩ := in_ShC hp1
  refine a_aload_n X dL_law_882 (i := 2) rfl rfl ?_
  refine a_aload_n X dL_law_883 (i := 0) rfl rfl ?_
  refine a_iload_n X dL_law_884 (i := 3) rfl rfl ?_
  refine a_iconst X dL_law_885 (v := nI 1) (by decide +kernel) ?_
  refine s_iaddN X dL_law_886 ?_
  refine a_sld X hX hbl hbA dL_law_887 (by omega) hL ?_
  refine a_aload_n X dL_law_888 (i := 0) rfl rfl ?_
  refine a_iload_n X dL_law_889 (i := 3) rfl rfl ?_
  refine a_iconst X dL_law_890 (v := nI 2) (by decide +kernel) ?_
  refine s_iaddN X dL_law_891 ?_
  refine a_sld X hX hbl hbA dL_law_892 (by omega) hL ?_
  refine a_aload_n X dL_law_893 (i := 0) rfl rfl ?_
  refine a_iload_n X dL_law_894 (i := 3) rfl rfl ?_
  refine a_iconst X dL_law_895 (v := nI 3) (by decide +kernel) ?_
  refine s_iaddN X dL_law_896 ?_
  refine a_sld X hX hbl hbA dL_law_897 (by omega) hL ?_
  refine s_callV_X X dL_law_898 lk_L_112 ko_43 rfl rfl c_X5_sheet ⟨Nat.le_of_ble_eq_true rfl, Nat.le_of_ble_eq_true rfl⟩ rfl rfl (Nat.le_of_ble_eq_true rfl) ⟨Nat.le_of_ble_eq_true rfl, Nat.le_of_ble_eq_true rfl⟩ (fun y2 I2 J2 F2 w2 hp2 => ?_)
  obtain ⟨z2, rfl⟩ := in_ShM hp2
  obtain ⟨ee, hI2⟩ := step_sheet hA hK h42 hT hS hp1 hp2
  have ez := Value.int.inj ee
  refine a_icmp_eq X dL_law_901 (tgt := 1227) (by decide) (fun hc901 => ?_) (fun hc901 => ?_)
  · skip
    exact kk _ _ _ _ hI2
  · skip
    exact absurd ez hc901
set_option maxRecDepth 100000 in
set_option maxHeartbeats 4000000 in
theorem lc_24 {p : Program} {l : Launch} {e : Env} {s : State} {m : MethodId} {args : Array Value} {below : List Frame} {meth : Method} {c : Code} {g : GG} {A : Nat → Prop} {w0 : Cond} {Q : State → Prop} {b L : Nat} {xs : Nat → Int32} (X : AX p s m args meth c g A code 4 RL w0 (some .boolean)) (hX : va_X b L xs s s.heap) (hbl : b < s.heap.size) (hbA : ¬ A b) (hL : L ≤ 3072) {i : Nat} (hi : i + 6 ≤ L) {I : TI} {J : TJ} {F : TI} {w : Int64} (hI : LwI I J F) (kk : ∀ (I2 : TI) (J2 : TJ) (F2 : TI) (w2 : Int64), LwI I2 J2 F2 → AW p l e room_1 s m args below meth c g A 4 57 1311 Q 1227 [some (.ref b), some (.ref (ga g 0)), some (.ref (ga g 43)), some (.int (nI i))] [] (hp g I2 J2 F2 w2)) : AW p l e room_1 s m args below meth c g A 4 57 1311 Q 906 [some (.ref b), some (.ref (ga g 0)), some (.ref (ga g 43)), some (.int (nI i))] [] (hp g I J F w) := by
  obtain ⟨R, Rk, B, t, Z, hA, h42, hK, hT, hS⟩ := hI
  obtain ⟨hok, h44, hC⟩ := id hA
  refine a_aload_n X dL_law_906 (i := 1) rfl rfl ?_
  refine a_aload_n X dL_law_907 (i := 0) rfl rfl ?_
  refine a_iload_n X dL_law_908 (i := 3) rfl rfl ?_
  refine a_iconst X dL_law_909 (v := nI 1) (by decide +kernel) ?_
  refine s_iaddN X dL_law_910 ?_
  refine a_sld X hX hbl hbA dL_law_911 (by omega) hL ?_
  refine a_aload_n X dL_law_912 (i := 0) rfl rfl ?_
  refine a_iload_n X dL_law_913 (i := 3) rfl rfl ?_
  refine a_iconst X dL_law_914 (v := nI 2) (by decide +kernel) ?_
  refine s_iaddN X dL_law_915 ?_
  refine a_sld X hX hbl hbA dL_law_916 (by omega) hL ?_
  refine a_aload_n X dL_law_917 (i := 0) rfl rfl ?_
  refine a_iload_n X dL_law_918 (i := 3) rfl rfl ?_
  refine a_iconst X dL_law_919 (v := nI 3) (by decide +kernel) ?_
  refine s_iaddN X dL_law_920 ?_
  refine a_sld X hX hbl hbA dL_law_921 (by omega) hL ?_
  refine a_i2l X dL_law_922 rfl ?_
  refine a_bipush X dL_law_923 (v := nI 32) (by decide +kernel) ?_
  refine a_lshl X dL_law_925 rfl ?_
  refine a_aload_n X dL_law_926 (i := 0) rfl rfl ?_
  refine a_iload_n X dL_law_927 (i := 3) rfl rfl ?_
  refine a_iconst X dL_law_928 (v := nI 4) (by decide +kernel) ?_
  refine s_iaddN X dL_law_929 ?_
  refine a_sld X hX hbl hbA dL_law_930 (by omega) hL ?_
  refine a_i2l X dL_law_931 rfl ?_
  refine a_ldc2 X dL_law_932 kc_L_113 ?_
  refine a_land X dL_law_935 ?_
  refine a_lor X dL_law_936 ?_
  refine s_callV_X X dL_law_937 lk_L_115 ko_0 rfl rfl (c_X4_write hS.1 hS.2.1) ⟨Nat.le_of_ble_eq_true rfl, Nat.le_of_ble_eq_true rfl⟩ rfl rfl (Nat.le_of_ble_eq_true rfl) ⟨Nat.le_of_ble_eq_true rfl, Nat.le_of_ble_eq_true rfl⟩ (fun x1 I1 J1 F1 w1 hp1 => ?_)
  obtain ⟨z1, rfl⟩ := in_WrC hp1
  have e52 : I1 52 = I 52 := by
    rcases h0 : wrO I (xs (i + 1)) (xs (i + 2)) with _ | k
    · rw [(hp1.1 h0).2.1]
    · rw [(hp1.2.1 k h0).2.1, fnd, up_n _ _ (by decide)]
  have h52 : ∀ i, i < 4 → I1 52 i = nI (Z i) ∧ Z i ≤ 40 := fun i hi => by rw [e52]; exact hS.1 i hi
  refine a_aload_n X dL_law_940 (i := 2) rfl rfl ?_
  refine a_aload_n X dL_law_941 (i := 0) rfl rfl ?_
  refine a_iload_n X dL_law_942 (i := 3) rfl rfl ?_
  refine a_iconst X dL_law_943 (v := nI 1) (by decide +kernel) ?_
  refine s_iaddN X dL_law_944 ?_
  refine a_sld X hX hbl hbA dL_law_945 (by omega) hL ?_
  refine a_aload_n X dL_law_946 (i := 0) rfl rfl ?_
  refine a_iload_n X dL_law_947 (i := 3) rfl rfl ?_
  refine a_iconst X dL_law_948 (v := nI 2) (by decide +kernel) ?_
  refine s_iaddN X dL_law_949 ?_
  refine a_sld X hX hbl hbA dL_law_950 (by omega) hL ?_
  refine a_aload_n X dL_law_951 (i := 0) rfl rfl ?_
  refine a_iload_n X dL_law_952 (i := 3) rfl rfl ?_
  refine a_iconst X dL_law_953 (v := nI 3) (by decide +kernel) ?_
  refine s_iaddN X dL_law_954 ?_
  refine a_sld X hX hbl hbA dL_law_955 (by omega) hL ?_
  refine a_i2l X dL_law_956 rfl ?_
  refine a_bipush X dL_law_957 (v := nI 32) (by decide +kernel) ?_
  refine a_lshl X dL_law_959 rfl ?_
  refine a_aload_n X dL_law_960 (i := 0) rfl rfl ?_
  refine a_iload_n X dL_law_961 (i := 3) rfl rfl ?_
  refine a_iconst X dL_law_962 (v := nI 4) (by decide +kernel) ?_
  refine s_iaddN X dL_law_963 ?_
  refine a_sld X hX hbl hbA dL_law_964 (by omega) hL ?_
  refine a_i2l X dL_law_965 rfl ?_
  refine a_ldc2 X dL_law_966 kc_L_113 ?_
  refine a_land X dL_law_969 ?_
  refine a_lor X dL_law_970 ?_
  refine s_callV_X X dL_law_971 lk_L_119 ko_43 rfl rfl (c_X5_write (Z := Z) h52) ⟨Nat.le_of_ble_eq_true rfl, Nat.le_of_ble_eq_true rfl⟩ rfl rfl (Nat.le_of_ble_eq_true rfl) ⟨Nat.le_of_ble_eq_true rfl, Nat.le_of_ble_eq_true rfl⟩ (fun y2 I2 J2 F2 w2 hp2 => ?_)
  obtain ⟨z2, rfl⟩ := in_WrM hp2
  obtain ⟨ee, hI2⟩ := step_write hA hK h42 hT hS hp1 hp2
  have ez := Value.long.inj ee
  refine a_lcmp X dL_law_974 ?_
  refine a_if_eq X dL_law_975 (tgt := 1227) (by decide) (fun hc975 => ?_) (fun hc975 => ?_)
  · skip
    exact kk _ _ _ _ hI2
  · skip
    exact absurd ((lg_cmp_eq _ _).mpr ez) hc975
set_option maxRecDepth 100000 in
set_option maxHeartbeats 4000000 in
theorem lc_25 {p : Program} {l : Launch} {e : Env} {s : State} {m : MethodId} {args : Array Value} {below : List Frame} {meth : Method} {c : Code} {g : GG} {A : Nat → Prop} {w0 : Cond} {Q : State → Prop} {b L : Nat} {xs : Nat → Int32} (X : AX p s m args meth c g A code 4 RL w0 (some .boolean)) (hX : va_X b L xs s s.heap) (hbl : b < s.heap.size) (hbA : ¬ A b) (hL : L ≤ 3072) {i : Nat} (hi : i + 6 ≤ L) {I : TI} {J : TJ} {F : TI} {w : Int64} (hI : LwI I J F) (kk : ∀ (I2 : TI) (J2 : TJ) (F2 : TI) (w2 : Int64), LwI I2 J2 F2 → AW p l e room_1 s m args below meth c g A 4 57 1311 Q 1227 [some (.ref b), some (.ref (ga g 0)), some (.ref (ga g 43)), some (.int (nI i))] [] (hp g I2 J2 F2 w2)) : AW p l e room_1 s m args below meth c g A 4 57 1311 Q 980 [some (.ref b), some (.ref (ga g 0)), some (.ref (ga g 43)), some (.int (nI i))] [] (hp g I J F w) := by
  obtain ⟨R, Rk, B, t, Z, hA, h42, hK, hT, hS⟩ := hI
  obtain ⟨hok, h44, hC⟩ := id hA
  refine a_aload_n X dL_law_980 (i := 1) rfl rfl ?_
  refine a_aload_n X dL_law_981 (i := 0) rfl rfl ?_
  refine a_iload_n X dL_law_982 (i := 3) rfl rfl ?_
  refine a_iconst X dL_law_983 (v := nI 1) (by decide +kernel) ?_
  refine s_iaddN X dL_law_984 ?_
  refine a_sld X hX hbl hbA dL_law_985 (by omega) hL ?_
  refine a_aload_n X dL_law_986 (i := 0) rfl rfl ?_
  refine a_iload_n X dL_law_987 (i := 3) rfl rfl ?_
  refine a_iconst X dL_law_988 (v := nI 2) (by decide +kernel) ?_
  refine s_iaddN X dL_law_989 ?_
  refine a_sld X hX hbl hbA dL_law_990 (by omega) hL ?_
  refine a_aload_n X dL_law_991 (i := 0) rfl rfl ?_
  refine a_iload_n X dL_law_992 (i := 3) rfl rfl ?_
  refine a_iconst X dL_law_993 (v := nI 3) (by decide +kernel) ?_
  refine s_iaddN X dL_law_994 ?_
  refine a_sld X hX hbl hbA dL_law_995 (by omega) hL ?_
  refine a_aload_n X dL_law_996 (i := 0) rfl rfl ?_
  refine a_iload_n X dL_law_997 (i := 3) rfl rfl ?_
  refine a_iconst X dL_law_998 (v := nI 4) (by decide +kernel) ?_
  refine s_iaddN X dL_law_999 ?_
  refine a_sld X hX hbl hbA dL_law_1000 (by omega) hL ?_
  refine a_aload_n X dL_law_1001 (i := 0) rfl rfl ?_
  refine a_iload_n X dL_law_1002 (i := 3) rfl rfl ?_
  refine a_iconst X dL_law_1003 (v := nI 5) (by decide +kernel) ?_
  refine s_iaddN X dL_law_1004 ?_
  refine a_sld X hX hbl hbA dL_law_1005 (by omega) hL ?_
  refine s_callV_X X dL_law_1006 lk_L_120 ko_0 rfl rfl (c_X4_copy hS.1 hS.2.1) ⟨Nat.le_of_ble_eq_true rfl, Nat.le_of_ble_eq_true rfl⟩ rfl rfl (Nat.le_of_ble_eq_true rfl) ⟨Nat.le_of_ble_eq_true rfl, Nat.le_of_ble_eq_true rfl⟩ (fun x1 I1 J1 F1 w1 hp1 => ?_)
  obtain ⟨z1, rfl⟩ := in_CpC hp1
  have e52 : I1 52 = I 52 := by
    rcases h0 : cpO I (xs (i + 1)) (xs (i + 2)) (xs (i + 3)) (xs (i + 4)) (xs (i + 5)) with _ | k
    · rw [(hp1.1 h0).2.1]
    · rw [(hp1.2.1 k h0).2.1, fnd, up_n _ _ (by decide)]
  have h52 : ∀ i, i < 4 → I1 52 i = nI (Z i) ∧ Z i ≤ 40 := fun i hi => by rw [e52]; exact hS.1 i hi
  refine a_aload_n X dL_law_1009 (i := 2) rfl rfl ?_
  refine a_aload_n X dL_law_1010 (i := 0) rfl rfl ?_
  refine a_iload_n X dL_law_1011 (i := 3) rfl rfl ?_
  refine a_iconst X dL_law_1012 (v := nI 1) (by decide +kernel) ?_
  refine s_iaddN X dL_law_1013 ?_
  refine a_sld X hX hbl hbA dL_law_1014 (by omega) hL ?_
  refine a_aload_n X dL_law_1015 (i := 0) rfl rfl ?_
  refine a_iload_n X dL_law_1016 (i := 3) rfl rfl ?_
  refine a_iconst X dL_law_1017 (v := nI 2) (by decide +kernel) ?_
  refine s_iaddN X dL_law_1018 ?_
  refine a_sld X hX hbl hbA dL_law_1019 (by omega) hL ?_
  refine a_aload_n X dL_law_1020 (i := 0) rfl rfl ?_
  refine a_iload_n X dL_law_1021 (i := 3) rfl rfl ?_
  refine a_iconst X dL_law_1022 (v := nI 3) (by decide +kernel) ?_
  refine s_iaddN X dL_law_1023 ?_
  refine a_sld X hX hbl hbA dL_law_1024 (by omega) hL ?_
  refine a_aload_n X dL_law_1025 (i := 0) rfl rfl ?_
  refine a_iload_n X dL_law_1026 (i := 3) rfl rfl ?_
  refine a_iconst X dL_law_1027 (v := nI 4) (by decide +kernel) ?_
  refine s_iaddN X dL_law_1028 ?_
  refine a_sld X hX hbl hbA dL_law_1029 (by omega) hL ?_
  refine a_aload_n X dL_law_1030 (i := 0) rfl rfl ?_
  refine a_iload_n X dL_law_1031 (i := 3) rfl rfl ?_
  refine a_iconst X dL_law_1032 (v := nI 5) (by decide +kernel) ?_
  refine s_iaddN X dL_law_1033 ?_
  refine a_sld X hX hbl hbA dL_law_1034 (by omega) hL ?_
  refine s_callV_X X dL_law_1035 lk_L_124 ko_43 rfl rfl (c_X5_copy (Z := Z) h52) ⟨Nat.le_of_ble_eq_true rfl, Nat.le_of_ble_eq_true rfl⟩ rfl rfl (Nat.le_of_ble_eq_true rfl) ⟨Nat.le_of_ble_eq_true rfl, Nat.le_of_ble_eq_true rfl⟩ (fun y2 I2 J2 F2 w2 hp2 => ?_)
  obtain ⟨z2, rfl⟩ := in_CpM hp2
  obtain ⟨ee, hI2⟩ := step_copy hA hK h42 hT hS hp1 hp2
  have ez := Value.int.inj ee
  refine a_icmp_eq X dL_law_1038 (tgt := 1227) (by decide) (fun hc1038 => ?_) (fun hc1038 => ?_)
  · skip
    exact kk _ _ _ _ hI2
  · skip
    exact absurd ez hc1038
set_option maxRecDepth 100000 in
set_option maxHeartbeats 4000000 in
theorem lc_26 {p : Program} {l : Launch} {e : Env} {s : State} {m : MethodId} {args : Array Value} {below : List Frame} {meth : Method} {c : Code} {g : GG} {A : Nat → Prop} {w0 : Cond} {Q : State → Prop} {b L : Nat} {xs : Nat → Int32} (X : AX p s m args meth c g A code 4 RL w0 (some .boolean)) (hX : va_X b L xs s s.heap) (hbl : b < s.heap.size) (hbA : ¬ A b) (hL : L ≤ 3072) {i : Nat} (hi : i + 6 ≤ L) {I : TI} {J : TJ} {F : TI} {w : Int64} (hI : LwI I J F) (kk : ∀ (I2 : TI) (J2 : TJ) (F2 : TI) (w2 : Int64), LwI I2 J2 F2 → AW p l e room_1 s m args below meth c g A 4 57 1311 Q 1227 [some (.ref b), some (.ref (ga g 0)), some (.ref (ga g 43)), some (.int (nI i))] [] (hp g I2 J2 F2 w2)) : AW p l e room_1 s m args below meth c g A 4 57 1311 Q 1043 [some (.ref b), some (.ref (ga g 0)), some (.ref (ga g 43)), some (.int (nI i))] [] (hp g I J F w) := by
  obtain ⟨R, Rk, B, t, Z, hA, h42, hK, hT, hS⟩ := hI
  obtain ⟨hok, h44, hC⟩ := id hA
  refine a_aload_n X dL_law_1043 (i := 1) rfl rfl ?_
  refine a_aload_n X dL_law_1044 (i := 0) rfl rfl ?_
  refine a_iload_n X dL_law_1045 (i := 3) rfl rfl ?_
  refine a_iconst X dL_law_1046 (v := nI 1) (by decide +kernel) ?_
  refine s_iaddN X dL_law_1047 ?_
  refine a_sld X hX hbl hbA dL_law_1048 (by omega) hL ?_
  refine s_callV_X X dL_law_1049 lk_L_125 ko_0 rfl rfl (c_X4_lays hok.1 hC hS.1 hS.2.1) ⟨Nat.le_of_ble_eq_true rfl, Nat.le_of_ble_eq_true rfl⟩ rfl rfl (Nat.le_of_ble_eq_true rfl) ⟨Nat.le_of_ble_eq_true rfl, Nat.le_of_ble_eq_true rfl⟩ (fun x1 I1 J1 F1 w1 hp1 => ?_)
  obtain ⟨z1, rfl⟩ := in_LaC hp1
  have eq0 : ∀ Q, ¬ (1 ≤ Q ∧ Q ≤ 20) → Q ≠ 42 → I1 Q = I Q := by
    intro Q a0 b0
    rcases h0 : bdO I (xs (i + 1)) with _ | k
    · exact (hp1.1 h0).2.2.1 Q a0
    · rw [(hp1.2.1 k h0).2, fnd, up_n _ _ b0]
  have e44 : I1 44 = nr R := (eq0 44 (by decide) (by decide)).trans h44
  have h52 : ∀ i, i < 4 → I1 52 i = nI (Z i) ∧ Z i ≤ 40 := fun i hi => by rw [eq0 52 (by decide) (by decide)]; exact hS.1 i hi
  refine a_aload_n X dL_law_1052 (i := 2) rfl rfl ?_
  refine a_aload_n X dL_law_1053 (i := 0) rfl rfl ?_
  refine a_iload_n X dL_law_1054 (i := 3) rfl rfl ?_
  refine a_iconst X dL_law_1055 (v := nI 1) (by decide +kernel) ?_
  refine s_iaddN X dL_law_1056 ?_
  refine a_sld X hX hbl hbA dL_law_1057 (by omega) hL ?_
  refine s_callV_X X dL_law_1058 lk_L_128 ko_43 rfl rfl (c_X5_lays (R := R) (z := Z (cl (xs (i + 1)))) e44 hok.1 (fun a ha q => by rw [q, cl_n (by omega)]; exact h52 a ha)) ⟨Nat.le_of_ble_eq_true rfl, Nat.le_of_ble_eq_true rfl⟩ rfl rfl (Nat.le_of_ble_eq_true rfl) ⟨Nat.le_of_ble_eq_true rfl, Nat.le_of_ble_eq_true rfl⟩ (fun y2 I2 J2 F2 w2 hp2 => ?_)
  obtain ⟨z2, rfl⟩ := in_LaM hp2
  obtain ⟨ee, hI2⟩ := step_lays hA hK h42 hT hS hp1 hp2
  have ez := Value.int.inj ee
  refine a_icmp_eq X dL_law_1061 (tgt := 1227) (by decide) (fun hc1061 => ?_) (fun hc1061 => ?_)
  · skip
    exact kk _ _ _ _ hI2
  · skip
    exact absurd ez hc1061
set_option maxRecDepth 100000 in
set_option maxHeartbeats 4000000 in
theorem lc_27 {p : Program} {l : Launch} {e : Env} {s : State} {m : MethodId} {args : Array Value} {below : List Frame} {meth : Method} {c : Code} {g : GG} {A : Nat → Prop} {w0 : Cond} {Q : State → Prop} {b L : Nat} {xs : Nat → Int32} (X : AX p s m args meth c g A code 4 RL w0 (some .boolean)) (hX : va_X b L xs s s.heap) (hbl : b < s.heap.size) (hbA : ¬ A b) (hL : L ≤ 3072) {i : Nat} (hi : i + 6 ≤ L) {I : TI} {J : TJ} {F : TI} {w : Int64} (hI : LwI I J F) (kk : ∀ (I2 : TI) (J2 : TJ) (F2 : TI) (w2 : Int64), LwI I2 J2 F2 → AW p l e room_1 s m args below meth c g A 4 57 1311 Q 1227 [some (.ref b), some (.ref (ga g 0)), some (.ref (ga g 43)), some (.int (nI i))] [] (hp g I2 J2 F2 w2)) : AW p l e room_1 s m args below meth c g A 4 57 1311 Q 1066 [some (.ref b), some (.ref (ga g 0)), some (.ref (ga g 43)), some (.int (nI i))] [] (hp g I J F w) := by
  obtain ⟨R, Rk, B, t, Z, hA, h42, hK, hT, hS⟩ := hI
  obtain ⟨hok, h44, hC⟩ := id hA
  refine a_aload_n X dL_law_1066 (i := 1) rfl rfl ?_
  refine a_aload_n X dL_law_1067 (i := 0) rfl rfl ?_
  refine a_iload_n X dL_law_1068 (i := 3) rfl rfl ?_
  refine a_iconst X dL_law_1069 (v := nI 1) (by decide +kernel) ?_
  refine s_iaddN X dL_law_1070 ?_
  refine a_sld X hX hbl hbA dL_law_1071 (by omega) hL ?_
  refine a_aload_n X dL_law_1072 (i := 0) rfl rfl ?_
  refine a_iload_n X dL_law_1073 (i := 3) rfl rfl ?_
  refine a_iconst X dL_law_1074 (v := nI 2) (by decide +kernel) ?_
  refine s_iaddN X dL_law_1075 ?_
  refine a_sld X hX hbl hbA dL_law_1076 (by omega) hL ?_
  refine s_callV_X X dL_law_1077 lk_L_129 ko_0 rfl rfl (c_X4_book hok.1 hC hS.1 hS.2.1 hok.2) ⟨Nat.le_of_ble_eq_true rfl, Nat.le_of_ble_eq_true rfl⟩ rfl rfl (Nat.le_of_ble_eq_true rfl) ⟨Nat.le_of_ble_eq_true rfl, Nat.le_of_ble_eq_true rfl⟩ (fun x1 I1 J1 F1 w1 hp1 => ?_)
  obtain ⟨z1, rfl⟩ := in_BkC hp1
  have eq0 : ∀ Q, ¬ (1 ≤ Q ∧ Q ≤ 20) → Q ≠ 42 → I1 Q = I Q := by
    intro Q a0 b0
    rcases h0 : bkO I (R 1) (xs (i + 1)) (xs (i + 2)) with _ | k
    · exact (hp1.1 h0).2.1.2.1 Q a0
    · rw [(hp1.2.1 k h0).2.1, fnd, up_n _ _ b0]
  have e44 : I1 44 = nr R := (eq0 44 (by decide) (by decide)).trans h44
  have h52 : ∀ i, i < 4 → I1 52 i = nI (Z i) ∧ Z i ≤ 40 := fun i hi => by rw [eq0 52 (by decide) (by decide)]; exact hS.1 i hi
  refine a_aload_n X dL_law_1080 (i := 2) rfl rfl ?_
  refine a_aload_n X dL_law_1081 (i := 0) rfl rfl ?_
  refine a_iload_n X dL_law_1082 (i := 3) rfl rfl ?_
  refine a_iconst X dL_law_1083 (v := nI 1) (by decide +kernel) ?_
  refine s_iaddN X dL_law_1084 ?_
  refine a_sld X hX hbl hbA dL_law_1085 (by omega) hL ?_
  refine a_aload_n X dL_law_1086 (i := 0) rfl rfl ?_
  refine a_iload_n X dL_law_1087 (i := 3) rfl rfl ?_
  refine a_iconst X dL_law_1088 (v := nI 2) (by decide +kernel) ?_
  refine s_iaddN X dL_law_1089 ?_
  refine a_sld X hX hbl hbA dL_law_1090 (by omega) hL ?_
  refine s_callV_X X dL_law_1091 lk_L_132 ko_43 rfl rfl (c_X5_book (R := R) (Z := Z) e44 hok.1 (by have := hok.2; omega) h52) ⟨Nat.le_of_ble_eq_true rfl, Nat.le_of_ble_eq_true rfl⟩ rfl rfl (Nat.le_of_ble_eq_true rfl) ⟨Nat.le_of_ble_eq_true rfl, Nat.le_of_ble_eq_true rfl⟩ (fun y2 I2 J2 F2 w2 hp2 => ?_)
  obtain ⟨z2, rfl⟩ := in_BkM hp2
  obtain ⟨ee, hI2⟩ := step_book hA hK h42 hT hS hp1 hp2
  have ez := Value.int.inj ee
  refine a_icmp_eq X dL_law_1094 (tgt := 1227) (by decide) (fun hc1094 => ?_) (fun hc1094 => ?_)
  · skip
    exact kk _ _ _ _ hI2
  · skip
    exact absurd ez hc1094
set_option maxRecDepth 100000 in
set_option maxHeartbeats 4000000 in
theorem lc_28 {p : Program} {l : Launch} {e : Env} {s : State} {m : MethodId} {args : Array Value} {below : List Frame} {meth : Method} {c : Code} {g : GG} {A : Nat → Prop} {w0 : Cond} {Q : State → Prop} {b L : Nat} {xs : Nat → Int32} (X : AX p s m args meth c g A code 4 RL w0 (some .boolean)) (hX : va_X b L xs s s.heap) (hbl : b < s.heap.size) (hbA : ¬ A b) (hL : L ≤ 3072) {i : Nat} (hi : i + 6 ≤ L) {I : TI} {J : TJ} {F : TI} {w : Int64} (hI : LwI I J F) (kk : ∀ (I2 : TI) (J2 : TJ) (F2 : TI) (w2 : Int64), LwI I2 J2 F2 → AW p l e room_1 s m args below meth c g A 4 57 1311 Q 1227 [some (.ref b), some (.ref (ga g 0)), some (.ref (ga g 43)), some (.int (nI i))] [] (hp g I2 J2 F2 w2)) : AW p l e room_1 s m args below meth c g A 4 57 1311 Q 1099 [some (.ref b), some (.ref (ga g 0)), some (.ref (ga g 43)), some (.int (nI i))] [] (hp g I J F w) := by
  obtain ⟨R, Rk, B, t, Z, hA, h42, hK, hT, hS⟩ := hI
  obtain ⟨hok, h44, hC⟩ := id hA
  refine a_aload_n X dL_law_1099 (i := 1) rfl rfl ?_
  refine a_aload_n X dL_law_1100 (i := 0) rfl rfl ?_
  refine a_iload_n X dL_law_1101 (i := 3) rfl rfl ?_
  refine a_iconst X dL_law_1102 (v := nI 1) (by decide +kernel) ?_
  refine s_iaddN X dL_law_1103 ?_
  refine a_sld X hX hbl hbA dL_law_1104 (by omega) hL ?_
  refine a_aload_n X dL_law_1105 (i := 0) rfl rfl ?_
  refine a_iload_n X dL_law_1106 (i := 3) rfl rfl ?_
  refine a_iconst X dL_law_1107 (v := nI 2) (by decide +kernel) ?_
  refine s_iaddN X dL_law_1108 ?_
  refine a_sld X hX hbl hbA dL_law_1109 (by omega) hL ?_
  refine a_aload_n X dL_law_1110 (i := 0) rfl rfl ?_
  refine a_iload_n X dL_law_1111 (i := 3) rfl rfl ?_
  refine a_iconst X dL_law_1112 (v := nI 3) (by decide +kernel) ?_
  refine s_iaddN X dL_law_1113 ?_
  refine a_sld X hX hbl hbA dL_law_1114 (by omega) hL ?_
  refine s_callV_X X dL_law_1115 lk_L_133 ko_0 rfl rfl (c_X4_read hok.1 hC hS.1 hS.2.1 hok.2) ⟨Nat.le_of_ble_eq_true rfl, Nat.le_of_ble_eq_true rfl⟩ rfl rfl (Nat.le_of_ble_eq_true rfl) ⟨Nat.le_of_ble_eq_true rfl, Nat.le_of_ble_eq_true rfl⟩ (fun x1 I1 J1 F1 w1 hp1 => ?_)
  obtain ⟨z1, rfl⟩ := in_RdC hp1
  have eq0 : ∀ Q, ¬ (1 ≤ Q ∧ Q ≤ 20) → Q ≠ 42 → I1 Q = I Q := by
    intro Q a0 b0
    rcases h0 : rdO I (R 1) (xs (i + 1)) (xs (i + 2)) (xs (i + 3)) with _ | k
    · exact (hp1.1 h0).2.2.1 Q a0
    · rw [(hp1.2.1 k h0).2.1, fnd, up_n _ _ b0]
  have e44 : I1 44 = nr R := (eq0 44 (by decide) (by decide)).trans h44
  have h52 : ∀ i, i < 4 → I1 52 i = nI (Z i) ∧ Z i ≤ 40 := fun i hi => by rw [eq0 52 (by decide) (by decide)]; exact hS.1 i hi
  refine a_aload_n X dL_law_1118 (i := 2) rfl rfl ?_
  refine a_aload_n X dL_law_1119 (i := 0) rfl rfl ?_
  refine a_iload_n X dL_law_1120 (i := 3) rfl rfl ?_
  refine a_iconst X dL_law_1121 (v := nI 1) (by decide +kernel) ?_
  refine s_iaddN X dL_law_1122 ?_
  refine a_sld X hX hbl hbA dL_law_1123 (by omega) hL ?_
  refine a_aload_n X dL_law_1124 (i := 0) rfl rfl ?_
  refine a_iload_n X dL_law_1125 (i := 3) rfl rfl ?_
  refine a_iconst X dL_law_1126 (v := nI 2) (by decide +kernel) ?_
  refine s_iaddN X dL_law_1127 ?_
  refine a_sld X hX hbl hbA dL_law_1128 (by omega) hL ?_
  refine a_aload_n X dL_law_1129 (i := 0) rfl rfl ?_
  refine a_iload_n X dL_law_1130 (i := 3) rfl rfl ?_
  refine a_iconst X dL_law_1131 (v := nI 3) (by decide +kernel) ?_
  refine s_iaddN X dL_law_1132 ?_
  refine a_sld X hX hbl hbA dL_law_1133 (by omega) hL ?_
  refine s_callV_X X dL_law_1134 lk_L_136 ko_43 rfl rfl (c_X5_read (R := R) (Z := Z) e44 hok.1 (by have := hok.2; omega) h52) ⟨Nat.le_of_ble_eq_true rfl, Nat.le_of_ble_eq_true rfl⟩ rfl rfl (Nat.le_of_ble_eq_true rfl) ⟨Nat.le_of_ble_eq_true rfl, Nat.le_of_ble_eq_true rfl⟩ (fun y2 I2 J2 F2 w2 hp2 => ?_)
  obtain ⟨z2, rfl⟩ := in_RdM hp2
  obtain ⟨ee, hI2⟩ := step_read hA hK h42 hT hS hp1 hp2
  have ez := Value.int.inj ee
  refine a_icmp_eq X dL_law_1137 (tgt := 1227) (by decide) (fun hc1137 => ?_) (fun hc1137 => ?_)
  · skip
    exact kk _ _ _ _ hI2
  · skip
    exact absurd ez hc1137
set_option maxRecDepth 100000 in
set_option maxHeartbeats 4000000 in
theorem lc_29 {p : Program} {l : Launch} {e : Env} {s : State} {m : MethodId} {args : Array Value} {below : List Frame} {meth : Method} {c : Code} {g : GG} {A : Nat → Prop} {w0 : Cond} {Q : State → Prop} {b L : Nat} {xs : Nat → Int32} (X : AX p s m args meth c g A code 4 RL w0 (some .boolean)) (hX : va_X b L xs s s.heap) (hbl : b < s.heap.size) (hbA : ¬ A b) (hL : L ≤ 3072) {i : Nat} (hi : i + 6 ≤ L) {I : TI} {J : TJ} {F : TI} {w : Int64} (hI : LwI I J F) (kk : ∀ (I2 : TI) (J2 : TJ) (F2 : TI) (w2 : Int64), LwI I2 J2 F2 → AW p l e room_1 s m args below meth c g A 4 57 1311 Q 1227 [some (.ref b), some (.ref (ga g 0)), some (.ref (ga g 43)), some (.int (nI i))] [] (hp g I2 J2 F2 w2)) : AW p l e room_1 s m args below meth c g A 4 57 1311 Q 1142 [some (.ref b), some (.ref (ga g 0)), some (.ref (ga g 43)), some (.int (nI i))] [] (hp g I J F w) := by
  obtain ⟨R, Rk, B, t, Z, hA, h42, hK, hT, hS⟩ := hI
  obtain ⟨hok, h44, hC⟩ := id hA
  refine a_aload_n X dL_law_1142 (i := 1) rfl rfl ?_
  refine s_callV_X X dL_law_1143 lk_L_137 ko_0 rfl rfl (c_X4_image hok.1 hC) ⟨Nat.le_of_ble_eq_true rfl, Nat.le_of_ble_eq_true rfl⟩ rfl rfl (Nat.le_of_ble_eq_true rfl) ⟨Nat.le_of_ble_eq_true rfl, Nat.le_of_ble_eq_true rfl⟩ (fun x1 I1 J1 F1 w1 hp1 => ?_)
  obtain ⟨z1, rfl⟩ := in_Im hp1
  refine a_aload_n X dL_law_1146 (i := 2) rfl rfl ?_
  refine s_callV_R X dL_law_1147 lk_L_140 ko_43 rfl rfl c_X5_image ⟨Nat.le_of_ble_eq_true rfl, Nat.le_of_ble_eq_true rfl⟩ rfl rfl (Nat.le_of_ble_eq_true rfl) ⟨Nat.le_of_ble_eq_true rfl, Nat.le_of_ble_eq_true rfl⟩ ?_
  obtain ⟨ee, hI2⟩ := step_image hA h42 hT hS hp1
  have ez := Value.int.inj ee
  refine a_icmp_eq X dL_law_1150 (tgt := 1227) (by decide) (fun hc1150 => ?_) (fun hc1150 => ?_)
  · skip
    exact kk _ _ _ _ hI2
  · skip
    exact absurd ez hc1150
set_option maxRecDepth 100000 in
set_option maxHeartbeats 4000000 in
theorem lc_30 {p : Program} {l : Launch} {e : Env} {s : State} {m : MethodId} {args : Array Value} {below : List Frame} {meth : Method} {c : Code} {g : GG} {A : Nat → Prop} {w0 : Cond} {Q : State → Prop} {b L : Nat} {xs : Nat → Int32} (X : AX p s m args meth c g A code 4 RL w0 (some .boolean)) (hX : va_X b L xs s s.heap) (hbl : b < s.heap.size) (hbA : ¬ A b) (hL : L ≤ 3072) {i : Nat} (hi : i + 6 ≤ L) {I : TI} {J : TJ} {F : TI} {w : Int64} (hI : LwI I J F) (kk : ∀ (I2 : TI) (J2 : TJ) (F2 : TI) (w2 : Int64), LwI I2 J2 F2 → AW p l e room_1 s m args below meth c g A 4 57 1311 Q 1227 [some (.ref b), some (.ref (ga g 0)), some (.ref (ga g 43)), some (.int (nI i))] [] (hp g I2 J2 F2 w2)) : AW p l e room_1 s m args below meth c g A 4 57 1311 Q 1155 [some (.ref b), some (.ref (ga g 0)), some (.ref (ga g 43)), some (.int (nI i))] [] (hp g I J F w) := by
  obtain ⟨R, Rk, B, t, Z, hA, h42, hK, hT, hS⟩ := hI
  obtain ⟨hok, h44, hC⟩ := id hA
  refine a_aload_n X dL_law_1155 (i := 1) rfl rfl ?_
  refine s_callV_X X dL_law_1156 lk_L_141 ko_0 rfl rfl (c_X4_undo hok.1 hC (Rk := Rk) (fun q => ⟨hK.2.1.1, (hK.2.2 q).1⟩)) ⟨Nat.le_of_ble_eq_true rfl, Nat.le_of_ble_eq_true rfl⟩ rfl rfl (Nat.le_of_ble_eq_true rfl) ⟨Nat.le_of_ble_eq_true rfl, Nat.le_of_ble_eq_true rfl⟩ (fun x1 I1 J1 F1 w1 hp1 => ?_)
  obtain ⟨z1, rfl⟩ := in_Bv hp1
  have e44 : I1 44 = nr R := (hp1.2.2.2.1 44 (by decide) (by decide)).trans h44
  refine a_aload_n X dL_law_1159 (i := 2) rfl rfl ?_
  refine s_callV_X X dL_law_1160 lk_L_144 ko_43 rfl rfl (c_X5_undo e44 hok.1 (Rk := Rk) (fun q j hj => by rw [hp1.2.2.2.1 55 (by decide) (by decide)]; rw [hp1.2.2.2.2.1 43 (by decide), ← hK.1] at q; exact (hK.2.2 q).2 j hj) hK.2.1.1.2.2.2) ⟨Nat.le_of_ble_eq_true rfl, Nat.le_of_ble_eq_true rfl⟩ rfl rfl (Nat.le_of_ble_eq_true rfl) ⟨Nat.le_of_ble_eq_true rfl, Nat.le_of_ble_eq_true rfl⟩ (fun y2 I2 J2 F2 w2 hp2 => ?_)
  obtain ⟨z2, rfl⟩ := in_Md hp2
  rw [show F1 43 20 = F 0 3 from by rw [hp1.2.2.2.2.1 43 (by decide), hK.1]] at hp2
  obtain ⟨ee, hI2⟩ := step_sp hK h42 hT hS hp1 hp2 (om_undo hok hK.2.1)
  have ez := Value.int.inj ee
  refine a_icmp_eq X dL_law_1163 (tgt := 1227) (by decide) (fun hc1163 => ?_) (fun hc1163 => ?_)
  · skip
    exact kk _ _ _ _ hI2
  · skip
    exact absurd ez hc1163
set_option maxRecDepth 100000 in
set_option maxHeartbeats 4000000 in
theorem lc_31 {p : Program} {l : Launch} {e : Env} {s : State} {m : MethodId} {args : Array Value} {below : List Frame} {meth : Method} {c : Code} {g : GG} {A : Nat → Prop} {w0 : Cond} {Q : State → Prop} {b L : Nat} {xs : Nat → Int32} (X : AX p s m args meth c g A code 4 RL w0 (some .boolean)) (hX : va_X b L xs s s.heap) (hbl : b < s.heap.size) (hbA : ¬ A b) (hL : L ≤ 3072) {i : Nat} (hi : i + 6 ≤ L) {I : TI} {J : TJ} {F : TI} {w : Int64} (hI : LwI I J F) (kk : ∀ (I2 : TI) (J2 : TJ) (F2 : TI) (w2 : Int64), LwI I2 J2 F2 → AW p l e room_1 s m args below meth c g A 4 57 1311 Q 1227 [some (.ref b), some (.ref (ga g 0)), some (.ref (ga g 43)), some (.int (nI i))] [] (hp g I2 J2 F2 w2)) : AW p l e room_1 s m args below meth c g A 4 57 1311 Q 1168 [some (.ref b), some (.ref (ga g 0)), some (.ref (ga g 43)), some (.int (nI i))] [] (hp g I J F w) := by
  obtain ⟨R, Rk, B, t, Z, hA, h42, hK, hT, hS⟩ := hI
  obtain ⟨hok, h44, hC⟩ := id hA
  refine a_aload_n X dL_law_1168 (i := 1) rfl rfl ?_
  refine s_callV_R X dL_law_1169 lk_L_145 ko_0 rfl rfl c_X4_tear ⟨Nat.le_of_ble_eq_true rfl, Nat.le_of_ble_eq_true rfl⟩ rfl rfl (Nat.le_of_ble_eq_true rfl) ⟨Nat.le_of_ble_eq_true rfl, Nat.le_of_ble_eq_true rfl⟩ ?_
  refine a_aload_n X dL_law_1172 (i := 2) rfl rfl ?_
  refine s_callV_R X dL_law_1173 lk_L_148 ko_43 rfl rfl c_X5_tear ⟨Nat.le_of_ble_eq_true rfl, Nat.le_of_ble_eq_true rfl⟩ rfl rfl (Nat.le_of_ble_eq_true rfl) ⟨Nat.le_of_ble_eq_true rfl, Nat.le_of_ble_eq_true rfl⟩ ?_
  obtain ⟨ez, hI2⟩ := step_tear hA hK h42 hT hS
  refine a_icmp_eq X dL_law_1176 (tgt := 1227) (by decide) (fun hc1176 => ?_) (fun hc1176 => ?_)
  · skip
    exact kk _ _ _ _ hI2
  · skip
    exact absurd ez hc1176
set_option maxRecDepth 100000 in
set_option maxHeartbeats 4000000 in
theorem lc_32 {p : Program} {l : Launch} {e : Env} {s : State} {m : MethodId} {args : Array Value} {below : List Frame} {meth : Method} {c : Code} {g : GG} {A : Nat → Prop} {w0 : Cond} {Q : State → Prop} {b L : Nat} {xs : Nat → Int32} (X : AX p s m args meth c g A code 4 RL w0 (some .boolean)) (hX : va_X b L xs s s.heap) (hbl : b < s.heap.size) (hbA : ¬ A b) (hL : L ≤ 3072) {i : Nat} (hi : i + 6 ≤ L) {I : TI} {J : TJ} {F : TI} {w : Int64} (hI : LwI I J F) (kk : ∀ (I2 : TI) (J2 : TJ) (F2 : TI) (w2 : Int64), LwI I2 J2 F2 → AW p l e room_1 s m args below meth c g A 4 57 1311 Q 1227 [some (.ref b), some (.ref (ga g 0)), some (.ref (ga g 43)), some (.int (nI i))] [] (hp g I2 J2 F2 w2)) : AW p l e room_1 s m args below meth c g A 4 57 1311 Q 1181 [some (.ref b), some (.ref (ga g 0)), some (.ref (ga g 43)), some (.int (nI i))] [] (hp g I J F w) := by
  obtain ⟨R, Rk, B, t, Z, hA, h42, hK, hT, hS⟩ := hI
  obtain ⟨hok, h44, hC⟩ := id hA
  refine a_aload_n X dL_law_1181 (i := 1) rfl rfl ?_
  refine a_aload_n X dL_law_1182 (i := 0) rfl rfl ?_
  refine a_iload_n X dL_law_1183 (i := 3) rfl rfl ?_
  refine a_iconst X dL_law_1184 (v := nI 1) (by decide +kernel) ?_
  refine s_iaddN X dL_law_1185 ?_
  refine a_sld X hX hbl hbA dL_law_1186 (by omega) hL ?_
  refine s_callV_X X dL_law_1187 lk_L_149 ko_0 rfl rfl (c_X4_count hok.1 hC) ⟨Nat.le_of_ble_eq_true rfl, Nat.le_of_ble_eq_true rfl⟩ rfl rfl (Nat.le_of_ble_eq_true rfl) ⟨Nat.le_of_ble_eq_true rfl, Nat.le_of_ble_eq_true rfl⟩ (fun x1 I1 J1 F1 w1 hp1 => ?_)
  obtain ⟨z1, rfl⟩ := in_Bv hp1
  have e44 : I1 44 = nr R := (hp1.2.2.2.1 44 (by decide) (by decide)).trans h44
  refine a_aload_n X dL_law_1190 (i := 2) rfl rfl ?_
  refine a_aload_n X dL_law_1191 (i := 0) rfl rfl ?_
  refine a_iload_n X dL_law_1192 (i := 3) rfl rfl ?_
  refine a_iconst X dL_law_1193 (v := nI 1) (by decide +kernel) ?_
  refine s_iaddN X dL_law_1194 ?_
  refine a_sld X hX hbl hbA dL_law_1195 (by omega) hL ?_
  refine s_callV_X X dL_law_1196 lk_L_152 ko_43 rfl rfl (c_X5_count e44 hok.1) ⟨Nat.le_of_ble_eq_true rfl, Nat.le_of_ble_eq_true rfl⟩ rfl rfl (Nat.le_of_ble_eq_true rfl) ⟨Nat.le_of_ble_eq_true rfl, Nat.le_of_ble_eq_true rfl⟩ (fun y2 I2 J2 F2 w2 hp2 => ?_)
  obtain ⟨z2, rfl⟩ := in_Md hp2
  rw [show F1 43 7 = F 31 0 from by rw [hp1.2.2.2.2.1 43 (by decide), hT.1.1, hT.2.1]] at hp2
  obtain ⟨ee, hI2⟩ := step_sp hK h42 hT hS hp1 hp2 (ok_sp (o1_count _ _ _) hok)
  have ez := Value.int.inj ee
  refine a_icmp_eq X dL_law_1199 (tgt := 1227) (by decide) (fun hc1199 => ?_) (fun hc1199 => ?_)
  · skip
    exact kk _ _ _ _ hI2
  · skip
    exact absurd ez hc1199
set_option maxRecDepth 100000 in
set_option maxHeartbeats 4000000 in
theorem lc_33 {p : Program} {l : Launch} {e : Env} {s : State} {m : MethodId} {args : Array Value} {below : List Frame} {meth : Method} {c : Code} {g : GG} {A : Nat → Prop} {w0 : Cond} {Q : State → Prop} {b L : Nat} {xs : Nat → Int32} (X : AX p s m args meth c g A code 4 RL w0 (some .boolean)) (hX : va_X b L xs s s.heap) (hbl : b < s.heap.size) (hbA : ¬ A b) (hL : L ≤ 3072) {i : Nat} (hi : i + 6 ≤ L) {I : TI} {J : TJ} {F : TI} {w : Int64} (hI : LwI I J F) (kk : ∀ (I2 : TI) (J2 : TJ) (F2 : TI) (w2 : Int64), LwI I2 J2 F2 → AW p l e room_1 s m args below meth c g A 4 57 1311 Q 1227 [some (.ref b), some (.ref (ga g 0)), some (.ref (ga g 43)), some (.int (nI i))] [] (hp g I2 J2 F2 w2)) : AW p l e room_1 s m args below meth c g A 4 57 1311 Q 1204 [some (.ref b), some (.ref (ga g 0)), some (.ref (ga g 43)), some (.int (nI i))] [] (hp g I J F w) := by
  obtain ⟨R, Rk, B, t, Z, hA, h42, hK, hT, hS⟩ := hI
  obtain ⟨hok, h44, hC⟩ := id hA
  refine a_aload_n X dL_law_1204 (i := 1) rfl rfl ?_
  refine a_aload_n X dL_law_1205 (i := 0) rfl rfl ?_
  refine a_iload_n X dL_law_1206 (i := 3) rfl rfl ?_
  refine a_iconst X dL_law_1207 (v := nI 1) (by decide +kernel) ?_
  refine s_iaddN X dL_law_1208 ?_
  refine a_sld X hX hbl hbA dL_law_1209 (by omega) hL ?_
  refine s_callV_X X dL_law_1210 lk_L_153 ko_0 rfl rfl (c_X4_status hok.1 hC) ⟨Nat.le_of_ble_eq_true rfl, Nat.le_of_ble_eq_true rfl⟩ rfl rfl (Nat.le_of_ble_eq_true rfl) ⟨Nat.le_of_ble_eq_true rfl, Nat.le_of_ble_eq_true rfl⟩ (fun x1 I1 J1 F1 w1 hp1 => ?_)
  obtain ⟨z1, rfl⟩ := in_Bv hp1
  have e44 : I1 44 = nr R := (hp1.2.2.2.1 44 (by decide) (by decide)).trans h44
  refine a_aload_n X dL_law_1213 (i := 2) rfl rfl ?_
  refine a_aload_n X dL_law_1214 (i := 0) rfl rfl ?_
  refine a_iload_n X dL_law_1215 (i := 3) rfl rfl ?_
  refine a_iconst X dL_law_1216 (v := nI 1) (by decide +kernel) ?_
  refine s_iaddN X dL_law_1217 ?_
  refine a_sld X hX hbl hbA dL_law_1218 (by omega) hL ?_
  refine s_callV_X X dL_law_1219 lk_L_156 ko_43 rfl rfl (c_X5_status e44) ⟨Nat.le_of_ble_eq_true rfl, Nat.le_of_ble_eq_true rfl⟩ rfl rfl (Nat.le_of_ble_eq_true rfl) ⟨Nat.le_of_ble_eq_true rfl, Nat.le_of_ble_eq_true rfl⟩ (fun y2 I2 J2 F2 w2 hp2 => ?_)
  obtain ⟨z2, rfl⟩ := in_Md hp2
  rw [show I1 45 = I 42 from (hp1.2.2.2.1 45 (by decide) (by decide)).trans h42.symm] at hp2
  obtain ⟨ee, hI2⟩ := step_sp hK h42 hT hS hp1 hp2 (ok_sp (o1_status _ _ _) hok)
  have ez := Value.int.inj ee
  refine a_icmp_eq X dL_law_1222 (tgt := 1227) (by decide) (fun hc1222 => ?_) (fun hc1222 => ?_)
  · skip
    exact kk _ _ _ _ hI2
  · skip
    exact absurd ez hc1222
