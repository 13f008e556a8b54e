set_option maxRecDepth 100000 in
set_option maxHeartbeats 4000000 in
theorem c_X5_byteAt {l : Launch} {g : GG} {I : TI} {J : TJ} {F : TI} {w : Int64} {B : Nat → Nat} {t : Nat} (hT : TpM I F B t) {k : Nat} (hk : k < 2 ^ 31) : UR l g mX5_byteAt [.ref (ga g 43), .int (nI k)] I J F w (.int (btI B t k)) I J F w := by
  have h120 := hT.2.1
  have hB : ∀ k, k < t → B k < 256 := fun k hk => (hT.2.2 k hk).2
  refine ct_start (M := mX5_byteAt) (by decide +kernel) (Nat.le_of_ble_eq_true rfl) ?_
  intro p e s m args below meth c A X hA
  have X : AX p s m args meth c g A cX5_byteAt 2 RX5 (Cond.code yX5_byteAt cX5_byteAt 2 (some .int)) (some .int) := X
  show AW p l e (rmM 0 0) s m args below meth c g A 2 0 0 (MQ below (CQ g (hp g I J F w) s.heap.size (fun vv0 hh0 => vv0 = some (.int (btI B t k)) ∧ hh0 = hp g I J F w)) args s 0 0 A) 0 [some (.ref (ga g 43)), some (.int (nI k))] [] (hp g I J F w)
  refine a_iload_n X dX5_byteAt_0 (i := 1) rfl rfl ?_
  refine a_aload_n X dX5_byteAt_1 (i := 0) rfl rfl ?_
  refine s_geti X dX5_byteAt_2 fl_X5_173 ko_43 rfl ?_
  rw [hT.1]
  refine s_icmp_geN X dX5_byteAt_5 (tgt := 17) (by decide) (by omega) (by omega) (fun hc5 => ?_) (fun hc5 => ?_)
  · skip
    refine a_iconst X dX5_byteAt_17 (v := (-1)) (by decide +kernel) ?_
    refine a_iret X hA dX5_byteAt_18 ⟨?_, ?_⟩
    · first | rw [bt_lt (by omega)] | rw [bt_ge (by omega)]
    · rfl
  · skip
    refine a_aload_n X dX5_byteAt_8 (i := 0) rfl rfl ?_
    refine s_getr X dX5_byteAt_9 fl_X5_28 ko_43 rfl ?_
    refine a_iload_n X dX5_byteAt_12 (i := 1) rfl rfl ?_
    refine s_ild X dX5_byteAt_13 ki_50 (by omega) (by decide) ?_
    rw [(hT.2.2 k (by omega)).1]
    refine a_goto X dX5_byteAt_14 (tgt := 18) (by decide) ?_
    refine a_iret X hA dX5_byteAt_18 ⟨?_, ?_⟩
    · first | rw [bt_lt (by omega)] | rw [bt_ge (by omega)]
    · rfl
set_option maxRecDepth 100000 in
set_option maxHeartbeats 4000000 in
theorem c_X5_advance {l : Launch} {g : GG} {I : TI} {J : TJ} {F : TI} {w : Int64} {B : Nat → Nat} {t : Nat} (hT : TpM I F B t) {p0 : Nat} (hp0 : p0 ≤ t) (hen : F 43 10 = nI p0) : VV l g mX5_advance [.ref (ga g 43)] I J F w (AdM I J F B t p0) := by
  have h120 := hT.2.1
  have hB : ∀ k, k < t → B k < 256 := fun k hk => (hT.2.2 k hk).2
  have hS1 := tkS_le (B := B) hp0
  have hE1 := tkE_le (B := B) hp0
  have hK5 := tkK_5 B t p0
  refine ct_start (M := mX5_advance) (by decide +kernel) (Nat.le_of_ble_eq_true rfl) ?_
  intro p e s m args below meth c A X hA
  have X : AX p s m args meth c g A cX5_advance 2 RX5 (Cond.code yX5_advance cX5_advance 2 none) none := X
  show AW p l e (rmM 2 42) s m args below meth c g A 2 0 0 (MQ below (CQ g (hp g I J F w) s.heap.size (fun vv0 hh0 => ∃ II0 JJ0 FF0 ww0, vv0 = none ∧ hh0 = hp g II0 JJ0 FF0 ww0 ∧ (AdM I J F B t p0) II0 JJ0 FF0 ww0)) args s 0 0 A) 0 [some (.ref (ga g 43)), none] [] (hp g I J F w)
  have L207 : ∀ (fu : Nat) (k : Nat) (F1 : TI) (w1 : Int64), t - k < fu → (F1 43 9 = nI (tkS B t p0)) → (F1 43 8 = nI (min 3 (tkK B t p0))) → (FrA F F1) → (k ≤ t) → (F1 43 10 = nI k) → (tkK B t p0 = 0 → k = tkS B t p0) → (3 ≤ tkK B t p0 → F1 43 12 = nI (B (tkS B t p0)) ∧ k = tkS B t p0 + 1) → (tkK B t p0 = 1 → k = tkE B t p0 ∧ w1 = hsv B (tkS B t p0) (tkE B t p0 - tkS B t p0)) → (tkK B t p0 = 2 → tkS B t p0 ≤ k ∧ tx_run (tkD B) t k = tx_run (tkD B) t (tkS B t p0) ∧ F1 43 12 = nI (nmr B (tkS B t p0) (k - tkS B t p0)) ∧ ∀ j, j < k - tkS B t p0 → tkD B (tkS B t p0 + j) = true) → AW p l e (rmM 2 42) s m args below meth c g A 2 0 0 (MQ below (CQ g (hp g I J F w) s.heap.size (fun vv0 hh0 => ∃ II0 JJ0 FF0 ww0, vv0 = none ∧ hh0 = hp g II0 JJ0 FF0 ww0 ∧ (AdM I J F B t p0) II0 JJ0 FF0 ww0)) args s 0 0 A) 207 [some (.ref (ga g 43)), some (.int (btI B t (tkS B t p0)))] [] (hp g I J F1 w1) := by
    intro fu
    induction fu with
    | zero => intro k F1 w1 hfu; exact absurd hfu (by omega)
    | succ fu ih =>
      intro k F1 w1 hfu hs1 hs2 hF hkt he h0 h3 h1 h2
      refine a_aload_n X dX5_advance_207 (i := 0) rfl rfl ?_
      refine s_geti X dX5_advance_208 fl_X5_192 ko_43 rfl ?_
      rw [hs2]
      refine a_iconst X dX5_advance_211 (v := nI 2) (by decide +kernel) ?_
      refine s_icmp_neN X dX5_advance_212 (tgt := 281) (by decide) (by omega) (by omega) (fun hc212 => ?_) (fun hc212 => ?_)
      · skip
        refine a_vret X hA dX5_advance_281 ?_
        refine ⟨_, _, _, _, rfl, rfl, rfl, rfl, hF, ?_⟩
        have hkE : k = tkE B t p0 := (by
          by_cases q0 : tkK B t p0 = 0
          · rw [tkE_0 q0]; exact h0 q0
          · by_cases q1 : tkK B t p0 = 1
            · exact (h1 q1).1
            · by_cases q2 : tkK B t p0 = 2
              · obtain ⟨z1, z2, z3, z4⟩ := h2 q2
                rw [tkE_2 q2, ← z2]
                rcases Nat.lt_or_ge k t with hlt | hge
                · refine (tx_st hlt ?_).symm
                  cases hq : tkD B k with
                  | false => rfl
                  | true => first | exact absurd ⟨hlt, hq⟩ hc226 | (exfalso; omega)
                · exact (tx_en hge).symm
              · rw [tkE_3 (by omega)]; exact (h3 (by omega)).2)
        refine ⟨hs1, hkE ▸ he, hs2, fun q => (h1 q).2, fun q => ?_, fun q => (h3 q).1⟩
        obtain ⟨z1, z2, z3, z4⟩ := h2 q
        refine ⟨_, z3, (nmr_ok z4).1, ?_⟩
        rw [(nmr_ok z4).2, tkV, if_neg (by omega), ← hkE]
      · skip
        have hK2 : tkK B t p0 = 2 := by omega
        obtain ⟨z1, z2, z3, z4⟩ := h2 hK2
        refine a_aload_n X dX5_advance_215 (i := 0) rfl rfl ?_
        refine a_aload_n X dX5_advance_216 (i := 0) rfl rfl ?_
        refine s_geti X dX5_advance_217 fl_X5_177 ko_43 rfl ?_
        rw [he]
        refine s_callV_R X dX5_advance_220 lk_X5_183 ko_43 rfl rfl (c_X5_byteAt (B := B) (t := t) (k := k) (tp_f hT (hF.1)) (by omega)) ⟨Nat.le_of_ble_eq_true rfl, Nat.le_of_ble_eq_true rfl⟩ rfl rfl (Nat.le_of_ble_eq_true rfl) ⟨Nat.le_of_ble_eq_true rfl, Nat.le_of_ble_eq_true rfl⟩ ?_
        refine s_callS_R X dX5_advance_223 lk_X5_189 c_X5_isDigit ⟨Nat.le_of_ble_eq_true rfl, Nat.le_of_ble_eq_true rfl⟩ rfl rfl (Nat.le_of_ble_eq_true rfl) ⟨Nat.le_of_ble_eq_true rfl, Nat.le_of_ble_eq_true rfl⟩ ?_
        refine a_if_eq X dX5_advance_226 (tgt := 281) (by decide) (fun hc226 => ?_) (fun hc226 => ?_)
        · skip
          simp only [bI_0, Bool.not_eq_false] at hc226
          rw [bt_in hB (by decide) (by decide)] at hc226
          have hc226 : ¬ (k < t ∧ tkD B k = true) := fun q => by simp only [tkD, Bool.and_eq_true, decide_eq_true_eq] at q; simp [q] at hc226
          refine a_vret X hA dX5_advance_281 ?_
          refine ⟨_, _, _, _, rfl, rfl, rfl, rfl, hF, ?_⟩
          have hkE : k = tkE B t p0 := (by
            by_cases q0 : tkK B t p0 = 0
            · rw [tkE_0 q0]; exact h0 q0
            · by_cases q1 : tkK B t p0 = 1
              · exact (h1 q1).1
              · by_cases q2 : tkK B t p0 = 2
                · obtain ⟨z1, z2, z3, z4⟩ := h2 q2
                  rw [tkE_2 q2, ← z2]
                  rcases Nat.lt_or_ge k t with hlt | hge
                  · refine (tx_st hlt ?_).symm
                    cases hq : tkD B k with
                    | false => rfl
                    | true => first | exact absurd ⟨hlt, hq⟩ hc226 | (exfalso; omega)
                  · exact (tx_en hge).symm
                · rw [tkE_3 (by omega)]; exact (h3 (by omega)).2)
          refine ⟨hs1, hkE ▸ he, hs2, fun q => (h1 q).2, fun q => ?_, fun q => (h3 q).1⟩
          obtain ⟨z1, z2, z3, z4⟩ := h2 q
          refine ⟨_, z3, (nmr_ok z4).1, ?_⟩
          rw [(nmr_ok z4).2, tkV, if_neg (by omega), ← hkE]
        · skip
          simp only [bI_0, Bool.not_eq_false] at hc226
          rw [bt_in hB (by decide) (by decide)] at hc226
          have hc226 : k < t ∧ tkD B k = true := by simpa [tkD] using hc226
          have zd := hc226.2
          simp only [tkD, Bool.and_eq_true, decide_eq_true_eq] at zd
          have zn := (nmr_ok z4).1
          have z5 : ∀ j, j < k + 1 - tkS B t p0 → tkD B (tkS B t p0 + j) = true := fun j hj => by
            by_cases hj2 : j < k - tkS B t p0
            · exact z4 j hj2
            · rw [show tkS B t p0 + j = k by omega]; exact hc226.2
          refine a_aload_n X dX5_advance_229 (i := 0) rfl rfl ?_
          refine a_aload_n X dX5_advance_230 (i := 0) rfl rfl ?_
          refine s_geti X dX5_advance_231 fl_X5_199 ko_43 rfl ?_
          rw [z3]
          refine a_sipush X dX5_advance_234 (v := nI 999) (by decide +kernel) ?_
          refine s_icmp_leN X dX5_advance_237 (tgt := 246) (by decide) (by omega) (by omega) (fun hc237 => ?_) (fun hc237 => ?_)
          · skip
            refine a_bipush X dX5_advance_246 (v := nI 10) (by decide +kernel) ?_
            refine a_aload_n X dX5_advance_248 (i := 0) rfl rfl ?_
            refine s_geti X dX5_advance_249 fl_X5_199 ko_43 rfl ?_
            rw [z3]
            refine s_imulN X dX5_advance_252 ?_
            refine a_aload_n X dX5_advance_253 (i := 0) rfl rfl ?_
            refine a_aload_n X dX5_advance_254 (i := 0) rfl rfl ?_
            refine s_geti X dX5_advance_255 fl_X5_177 ko_43 rfl ?_
            rw [he]
            refine s_callV_R X dX5_advance_258 lk_X5_183 ko_43 rfl rfl (c_X5_byteAt (B := B) (t := t) (k := k) (tp_f hT (hF.1)) (by omega)) ⟨Nat.le_of_ble_eq_true rfl, Nat.le_of_ble_eq_true rfl⟩ rfl rfl (Nat.le_of_ble_eq_true rfl) ⟨Nat.le_of_ble_eq_true rfl, Nat.le_of_ble_eq_true rfl⟩ ?_
            rw [bt_lt hc226.1]
            refine s_iaddN X dX5_advance_261 ?_
            refine a_bipush X dX5_advance_262 (v := nI 48) (by decide +kernel) ?_
            refine s_isubN X dX5_advance_264 (by omega) ?_
            refine s_puti X dX5_advance_265 fp_X5_199 ko_43 rfl rfl rfl ?_
            refine a_aload_n X dX5_advance_268 (i := 0) rfl rfl ?_
            refine a_dup X dX5_advance_269 rfl ?_
            refine s_geti X dX5_advance_270 fl_X5_177 ko_43 rfl ?_
            rw [ug, if_neg (by decide), he]
            refine a_iconst X dX5_advance_273 (v := nI 1) (by decide +kernel) ?_
            refine s_iaddN X dX5_advance_274 ?_
            refine s_puti X dX5_advance_275 fp_X5_177 ko_43 rfl rfl rfl ?_
            refine a_goto X dX5_advance_278 (tgt := 207) (by decide) ?_
            first
              | exact ih (k + 1) _ _ (by omega) (by simp [ug, hs1]) (by simp [ug, hs2]) (fra_u (fra_u hF (by decide)) (by decide)) (by omega) (by simp [ug]) (fun q => by omega) (fun q => by omega) (fun q => by omega) (fun _ => ⟨by omega, (tx_go hc226.1 hc226.2).symm.trans z2, by simp only [ug]; rw [if_neg (by decide), if_pos trivial, show k + 1 - tkS B t p0 = (k - tkS B t p0) + 1 by omega, nmr, if_pos (by omega)], z5⟩)
              | exact ih (k + 1) _ _ (by omega) (by simp [ug, hs1]) (by simp [ug, hs2]) (fra_u (fra_u hF (by decide)) (by decide)) (by omega) (by simp [ug]) (fun q => by omega) (fun q => by omega) (fun q => by omega) (fun _ => ⟨by omega, (tx_go hc226.1 hc226.2).symm.trans z2, by simp only [ug]; rw [if_neg (by decide), if_pos trivial, show k + 1 - tkS B t p0 = (k - tkS B t p0) + 1 by omega, nmr, if_neg (by omega), show tkS B t p0 + (k - tkS B t p0) = k by omega]; congr 1; omega, z5⟩)
          · skip
            refine a_sipush X dX5_advance_240 (v := nI 10000) (by decide +kernel) ?_
            refine a_goto X dX5_advance_243 (tgt := 265) (by decide) ?_
            refine s_puti X dX5_advance_265 fp_X5_199 ko_43 rfl rfl rfl ?_
            refine a_aload_n X dX5_advance_268 (i := 0) rfl rfl ?_
            refine a_dup X dX5_advance_269 rfl ?_
            refine s_geti X dX5_advance_270 fl_X5_177 ko_43 rfl ?_
            rw [ug, if_neg (by decide), he]
            refine a_iconst X dX5_advance_273 (v := nI 1) (by decide +kernel) ?_
            refine s_iaddN X dX5_advance_274 ?_
            refine s_puti X dX5_advance_275 fp_X5_177 ko_43 rfl rfl rfl ?_
            refine a_goto X dX5_advance_278 (tgt := 207) (by decide) ?_
            first
              | exact ih (k + 1) _ _ (by omega) (by simp [ug, hs1]) (by simp [ug, hs2]) (fra_u (fra_u hF (by decide)) (by decide)) (by omega) (by simp [ug]) (fun q => by omega) (fun q => by omega) (fun q => by omega) (fun _ => ⟨by omega, (tx_go hc226.1 hc226.2).symm.trans z2, by simp only [ug]; rw [if_neg (by decide), if_pos trivial, show k + 1 - tkS B t p0 = (k - tkS B t p0) + 1 by omega, nmr, if_pos (by omega)], z5⟩)
              | exact ih (k + 1) _ _ (by omega) (by simp [ug, hs1]) (by simp [ug, hs2]) (fra_u (fra_u hF (by decide)) (by decide)) (by omega) (by simp [ug]) (fun q => by omega) (fun q => by omega) (fun q => by omega) (fun _ => ⟨by omega, (tx_go hc226.1 hc226.2).symm.trans z2, by simp only [ug]; rw [if_neg (by decide), if_pos trivial, show k + 1 - tkS B t p0 = (k - tkS B t p0) + 1 by omega, nmr, if_neg (by omega), show tkS B t p0 + (k - tkS B t p0) = k by omega]; congr 1; omega, z5⟩)
  have L126 : ∀ (fu : Nat) (k : Nat) (F1 : TI) (w1 : Int64), t - k < fu → (F1 43 9 = nI (tkS B t p0)) → (F1 43 8 = nI (min 3 (tkK B t p0))) → (FrA F F1) → (k ≤ t) → (F1 43 10 = nI k) → (tkK B t p0 = 0 → k = tkS B t p0) → (3 ≤ tkK B t p0 → F1 43 12 = nI (B (tkS B t p0)) ∧ k = tkS B t p0 + 1) → (tkK B t p0 = 2 → F1 43 12 = nI 0 ∧ k = tkS B t p0) → (tkK B t p0 = 1 → tkS B t p0 ≤ k ∧ tx_run (tkL B) t k = tx_run (tkL B) t (tkS B t p0) ∧ w1 = hsv B (tkS B t p0) (k - tkS B t p0)) → AW p l e (rmM 2 42) s m args below meth c g A 2 0 0 (MQ below (CQ g (hp g I J F w) s.heap.size (fun vv0 hh0 => ∃ II0 JJ0 FF0 ww0, vv0 = none ∧ hh0 = hp g II0 JJ0 FF0 ww0 ∧ (AdM I J F B t p0) II0 JJ0 FF0 ww0)) args s 0 0 A) 126 [some (.ref (ga g 43)), some (.int (btI B t (tkS B t p0)))] [] (hp g I J F1 w1) := by
    intro fu
    induction fu with
    | zero => intro k F1 w1 hfu; exact absurd hfu (by omega)
    | succ fu ih =>
      intro k F1 w1 hfu hs1 hs2 hF hkt he h0 h3 h2 h1
      refine a_aload_n X dX5_advance_126 (i := 0) rfl rfl ?_
      refine s_geti X dX5_advance_127 fl_X5_192 ko_43 rfl ?_
      rw [hs2]
      refine a_iconst X dX5_advance_130 (v := nI 1) (by decide +kernel) ?_
      refine s_icmp_neN X dX5_advance_131 (tgt := 207) (by decide) (by omega) (by omega) (fun hc131 => ?_) (fun hc131 => ?_)
      · skip
        first
          | (have hK1 : tkK B t p0 = 1 := by omega
             obtain ⟨z1, z2, z3⟩ := h1 hK1
             have z4 : k = tkE B t p0 := by
               rw [tkE_1 hK1, ← z2]
               rcases Nat.lt_or_ge k t with hlt | hge
               · refine (tx_st hlt ?_).symm
                 cases hq : tkL B k with
                 | false => rfl
                 | true => exact absurd ⟨hlt, hq⟩ hc145
               · exact (tx_en hge).symm
             exact L207 (t + 1) k _ _ (by omega) hs1 hs2 hF hkt he h0 h3 (fun _ => ⟨z4, by rw [← z4]; exact z3⟩) (fun q => by omega))
          | (have hK1 : ¬ tkK B t p0 = 1 := by omega
             exact L207 (t + 1) k _ _ (by omega) hs1 hs2 hF hkt he h0 h3 (fun q => absurd q hK1) (fun q => by
               obtain ⟨y1, y2⟩ := h2 q
               subst y2
               exact ⟨Nat.le_refl _, rfl, by rw [Nat.sub_self]; exact y1, fun j hj => by omega⟩))
      · skip
        have hK1 : tkK B t p0 = 1 := by omega
        obtain ⟨z1, z2, z3⟩ := h1 hK1
        refine a_aload_n X dX5_advance_134 (i := 0) rfl rfl ?_
        refine a_aload_n X dX5_advance_135 (i := 0) rfl rfl ?_
        refine s_geti X dX5_advance_136 fl_X5_177 ko_43 rfl ?_
        rw [he]
        refine s_callV_R X dX5_advance_139 lk_X5_183 ko_43 rfl rfl (c_X5_byteAt (B := B) (t := t) (k := k) (tp_f hT (hF.1)) (by omega)) ⟨Nat.le_of_ble_eq_true rfl, Nat.le_of_ble_eq_true rfl⟩ rfl rfl (Nat.le_of_ble_eq_true rfl) ⟨Nat.le_of_ble_eq_true rfl, Nat.le_of_ble_eq_true rfl⟩ ?_
        refine s_callS_R X dX5_advance_142 lk_X5_186 c_X5_isLetter ⟨Nat.le_of_ble_eq_true rfl, Nat.le_of_ble_eq_true rfl⟩ rfl rfl (Nat.le_of_ble_eq_true rfl) ⟨Nat.le_of_ble_eq_true rfl, Nat.le_of_ble_eq_true rfl⟩ ?_
        refine a_if_eq X dX5_advance_145 (tgt := 207) (by decide) (fun hc145 => ?_) (fun hc145 => ?_)
        · skip
          simp only [bI_0, Bool.not_eq_false] at hc145
          rw [bt_in hB (by decide) (by decide)] at hc145
          have hc145 : ¬ (k < t ∧ tkL B k = true) := fun q => by simp only [tkL, Bool.and_eq_true, decide_eq_true_eq] at q; simp [q] at hc145
          first
            | (have hK1 : tkK B t p0 = 1 := by omega
               obtain ⟨z1, z2, z3⟩ := h1 hK1
               have z4 : k = tkE B t p0 := by
                 rw [tkE_1 hK1, ← z2]
                 rcases Nat.lt_or_ge k t with hlt | hge
                 · refine (tx_st hlt ?_).symm
                   cases hq : tkL B k with
                   | false => rfl
                   | true => exact absurd ⟨hlt, hq⟩ hc145
                 · exact (tx_en hge).symm
               exact L207 (t + 1) k _ _ (by omega) hs1 hs2 hF hkt he h0 h3 (fun _ => ⟨z4, by rw [← z4]; exact z3⟩) (fun q => by omega))
            | (have hK1 : ¬ tkK B t p0 = 1 := by omega
               exact L207 (t + 1) k _ _ (by omega) hs1 hs2 hF hkt he h0 h3 (fun q => absurd q hK1) (fun q => by
                 obtain ⟨y1, y2⟩ := h2 q
                 subst y2
                 exact ⟨Nat.le_refl _, rfl, by rw [Nat.sub_self]; exact y1, fun j hj => by omega⟩))
        · skip
          simp only [bI_0, Bool.not_eq_false] at hc145
          rw [bt_in hB (by decide) (by decide)] at hc145
          have hc145 : k < t ∧ tkL B k = true := by simpa [tkL] using hc145
          refine a_aload_n X dX5_advance_148 (i := 0) rfl rfl ?_
          refine a_aload_n X dX5_advance_149 (i := 0) rfl rfl ?_
          refine s_geti X dX5_advance_150 fl_X5_177 ko_43 rfl ?_
          rw [he]
          refine a_aload_n X dX5_advance_153 (i := 0) rfl rfl ?_
          refine s_geti X dX5_advance_154 fl_X5_180 ko_43 rfl ?_
          rw [hs1]
          refine s_isubN X dX5_advance_157 z1 ?_
          refine a_bipush X dX5_advance_158 (v := nI 12) (by decide +kernel) ?_
          refine s_icmp_geN X dX5_advance_160 (tgt := 188) (by decide) (by omega) (by omega) (fun hc160 => ?_) (fun hc160 => ?_)
          · skip
            refine a_ldc2 X dX5_advance_188 kc_X5_206 ?_
            refine s_putl X dX5_advance_191 fp_X5_195 ko_43 rfl hu_43 ?_
            refine a_aload_n X dX5_advance_194 (i := 0) rfl rfl ?_
            refine a_dup X dX5_advance_195 rfl ?_
            refine s_geti X dX5_advance_196 fl_X5_177 ko_43 rfl ?_
            rw [he]
            refine a_iconst X dX5_advance_199 (v := nI 1) (by decide +kernel) ?_
            refine s_iaddN X dX5_advance_200 ?_
            refine s_puti X dX5_advance_201 fp_X5_177 ko_43 rfl rfl rfl ?_
            refine a_goto X dX5_advance_204 (tgt := 126) (by decide) ?_
            obtain ⟨z1, z2, z3⟩ := h1 hK1
            first
              | exact ih (k + 1) _ _ (by omega) (by simp [ug, hs1]) (by simp [ug, hs2]) (fra_u hF (by decide)) (by omega) (by simp [ug]) (fun q => by omega) (fun q => by omega) (fun q => by omega) (fun _ => ⟨by omega, (tx_go hc145.1 hc145.2).symm.trans z2, by rw [show k + 1 - tkS B t p0 = (k - tkS B t p0) + 1 by omega, hsv, if_neg (by omega)]⟩)
              | exact ih (k + 1) _ _ (by omega) (by simp [ug, hs1]) (by simp [ug, hs2]) (fra_u hF (by decide)) (by omega) (by simp [ug]) (fun q => by omega) (fun q => by omega) (fun q => by omega) (fun _ => ⟨by omega, (tx_go hc145.1 hc145.2).symm.trans z2, by rw [show k + 1 - tkS B t p0 = (k - tkS B t p0) + 1 by omega, hsv, if_pos (by omega), ← z3, show tkS B t p0 + (k - tkS B t p0) = k by omega, bt_lt hc145.1]⟩)
          · skip
            refine a_ldc2 X dX5_advance_163 kc_X5_202 ?_
            refine a_aload_n X dX5_advance_166 (i := 0) rfl rfl ?_
            refine s_getl X dX5_advance_167 fl_X5_195 ko_43 rfl ?_
            refine a_lmul X dX5_advance_170 ?_
            refine a_aload_n X dX5_advance_171 (i := 0) rfl rfl ?_
            refine a_aload_n X dX5_advance_172 (i := 0) rfl rfl ?_
            refine s_geti X dX5_advance_173 fl_X5_177 ko_43 rfl ?_
            rw [he]
            refine s_callV_R X dX5_advance_176 lk_X5_183 ko_43 rfl rfl (c_X5_byteAt (B := B) (t := t) (k := k) (tp_f hT (hF.1)) (by omega)) ⟨Nat.le_of_ble_eq_true rfl, Nat.le_of_ble_eq_true rfl⟩ rfl rfl (Nat.le_of_ble_eq_true rfl) ⟨Nat.le_of_ble_eq_true rfl, Nat.le_of_ble_eq_true rfl⟩ ?_
            refine a_i2l X dX5_advance_179 rfl ?_
            refine a_ladd X dX5_advance_180 ?_
            refine a_ldc2 X dX5_advance_181 kc_X5_204 ?_
            refine a_lsub X dX5_advance_184 ?_
            refine a_goto X dX5_advance_185 (tgt := 191) (by decide) ?_
            refine s_putl X dX5_advance_191 fp_X5_195 ko_43 rfl hu_43 ?_
            refine a_aload_n X dX5_advance_194 (i := 0) rfl rfl ?_
            refine a_dup X dX5_advance_195 rfl ?_
            refine s_geti X dX5_advance_196 fl_X5_177 ko_43 rfl ?_
            rw [he]
            refine a_iconst X dX5_advance_199 (v := nI 1) (by decide +kernel) ?_
            refine s_iaddN X dX5_advance_200 ?_
            refine s_puti X dX5_advance_201 fp_X5_177 ko_43 rfl rfl rfl ?_
            refine a_goto X dX5_advance_204 (tgt := 126) (by decide) ?_
            obtain ⟨z1, z2, z3⟩ := h1 hK1
            first
              | exact ih (k + 1) _ _ (by omega) (by simp [ug, hs1]) (by simp [ug, hs2]) (fra_u hF (by decide)) (by omega) (by simp [ug]) (fun q => by omega) (fun q => by omega) (fun q => by omega) (fun _ => ⟨by omega, (tx_go hc145.1 hc145.2).symm.trans z2, by rw [show k + 1 - tkS B t p0 = (k - tkS B t p0) + 1 by omega, hsv, if_neg (by omega)]⟩)
              | exact ih (k + 1) _ _ (by omega) (by simp [ug, hs1]) (by simp [ug, hs2]) (fra_u hF (by decide)) (by omega) (by simp [ug]) (fun q => by omega) (fun q => by omega) (fun q => by omega) (fun _ => ⟨by omega, (tx_go hc145.1 hc145.2).symm.trans z2, by rw [show k + 1 - tkS B t p0 = (k - tkS B t p0) + 1 by omega, hsv, if_pos (by omega), ← z3, show tkS B t p0 + (k - tkS B t p0) = k by omega, bt_lt hc145.1]⟩)
  have L83 : ∀ (F1 : TI), (F1 43 9 = nI (tkS B t p0)) → (F1 43 10 = nI (tkS B t p0)) → (FrA F F1) → AW p l e (rmM 2 42) s m args below meth c g A 2 0 0 (MQ below (CQ g (hp g I J F w) s.heap.size (fun vv0 hh0 => ∃ II0 JJ0 FF0 ww0, vv0 = none ∧ hh0 = hp g II0 JJ0 FF0 ww0 ∧ (AdM I J F B t p0) II0 JJ0 FF0 ww0)) args s 0 0 A) 83 [some (.ref (ga g 43)), some (.int (btI B t (tkS B t p0)))] [.int (nI (min 3 (tkK B t p0))), .ref (ga g 43)] (hp g I J F1 w) := by
    intro F1 hs1 hs3 hF
    refine s_puti X dX5_advance_83 fp_X5_192 ko_43 rfl rfl rfl ?_
    refine a_aload_n X dX5_advance_86 (i := 0) rfl rfl ?_
    refine a_lconst X dX5_advance_87 (v := 0) (by decide +kernel) ?_
    refine s_putl X dX5_advance_88 fp_X5_195 ko_43 rfl hu_43 ?_
    refine a_aload_n X dX5_advance_91 (i := 0) rfl rfl ?_
    refine a_aload_n X dX5_advance_92 (i := 0) rfl rfl ?_
    refine s_geti X dX5_advance_93 fl_X5_192 ko_43 rfl ?_
    rw [ug, if_pos rfl]
    refine a_iconst X dX5_advance_96 (v := nI 2) (by decide +kernel) ?_
    refine s_icmp_neN X dX5_advance_97 (tgt := 104) (by decide) (by omega) (by omega) (fun hc97 => ?_) (fun hc97 => ?_)
    · skip
      refine a_iload_n X dX5_advance_104 (i := 1) rfl rfl ?_
      refine s_puti X dX5_advance_105 fp_X5_199 ko_43 rfl rfl rfl ?_
      refine a_aload_n X dX5_advance_108 (i := 0) rfl rfl ?_
      refine s_geti X dX5_advance_109 fl_X5_192 ko_43 rfl ?_
      simp only [ug]
      rw [if_neg (by decide), if_pos trivial]
      refine a_iconst X dX5_advance_112 (v := nI 3) (by decide +kernel) ?_
      refine s_icmp_neN X dX5_advance_113 (tgt := 126) (by decide) (by omega) (by omega) (fun hc113 => ?_) (fun hc113 => ?_)
      · skip
        first
          | (have hk3 : 3 ≤ tkK B t p0 := by omega
             have hlt := tkK_lt (B := B) (t := t) (p := p0) (by omega)
             exact L126 (t + 2) (tkS B t p0 + 1) _ _ (by omega) (by simp [ug, hs1]) (by simp [ug]) (fra_u (fra_u (fra_u hF (by decide)) (by decide)) (by decide)) (by omega) (by simp [ug]) (fun q => by omega) (fun _ => ⟨by simp [ug, bt_lt hlt], rfl⟩) (fun q => by omega) (fun q => by omega))
          | (have hk3 : ¬ 3 ≤ tkK B t p0 := by omega
             exact L126 (t + 2) (tkS B t p0) _ _ (by omega) (by simp [ug, hs1]) (by simp [ug]) (fra_u (fra_u hF (by decide)) (by decide)) (by omega) (by simp [ug, hs3]) (fun q => rfl) (fun q => absurd q hk3) (fun q => ⟨by first | (simp [ug]; done) | (exfalso; omega), rfl⟩) (fun q => ⟨Nat.le_refl _, rfl, by rw [Nat.sub_self]; rfl⟩))
      · skip
        refine a_aload_n X dX5_advance_116 (i := 0) rfl rfl ?_
        refine a_dup X dX5_advance_117 rfl ?_
        refine s_geti X dX5_advance_118 fl_X5_177 ko_43 rfl ?_
        simp only [ug]
        rw [if_neg (by decide), if_neg (by decide), hs3]
        refine a_iconst X dX5_advance_121 (v := nI 1) (by decide +kernel) ?_
        refine s_iaddN X dX5_advance_122 ?_
        refine s_puti X dX5_advance_123 fp_X5_177 ko_43 rfl rfl rfl ?_
        first
          | (have hk3 : 3 ≤ tkK B t p0 := by omega
             have hlt := tkK_lt (B := B) (t := t) (p := p0) (by omega)
             exact L126 (t + 2) (tkS B t p0 + 1) _ _ (by omega) (by simp [ug, hs1]) (by simp [ug]) (fra_u (fra_u (fra_u hF (by decide)) (by decide)) (by decide)) (by omega) (by simp [ug]) (fun q => by omega) (fun _ => ⟨by simp [ug, bt_lt hlt], rfl⟩) (fun q => by omega) (fun q => by omega))
          | (have hk3 : ¬ 3 ≤ tkK B t p0 := by omega
             exact L126 (t + 2) (tkS B t p0) _ _ (by omega) (by simp [ug, hs1]) (by simp [ug]) (fra_u (fra_u hF (by decide)) (by decide)) (by omega) (by simp [ug, hs3]) (fun q => rfl) (fun q => absurd q hk3) (fun q => ⟨by first | (simp [ug]; done) | (exfalso; omega), rfl⟩) (fun q => ⟨Nat.le_refl _, rfl, by rw [Nat.sub_self]; rfl⟩))
    · skip
      refine a_iconst X dX5_advance_100 (v := nI 0) (by decide +kernel) ?_
      refine a_goto X dX5_advance_101 (tgt := 105) (by decide) ?_
      refine s_puti X dX5_advance_105 fp_X5_199 ko_43 rfl rfl rfl ?_
      refine a_aload_n X dX5_advance_108 (i := 0) rfl rfl ?_
      refine s_geti X dX5_advance_109 fl_X5_192 ko_43 rfl ?_
      simp only [ug]
      rw [if_neg (by decide), if_pos trivial]
      refine a_iconst X dX5_advance_112 (v := nI 3) (by decide +kernel) ?_
      refine s_icmp_neN X dX5_advance_113 (tgt := 126) (by decide) (by omega) (by omega) (fun hc113 => ?_) (fun hc113 => ?_)
      · skip
        first
          | (have hk3 : 3 ≤ tkK B t p0 := by omega
             have hlt := tkK_lt (B := B) (t := t) (p := p0) (by omega)
             exact L126 (t + 2) (tkS B t p0 + 1) _ _ (by omega) (by simp [ug, hs1]) (by simp [ug]) (fra_u (fra_u (fra_u hF (by decide)) (by decide)) (by decide)) (by omega) (by simp [ug]) (fun q => by omega) (fun _ => ⟨by simp [ug, bt_lt hlt], rfl⟩) (fun q => by omega) (fun q => by omega))
          | (have hk3 : ¬ 3 ≤ tkK B t p0 := by omega
             exact L126 (t + 2) (tkS B t p0) _ _ (by omega) (by simp [ug, hs1]) (by simp [ug]) (fra_u (fra_u hF (by decide)) (by decide)) (by omega) (by simp [ug, hs3]) (fun q => rfl) (fun q => absurd q hk3) (fun q => ⟨by first | (simp [ug]; done) | (exfalso; omega), rfl⟩) (fun q => ⟨Nat.le_refl _, rfl, by rw [Nat.sub_self]; rfl⟩))
      · skip
        exfalso; omega
  have L8 : ∀ (fu : Nat) (k : Nat) (F1 : TI), t - k < fu → (k ≤ t) → (tx_run (tkB B) t k = tkS B t p0) → (F1 43 9 = nI k) → (FrA F F1) → AW p l e (rmM 2 42) s m args below meth c g A 2 0 0 (MQ below (CQ g (hp g I J F w) s.heap.size (fun vv0 hh0 => ∃ II0 JJ0 FF0 ww0, vv0 = none ∧ hh0 = hp g II0 JJ0 FF0 ww0 ∧ (AdM I J F B t p0) II0 JJ0 FF0 ww0)) args s 0 0 A) 8 [some (.ref (ga g 43)), none] [] (hp g I J F1 w) := by
    intro fu
    induction fu with
    | zero => intro k F1 hfu; exact absurd hfu (by omega)
    | succ fu ih =>
      intro k F1 hfu hk hr hb hF
      refine a_aload_n X dX5_advance_8 (i := 0) rfl rfl ?_
      refine a_aload_n X dX5_advance_9 (i := 0) rfl rfl ?_
      refine s_geti X dX5_advance_10 fl_X5_180 ko_43 rfl ?_
      rw [hb]
      refine s_callV_R X dX5_advance_13 lk_X5_183 ko_43 rfl rfl (c_X5_byteAt (B := B) (t := t) (k := k) (tp_f hT (hF.1)) (by omega)) ⟨Nat.le_of_ble_eq_true rfl, Nat.le_of_ble_eq_true rfl⟩ rfl rfl (Nat.le_of_ble_eq_true rfl) ⟨Nat.le_of_ble_eq_true rfl, Nat.le_of_ble_eq_true rfl⟩ ?_
      refine a_bipush X dX5_advance_16 (v := nI 32) (by decide +kernel) ?_
      refine a_icmp_ne X dX5_advance_18 (tgt := 34) (by decide) (fun hc18 => ?_) (fun hc18 => ?_)
      · skip
        have hsk : k = tkS B t p0 := (bt_ne hc18).symm.trans hr
        subst hsk
        refine a_aload_n X dX5_advance_34 (i := 0) rfl rfl ?_
        refine a_aload_n X dX5_advance_35 (i := 0) rfl rfl ?_
        refine s_geti X dX5_advance_36 fl_X5_180 ko_43 rfl ?_
        rw [hb]
        refine s_puti X dX5_advance_39 fp_X5_177 ko_43 rfl rfl rfl ?_
        have hs1 : va_up F1 43 (va_up (F1 43) 10 (nI (tkS B t p0))) 43 9 = nI (tkS B t p0) := by simp [ug, hb]
        have hs3 : va_up F1 43 (va_up (F1 43) 10 (nI (tkS B t p0))) 43 10 = nI (tkS B t p0) := by simp [ug]
        have hF := fra_u (v := nI (tkS B t p0)) hF (j := 10) (by decide)
        generalize va_up F1 43 (va_up (F1 43) 10 (nI (tkS B t p0))) = F1 at hs1 hs3 hF ⊢
        refine a_aload_n X dX5_advance_42 (i := 0) rfl rfl ?_
        refine a_aload_n X dX5_advance_43 (i := 0) rfl rfl ?_
        refine s_geti X dX5_advance_44 fl_X5_180 ko_43 rfl ?_
        rw [hs1]
        refine s_callV_R X dX5_advance_47 lk_X5_183 ko_43 rfl rfl (c_X5_byteAt (B := B) (t := t) (k := tkS B t p0) (tp_f hT (hF.1)) (by omega)) ⟨Nat.le_of_ble_eq_true rfl, Nat.le_of_ble_eq_true rfl⟩ rfl rfl (Nat.le_of_ble_eq_true rfl) ⟨Nat.le_of_ble_eq_true rfl, Nat.le_of_ble_eq_true rfl⟩ ?_
        refine a_istore_n X dX5_advance_50 (i := 1) rfl (by decide) rfl ?_
        refine a_aload_n X dX5_advance_51 (i := 0) rfl rfl ?_
        refine a_iload_n X dX5_advance_52 (i := 1) rfl rfl ?_
        refine a_if_ge X dX5_advance_53 (tgt := 60) (by decide) (fun hc53 => ?_) (fun hc53 => ?_)
        · skip
          have hlt := bt_0t hc53
          refine a_iload_n X dX5_advance_60 (i := 1) rfl rfl ?_
          refine s_callS_R X dX5_advance_61 lk_X5_186 c_X5_isLetter ⟨Nat.le_of_ble_eq_true rfl, Nat.le_of_ble_eq_true rfl⟩ rfl rfl (Nat.le_of_ble_eq_true rfl) ⟨Nat.le_of_ble_eq_true rfl, Nat.le_of_ble_eq_true rfl⟩ ?_
          refine a_if_eq X dX5_advance_64 (tgt := 71) (by decide) (fun hc64 => ?_) (fun hc64 => ?_)
          · skip
            simp only [bI_0, Bool.not_eq_false] at hc64
            rw [bt_in hB (by decide) (by decide)] at hc64
            have hl1 : tkL B (tkS B t p0) = false := by simpa [tkL, hlt] using hc64
            refine a_iload_n X dX5_advance_71 (i := 1) rfl rfl ?_
            refine s_callS_R X dX5_advance_72 lk_X5_189 c_X5_isDigit ⟨Nat.le_of_ble_eq_true rfl, Nat.le_of_ble_eq_true rfl⟩ rfl rfl (Nat.le_of_ble_eq_true rfl) ⟨Nat.le_of_ble_eq_true rfl, Nat.le_of_ble_eq_true rfl⟩ ?_
            refine a_if_eq X dX5_advance_75 (tgt := 82) (by decide) (fun hc75 => ?_) (fun hc75 => ?_)
            · skip
              simp only [bI_0, Bool.not_eq_false] at hc75
              rw [bt_in hB (by decide) (by decide)] at hc75
              have hl2 : tkD B (tkS B t p0) = false := by simpa [tkD, hlt] using hc75
              refine a_iconst X dX5_advance_82 (v := nI 3) (by decide +kernel) ?_
              first
                | (have hk := tkK_0 (B := B) (t := t) (p := p0) hge; have := L83 _ hs1 hs3 hF; rw [hk] at this; exact this)
                | (have hk := tkK_1 (B := B) (t := t) (p := p0) (by omega) hl1; have := L83 _ hs1 hs3 hF; rw [hk] at this; exact this)
                | (have hk := tkK_2 (B := B) (t := t) (p := p0) (by omega) hl1 hl2; have := L83 _ hs1 hs3 hF; rw [hk] at this; exact this)
                | (have hk : min 3 (tkK B t p0) = 3 := (by
                     by_cases h59 : B (tkS B t p0) = 59
                     · rw [tkK_3 (by omega) hl1 hl2 h59]; rfl
                     · rw [tkK_4 (by omega) hl1 hl2 h59]; rfl)
                   have := L83 _ hs1 hs3 hF; rw [hk] at this; exact this)
            · skip
              simp only [bI_0, Bool.not_eq_false] at hc75
              rw [bt_in hB (by decide) (by decide)] at hc75
              have hl2 : tkD B (tkS B t p0) = true := by simpa [tkD, hlt] using hc75
              refine a_iconst X dX5_advance_78 (v := nI 2) (by decide +kernel) ?_
              refine a_goto X dX5_advance_79 (tgt := 83) (by decide) ?_
              first
                | (have hk := tkK_0 (B := B) (t := t) (p := p0) hge; have := L83 _ hs1 hs3 hF; rw [hk] at this; exact this)
                | (have hk := tkK_1 (B := B) (t := t) (p := p0) (by omega) hl1; have := L83 _ hs1 hs3 hF; rw [hk] at this; exact this)
                | (have hk := tkK_2 (B := B) (t := t) (p := p0) (by omega) hl1 hl2; have := L83 _ hs1 hs3 hF; rw [hk] at this; exact this)
                | (have hk : min 3 (tkK B t p0) = 3 := (by
                     by_cases h59 : B (tkS B t p0) = 59
                     · rw [tkK_3 (by omega) hl1 hl2 h59]; rfl
                     · rw [tkK_4 (by omega) hl1 hl2 h59]; rfl)
                   have := L83 _ hs1 hs3 hF; rw [hk] at this; exact this)
          · skip
            simp only [bI_0, Bool.not_eq_false] at hc64
            rw [bt_in hB (by decide) (by decide)] at hc64
            have hl1 : tkL B (tkS B t p0) = true := by simpa [tkL, hlt] using hc64
            refine a_iconst X dX5_advance_67 (v := nI 1) (by decide +kernel) ?_
            refine a_goto X dX5_advance_68 (tgt := 83) (by decide) ?_
            first
              | (have hk := tkK_0 (B := B) (t := t) (p := p0) hge; have := L83 _ hs1 hs3 hF; rw [hk] at this; exact this)
              | (have hk := tkK_1 (B := B) (t := t) (p := p0) (by omega) hl1; have := L83 _ hs1 hs3 hF; rw [hk] at this; exact this)
              | (have hk := tkK_2 (B := B) (t := t) (p := p0) (by omega) hl1 hl2; have := L83 _ hs1 hs3 hF; rw [hk] at this; exact this)
              | (have hk : min 3 (tkK B t p0) = 3 := (by
                   by_cases h59 : B (tkS B t p0) = 59
                   · rw [tkK_3 (by omega) hl1 hl2 h59]; rfl
                   · rw [tkK_4 (by omega) hl1 hl2 h59]; rfl)
                 have := L83 _ hs1 hs3 hF; rw [hk] at this; exact this)
        · skip
          have hge := bt_0f hB hc53
          refine a_iconst X dX5_advance_56 (v := nI 0) (by decide +kernel) ?_
          refine a_goto X dX5_advance_57 (tgt := 83) (by decide) ?_
          first
            | (have hk := tkK_0 (B := B) (t := t) (p := p0) hge; have := L83 _ hs1 hs3 hF; rw [hk] at this; exact this)
            | (have hk := tkK_1 (B := B) (t := t) (p := p0) (by omega) hl1; have := L83 _ hs1 hs3 hF; rw [hk] at this; exact this)
            | (have hk := tkK_2 (B := B) (t := t) (p := p0) (by omega) hl1 hl2; have := L83 _ hs1 hs3 hF; rw [hk] at this; exact this)
            | (have hk : min 3 (tkK B t p0) = 3 := (by
                 by_cases h59 : B (tkS B t p0) = 59
                 · rw [tkK_3 (by omega) hl1 hl2 h59]; rfl
                 · rw [tkK_4 (by omega) hl1 hl2 h59]; rfl)
               have := L83 _ hs1 hs3 hF; rw [hk] at this; exact this)
      · skip
        obtain ⟨hkt, hbk⟩ := bt_eq hB (by decide) hc18
        refine a_aload_n X dX5_advance_21 (i := 0) rfl rfl ?_
        refine a_dup X dX5_advance_22 rfl ?_
        refine s_geti X dX5_advance_23 fl_X5_180 ko_43 rfl ?_
        rw [hb]
        refine a_iconst X dX5_advance_26 (v := nI 1) (by decide +kernel) ?_
        refine s_iaddN X dX5_advance_27 ?_
        refine s_puti X dX5_advance_28 fp_X5_180 ko_43 rfl rfl rfl ?_
        refine a_goto X dX5_advance_31 (tgt := 8) (by decide) ?_
        exact ih (k + 1) _ (by omega) (by omega) ((tx_go hkt (by simp [tkB, hbk])).symm.trans hr) (by simp [va_up]) (fra_u hF (by decide))
  refine a_aload_n X dX5_advance_0 (i := 0) rfl rfl ?_
  refine a_aload_n X dX5_advance_1 (i := 0) rfl rfl ?_
  refine s_geti X dX5_advance_2 fl_X5_177 ko_43 rfl ?_
  rw [hen]
  refine s_puti X dX5_advance_5 fp_X5_180 ko_43 rfl rfl rfl ?_
  exact L8 (t + 1) p0 _ (by omega) hp0 rfl (by simp [va_up]) (fra_u (fra_0 F) (by decide))
