theorem hp_uw {g : GG} {I : Nat → Nat → Int32} {J : Nat → Nat → Int64} {F : Nat → Nat → Int32} {w : Int64} {r : List Nat} (h : KO 43 4 r) (hk : r[11]? = some 1) (hu : ∀ j : Nat, r[j]? = some 1 → j = 11) (v : Int64) : va_up (hp g I J F w) 43 (co 4 ((fldV g (F 43) w r 0).set 11 (.long v))) = hp g I J F v := by
  funext Q
  by_cases hq : Q = 43
  · subst hq
    rw [hp_o h, fldV_setL g (F 43) w v r 0 11 hk hu]
    simp [va_up]
  · simp only [va_up, hq, if_false]
    have hno : 1 ∉ (kd Q).2.2 := by
      by_cases h57 : Q < 57
      · have : ∀ Q, Q < 57 → Q ≠ 43 → 1 ∉ (kd Q).2.2 := by decide +kernel
        exact this Q h57 hq
      · have : kd Q = (9, 0, []) := by
          unfold kd
          rw [List.getD_eq_getElem?_getD, List.getElem?_eq_none (by simp [kdl]; omega)]
          rfl
        rw [this]; simp
    have key : ∀ (r : List Nat) (k : Nat), 1 ∉ r → fldV g (F Q) w r k = fldV g (F Q) v r k := by
      intro r
      induction r with
      | nil => intro k _; rfl
      | cons b r ih =>
        intro k hh
        have h1 := ih (k + 1) (fun z => hh (List.mem_cons_of_mem _ z))
        match b, hh with
        | 0, _ => simp only [fldV, h1]
        | 1, hh => exact absurd List.mem_cons_self hh
        | q + 2, _ => simp only [fldV, h1]
    simp only [hp, cellOf, key _ 0 hno]
section SROWS
variable {p : Program} {l : Launch} {e : Env} {R : Room} {s : State} {m : MethodId} {args : Array Value} {below : List Frame} {meth : Method} {c : Code} {g : GG} {A : Nat → Prop} {cc : ByteArray} {nL : Nat} {own : String} {w0 : Cond} {ret : Option FieldType} {cells slots : Nat} {Q : State → Prop} {pc : Nat} {lv : List (Option Value)} {st : List Value} {I : Nat → Nat → Int32} {J : Nat → Nat → Int64} {F : Nat → Nat → Int32} {w : Int64}
theorem s_geti (X : AX p s m args meth c g A cc nL own w0 ret) {idx cn k P : Nat} {r : List Nat} (hd : decode cc pc = .ok (.getfield idx, 3)) (hf : FL own idx cn k) (hk : KO P cn r) (hr : r[k]? = some 0) (kk : AW p l e R s m args below meth c g A nL cells slots Q (pc + 3) (lv) (.int (F P k) :: st) (hp g I J F w)) : AW p l e R s m args below meth c g A nL cells slots Q (pc) (lv) (.ref (ga g P) :: st) (hp g I J F w) := by
  have := fldV_at g (F P) w r 0 k 0 hr
  rw [Nat.zero_add] at this
  exact a_get X hd hf hk.1 (hp_o hk) this kk
theorem s_getr (X : AX p s m args meth c g A cc nL own w0 ret) {idx cn k P q : Nat} {r : List Nat} (hd : decode cc pc = .ok (.getfield idx, 3)) (hf : FL own idx cn k) (hk : KO P cn r) (hr : r[k]? = some (q + 2)) (kk : AW p l e R s m args below meth c g A nL cells slots Q (pc + 3) (lv) (.ref (ga g q) :: st) (hp g I J F w)) : AW p l e R s m args below meth c g A nL cells slots Q (pc) (lv) (.ref (ga g P) :: st) (hp g I J F w) :=
  a_get X hd hf hk.1 (hp_o hk) (fldV_at g (F P) w r 0 k (q + 2) hr) kk
theorem s_getl (X : AX p s m args meth c g A cc nL own w0 ret) {idx cn k P : Nat} {r : List Nat} (hd : decode cc pc = .ok (.getfield idx, 3)) (hf : FL own idx cn k) (hk : KO P cn r) (hr : r[k]? = some 1) (kk : AW p l e R s m args below meth c g A nL cells slots Q (pc + 3) (lv) (.long w :: st) (hp g I J F w)) : AW p l e R s m args below meth c g A nL cells slots Q (pc) (lv) (.ref (ga g P) :: st) (hp g I J F w) :=
  a_get X hd hf hk.1 (hp_o hk) (fldV_at g (F P) w r 0 k 1 hr) kk
theorem s_puti (X : AX p s m args meth c g A cc nL own w0 ret) {idx cn k P : Nat} {r : List Nat} {v : Int32} {ty : FieldType} (hd : decode cc pc = .ok (.putfield idx, 3)) (hf : FP own idx cn k ty) (hk : KO P cn r) (hr : r[k]? = some 0) (hn : narrow ty (.int v) = .int v) (hfit : fits ty (.int v) = true) (kk : AW p l e R s m args below meth c g A nL cells slots Q (pc + 3) (lv) (st) (hp g I J (va_up F P (va_up (F P) k v)) w)) : AW p l e R s m args below meth c g A nL cells slots Q (pc) (lv) (.int v :: .ref (ga g P) :: st) (hp g I J F w) := by
  refine a_put X hd hf hk.1 (hp_o hk) hn hfit ?_ ?_
  · rw [fldV_len]; exact (List.getElem?_eq_some_iff.mp hr).1
  · rw [hp_uo hk hr]; exact kk
theorem s_putl (X : AX p s m args meth c g A cc nL own w0 ret) {idx : Nat} {r : List Nat} {v : Int64} (hd : decode cc pc = .ok (.putfield idx, 3)) (hf : FP own idx 4 11 .long) (hk : KO 43 4 r) (hr : r[11]? = some 1) (hu : ∀ j : Nat, r[j]? = some 1 → j = 11) (kk : AW p l e R s m args below meth c g A nL cells slots Q (pc + 3) (lv) (st) (hp g I J F v)) : AW p l e R s m args below meth c g A nL cells slots Q (pc) (lv) (.long v :: .ref (ga g 43) :: st) (hp g I J F w) := by
  refine a_put X hd hf hk.1 (hp_o hk) rfl rfl ?_ ?_
  · rw [fldV_len]; exact (List.getElem?_eq_some_iff.mp hr).1
  · rw [hp_uw hk hr hu]; exact kk
theorem s_ild (X : AX p s m args meth c g A cc nL own w0 ret) {P n j : Nat} (hd : decode cc pc = .ok (.iaload, 1)) (hk : KI P n) (hj : j < n) (hn : n < 1000) (kk : AW p l e R s m args below meth c g A nL cells slots Q (pc + 1) (lv) (.int (I P j) :: st) (hp g I J F w)) : AW p l e R s m args below meth c g A nL cells slots Q (pc) (lv) (.int (nI j) :: .ref (ga g P) :: st) (hp g I J F w) := by
  refine a_iald X hd hk.1 (hp_i hk) (vp_in_nI hj (by omega)) ?_
  rw [nI_clamp (by omega)]
  exact kk
theorem s_ist (X : AX p s m args meth c g A cc nL own w0 ret) {P n j : Nat} {x : Int32} (hd : decode cc pc = .ok (.iastore, 1)) (hk : KI P n) (hj : j < n) (hn : n < 1000) (kk : AW p l e R s m args below meth c g A nL cells slots Q (pc + 1) (lv) (st) (hp g (va_up I P (upd (I P) j x)) J F w)) : AW p l e R s m args below meth c g A nL cells slots Q (pc) (lv) (.int x :: .int (nI j) :: .ref (ga g P) :: st) (hp g I J F w) := by
  refine a_iast X hd hk.1 (hp_i hk) (vp_in_nI hj (by omega)) ?_
  rw [nI_clamp (by omega), hp_ui hk]
  exact kk
theorem s_lld (X : AX p s m args meth c g A cc nL own w0 ret) {P n j : Nat} (hd : decode cc pc = .ok (.laload, 1)) (hk : KJ P n) (hj : j < n) (hn : n < 1000) (kk : AW p l e R s m args below meth c g A nL cells slots Q (pc + 1) (lv) (.long (J P j) :: st) (hp g I J F w)) : AW p l e R s m args below meth c g A nL cells slots Q (pc) (lv) (.int (nI j) :: .ref (ga g P) :: st) (hp g I J F w) := by
  refine a_lald X hd hk.1 (hp_j hk) (vp_in_nI hj (by omega)) ?_
  rw [nI_clamp (by omega)]
  exact kk
theorem s_lst (X : AX p s m args meth c g A cc nL own w0 ret) {P n j : Nat} {x : Int64} (hd : decode cc pc = .ok (.lastore, 1)) (hk : KJ P n) (hj : j < n) (hn : n < 1000) (kk : AW p l e R s m args below meth c g A nL cells slots Q (pc + 1) (lv) (st) (hp g I (va_up J P (vp_updL (J P) j x)) F w)) : AW p l e R s m args below meth c g A nL cells slots Q (pc) (lv) (.long x :: .int (nI j) :: .ref (ga g P) :: st) (hp g I J F w) := by
  refine a_last X hd hk.1 (hp_j hk) (vp_in_nI hj (by omega)) ?_
  rw [nI_clamp (by omega), hp_uj hk]
  exact kk
theorem s_ald (X : AX p s m args meth c g A cc nL own w0 ret) {j : Nat} (hd : decode cc pc = .ok (.aaload, 1)) (hj : j < 4) (kk : AW p l e R s m args below meth c g A nL cells slots Q (pc + 1) (lv) (.ref (ga g (34 + 2 * j)) :: st) (hp g I J F w)) : AW p l e R s m args below meth c g A nL cells slots Q (pc) (lv) (.int (nI j) :: .ref (ga g 33) :: st) (hp g I J F w) := by
  refine a_aald X hd (by decide) hp_s (vp_in_nI hj (by decide)) ?_ kk
  rw [nI_clamp (by omega)]
  simp [shF, hj]
theorem s_alenI (X : AX p s m args meth c g A cc nL own w0 ret) {P n : Nat} (hd : decode cc pc = .ok (.arraylength, 1)) (hk : KI P n) (kk : AW p l e R s m args below meth c g A nL cells slots Q (pc + 1) (lv) (.int (nI n) :: st) (hp g I J F w)) : AW p l e R s m args below meth c g A nL cells slots Q (pc) (lv) (.ref (ga g P) :: st) (hp g I J F w) := a_alenI X hd hk.1 (hp_i hk) kk
theorem s_alenJ (X : AX p s m args meth c g A cc nL own w0 ret) {P n : Nat} (hd : decode cc pc = .ok (.arraylength, 1)) (hk : KJ P n) (kk : AW p l e R s m args below meth c g A nL cells slots Q (pc + 1) (lv) (.int (nI n) :: st) (hp g I J F w)) : AW p l e R s m args below meth c g A nL cells slots Q (pc) (lv) (.ref (ga g P) :: st) (hp g I J F w) := a_alenJ X hd hk.1 (hp_j hk) kk
theorem s_copyi (X : AX p s m args meth c g A cc nL own w0 ret) {idx P P2 n0 n1 a b n : Nat} (hd : decode cc pc = .ok (.invokestatic idx, 3)) (hw : Cond.methodLink own idx arraycopyName ∈ gTb) (hk : KI P n0) (hk2 : KI P2 n1) (hb : n0 < 1000 ∧ n1 < 1000) (h4 : a + n ≤ n0) (h5 : b + n ≤ n1) (hR : 1 ≤ R.frames ∧ (st.map fun v => v.category).sum + 18 ≤ R.locals) (kk : AW p l e R s m args below meth c g A nL cells slots Q (pc + 3) (lv) (st) (hp g (va_up I P2 (va_cpy (I P) (I P2) a b n)) J F w)) : AW p l e R s m args below meth c g A nL cells slots Q (pc) (lv) (.int (nI n) :: .int (nI b) :: .ref (ga g P2) :: .int (nI a) :: .ref (ga g P) :: st) (hp g I J F w) := by
  have ea : (nI a).toNatClampNeg = a := nI_clamp (by omega)
  have eb : (nI b).toNatClampNeg = b := nI_clamp (by omega)
  have en : (nI n).toNatClampNeg = n := nI_clamp (by omega)
  refine a_copyi X hd hw ac_w hk.1 hk2.1 (hp_i hk) (hp_i hk2) (nI_pos (by omega)) (nI_pos (by omega)) (nI_pos (by omega)) (by rw [ea, en]; exact h4) (by rw [eb, en]; exact h5) hR ?_
  rw [ea, eb, en, hp_ui hk2]
  exact kk
theorem s_copyl (X : AX p s m args meth c g A cc nL own w0 ret) {idx P P2 n0 n1 a b n : Nat} (hd : decode cc pc = .ok (.invokestatic idx, 3)) (hw : Cond.methodLink own idx arraycopyName ∈ gTb) (hk : KJ P n0) (hk2 : KJ P2 n1) (hb : n0 < 1000 ∧ n1 < 1000) (h4 : a + n ≤ n0) (h5 : b + n ≤ n1) (hR : 1 ≤ R.frames ∧ (st.map fun v => v.category).sum + 18 ≤ R.locals) (kk : AW p l e R s m args below meth c g A nL cells slots Q (pc + 3) (lv) (st) (hp g I (va_up J P2 (va_cpy (J P) (J P2) a b n)) F w)) : AW p l e R s m args below meth c g A nL cells slots Q (pc) (lv) (.int (nI n) :: .int (nI b) :: .ref (ga g P2) :: .int (nI a) :: .ref (ga g P) :: st) (hp g I J F w) := by
  have ea : (nI a).toNatClampNeg = a := nI_clamp (by omega)
  have eb : (nI b).toNatClampNeg = b := nI_clamp (by omega)
  have en : (nI n).toNatClampNeg = n := nI_clamp (by omega)
  refine a_copyl X hd hw ac_w hk.1 hk2.1 (hp_j hk) (hp_j hk2) (nI_pos (by omega)) (nI_pos (by omega)) (nI_pos (by omega)) (by rw [ea, en]; exact h4) (by rw [eb, en]; exact h5) hR ?_
  rw [ea, eb, en, hp_uj hk2]
  exact kk
theorem s_iaddN (X : AX p s m args meth c g A cc nL own w0 ret) {a b : Nat} (hd : decode cc pc = .ok (.iadd, 1)) (kk : AW p l e R s m args below meth c g A nL cells slots Q (pc + 1) (lv) (.int (nI (a + b)) :: st) (hp g I J F w)) : AW p l e R s m args below meth c g A nL cells slots Q (pc) (lv) (.int (nI b) :: .int (nI a) :: st) (hp g I J F w) := a_iadd X hd (by rw [nI_add]; exact kk)
theorem s_imulN (X : AX p s m args meth c g A cc nL own w0 ret) {a b : Nat} (hd : decode cc pc = .ok (.imul, 1)) (kk : AW p l e R s m args below meth c g A nL cells slots Q (pc + 1) (lv) (.int (nI (a * b)) :: st) (hp g I J F w)) : AW p l e R s m args below meth c g A nL cells slots Q (pc) (lv) (.int (nI b) :: .int (nI a) :: st) (hp g I J F w) := a_imul X hd (by rw [pk_mul]; exact kk)
theorem s_isubN (X : AX p s m args meth c g A cc nL own w0 ret) {a b : Nat} (hd : decode cc pc = .ok (.isub, 1)) (hab : b ≤ a) (kk : AW p l e R s m args below meth c g A nL cells slots Q (pc + 1) (lv) (.int (nI (a - b)) :: st) (hp g I J F w)) : AW p l e R s m args below meth c g A nL cells slots Q (pc) (lv) (.int (nI b) :: .int (nI a) :: st) (hp g I J F w) := a_isub X hd (by rw [pk_sub hab]; exact kk)
theorem s_to {x y : Int32} (e0 : x = y) (kk : AW p l e R s m args below meth c g A nL cells slots Q (pc) (lv) (.int y :: st) (hp g I J F w)) : AW p l e R s m args below meth c g A nL cells slots Q (pc) (lv) (.int x :: st) (hp g I J F w) := by rw [e0]; exact kk
theorem s_lv {lv2 : List (Option Value)} {st2 : List Value} (e1 : lv = lv2) (e2 : st = st2) (kk : AW p l e R s m args below meth c g A nL cells slots Q (pc) (lv2) (st2) (hp g I J F w)) : AW p l e R s m args below meth c g A nL cells slots Q (pc) (lv) (st) (hp g I J F w) := by rw [e1, e2]; exact kk
/-- forget what a slot holds -/
theorem s_drop {lv2 : List (Option Value)} (hs : ∀ (i : Nat) (v : Value), lv2[i]? = some (some v) → lv[i]? = some (some v)) (kk : AW p l e R s m args below meth c g A nL cells slots Q (pc) (lv2) (st) (hp g I J F w)) : AW p l e R s m args below meth c g A nL cells slots Q (pc) (lv) (st) (hp g I J F w) := fun H locs ls hP hD hS hv => kk H locs ls hP hD hS ⟨hv.1, hv.2.1, fun i v q => hv.2.2 i v (hs i v q)⟩

end SROWS
/-! contracts over the state -/
abbrev TI : Type := Nat → Nat → Int32
abbrev TJ : Type := Nat → Nat → Int64
/-- it answers x, and the state is I2 .. then -/
def UR (l : Launch) (g : GG) (M : MM) (av : List Value) (I : TI) (J : TJ) (F : TI) (w : Int64) (x : Value) (I2 : TI) (J2 : TJ) (F2 : TI) (w2 : Int64) : Prop := CT l g M av (hp g I J F w) (fun v h' => v = some x ∧ h' = hp g I2 J2 F2 w2)
def UV (l : Launch) (g : GG) (M : MM) (av : List Value) (I : TI) (J : TJ) (F : TI) (w : Int64) (I2 : TI) (J2 : TJ) (F2 : TI) (w2 : Int64) : Prop := CT l g M av (hp g I J F w) (fun v h' => v = none ∧ h' = hp g I2 J2 F2 w2)
def RV (l : Launch) (g : GG) (M : MM) (av : List Value) (I : TI) (J : TJ) (F : TI) (w : Int64) (Po : Value → TI → TJ → TI → Int64 → Prop) : Prop := CT l g M av (hp g I J F w) (fun v h' => ∃ x I2 J2 F2 w2, v = some x ∧ h' = hp g I2 J2 F2 w2 ∧ Po x I2 J2 F2 w2)
def VV (l : Launch) (g : GG) (M : MM) (av : List Value) (I : TI) (J : TJ) (F : TI) (w : Int64) (Po : TI → TJ → TI → Int64 → Prop) : Prop := CT l g M av (hp g I J F w) (fun v h' => ∃ I2 J2 F2 w2, v = none ∧ h' = hp g I2 J2 F2 w2 ∧ Po I2 J2 F2 w2)
section SCALL
variable {p : Program} {l : Launch} {e : Env} {R : Room} {s : State} {m : MethodId} {args : Array Value} {below : List Frame} {meth : Method} {c : Code} {g : GG} {A : Nat → Prop} {cc : ByteArray} {nL : Nat} {own : String} {w0 : Cond} {ret : Option FieldType} {cells slots : Nat} {Q : State → Prop} {pc : Nat} {lv : List (Option Value)} {st : List Value} {I : Nat → Nat → Int32} {J : Nat → Nat → Int64} {F : Nat → Nat → Int32} {w : Int64}
theorem s_callS_R (X : AX p s m args meth c g A cc nL own w0 ret) {idx n : Nat} {M : MM} {As rest : List Value} {x : Value} {I2 : TI} {J2 : TJ} {F2 : TI} {w2 : Int64} (hd : decode cc pc = .ok (.invokestatic idx, 3)) (hL : LnS own idx M n) (hM : UR l g M As I J F w x I2 J2 F2 w2) (hR : roomOk R M) (hn : As.length = n) (hst : st = As.reverse ++ rest) (hcat : (rest.map fun v => v.category).sum ≤ 8) (hC : cells ≤ R.cells ∧ slots ≤ R.slots) (kk : AW p l e R s m args below meth c g A nL cells slots Q (pc + 3) (lv) (x :: rest) (hp g I2 J2 F2 w2)) : AW p l e R s m args below meth c g A nL cells slots Q (pc) (lv) (st) (hp g I J F w) := by
  refine a_callS X hd hL hM hR hn hst hcat hC (fun v h' hp' => ?_)
  obtain ⟨rfl, rfl⟩ := hp'
  exact kk
theorem s_callS_V (X : AX p s m args meth c g A cc nL own w0 ret) {idx n : Nat} {M : MM} {As rest : List Value} {I2 : TI} {J2 : TJ} {F2 : TI} {w2 : Int64} (hd : decode cc pc = .ok (.invokestatic idx, 3)) (hL : LnS own idx M n) (hM : UV l g M As I J F w I2 J2 F2 w2) (hR : roomOk R M) (hn : As.length = n) (hst : st = As.reverse ++ rest) (hcat : (rest.map fun v => v.category).sum ≤ 8) (hC : cells ≤ R.cells ∧ slots ≤ R.slots) (kk : AW p l e R s m args below meth c g A nL cells slots Q (pc + 3) (lv) (rest) (hp g I2 J2 F2 w2)) : AW p l e R s m args below meth c g A nL cells slots Q (pc) (lv) (st) (hp g I J F w) := by
  refine a_callS X hd hL hM hR hn hst hcat hC (fun v h' hp' => ?_)
  obtain ⟨rfl, rfl⟩ := hp'
  exact kk
theorem s_callS_X (X : AX p s m args meth c g A cc nL own w0 ret) {idx n : Nat} {M : MM} {As rest : List Value} {Po : Value → TI → TJ → TI → Int64 → Prop} (hd : decode cc pc = .ok (.invokestatic idx, 3)) (hL : LnS own idx M n) (hM : RV l g M As I J F w Po) (hR : roomOk R M) (hn : As.length = n) (hst : st = As.reverse ++ rest) (hcat : (rest.map fun v => v.category).sum ≤ 8) (hC : cells ≤ R.cells ∧ slots ≤ R.slots) (kk : ∀ (x : Value) (I2 : TI) (J2 : TJ) (F2 : TI) (w2 : Int64), Po x I2 J2 F2 w2 → AW p l e R s m args below meth c g A nL cells slots Q (pc + 3) (lv) (x :: rest) (hp g I2 J2 F2 w2)) : AW p l e R s m args below meth c g A nL cells slots Q (pc) (lv) (st) (hp g I J F w) := by
  refine a_callS X hd hL hM hR hn hst hcat hC (fun v h' hp' => ?_)
  obtain ⟨x, I2, J2, F2, w2, rfl, rfl, hq⟩ := hp'
  exact kk x I2 J2 F2 w2 hq
theorem s_callS_Y (X : AX p s m args meth c g A cc nL own w0 ret) {idx n : Nat} {M : MM} {As rest : List Value} {Po : TI → TJ → TI → Int64 → Prop} (hd : decode cc pc = .ok (.invokestatic idx, 3)) (hL : LnS own idx M n) (hM : VV l g M As I J F w Po) (hR : roomOk R M) (hn : As.length = n) (hst : st = As.reverse ++ rest) (hcat : (rest.map fun v => v.category).sum ≤ 8) (hC : cells ≤ R.cells ∧ slots ≤ R.slots) (kk : ∀ (I2 : TI) (J2 : TJ) (F2 : TI) (w2 : Int64), Po I2 J2 F2 w2 → AW p l e R s m args below meth c g A nL cells slots Q (pc + 3) (lv) (rest) (hp g I2 J2 F2 w2)) : AW p l e R s m args below meth c g A nL cells slots Q (pc) (lv) (st) (hp g I J F w) := by
  refine a_callS X hd hL hM hR hn hst hcat hC (fun v h' hp' => ?_)
  obtain ⟨I2, J2, F2, w2, rfl, rfl, hq⟩ := hp'
  exact kk I2 J2 F2 w2 hq
theorem s_callN_R (X : AX p s m args meth c g A cc nL own w0 ret) {idx n : Nat} {host : String} {M : MM} {As rest : List Value} {x : Value} {I2 : TI} {J2 : TJ} {F2 : TI} {w2 : Int64} (hd : decode cc pc = .ok (.invokestatic idx, 3)) (hL : LnN own idx M n) (hN : va_Nw (.methodLinkNest own idx M.1 host) s) (hM : UR l g M As I J F w x I2 J2 F2 w2) (hR : roomOk R M) (hn : As.length = n) (hst : st = As.reverse ++ rest) (hcat : (rest.map fun v => v.category).sum ≤ 8) (hC : cells ≤ R.cells ∧ slots ≤ R.slots) (kk : AW p l e R s m args below meth c g A nL cells slots Q (pc + 3) (lv) (x :: rest) (hp g I2 J2 F2 w2)) : AW p l e R s m args below meth c g A nL cells slots Q (pc) (lv) (st) (hp g I J F w) := by
  refine a_callSN X hd hL hN hM hR hn hst hcat hC (fun v h' hp' => ?_)
  obtain ⟨rfl, rfl⟩ := hp'
  exact kk
theorem s_callN_V (X : AX p s m args meth c g A cc nL own w0 ret) {idx n : Nat} {host : String} {M : MM} {As rest : List Value} {I2 : TI} {J2 : TJ} {F2 : TI} {w2 : Int64} (hd : decode cc pc = .ok (.invokestatic idx, 3)) (hL : LnN own idx M n) (hN : va_Nw (.methodLinkNest own idx M.1 host) s) (hM : UV l g M As I J F w I2 J2 F2 w2) (hR : roomOk R M) (hn : As.length = n) (hst : st = As.reverse ++ rest) (hcat : (rest.map fun v => v.category).sum ≤ 8) (hC : cells ≤ R.cells ∧ slots ≤ R.slots) (kk : AW p l e R s m args below meth c g A nL cells slots Q (pc + 3) (lv) (rest) (hp g I2 J2 F2 w2)) : AW p l e R s m args below meth c g A nL cells slots Q (pc) (lv) (st) (hp g I J F w) := by
  refine a_callSN X hd hL hN hM hR hn hst hcat hC (fun v h' hp' => ?_)
  obtain ⟨rfl, rfl⟩ := hp'
  exact kk
theorem s_callN_X (X : AX p s m args meth c g A cc nL own w0 ret) {idx n : Nat} {host : String} {M : MM} {As rest : List Value} {Po : Value → TI → TJ → TI → Int64 → Prop} (hd : decode cc pc = .ok (.invokestatic idx, 3)) (hL : LnN own idx M n) (hN : va_Nw (.methodLinkNest own idx M.1 host) s) (hM : RV l g M As I J F w Po) (hR : roomOk R M) (hn : As.length = n) (hst : st = As.reverse ++ rest) (hcat : (rest.map fun v => v.category).sum ≤ 8) (hC : cells ≤ R.cells ∧ slots ≤ R.slots) (kk : ∀ (x : Value) (I2 : TI) (J2 : TJ) (F2 : TI) (w2 : Int64), Po x I2 J2 F2 w2 → AW p l e R s m args below meth c g A nL cells slots Q (pc + 3) (lv) (x :: rest) (hp g I2 J2 F2 w2)) : AW p l e R s m args below meth c g A nL cells slots Q (pc) (lv) (st) (hp g I J F w) := by
  refine a_callSN X hd hL hN hM hR hn hst hcat hC (fun v h' hp' => ?_)
  obtain ⟨x, I2, J2, F2, w2, rfl, rfl, hq⟩ := hp'
  exact kk x I2 J2 F2 w2 hq
theorem s_callN_Y (X : AX p s m args meth c g A cc nL own w0 ret) {idx n : Nat} {host : String} {M : MM} {As rest : List Value} {Po : TI → TJ → TI → Int64 → Prop} (hd : decode cc pc = .ok (.invokestatic idx, 3)) (hL : LnN own idx M n) (hN : va_Nw (.methodLinkNest own idx M.1 host) s) (hM : VV l g M As I J F w Po) (hR : roomOk R M) (hn : As.length = n) (hst : st = As.reverse ++ rest) (hcat : (rest.map fun v => v.category).sum ≤ 8) (hC : cells ≤ R.cells ∧ slots ≤ R.slots) (kk : ∀ (I2 : TI) (J2 : TJ) (F2 : TI) (w2 : Int64), Po I2 J2 F2 w2 → AW p l e R s m args below meth c g A nL cells slots Q (pc + 3) (lv) (rest) (hp g I2 J2 F2 w2)) : AW p l e R s m args below meth c g A nL cells slots Q (pc) (lv) (st) (hp g I J F w) := by
  refine a_callSN X hd hL hN hM hR hn hst hcat hC (fun v h' hp' => ?_)
  obtain ⟨I2, J2, F2, w2, rfl, rfl, hq⟩ := hp'
  exact kk I2 J2 F2 w2 hq
theorem s_callV_R (X : AX p s m args meth c g A cc nL own w0 ret) {idx n : Nat} {P cn : Nat} {r : List Nat} {q0 : vw_C} {M : MM} {As rest : List Value} {x : Value} {I2 : TI} {J2 : TJ} {F2 : TI} {w2 : Int64} (hd : decode cc pc = .ok (.invokevirtual idx, 3)) (hL : LnV own idx M n) (hk : KO P cn r) (hc : vwCl[cn]? = some q0) (hcl : q0.1 = M.1.cls) (hM : UR l g M (.ref (ga g P) :: As) I J F w x I2 J2 F2 w2) (hR : roomOk R M) (hn : As.length = n) (hst : st = As.reverse ++ .ref (ga g P) :: rest) (hcat : (rest.map fun v => v.category).sum ≤ 8) (hC : cells ≤ R.cells ∧ slots ≤ R.slots) (kk : AW p l e R s m args below meth c g A nL cells slots Q (pc + 3) (lv) (x :: rest) (hp g I2 J2 F2 w2)) : AW p l e R s m args below meth c g A nL cells slots Q (pc) (lv) (st) (hp g I J F w) := by
  refine a_callV X hd hL hk.1 (hp_o hk) hc hcl hM hR hn hst hcat hC (fun v h' hp' => ?_)
  obtain ⟨rfl, rfl⟩ := hp'
  exact kk
theorem s_callV_V (X : AX p s m args meth c g A cc nL own w0 ret) {idx n : Nat} {P cn : Nat} {r : List Nat} {q0 : vw_C} {M : MM} {As rest : List Value} {I2 : TI} {J2 : TJ} {F2 : TI} {w2 : Int64} (hd : decode cc pc = .ok (.invokevirtual idx, 3)) (hL : LnV own idx M n) (hk : KO P cn r) (hc : vwCl[cn]? = some q0) (hcl : q0.1 = M.1.cls) (hM : UV l g M (.ref (ga g P) :: As) I J F w I2 J2 F2 w2) (hR : roomOk R M) (hn : As.length = n) (hst : st = As.reverse ++ .ref (ga g P) :: rest) (hcat : (rest.map fun v => v.category).sum ≤ 8) (hC : cells ≤ R.cells ∧ slots ≤ R.slots) (kk : AW p l e R s m args below meth c g A nL cells slots Q (pc + 3) (lv) (rest) (hp g I2 J2 F2 w2)) : AW p l e R s m args below meth c g A nL cells slots Q (pc) (lv) (st) (hp g I J F w) := by
  refine a_callV X hd hL hk.1 (hp_o hk) hc hcl hM hR hn hst hcat hC (fun v h' hp' => ?_)
  obtain ⟨rfl, rfl⟩ := hp'
  exact kk
theorem s_callV_X (X : AX p s m args meth c g A cc nL own w0 ret) {idx n : Nat} {P cn : Nat} {r : List Nat} {q0 : vw_C} {M : MM} {As rest : List Value} {Po : Value → TI → TJ → TI → Int64 → Prop} (hd : decode cc pc = .ok (.invokevirtual idx, 3)) (hL : LnV own idx M n) (hk : KO P cn r) (hc : vwCl[cn]? = some q0) (hcl : q0.1 = M.1.cls) (hM : RV l g M (.ref (ga g P) :: As) I J F w Po) (hR : roomOk R M) (hn : As.length = n) (hst : st = As.reverse ++ .ref (ga g P) :: rest) (hcat : (rest.map fun v => v.category).sum ≤ 8) (hC : cells ≤ R.cells ∧ slots ≤ R.slots) (kk : ∀ (x : Value) (I2 : TI) (J2 : TJ) (F2 : TI) (w2 : Int64), Po x I2 J2 F2 w2 → AW p l e R s m args below meth c g A nL cells slots Q (pc + 3) (lv) (x :: rest) (hp g I2 J2 F2 w2)) : AW p l e R s m args below meth c g A nL cells slots Q (pc) (lv) (st) (hp g I J F w) := by
  refine a_callV X hd hL hk.1 (hp_o hk) hc hcl hM hR hn hst hcat hC (fun v h' hp' => ?_)
  obtain ⟨x, I2, J2, F2, w2, rfl, rfl, hq⟩ := hp'
  exact kk x I2 J2 F2 w2 hq
theorem s_callV_Y (X : AX p s m args meth c g A cc nL own w0 ret) {idx n : Nat} {P cn : Nat} {r : List Nat} {q0 : vw_C} {M : MM} {As rest : List Value} {Po : TI → TJ → TI → Int64 → Prop} (hd : decode cc pc = .ok (.invokevirtual idx, 3)) (hL : LnV own idx M n) (hk : KO P cn r) (hc : vwCl[cn]? = some q0) (hcl : q0.1 = M.1.cls) (hM : VV l g M (.ref (ga g P) :: As) I J F w Po) (hR : roomOk R M) (hn : As.length = n) (hst : st = As.reverse ++ .ref (ga g P) :: rest) (hcat : (rest.map fun v => v.category).sum ≤ 8) (hC : cells ≤ R.cells ∧ slots ≤ R.slots) (kk : ∀ (I2 : TI) (J2 : TJ) (F2 : TI) (w2 : Int64), Po I2 J2 F2 w2 → AW p l e R s m args below meth c g A nL cells slots Q (pc + 3) (lv) (rest) (hp g I2 J2 F2 w2)) : AW p l e R s m args below meth c g A nL cells slots Q (pc) (lv) (st) (hp g I J F w) := by
  refine a_callV X hd hL hk.1 (hp_o hk) hc hcl hM hR hn hst hcat hC (fun v h' hp' => ?_)
  obtain ⟨I2, J2, F2, w2, rfl, rfl, hq⟩ := hp'
  exact kk I2 J2 F2 w2 hq
end SCALL
theorem ko_0 : KO 0 3 [3, 13, 23, 0, 33, 35, 44] := ⟨by decide, rfl⟩
theorem ko_1 : KO 1 0 [0, 0, 4, 5, 6, 7, 8, 9, 10, 11, 12] := ⟨by decide, rfl⟩
theorem ki_2 : KI 2 10 := ⟨by decide, rfl⟩
theorem ki_3 : KI 3 10 := ⟨by decide, rfl⟩
theorem ki_4 : KI 4 10 := ⟨by decide, rfl⟩
theorem ki_5 : KI 5 10 := ⟨by decide, rfl⟩
theorem ki_6 : KI 6 10 := ⟨by decide, rfl⟩
theorem ki_7 : KI 7 10 := ⟨by decide, rfl⟩
theorem ki_8 : KI 8 12 := ⟨by decide, rfl⟩
theorem ki_9 : KI 9 10 := ⟨by decide, rfl⟩
theorem ki_10 : KI 10 10 := ⟨by decide, rfl⟩
theorem ko_11 : KO 11 0 [0, 0, 14, 15, 16, 17, 18, 19, 20, 21, 22] := ⟨by decide, rfl⟩
theorem ki_12 : KI 12 10 := ⟨by decide, rfl⟩
theorem ki_13 : KI 13 10 := ⟨by decide, rfl⟩
theorem ki_14 : KI 14 10 := ⟨by decide, rfl⟩
theorem ki_15 : KI 15 10 := ⟨by decide, rfl⟩
theorem ki_16 : KI 16 10 := ⟨by decide, rfl⟩
theorem ki_17 : KI 17 10 := ⟨by decide, rfl⟩
theorem ki_18 : KI 18 12 := ⟨by decide, rfl⟩
theorem ki_19 : KI 19 10 := ⟨by decide, rfl⟩
theorem ki_20 : KI 20 10 := ⟨by decide, rfl⟩
theorem ko_21 : KO 21 0 [0, 0, 24, 25, 26, 27, 28, 29, 30, 31, 32] := ⟨by decide, rfl⟩
theorem ki_22 : KI 22 10 := ⟨by decide, rfl⟩
theorem ki_23 : KI 23 10 := ⟨by decide, rfl⟩
theorem ki_24 : KI 24 10 := ⟨by decide, rfl⟩
theorem ki_25 : KI 25 10 := ⟨by decide, rfl⟩
theorem ki_26 : KI 26 10 := ⟨by decide, rfl⟩
theorem ki_27 : KI 27 10 := ⟨by decide, rfl⟩
theorem ki_28 : KI 28 12 := ⟨by decide, rfl⟩
theorem ki_29 : KI 29 10 := ⟨by decide, rfl⟩
theorem ki_30 : KI 30 10 := ⟨by decide, rfl⟩
theorem ko_31 : KO 31 2 [0, 34, 0, 0, 0, 0] := ⟨by decide, rfl⟩
theorem ki_32 : KI 32 120 := ⟨by decide, rfl⟩
theorem ko_34 : KO 34 1 [0, 0, 37] := ⟨by decide, rfl⟩
theorem kj_35 : KJ 35 40 := ⟨by decide, rfl⟩
theorem ko_36 : KO 36 1 [0, 0, 39] := ⟨by decide, rfl⟩
theorem kj_37 : KJ 37 40 := ⟨by decide, rfl⟩
theorem ko_38 : KO 38 1 [0, 0, 41] := ⟨by decide, rfl⟩
theorem kj_39 : KJ 39 40 := ⟨by decide, rfl⟩
theorem ko_40 : KO 40 1 [0, 0, 43] := ⟨by decide, rfl⟩
theorem kj_41 : KJ 41 40 := ⟨by decide, rfl⟩
theorem ki_42 : KI 42 7 := ⟨by decide, rfl⟩
theorem ko_43 : KO 43 4 [46, 47, 48, 49, 50, 51, 52, 0, 0, 0, 0, 1, 0, 0, 53, 54, 55, 56, 57, 58, 0] := ⟨by decide, rfl⟩
theorem ki_44 : KI 44 62 := ⟨by decide, rfl⟩
theorem ki_45 : KI 45 7 := ⟨by decide, rfl⟩
theorem ki_46 : KI 46 10 := ⟨by decide, rfl⟩
theorem ki_47 : KI 47 10 := ⟨by decide, rfl⟩
theorem ki_48 : KI 48 62 := ⟨by decide, rfl⟩
theorem ki_49 : KI 49 62 := ⟨by decide, rfl⟩
theorem ki_50 : KI 50 120 := ⟨by decide, rfl⟩
theorem ki_51 : KI 51 4 := ⟨by decide, rfl⟩
theorem ki_52 : KI 52 4 := ⟨by decide, rfl⟩
theorem kj_53 : KJ 53 160 := ⟨by decide, rfl⟩
theorem kj_54 : KJ 54 40 := ⟨by decide, rfl⟩
theorem ki_55 : KI 55 62 := ⟨by decide, rfl⟩
theorem ki_56 : KI 56 62 := ⟨by decide, rfl⟩
def isB (b : Nat) : Prop := b = 1 ∨ b = 11 ∨ b = 21
theorem ko_b {b : Nat} (hb : isB b) : KO b 0 [0, 0, b + 1 + 2, b + 2 + 2, b + 3 + 2, b + 4 + 2, b + 5 + 2, b + 6 + 2, b + 7 + 2, b + 8 + 2, b + 9 + 2] := by rcases hb with rfl | rfl | rfl <;> exact ⟨by decide, rfl⟩
theorem ki_b1 {b : Nat} (hb : isB b) : KI (b + 1) 10 := by rcases hb with rfl | rfl | rfl <;> exact ⟨by decide, rfl⟩
theorem ki_b2 {b : Nat} (hb : isB b) : KI (b + 2) 10 := by rcases hb with rfl | rfl | rfl <;> exact ⟨by decide, rfl⟩
theorem ki_b3 {b : Nat} (hb : isB b) : KI (b + 3) 10 := by rcases hb with rfl | rfl | rfl <;> exact ⟨by decide, rfl⟩
theorem ki_b4 {b : Nat} (hb : isB b) : KI (b + 4) 10 := by rcases hb with rfl | rfl | rfl <;> exact ⟨by decide, rfl⟩
theorem ki_b5 {b : Nat} (hb : isB b) : KI (b + 5) 10 := by rcases hb with rfl | rfl | rfl <;> exact ⟨by decide, rfl⟩
theorem ki_b6 {b : Nat} (hb : isB b) : KI (b + 6) 10 := by rcases hb with rfl | rfl | rfl <;> exact ⟨by decide, rfl⟩
theorem ki_b7 {b : Nat} (hb : isB b) : KI (b + 7) 12 := by rcases hb with rfl | rfl | rfl <;> exact ⟨by decide, rfl⟩
theorem ki_b8 {b : Nat} (hb : isB b) : KI (b + 8) 10 := by rcases hb with rfl | rfl | rfl <;> exact ⟨by decide, rfl⟩
theorem ki_b9 {b : Nat} (hb : isB b) : KI (b + 9) 10 := by rcases hb with rfl | rfl | rfl <;> exact ⟨by decide, rfl⟩
theorem ko_sh {j : Nat} (hj : j < 4) : KO (34 + 2 * j) 1 [0, 0, 35 + 2 * j + 2] := by match j, hj with | 0, _ => exact ⟨by decide, rfl⟩ | 1, _ => exact ⟨by decide, rfl⟩ | 2, _ => exact ⟨by decide, rfl⟩ | 3, _ => exact ⟨by decide, rfl⟩
theorem kj_sh {j : Nat} (hj : j < 4) : KJ (35 + 2 * j) 40 := by match j, hj with | 0, _ => exact ⟨by decide, rfl⟩ | 1, _ => exact ⟨by decide, rfl⟩ | 2, _ => exact ⟨by decide, rfl⟩ | 3, _ => exact ⟨by decide, rfl⟩
