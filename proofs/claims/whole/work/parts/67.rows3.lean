/-! constructors: a world that grows -/
theorem mp_fm {α β : Type} {f : α → Option β} {l : List α} {w : List β} (h : l.map f = w.map some) : l.filterMap f = w := by
  have := congrArg (List.filterMap id) h
  simpa [List.filterMap_map] using this
section ROWS3
variable {p : Program} {l : Launch} {e : Env} {R : Room} {s : State} {m : MethodId} {args : Array Value} {below : List Frame} {meth : Method} {c : Code} {g : GG} {A : Nat → Prop} {cc : ByteArray} {nL : Nat} {own : String} {w0 : Cond} {ret : Option FieldType} {cells slots : Nat} {Q : State → Prop} {pc : Nat} {lv : List (Option Value)} {st : List Value} {ws : va_W}
def CW (p : Program) (l : Launch) (e : Env) (R : Room) (s : State) (m : MethodId) (args : Array Value) (below : List Frame) (meth : Method) (c : Code) (g : GG) (A : Nat → Prop) (nL : Nat) (cells slots : Nat) (Q : State → Prop) (pc : Nat) (lv : List (Option Value)) (st : List Value) (ws : va_W) : Prop :=
  ∀ (H : Heap) (locs : List Loc) (ls : Array Slot), va_P (gD g) vwCl ws H → va_D A ws → va_S A s.heap H locs → lvh ls nL lv → W p l e R s m args below meth c H locs cells slots Q (F0 m pc ls st)
def Ex (U : State) : Prop := va_AO RX2 U ∧ va_Nw (.methodLinkNest RX4 28 yX3_init RX4) U ∧ va_Nw (.methodLinkNest RX4 43 yX2_init RX4) U
theorem Ex.same {u U : State} (hv : u.vm = U.vm) (h : Ex u) : Ex U := ⟨va_AO.moved (by rw [hv]; exact Vm.Alike.refl _) h.1, va_Nw.same rfl hv h.2.1, va_Nw.same rfl hv h.2.2⟩
theorem Ex.warm {s U : State} (hW : s.WarmedH U.vm) (h : Ex s) : Ex U := ⟨va_AO.moved hW.alike h.1, va_Nw.warmM hW h.2.1, va_Nw.warmM hW h.2.2⟩
def CPw (g : GG) (ws : va_W) (sz : Nat) (U : State) : Prop := U.heap.size = sz ∧ va_P (gD g) vwCl ws U.heap ∧ va_K (gD g) vwCl (gty g) U ∧ va_D (fun _ => True) ws ∧ Gl g (va_A ws sz) U ∧ Ex U
def CQw (g : GG) (ws : va_W) (sz : Nat) (post : va_W → Prop) : Array Value → State → Outcome → State → Prop := fun _ st oc t =>
  (∃ ws' : va_W, oc = .returned none ∧ post ws' ∧ va_P (gD g) vwCl ws' t.heap ∧ va_D (va_A ws sz) ws') ∧ va_F (va_A ws sz) st t
abbrev MI : Type := MethodName × ByteArray × Nat × Room
def CTw (l : Launch) (g : GG) (M : MI) (av : List Value) (ws : va_W) (post : va_W → Prop) : Prop :=
  ∀ sz : Nat, Met l M.1 (Cond.code M.1 M.2.1 M.2.2.1 none :: gTb) M.2.2.2 (va_Pc av (CPw g ws sz)) (CQw g ws sz post) M.2.2.2.cells M.2.2.2.slots (va_A ws sz)
theorem CPw_blind {sz : Nat} {av : List Value} : FrameBlind (va_Pc av (CPw g ws sz)) := by
  intro a U gg mk q
  obtain ⟨q0, q1, q2, q3, q4, q5, q6⟩ := q
  exact ⟨q0, q1, q2, va_K.moved (u := U) (U := U.calling gg mk a) (Vm.Alike.refl U.vm) q3, q4, Gl.same (u := U) rfl rfl q5, Ex.same (u := U) rfl q6⟩
theorem cw_start {M : MI} {av : List Value} {post : va_W → Prop} (hy : plainName M.1.cls = true) (hlen : (lg_sl av).length ≤ M.2.2.1)
    (body : ∀ (p : Program) (e : Env) (s : State) (m : MethodId) (args : Array Value) (below : List Frame) (meth : Method) (c : Code) (A : Nat → Prop), AX p s m args meth c g A M.2.1 M.2.2.1 M.1.cls (Cond.code M.1 M.2.1 M.2.2.1 none) none →
      A = va_A ws s.heap.size → meth.name = M.1.name → Ex s → CW p l e M.2.2.2 s m args below meth c g A M.2.2.1 0 0 (MQ below (CQw g ws s.heap.size post) args s M.2.2.2.cells M.2.2.2.slots A) 0 (ent av M.2.2.1) [] ws) : CTw l g M av ws post := by
  intro sz
  refine Met.ofW (cc := M.2.1) (maxL := M.2.2.1) (ret := none) hy rfl ?_
  intro p e s m args below meth c s₁ B hml hv
  obtain ⟨rfl, rfl, hP, hK, hD0, hG, hO⟩ := hv
  have hts := atoms_spec (ws := Cond.code M.1 M.2.1 M.2.2.1 none :: gTb) B.pre
  have hown : s.vm.findClass M.1.cls = some m.cls := findClass_of_methodNamed B.named
  have hin : meth.name = M.1.name := (name_of_methodNamed B.named B.method).1
  have hD := hD0.self (sz := s.heap.size)
  have hl := lv_entry av (n := M.2.2.1) hlen
  rw [lg_entry_eq]
  refine body p e s m _ below meth c _ ⟨⟨B.exec, B.bytes, hml, hown, hts⟩, hK, hG, fun q hq => Or.inr hq, B.returns, B.notSynchronized⟩ rfl hin hO s.heap [] _ hP hD va_S.rf ⟨hl.1, hl.2.1, fun i v hi => ?_⟩
  have := ent_args av M.2.2.1 i 0 v hi
  rw [Nat.zero_add] at this
  exact hl.2.2 (i, v) this
theorem b_iconst (X : AX p s m args meth c g A cc nL own w0 ret) {n : Int} {v : Int32} (hd : decode cc pc = .ok (.iconst n, 1)) (he : Int32.ofInt n = v) (k : CW p l e R s m args below meth c g A nL (cells) (slots) Q (pc + 1) (lv) (.int v :: st) (ws)) : CW p l e R s m args below meth c g A nL (cells) (slots) Q (pc) (lv) (st) (ws) := fun H locs ls hP hD hS hv => lv_iconst X.1.1 X.1.2.1 hd he (k H locs ls hP hD hS hv)
theorem b_bipush (X : AX p s m args meth c g A cc nL own w0 ret) {n : Int} {v : Int32} (hd : decode cc pc = .ok (.bipush n, 2)) (he : (Int8.ofInt n).toInt32 = v) (k : CW p l e R s m args below meth c g A nL (cells) (slots) Q (pc + 2) (lv) (.int v :: st) (ws)) : CW p l e R s m args below meth c g A nL (cells) (slots) Q (pc) (lv) (st) (ws) := fun H locs ls hP hD hS hv => lv_bipush X.1.1 X.1.2.1 hd he (k H locs ls hP hD hS hv)
theorem b_sipush (X : AX p s m args meth c g A cc nL own w0 ret) {n : Int} {v : Int32} (hd : decode cc pc = .ok (.sipush n, 3)) (he : (Int16.ofInt n).toInt32 = v) (k : CW p l e R s m args below meth c g A nL (cells) (slots) Q (pc + 3) (lv) (.int v :: st) (ws)) : CW p l e R s m args below meth c g A nL (cells) (slots) Q (pc) (lv) (st) (ws) := fun H locs ls hP hD hS hv => lv_sipush X.1.1 X.1.2.1 hd he (k H locs ls hP hD hS hv)
theorem b_iload_n (X : AX p s m args meth c g A cc nL own w0 ret) {q : Fin 4} {i : Nat} {x : Int32} (hd : decode cc pc = .ok (.iload_n q, 1)) (hi : (q : Nat) = i) (hl : lv[i]? = some (some (.int x))) (k : CW p l e R s m args below meth c g A nL (cells) (slots) Q (pc + 1) (lv) (.int x :: st) (ws)) : CW p l e R s m args below meth c g A nL (cells) (slots) Q (pc) (lv) (st) (ws) := fun H locs ls hP hD hS hv => lv_iload_n X.1.1 X.1.2.1 hd hi (hv.2.2 i _ hl) (k H locs ls hP hD hS hv)
theorem b_aload_n (X : AX p s m args meth c g A cc nL own w0 ret) {q : Fin 4} {i : Nat} {x : Nat} (hd : decode cc pc = .ok (.aload_n q, 1)) (hi : (q : Nat) = i) (hl : lv[i]? = some (some (.ref x))) (k : CW p l e R s m args below meth c g A nL (cells) (slots) Q (pc + 1) (lv) (.ref x :: st) (ws)) : CW p l e R s m args below meth c g A nL (cells) (slots) Q (pc) (lv) (st) (ws) := fun H locs ls hP hD hS hv => lv_aload_n X.1.1 X.1.2.1 hd hi (hv.2.2 i _ hl) (k H locs ls hP hD hS hv)
theorem b_dup (X : AX p s m args meth c g A cc nL own w0 ret) {a : Value} (hd : decode cc pc = .ok (.dup, 1)) (ha : a.category = 1) (k : CW p l e R s m args below meth c g A nL (cells) (slots) Q (pc + 1) (lv) (a :: a :: st) (ws)) : CW p l e R s m args below meth c g A nL (cells) (slots) Q (pc) (lv) (a :: st) (ws) := fun H locs ls hP hD hS hv => lv_dup X.1.1 X.1.2.1 hd ha (k H locs ls hP hD hS hv)
theorem b_istore_n (X : AX p s m args meth c g A cc nL own w0 ret) {q : Fin 4} {i : Nat} {x : Int32} (hd : decode cc pc = .ok (.istore_n q, 1)) (hi : (q : Nat) = i) (hn : i < nL) (ho : noL lv i = true) (k : CW p l e R s m args below meth c g A nL (cells) (slots) Q (pc + 1) (lv.set i (some (.int x))) (st) (ws)) : CW p l e R s m args below meth c g A nL (cells) (slots) Q (pc) (lv) (.int x :: st) (ws) := fun H locs ls hP hD hS hv => lv_istore_n X.1.1 X.1.2.1 hd hi (lvh_has hv) hn rfl (fun ls2 hl2 => k H locs ls2 hP hD hS (lvh_st1 hl2 ho))
theorem b_astore_n (X : AX p s m args meth c g A cc nL own w0 ret) {q : Fin 4} {i : Nat} {x : Nat} (hd : decode cc pc = .ok (.astore_n q, 1)) (hi : (q : Nat) = i) (hn : i < nL) (ho : noL lv i = true) (k : CW p l e R s m args below meth c g A nL (cells) (slots) Q (pc + 1) (lv.set i (some (.ref x))) (st) (ws)) : CW p l e R s m args below meth c g A nL (cells) (slots) Q (pc) (lv) (.ref x :: st) (ws) := fun H locs ls hP hD hS hv => lv_astore_n X.1.1 X.1.2.1 hd hi (lvh_has hv) hn rfl (fun ls2 hl2 => k H locs ls2 hP hD hS (lvh_st1 hl2 ho))
theorem b_iinc (X : AX p s m args meth c g A cc nL own w0 ret) {i : Nat} {n : Int} {x v : Int32} (hd : decode cc pc = .ok (.iinc i n, 3)) (hl : lv[i]? = some (some (.int x))) (he : x + Int32.ofInt n = v) (hn : i < nL) (ho : noL lv i = true) (k : CW p l e R s m args below meth c g A nL (cells) (slots) Q (pc + 3) (lv.set i (some (.int v))) (st) (ws)) : CW p l e R s m args below meth c g A nL (cells) (slots) Q (pc) (lv) (st) (ws) := fun H locs ls hP hD hS hv => by
  obtain ⟨j, hj⟩ := List.getElem?_of_mem (lvl_mem.mpr hl)
  exact lv_iinc X.1.1 X.1.2.1 hd (lvh_has hv) hj he hn rfl (fun ls2 hl2 => k H locs ls2 hP hD hS (lvh_st1 hl2 ho))
theorem b_ge_t (X : AX p s m args meth c g A cc nL own w0 ret) {x y : Int32} {off : Int} {tgt : Nat} (hd : decode cc pc = .ok (.if_icmp .ge off, 3)) (ht : (pc : Int) + off = (tgt : Int)) (h : y ≤ x) (k : CW p l e R s m args below meth c g A nL (cells) (slots) Q (tgt) (lv) (st) (ws)) : CW p l e R s m args below meth c g A nL (cells) (slots) Q (pc) (lv) (.int y :: .int x :: st) (ws) := fun H locs ls hP hD hS hv => lv_icmp_ge X.1.1 X.1.2.1 hd ht (fun _ => k H locs ls hP hD hS hv) (fun q => absurd h q)
theorem b_ge_f (X : AX p s m args meth c g A cc nL own w0 ret) {x y : Int32} {off : Int} {tgt : Nat} (hd : decode cc pc = .ok (.if_icmp .ge off, 3)) (ht : (pc : Int) + off = (tgt : Int)) (h : ¬ y ≤ x) (k : CW p l e R s m args below meth c g A nL (cells) (slots) Q (pc + 3) (lv) (st) (ws)) : CW p l e R s m args below meth c g A nL (cells) (slots) Q (pc) (lv) (.int y :: .int x :: st) (ws) := fun H locs ls hP hD hS hv => lv_icmp_ge X.1.1 X.1.2.1 hd ht (fun q => absurd q h) (fun _ => k H locs ls hP hD hS hv)
theorem b_goto (X : AX p s m args meth c g A cc nL own w0 ret) {off : Int} {tgt : Nat} (hd : decode cc pc = .ok (.goto off, 3)) (ht : (pc : Int) + off = (tgt : Int)) (k : CW p l e R s m args below meth c g A nL (cells) (slots) Q (tgt) (lv) (st) (ws)) : CW p l e R s m args below meth c g A nL (cells) (slots) Q (pc) (lv) (st) (ws) := fun H locs ls hP hD hS hv => lv_goto X.1.1 X.1.2.1 hd ht (k H locs ls hP hD hS hv)
theorem b_get (X : AX p s m args meth c g A cc nL own w0 ret) {idx cn k q0 a : Nat} {fs : List Value} {v : Value} (hd : decode cc pc = .ok (.getfield idx, 3)) (hf : FL own idx cn k) (he : ws[q0]? = some (a, co cn fs)) (hvv : fs[k]? = some v) (kk : CW p l e R s m args below meth c g A nL (cells) (slots) Q (pc + 3) (lv) (v :: st) (ws)) : CW p l e R s m args below meth c g A nL (cells) (slots) Q (pc) (lv) (.ref a :: st) (ws) := fun H locs ls hP hD hS hv => by
  obtain ⟨C, T, N, hc, hk, hw, hin⟩ := hf
  exact va_get (C := C) (T := T) (N := N) X.1.1 X.1.2.1 X.1.2.2.2.2 (fun w q => List.mem_cons_of_mem _ (hin w q)) X.1.2.2.2.1 X.2.1 hP q0 he hc k hk (X.1.2.2.2.2 _ (List.mem_cons_of_mem _ hw)) (fun _ q => q) hvv hd (kk H locs ls hP hD hS hv)
theorem b_put (X : AX p s m args meth c g A cc nL own w0 ret) {idx cn k q0 a : Nat} {fs : List Value} {v : Value} {ty : FieldType} (hd : decode cc pc = .ok (.putfield idx, 3)) (hf : FP own idx cn k ty) (he : ws[q0]? = some (a, co cn fs)) (hn : narrow ty v = v) (hfit : fits ty v = true) (hl : k < fs.length) (kk : CW p l e R s m args below meth c g A nL (cells) (slots) Q (pc + 3) (lv) (st) (ws.set q0 (a, co cn (fs.set k v)))) : CW p l e R s m args below meth c g A nL (cells) (slots) Q (pc) (lv) (v :: .ref a :: st) (ws) := fun H locs ls hP hD hS hv => by
  obtain ⟨C, T, N, ty0, hc, hk, hw, hin, h1, h2, h3, h4⟩ := hf
  exact va_put (C := C) (T := T) (N := N) (ty := ty) X.1.1 X.1.2.1 X.1.2.2.2.2 (fun w q => List.mem_cons_of_mem _ (hin w q)) ty0 h1 h2 X.1.2.2.2.1 X.2.1 hP hD hS q0 he hc k hk (X.1.2.2.2.2 _ (List.mem_cons_of_mem _ hw)) (fun _ q => q) h3 h4 hn hfit hl hd (fun H1 locs1 hP1 hD1 hS1 => kk H1 locs1 ls hP1 hD1 hS1 hv)
/-- a final field, in a constructor -/
def FQ (own : String) (idx ci k : Nat) (ty : FieldType) : Prop := ∃ (C : String) (T : u_T) (N : Nat) (ty0 : Nat → FieldType), vwCl[ci]? = some (C, T, N) ∧ k < N ∧ Cond.fieldLink own idx (T k).1 (T k).2.1 (T k).2.2.1 ∈ gTb ∧ (∀ w ∈ u_ws C T N, w ∈ gTb) ∧ (∀ k, k < N → parseFieldDescriptor (T k).2.2.1 = some (ty0 k)) ∧ (∀ a, a < N → ∀ b, b < N → a ≠ b → (T a).2.1 ≠ (T b).2.1) ∧ (T k).2.2.2 = true ∧ (T k).1 = own ∧ parseFieldDescriptor (T k).2.2.1 = some ty
theorem b_putF (X : AX p s m args meth c g A cc nL own w0 ret) {idx cn k q0 a : Nat} {fs : List Value} {v : Value} {ty : FieldType} (hd : decode cc pc = .ok (.putfield idx, 3)) (hm : meth.name = "<init>") (hf : FQ own idx cn k ty) (he : ws[q0]? = some (a, co cn fs)) (hn : narrow ty v = v) (hfit : fits ty v = true) (hl : k < fs.length) (kk : CW p l e R s m args below meth c g A nL (cells) (slots) Q (pc + 3) (lv) (st) (ws.set q0 (a, co cn (fs.set k v)))) : CW p l e R s m args below meth c g A nL (cells) (slots) Q (pc) (lv) (v :: .ref a :: st) (ws) := fun H locs ls hP hD hS hv => by
  obtain ⟨C, T, N, ty0, hc, hk, hw, hin, h1, h2, h3, h4, h5⟩ := hf
  exact va_putF (C := C) (T := T) (N := N) (ty := ty) X.1.1 X.1.2.1 X.1.2.2.2.2 (fun w q => List.mem_cons_of_mem _ (hin w q)) ty0 h1 h2 X.1.2.2.2.1 X.2.1 hP hD hS q0 he hc k hk (X.1.2.2.2.2 _ (List.mem_cons_of_mem _ hw)) (fun _ q => q) h3 hm h4 h5 hn hfit hl hd (fun H1 locs1 hP1 hD1 hS1 => kk H1 locs1 ls hP1 hD1 hS1 hv)
theorem b_newI (X : AX p s m args meth c g A cc nL own w0 ret) {n : Int32} {N : Nat} (hd : decode cc pc = .ok (.newarray .int, 2)) (hw : Cond.arrayClass .int ∈ gTb) (hn : ¬ n < 0) (hN : n.toNatClampNeg = N) (hb : N ≤ 1000) (hC : cells + 1 ≤ R.cells ∧ slots + N ≤ R.slots) (kk : ∀ q : Nat, CW p l e R s m args below meth c g A nL (cells + 1) (slots + N) Q (pc + 2) (lv) (.ref q :: st) (ws ++ [(q, ci g N (fun _ => 0))])) : CW p l e R s m args below meth c g A nL (cells) (slots) Q (pc) (lv) (.int n :: st) (ws) := fun H locs ls hP hD hS hv => by
  refine va_newa (atype := .int) (ty := .int) (a0 := (N, .inl (fun _ => 0))) X.1.1 X.1.2.1 (X.1.2.2.2.2 _ (List.mem_cons_of_mem _ hw)) rfl X.2.1 hP hD hS X.2.2.2.1 (fun cA => rfl) hn hN (by show N * 4 ≤ _; omega) hC.1 hC.2 hd (fun q cA H1 hK1 hP1 hD1 hS1 => ?_)
  have e1 : va_RA s cA .int := (hK1.2 3 (cA, .int) rfl).2
  have e2 : va_RA s (gI g) .int := (X.2.1.2 0 (gI g, .int) rfl).2
  have e3 : some cA = some (gI g) := Eq.trans (Eq.symm e1) e2
  cases e3
  exact kk q H1 locs ls hP1 hD1 hS1 hv
theorem b_newJ (X : AX p s m args meth c g A cc nL own w0 ret) {n : Int32} {N : Nat} (hd : decode cc pc = .ok (.newarray .long, 2)) (hw : Cond.arrayClass .long ∈ gTb) (hn : ¬ n < 0) (hN : n.toNatClampNeg = N) (hb : N ≤ 1000) (hC : cells + 1 ≤ R.cells ∧ slots + N ≤ R.slots) (kk : ∀ q : Nat, CW p l e R s m args below meth c g A nL (cells + 1) (slots + N) Q (pc + 2) (lv) (.ref q :: st) (ws ++ [(q, cj g N (fun _ => 0))])) : CW p l e R s m args below meth c g A nL (cells) (slots) Q (pc) (lv) (.int n :: st) (ws) := fun H locs ls hP hD hS hv => by
  refine va_newa (atype := .long) (ty := .long) (a0 := (N, .inr (.inl (fun _ => 0)))) X.1.1 X.1.2.1 (X.1.2.2.2.2 _ (List.mem_cons_of_mem _ hw)) rfl X.2.1 hP hD hS X.2.2.2.1 (fun cA => rfl) hn hN (by show N * 8 ≤ _; omega) hC.1 hC.2 hd (fun q cA H1 hK1 hP1 hD1 hS1 => ?_)
  have e1 : va_RA s cA .long := (hK1.2 3 (cA, .long) rfl).2
  have e2 : va_RA s (gJ g) .long := (X.2.1.2 1 (gJ g, .long) rfl).2
  have e3 : some cA = some (gJ g) := Eq.trans (Eq.symm e1) e2
  cases e3
  exact kk q H1 locs ls hP1 hD1 hS1 hv
theorem b_newS (X : AX p s m args meth c g A cc nL own w0 ret) {n : Int32} {N idx : Nat} (hd : decode cc pc = .ok (.anewarray idx, 3)) (hO : Ex s) (hw : Cond.classLink own idx RX2 ∈ gTb) (hn : ¬ n < 0) (hN : n.toNatClampNeg = N) (hb : N ≤ 1000) (hC : cells + 1 ≤ R.cells ∧ slots + N ≤ R.slots) (kk : ∀ q : Nat, CW p l e R s m args below meth c g A nL (cells + 1) (slots + N) Q (pc + 3) (lv) (.ref q :: st) (ws ++ [(q, cs g N (fun _ => none))])) : CW p l e R s m args below meth c g A nL (cells) (slots) Q (pc) (lv) (.int n :: st) (ws) := fun H locs ls hP hD hS hv => by
  refine va_newq X.1.1 X.1.2.1 X.1.2.2.2.1 (X.1.2.2.2.2 _ (List.mem_cons_of_mem _ hw)) hO.1 X.2.1 hP hD hS X.2.2.2.1 hn hN (by omega) hC.1 hC.2 hd (fun q cA H1 hK1 hP1 hD1 hS1 => ?_)
  obtain ⟨_, _, _, _, _, e1⟩ := (hK1.2 3 (cA, .object RX2) rfl).2
  obtain ⟨_, _, _, _, _, e2⟩ := (X.2.1.2 2 (gS g, .object RX2) rfl).2
  have e3 : some cA = some (gS g) := Eq.trans (Eq.symm e1) e2
  cases e3
  exact kk q H1 locs ls hP1 hD1 hS1 hv
theorem b_new (X : AX p s m args meth c g A cc nL own w0 ret) {idx ci0 N : Nat} {C : String} {T : u_T} {fs : List Value} (ty : Nat → FieldType) (hd : decode cc pc = .ok (.new idx, 3)) (hin : ∀ w ∈ u_ws C T N, w ∈ gTb) (hty : ∀ k, k < N → parseFieldDescriptor (T k).2.2.1 = some (ty k)) (hw1 : Cond.classLink own idx C ∈ gTb) (hw2 : Cond.instantiable C N ∈ gTb) (hw3 : Cond.initialized C ∈ gTb) (hc : vwCl[ci0]? = some (C, T, N)) (hfs : ∀ j, j < N → defaultValue (ty j) = vp_V fs j) (hC : cells + 1 ≤ R.cells ∧ slots + N ≤ R.slots) (kk : ∀ q : Nat, CW p l e R s m args below meth c g A nL (cells + 1) (slots + N) Q (pc + 3) (lv) (.ref q :: st) (ws ++ [(q, co ci0 fs)])) : CW p l e R s m args below meth c g A nL (cells) (slots) Q (pc) (lv) (st) (ws) := fun H locs ls hP hD hS hv => by
  have tt := fun w q => X.1.2.2.2.2 w (List.mem_cons_of_mem _ q)
  exact va_new (C := C) (T := T) (N := N) (Ts := w0 :: gTb) X.1.1 X.1.2.1 X.1.2.2.2.2 (fun w q => List.mem_cons_of_mem _ (hin w q)) ty hty X.1.2.2.2.1 (tt _ hw1) (tt _ hw2) (tt _ hw3) X.2.1 hP hD hS X.2.2.2.1 hc hfs hC.1 hC.2 hd (fun q H1 hP1 hD1 hS1 => kk q H1 locs ls hP1 hD1 hS1 hv)
theorem b_oinit (X : AX p s m args meth c g A cc nL own w0 ret) {idx a : Nat} (hd : decode cc pc = .ok (.invokespecial idx, 3)) (hw : Cond.methodLink own idx Lib.objectInit ∈ gTb) (hw2 : Cond.instanceMethod Lib.objectInit ∈ gTb ∧ Cond.code Lib.objectInit ⟨#[0xb1]⟩ 1 none ∈ gTb) (hR : 1 ≤ R.frames ∧ (st.map fun v => v.category).sum + 12 ≤ R.locals) (kk : CW p l e R s m args below meth c g A nL (cells) (slots) Q (pc + 3) (lv) (st) (ws)) : CW p l e R s m args below meth c g A nL (cells) (slots) Q (pc) (lv) (.ref a :: st) (ws) := fun H locs ls hP hD hS hv => by
  have tt := fun w q => X.1.2.2.2.2 w (List.mem_cons_of_mem _ q)
  refine W.objInit X.1.1 X.1.2.1 X.1.2.2.2.1 (tt _ hw) (tt _ hw2.1) (tt _ hw2.2) rfl (by rw [X.1.2.2.1]; exact hv.1) rfl hd hR.1 (by show 2 * 0 + _ + 12 ≤ _; have := hR.2; omega) ?_
  exact kk H locs ls hP hD hS hv
theorem b_ast (X : AX p s m args meth c g A cc nL own w0 ret) {q0 qk a v ci0 n : Nat} {vs : List Value} {f : Nat → Option Nat} {i : Int32} (hd : decode cc pc = .ok (.aastore, 1)) (ha : ws[q0]? = some (a, cs g n f)) (hvv : ws[qk]? = some (v, co 1 vs)) (hin : vp_in i n) (kk : CW p l e R s m args below meth c g A nL (cells) (slots) Q (pc + 1) (lv) (st) (ws.set q0 (a, cs g n (va_up f i.toNatClampNeg (some v))))) : CW p l e R s m args below meth c g A nL (cells) (slots) Q (pc) (lv) (.ref v :: .int i :: .ref a :: st) (ws) := fun H locs ls hP hD hS hv =>
  va_astq (r := (RX2, TX2, 3)) X.1.1 X.1.2.1 X.2.1 hP hD hS q0 2 qk 1 ha rfl hvv rfl hin hd (fun H1 locs1 hP1 hD1 hS1 => kk H1 locs1 ls hP1 hD1 hS1 hv)
theorem b_iast (X : AX p s m args meth c g A cc nL own w0 ret) {q0 a n : Nat} {f : Nat → Int32} {i x : Int32} (hd : decode cc pc = .ok (.iastore, 1)) (ha : ws[q0]? = some (a, ci g n f)) (hin : vp_in i n) (kk : CW p l e R s m args below meth c g A nL (cells) (slots) Q (pc + 1) (lv) (st) (ws.set q0 (a, ci g n (upd f i.toNatClampNeg x)))) : CW p l e R s m args below meth c g A nL (cells) (slots) Q (pc) (lv) (.int x :: .int i :: .ref a :: st) (ws) := fun H locs ls hP hD hS hv =>
  va_iast X.1.1 X.1.2.1 X.2.1 hP hD hS q0 0 ha rfl hin hd (fun H1 locs1 hP1 hD1 hS1 => kk H1 locs1 ls hP1 hD1 hS1 hv)
theorem b_alen (X : AX p s m args meth c g A cc nL own w0 ret) {q0 a n : Nat} {f : Nat → Int32} (hd : decode cc pc = .ok (.arraylength, 1)) (ha : ws[q0]? = some (a, ci g n f)) (kk : CW p l e R s m args below meth c g A nL (cells) (slots) Q (pc + 1) (lv) (.int (nI n) :: st) (ws)) : CW p l e R s m args below meth c g A nL (cells) (slots) Q (pc) (lv) (.ref a :: st) (ws) := fun H locs ls hP hD hS hv =>
  va_alen X.1.1 X.1.2.1 X.2.1 hP q0 0 ha rfl (v := nI n) rfl hd (kk H locs ls hP hD hS hv)
theorem b_vret {ws0 : va_W} {mc ms : Nat} {post : va_W → Prop} (X : AX p s m args meth c g A cc nL own w0 none) (hA : A = va_A ws0 s.heap.size) (hd : decode cc pc = .ok (.return_, 1)) (hc : cells ≤ mc) (hs : slots ≤ ms) (hp : post ws) : CW p l e R s m args below meth c g A nL cells slots (MQ below (CQw g ws0 s.heap.size post) args s mc ms A) pc lv [] ws := fun H locs ls hP hD hS hv => by
  subst hA
  refine W.widen (k := mc) (n := ms) hc hs ?_
  exact W.vret X.1.1 X.1.2.1 X.2.2.2.2.1 (fun t ht hW => ⟨⟨ws, rfl, hp, by rw [ht]; exact hP, hD⟩, hS.F ht⟩) hS.2.2 hd X.2.2.2.2.2
theorem b_cont {wc : va_W} {post : va_W → Prop} {rest st0 : List Value} {a : Array Value} {H : Heap} {locs : List Loc} {ls : Array Slot} {mc ms : Nat} (hr : va_Run p l e R s m args below meth c H locs cells slots mc ms (F0 m pc ls st0) rest (CQw g wc H.size post a) (va_A wc H.size)) (hS : va_S A s.heap H locs) (hf : ∀ q, va_A wc H.size q → A q)
    (kk : ∀ (w1 : va_W) (H1 : Heap) (locs1 : List Loc), post w1 → va_P (gD g) vwCl w1 H1 → va_D (va_A wc H.size) w1 → (∀ q : Nat, q < H.size → ¬ va_A wc H.size q → H1[q]? = H[q]?) → va_S A s.heap H1 locs1 → W p l e R s m args below meth c H1 locs1 (cells + mc) (slots + ms) Q (F0 m (pc + 3) ls rest)) : W p l e R s m args below meth c H locs cells slots Q (F0 m pc ls st0) := by
  intro T hT X
  obtain ⟨v, st₀, t, T', L, h0, X', hL, e1, e2, ⟨⟨w1, hv, hp, hP1, hD1⟩, hz, hk⟩, sg⟩ := hr T hT X
  cases hv
  rw [h0] at hz hk
  obtain ⟨t2, a1, b1⟩ := kk w1 T'.heap (locs ++ L) hp (by rw [e1]; exact hP1) hD1 (fun q q1 q2 => by rw [e1]; exact hk q q1 q2)
    ⟨Nat.le_trans hS.1 (by rw [e1]; exact hz), fun q q1 q2 => by rw [e1, hk q (Nat.lt_of_lt_of_le q1 hS.1) (fun z => q2 (hf q z))]; exact hS.2.1 q q1 q2, fun q hq => by
      rcases List.mem_append.mp hq with h | h
      · exact hS.2.2 q h
      · exact hf _ (hL q h)⟩ T' rfl X'
  exact ⟨t2, sg t2 a1, b1⟩
/-- a constructor's call: its cells are cut out, and put back behind the rest -/
theorem b_callI (X : AX p s m args meth c g A cc nL own w0 ret) {idx b0 : Nat} {M : MI} {rest : List Value} {wc wr : va_W} {post : va_W → Prop} (isC isR : List Nat) (hO : Ex s) (hd : decode cc pc = .ok (.invokespecial idx, 3)) (hw : Cond.methodLink own idx M.1 ∈ gTb ∧ Cond.instanceMethod M.1 ∈ gTb ∧ Cond.initialized M.1.cls ∈ gTb ∧ Cond.code M.1 M.2.1 M.2.2.1 none ∈ gTb) (hy : M.1.name = "<init>") (hdd : M.1.cls ≠ "java/lang/invoke/MethodHandle" ∧ M.1.cls ≠ "java/lang/invoke/VarHandle" ∧ (parseMethodDescriptor M.1.desc).map (fun d => d.parameters.length) = some 0) (hM : CTw l g M [.ref b0] wc post) (hR : M.2.2.2.frames + 1 ≤ R.frames ∧ 8 + (M.2.2.1 + 11) + M.2.2.2.locals ≤ R.locals) (hcat : (rest.map fun v => v.category).sum ≤ 8) (hC : cells + M.2.2.2.cells ≤ R.cells ∧ slots + M.2.2.2.slots ≤ R.slots) (hcut : isC.map (fun i => ws[i]?) = wc.map some) (hrst : isR.map (fun i => ws[i]?) = wr.map some) (hn : va_nd isC = true ∧ va_nd isR = true) (hdis : ∀ i ∈ isR, i ∉ isC)
    (kk : ∀ w1 : va_W, post w1 → CW p l e R s m args below meth c g A nL (cells + M.2.2.2.cells) (slots + M.2.2.2.slots) Q (pc + 3) (lv) (rest) (wr ++ w1)) : CW p l e R s m args below meth c g A nL (cells) (slots) Q (pc) (lv) (.ref b0 :: rest) (ws) := fun H locs ls hP hD hS hv => by
  have hF := va_free (wc := wc) hD hS X.2.2.2.1 isC hcut
  have tt := fun w q => X.1.2.2.2.2 w (List.mem_cons_of_mem _ q)
  obtain ⟨l1, l2, l3, l4⟩ := hw
  have hPc := hP.sub (ws' := wc) isC (mp_fm hcut)
  have hDc := hD.sub (ws' := wc) isC hn.1 hcut
  have hG : GoodIn (w0 :: gTb) (Cond.code M.1 M.2.1 M.2.2.1 none :: gTb) := by
    intro w hw
    have hw2 : w ∈ gTb := by
      rcases List.mem_cons.mp hw with q | q
      · rw [q]; exact l4
      · exact q
    exact ⟨List.mem_cons_of_mem _ hw2, good_of_word (gTb_good hw2)⟩
  refine b_cont (wc := wc) (a := [Value.ref b0].toArray) (va_runI (g := F0 m pc ls (.ref b0 :: rest)) (As := []) (rest := rest) (bytes := M.2.1) (maxL := M.2.2.1) X.1 (hM H.size) (cwI 0 X.1.2.2.2.2 hG rfl rfl rfl (tt _ l3) (tt _ l1) (tt _ l2) hy hdd hR) ⟨CPw_blind, fun U hU hW => ⟨rfl, by rw [hU], by rw [hU]; exact hPc, va_K.moved hW.alike X.2.1, hDc.weaken (fun _ _ _ _ => trivial), Gl.call X.2.2.1 hS hF hU hW, Ex.warm hW hO⟩⟩ rfl rfl hv.1 rfl (lv_room hcat) hd hC) hS hF (fun w1 H1 locs1 hp hP1 hD1 hk1 hS1 => ?_)
  obtain ⟨hP2, hD2⟩ := va_join (wr := wr) (w1 := w1) hP hD isC isR hcut hrst hn.2 hdis hk1 hF hP1 hD1
  exact kk w1 hp H1 locs1 ls hP2 hD2 hS1 hv
/-- the same of a nest mate's constructor -/
theorem b_callIN (X : AX p s m args meth c g A cc nL own w0 ret) {idx b0 : Nat} {host : String} {M : MI} {rest : List Value} {wc wr : va_W} {post : va_W → Prop} (isC isR : List Nat) (hO : Ex s) (hd : decode cc pc = .ok (.invokespecial idx, 3)) (hN : va_Nw (.methodLinkNest own idx M.1 host) s) (hw : Cond.instanceMethod M.1 ∈ gTb ∧ Cond.initialized M.1.cls ∈ gTb ∧ Cond.code M.1 M.2.1 M.2.2.1 none ∈ gTb) (hy : M.1.name = "<init>") (hdd : M.1.cls ≠ "java/lang/invoke/MethodHandle" ∧ M.1.cls ≠ "java/lang/invoke/VarHandle" ∧ (parseMethodDescriptor M.1.desc).map (fun d => d.parameters.length) = some 0) (hM : CTw l g M [.ref b0] wc post) (hR : M.2.2.2.frames + 1 ≤ R.frames ∧ 8 + (M.2.2.1 + 11) + M.2.2.2.locals ≤ R.locals) (hcat : (rest.map fun v => v.category).sum ≤ 8) (hC : cells + M.2.2.2.cells ≤ R.cells ∧ slots + M.2.2.2.slots ≤ R.slots) (hcut : isC.map (fun i => ws[i]?) = wc.map some) (hrst : isR.map (fun i => ws[i]?) = wr.map some) (hn : va_nd isC = true ∧ va_nd isR = true) (hdis : ∀ i ∈ isR, i ∉ isC)
    (kk : ∀ w1 : va_W, post w1 → CW p l e R s m args below meth c g A nL (cells + M.2.2.2.cells) (slots + M.2.2.2.slots) Q (pc + 3) (lv) (rest) (wr ++ w1)) : CW p l e R s m args below meth c g A nL (cells) (slots) Q (pc) (lv) (.ref b0 :: rest) (ws) := fun H locs ls hP hD hS hv => by
  have hF := va_free (wc := wc) hD hS X.2.2.2.1 isC hcut
  have tt := fun w q => X.1.2.2.2.2 w (List.mem_cons_of_mem _ q)
  obtain ⟨l2, l3, l4⟩ := hw
  have hPc := hP.sub (ws' := wc) isC (mp_fm hcut)
  have hDc := hD.sub (ws' := wc) isC hn.1 hcut
  have hG : GoodIn (w0 :: gTb) (Cond.code M.1 M.2.1 M.2.2.1 none :: gTb) := by
    intro w hw
    have hw2 : w ∈ gTb := by
      rcases List.mem_cons.mp hw with q | q
      · rw [q]; exact l4
      · exact q
    exact ⟨List.mem_cons_of_mem _ hw2, good_of_word (gTb_good hw2)⟩
  refine b_cont (wc := wc) (a := [Value.ref b0].toArray) (va_runIN (g := F0 m pc ls (.ref b0 :: rest)) (As := []) (rest := rest) (bytes := M.2.1) (maxL := M.2.2.1) X.1 (hM H.size) ⟨va_cnB 0 X.1.2.2.2.2 hG rfl rfl rfl hN (tt _ l3) hdd hR, hy, tt _ l2⟩ ⟨CPw_blind, fun U hU hW => ⟨rfl, by rw [hU], by rw [hU]; exact hPc, va_K.moved hW.alike X.2.1, hDc.weaken (fun _ _ _ _ => trivial), Gl.call X.2.2.1 hS hF hU hW, Ex.warm hW hO⟩⟩ rfl rfl hv.1 rfl (lv_room hcat) hd hC) hS hF (fun w1 H1 locs1 hp hP1 hD1 hk1 hS1 => ?_)
  obtain ⟨hP2, hD2⟩ := va_join (wr := wr) (w1 := w1) hP hD isC isR hcut hrst hn.2 hdis hk1 hF hP1 hD1
  exact kk w1 hp H1 locs1 ls hP2 hD2 hS1 hv
/-- a static call over cells that are cut out -/
theorem b_callS (X : AX p s m args meth c g A cc nL own w0 ret) {idx n : Nat} {M : MI} {As rest : List Value} {wc wr : va_W} {post : va_W → Prop} (isC isR : List Nat) (hO : Ex s) (hd : decode cc pc = .ok (.invokestatic idx, 3)) (hw : Cond.methodLink own idx M.1 ∈ gTb ∧ Cond.static M.1 ∈ gTb ∧ Cond.initialized M.1.cls ∈ gTb ∧ Cond.code M.1 M.2.1 M.2.2.1 none ∈ gTb) (hdd : M.1.cls ≠ "java/lang/invoke/MethodHandle" ∧ M.1.cls ≠ "java/lang/invoke/VarHandle" ∧ (parseMethodDescriptor M.1.desc).map (fun d => d.parameters.length) = some n) (hM : CTw l g M As wc post) (hR : M.2.2.2.frames + 1 ≤ R.frames ∧ 8 + (M.2.2.1 + 11) + M.2.2.2.locals ≤ R.locals) (hAs : As.length = n) (hst : st = As.reverse ++ rest) (hcat : (rest.map fun v => v.category).sum ≤ 8) (hC : cells + M.2.2.2.cells ≤ R.cells ∧ slots + M.2.2.2.slots ≤ R.slots) (hcut : isC.map (fun i => ws[i]?) = wc.map some) (hrst : isR.map (fun i => ws[i]?) = wr.map some) (hn : va_nd isC = true ∧ va_nd isR = true) (hdis : ∀ i ∈ isR, i ∉ isC)
    (kk : ∀ w1 : va_W, post w1 → CW p l e R s m args below meth c g A nL (cells + M.2.2.2.cells) (slots + M.2.2.2.slots) Q (pc + 3) (lv) (rest) (wr ++ w1)) : CW p l e R s m args below meth c g A nL (cells) (slots) Q (pc) (lv) (st) (ws) := fun H locs ls hP hD hS hv => by
  have hF := va_free (wc := wc) hD hS X.2.2.2.1 isC hcut
  have tt := fun w q => X.1.2.2.2.2 w (List.mem_cons_of_mem _ q)
  obtain ⟨l1, l2, l3, l4⟩ := hw
  have hPc := hP.sub (ws' := wc) isC (mp_fm hcut)
  have hDc := hD.sub (ws' := wc) isC hn.1 hcut
  have hG : GoodIn (w0 :: gTb) (Cond.code M.1 M.2.1 M.2.2.1 none :: gTb) := by
    intro w hw
    have hw2 : w ∈ gTb := by
      rcases List.mem_cons.mp hw with q | q
      · rw [q]; exact l4
      · exact q
    exact ⟨List.mem_cons_of_mem _ hw2, good_of_word (gTb_good hw2)⟩
  refine b_cont (wc := wc) (a := As.toArray) (va_runS (g := F0 m pc ls st) (As := As) (rest := rest) (bytes := M.2.1) (maxL := M.2.2.1) (ret := none) X.1 (hM H.size) ⟨callB_of n X.1.2.2.2.2 hG rfl rfl rfl (tt _ l3) (tt _ l1) hdd hR, tt _ l2⟩ ⟨CPw_blind, fun U hU hW => ⟨rfl, by rw [hU], by rw [hU]; exact hPc, va_K.moved hW.alike X.2.1, hDc.weaken (fun _ _ _ _ => trivial), Gl.call X.2.2.1 hS hF hU hW, Ex.warm hW hO⟩⟩ rfl hAs hv.1 hst (lv_room hcat) hd hC) hS hF (fun w1 H1 locs1 hp hP1 hD1 hk1 hS1 => ?_)
  obtain ⟨hP2, hD2⟩ := va_join (wr := wr) (w1 := w1) hP hD isC isR hcut hrst hn.2 hdis hk1 hF hP1 hD1
  exact kk w1 hp H1 locs1 ls hP2 hD2 hS1 hv
theorem b_eq {ws' : va_W} (h : ws = ws') (k : CW p l e R s m args below meth c g A nL (cells) (slots) Q (pc) (lv) (st) (ws')) : CW p l e R s m args below meth c g A nL (cells) (slots) Q (pc) (lv) (st) (ws) := by rw [h]; exact k
end ROWS3
theorem aw_int : Cond.arrayClass .int ∈ gTb := gTb_at 130 (by decide +kernel) (by decide +kernel)
theorem aw_long : Cond.arrayClass .long ∈ gTb := gTb_at 177 (by decide +kernel) (by decide +kernel)
theorem oi_w : Cond.instanceMethod Lib.objectInit ∈ gTb ∧ Cond.code Lib.objectInit ⟨#[0xb1]⟩ 1 none ∈ gTb := ⟨gTb_at 75 (by decide +kernel) (by decide +kernel), gTb_at 76 (by decide +kernel) (by decide +kernel)⟩
theorem oi_X4 : Cond.methodLink RX4 1 Lib.objectInit ∈ gTb := gTb_at 74 (by decide +kernel) (by decide +kernel)
theorem oi_X0 : Cond.methodLink RX0 3 Lib.objectInit ∈ gTb := gTb_at 82 (by decide +kernel) (by decide +kernel)
theorem oi_X3 : Cond.methodLink RX3 5 Lib.objectInit ∈ gTb := gTb_at 136 (by decide +kernel) (by decide +kernel)
theorem oi_X2 : Cond.methodLink RX2 3 Lib.objectInit ∈ gTb := gTb_at 163 (by decide +kernel) (by decide +kernel)
theorem oi_X5 : Cond.methodLink RX5 1 Lib.objectInit ∈ gTb := gTb_at 661 (by decide +kernel) (by decide +kernel)
theorem cl_L_7 : Cond.classLink RL 7 RX4 ∈ gTb := gTb_at 69 (by decide +kernel) (by decide +kernel)
theorem is_X4 : Cond.instantiable RX4 7 ∈ gTb := gTb_at 70 (by decide +kernel) (by decide +kernel)
theorem cl_X4_7 : Cond.classLink RX4 7 RX0 ∈ gTb := gTb_at 77 (by decide +kernel) (by decide +kernel)
theorem is_X0 : Cond.instantiable RX0 11 ∈ gTb := gTb_at 78 (by decide +kernel) (by decide +kernel)
theorem cl_X4_26 : Cond.classLink RX4 26 RX3 ∈ gTb := gTb_at 131 (by decide +kernel) (by decide +kernel)
theorem is_X3 : Cond.instantiable RX3 6 ∈ gTb := gTb_at 132 (by decide +kernel) (by decide +kernel)
theorem cl_X4_33 : Cond.classLink RX4 33 RX2 ∈ gTb := gTb_at 157 (by decide +kernel) (by decide +kernel)
theorem is_X2 : Cond.instantiable RX2 3 ∈ gTb := gTb_at 159 (by decide +kernel) (by decide +kernel)
theorem cl_L_10 : Cond.classLink RL 10 RX5 ∈ gTb := gTb_at 656 (by decide +kernel) (by decide +kernel)
theorem is_X5 : Cond.instantiable RX5 21 ∈ gTb := gTb_at 657 (by decide +kernel) (by decide +kernel)
theorem iz_X0 : Cond.initialized RX0 ∈ gTb := gTb_at 56 (by decide +kernel) (by decide +kernel)
theorem iz_X2 : Cond.initialized RX2 ∈ gTb := gTb_at 59 (by decide +kernel) (by decide +kernel)
theorem iz_X3 : Cond.initialized RX3 ∈ gTb := gTb_at 58 (by decide +kernel) (by decide +kernel)
theorem iz_X4 : Cond.initialized RX4 ∈ gTb := gTb_at 55 (by decide +kernel) (by decide +kernel)
theorem iz_X5 : Cond.initialized RX5 ∈ gTb := gTb_at 60 (by decide +kernel) (by decide +kernel)
theorem ic_L_9 : Cond.methodLink RL 9 yX4_init ∈ gTb ∧ Cond.instanceMethod yX4_init ∈ gTb ∧ Cond.initialized RX4 ∈ gTb ∧ Cond.code yX4_init cX4_init 2 none ∈ gTb := ⟨gTb_at 71 (by decide +kernel) (by decide +kernel), gTb_at 72 (by decide +kernel) (by decide +kernel), gTb_at 55 (by decide +kernel) (by decide +kernel), gTb_at 73 (by decide +kernel) (by decide +kernel)⟩
theorem ic_X4_9 : Cond.methodLink RX4 9 yX0_init ∈ gTb ∧ Cond.instanceMethod yX0_init ∈ gTb ∧ Cond.initialized RX0 ∈ gTb ∧ Cond.code yX0_init cX0_init 1 none ∈ gTb := ⟨gTb_at 79 (by decide +kernel) (by decide +kernel), gTb_at 80 (by decide +kernel) (by decide +kernel), gTb_at 56 (by decide +kernel) (by decide +kernel), gTb_at 81 (by decide +kernel) (by decide +kernel)⟩
theorem ic_L_12 : Cond.methodLink RL 12 yX5_init ∈ gTb ∧ Cond.instanceMethod yX5_init ∈ gTb ∧ Cond.initialized RX5 ∈ gTb ∧ Cond.code yX5_init cX5_init 1 none ∈ gTb := ⟨gTb_at 658 (by decide +kernel) (by decide +kernel), gTb_at 659 (by decide +kernel) (by decide +kernel), gTb_at 60 (by decide +kernel) (by decide +kernel), gTb_at 660 (by decide +kernel) (by decide +kernel)⟩
theorem in_X3_init : Cond.instanceMethod yX3_init ∈ gTb ∧ Cond.initialized RX3 ∈ gTb ∧ Cond.code yX3_init cX3_init 1 none ∈ gTb := ⟨gTb_at 134 (by decide +kernel) (by decide +kernel), gTb_at 58 (by decide +kernel) (by decide +kernel), gTb_at 135 (by decide +kernel) (by decide +kernel)⟩
theorem in_X2_init : Cond.instanceMethod yX2_init ∈ gTb ∧ Cond.initialized RX2 ∈ gTb ∧ Cond.code yX2_init cX2_init 1 none ∈ gTb := ⟨gTb_at 161 (by decide +kernel) (by decide +kernel), gTb_at 59 (by decide +kernel) (by decide +kernel), gTb_at 162 (by decide +kernel) (by decide +kernel)⟩
theorem sf_w : Cond.methodLink RX0 46 yJ7_fill_53178 ∈ gTb ∧ Cond.static yJ7_fill_53178 ∈ gTb ∧ Cond.initialized RJ7 ∈ gTb ∧ Cond.code yJ7_fill_53178 cJ7_fill_53178 4 none ∈ gTb := ⟨gTb_at 83 (by decide +kernel) (by decide +kernel), gTb_at 84 (by decide +kernel) (by decide +kernel), gTb_at 57 (by decide +kernel) (by decide +kernel), gTb_at 85 (by decide +kernel) (by decide +kernel)⟩
theorem fq_X0_18 : FQ RX0 18 0 2 (.array .int) := ⟨RX0, TX0, 11, tyX0, rfl, by decide, gTb_at 91 (by decide +kernel) (by decide +kernel), in_X0, tyX0_ok, nmX0, rfl, rfl, by decide +kernel⟩
theorem fq_X0_22 : FQ RX0 22 0 3 (.array .int) := ⟨RX0, TX0, 11, tyX0, rfl, by decide, gTb_at 93 (by decide +kernel) (by decide +kernel), in_X0, tyX0_ok, nmX0, rfl, rfl, by decide +kernel⟩
theorem fq_X0_25 : FQ RX0 25 0 4 (.array .int) := ⟨RX0, TX0, 11, tyX0, rfl, by decide, gTb_at 95 (by decide +kernel) (by decide +kernel), in_X0, tyX0_ok, nmX0, rfl, rfl, by decide +kernel⟩
theorem fq_X0_28 : FQ RX0 28 0 5 (.array .int) := ⟨RX0, TX0, 11, tyX0, rfl, by decide, gTb_at 97 (by decide +kernel) (by decide +kernel), in_X0, tyX0_ok, nmX0, rfl, rfl, by decide +kernel⟩
theorem fq_X0_31 : FQ RX0 31 0 6 (.array .int) := ⟨RX0, TX0, 11, tyX0, rfl, by decide, gTb_at 99 (by decide +kernel) (by decide +kernel), in_X0, tyX0_ok, nmX0, rfl, rfl, by decide +kernel⟩
theorem fq_X0_34 : FQ RX0 34 0 7 (.array .int) := ⟨RX0, TX0, 11, tyX0, rfl, by decide, gTb_at 102 (by decide +kernel) (by decide +kernel), in_X0, tyX0_ok, nmX0, rfl, rfl, by decide +kernel⟩
theorem fq_X0_37 : FQ RX0 37 0 8 (.array .int) := ⟨RX0, TX0, 11, tyX0, rfl, by decide, gTb_at 104 (by decide +kernel) (by decide +kernel), in_X0, tyX0_ok, nmX0, rfl, rfl, by decide +kernel⟩
theorem fq_X0_40 : FQ RX0 40 0 9 (.array .int) := ⟨RX0, TX0, 11, tyX0, rfl, by decide, gTb_at 105 (by decide +kernel) (by decide +kernel), in_X0, tyX0_ok, nmX0, rfl, rfl, by decide +kernel⟩
theorem fq_X0_43 : FQ RX0 43 0 10 (.array .int) := ⟨RX0, TX0, 11, tyX0, rfl, by decide, gTb_at 106 (by decide +kernel) (by decide +kernel), in_X0, tyX0_ok, nmX0, rfl, rfl, by decide +kernel⟩
theorem fq_X3_17 : FQ RX3 17 2 1 (.array .int) := ⟨RX3, TX3, 6, tyX3, rfl, by decide, gTb_at 139 (by decide +kernel) (by decide +kernel), in_X3, tyX3_ok, nmX3, rfl, rfl, by decide +kernel⟩
theorem fq_X2_18 : FQ RX2 18 1 2 (.array .long) := ⟨RX2, TX2, 3, tyX2, rfl, by decide, gTb_at 168 (by decide +kernel) (by decide +kernel), in_X2, tyX2_ok, nmX2, rfl, rfl, by decide +kernel⟩
theorem fq_X4_10 : FQ RX4 10 3 0 (.object RX0) := ⟨RX4, TX4, 7, tyX4, rfl, by decide, gTb_at 178 (by decide +kernel) (by decide +kernel), in_X4, tyX4_ok, nmX4, rfl, rfl, by decide +kernel⟩
theorem fq_X4_16 : FQ RX4 16 3 1 (.object RX0) := ⟨RX4, TX4, 7, tyX4, rfl, by decide, gTb_at 179 (by decide +kernel) (by decide +kernel), in_X4, tyX4_ok, nmX4, rfl, rfl, by decide +kernel⟩
theorem fq_X4_19 : FQ RX4 19 3 2 (.object RX0) := ⟨RX4, TX4, 7, tyX4, rfl, by decide, gTb_at 180 (by decide +kernel) (by decide +kernel), in_X4, tyX4_ok, nmX4, rfl, rfl, by decide +kernel⟩
theorem fq_X4_29 : FQ RX4 29 3 4 (.object RX3) := ⟨RX4, TX4, 7, tyX4, rfl, by decide, gTb_at 182 (by decide +kernel) (by decide +kernel), in_X4, tyX4_ok, nmX4, rfl, rfl, by decide +kernel⟩
theorem fq_X4_35 : FQ RX4 35 3 5 (.array (.object RX2)) := ⟨RX4, TX4, 7, tyX4, rfl, by decide, gTb_at 183 (by decide +kernel) (by decide +kernel), in_X4, tyX4_ok, nmX4, rfl, rfl, by decide +kernel⟩
theorem fq_X4_39 : FQ RX4 39 3 6 (.array .int) := ⟨RX4, TX4, 7, tyX4, rfl, by decide, gTb_at 184 (by decide +kernel) (by decide +kernel), in_X4, tyX4_ok, nmX4, rfl, rfl, by decide +kernel⟩
theorem fq_X5_7 : FQ RX5 7 4 0 (.array .int) := ⟨RX5, TX5, 21, tyX5, rfl, by decide, gTb_at 662 (by decide +kernel) (by decide +kernel), in_X5, tyX5_ok, nmX5, rfl, rfl, by decide +kernel⟩
theorem fq_X5_13 : FQ RX5 13 4 1 (.array .int) := ⟨RX5, TX5, 21, tyX5, rfl, by decide, gTb_at 663 (by decide +kernel) (by decide +kernel), in_X5, tyX5_ok, nmX5, rfl, rfl, by decide +kernel⟩
theorem fq_X5_16 : FQ RX5 16 4 2 (.array .int) := ⟨RX5, TX5, 21, tyX5, rfl, by decide, gTb_at 664 (by decide +kernel) (by decide +kernel), in_X5, tyX5_ok, nmX5, rfl, rfl, by decide +kernel⟩
theorem fq_X5_19 : FQ RX5 19 4 3 (.array .int) := ⟨RX5, TX5, 21, tyX5, rfl, by decide, gTb_at 665 (by decide +kernel) (by decide +kernel), in_X5, tyX5_ok, nmX5, rfl, rfl, by decide +kernel⟩
theorem fq_X5_22 : FQ RX5 22 4 4 (.array .int) := ⟨RX5, TX5, 21, tyX5, rfl, by decide, gTb_at 666 (by decide +kernel) (by decide +kernel), in_X5, tyX5_ok, nmX5, rfl, rfl, by decide +kernel⟩
theorem fq_X5_25 : FQ RX5 25 4 5 (.array .int) := ⟨RX5, TX5, 21, tyX5, rfl, by decide, gTb_at 667 (by decide +kernel) (by decide +kernel), in_X5, tyX5_ok, nmX5, rfl, rfl, by decide +kernel⟩
theorem fq_X5_28 : FQ RX5 28 4 6 (.array .int) := ⟨RX5, TX5, 21, tyX5, rfl, by decide, gTb_at 668 (by decide +kernel) (by decide +kernel), in_X5, tyX5_ok, nmX5, rfl, rfl, by decide +kernel⟩
theorem fq_X5_31 : FQ RX5 31 4 14 (.array .int) := ⟨RX5, TX5, 21, tyX5, rfl, by decide, gTb_at 676 (by decide +kernel) (by decide +kernel), in_X5, tyX5_ok, nmX5, rfl, rfl, by decide +kernel⟩
theorem fq_X5_34 : FQ RX5 34 4 15 (.array .int) := ⟨RX5, TX5, 21, tyX5, rfl, by decide, gTb_at 677 (by decide +kernel) (by decide +kernel), in_X5, tyX5_ok, nmX5, rfl, rfl, by decide +kernel⟩
theorem fq_X5_37 : FQ RX5 37 4 16 (.array .long) := ⟨RX5, TX5, 21, tyX5, rfl, by decide, gTb_at 678 (by decide +kernel) (by decide +kernel), in_X5, tyX5_ok, nmX5, rfl, rfl, by decide +kernel⟩
theorem fq_X5_41 : FQ RX5 41 4 17 (.array .long) := ⟨RX5, TX5, 21, tyX5, rfl, by decide, gTb_at 679 (by decide +kernel) (by decide +kernel), in_X5, tyX5_ok, nmX5, rfl, rfl, by decide +kernel⟩
theorem fq_X5_44 : FQ RX5 44 4 18 (.array .int) := ⟨RX5, TX5, 21, tyX5, rfl, by decide, gTb_at 680 (by decide +kernel) (by decide +kernel), in_X5, tyX5_ok, nmX5, rfl, rfl, by decide +kernel⟩
theorem fq_X5_47 : FQ RX5 47 4 19 (.array .int) := ⟨RX5, TX5, 21, tyX5, rfl, by decide, gTb_at 681 (by decide +kernel) (by decide +kernel), in_X5, tyX5_ok, nmX5, rfl, rfl, by decide +kernel⟩
