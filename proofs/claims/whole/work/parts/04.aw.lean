/-! the walk's own layer: a world of 57 cells at fixed places, locals by their slots, contracts over the whole world -/
abbrev GG : Type := va_G × ClassId × ClassId × ClassId × (Nat → Nat) × (Nat → Nat) × (Nat → Nat) × Nat
def gD (g : GG) : va_G := g.1
def gI (g : GG) : ClassId := g.2.1
def gJ (g : GG) : ClassId := g.2.2.1
def gS (g : GG) : ClassId := g.2.2.2.1
def ga (g : GG) : Nat → Nat := g.2.2.2.2.1
def gK (g : GG) : Nat → Nat := g.2.2.2.2.2.1
def gV (g : GG) : Nat → Nat := g.2.2.2.2.2.2.1
def gB (g : GG) : Nat := g.2.2.2.2.2.2.2
def gty (g : GG) : List (ClassId × FieldType) := [(gI g, .int), (gJ g, .long), (gS g, .object RX2)]
abbrev Hp : Type := Nat → va_E
def ci (g : GG) (n : Nat) (f : Nat → Int32) : va_E := .inl (gI g, n, .inl f)
def cj (g : GG) (n : Nat) (f : Nat → Int64) : va_E := .inl (gJ g, n, .inr (.inl f))
def cs (g : GG) (n : Nat) (f : Nat → Option Nat) : va_E := .inl (gS g, n, .inr (.inr (.inr (.inr f))))
def co (k : Nat) (fs : List Value) : va_E := .inr (k, fs)
def wl (g : GG) (h : Hp) : va_W := (List.range 57).map (fun k => (ga g k, h k))
theorem wl_at {g : GG} {h : Hp} {k : Nat} (hk : k < 57) : (wl g h)[k]? = some (ga g k, h k) := by
  simp [wl, hk]
theorem wl_set {g : GG} {h : Hp} {k : Nat} (e : va_E) (hk : k < 57) : (wl g h).set k (ga g k, e) = wl g (va_up h k e) := by
  apply List.ext_getElem?
  intro i
  by_cases hi : i < 57
  · rw [wl_at hi]
    by_cases hik : i = k
    · subst hik
      rw [List.getElem?_set_self (by simp [wl, hk])]
      simp [va_up]
    · rw [List.getElem?_set_ne (fun z => hik z.symm), wl_at hi]
      simp [va_up, hik]
  · rw [List.getElem?_eq_none (by simp [wl]; omega), List.getElem?_eq_none (by simp [wl]; omega)]
/-! locals by their slots -/
def lvh (ls : Array Slot) (nL : Nat) (lv : List (Option Value)) : Prop := ls.size = nL ∧ lv_wf ls ∧ ∀ (i : Nat) (v : Value), lv[i]? = some (some v) → ls[i]? = some (.val v)
def lvl (lv : List (Option Value)) : List (Nat × Value) := (List.range lv.length).filterMap (fun i => (lv[i]?.getD none).map (fun v => (i, v)))
theorem lvl_mem {lv : List (Option Value)} {i : Nat} {v : Value} : (i, v) ∈ lvl lv ↔ lv[i]? = some (some v) := by
  simp only [lvl, List.mem_filterMap, List.mem_range]
  constructor
  · rintro ⟨j, hj, h⟩
    rw [List.getElem?_eq_getElem hj] at h
    simp only [Option.getD_some] at h
    cases hv : lv[j] with
    | none => rw [hv] at h; simp at h
    | some w =>
      rw [hv] at h
      simp only [Option.map_some, Option.some.injEq, Prod.mk.injEq] at h
      obtain ⟨rfl, rfl⟩ := h
      rw [List.getElem?_eq_getElem hj, hv]
  · intro h
    refine ⟨i, (List.getElem?_eq_some_iff.mp h).1, ?_⟩
    rw [h]
    rfl
theorem lvh_has {ls : Array Slot} {nL : Nat} {lv : List (Option Value)} (h : lvh ls nL lv) : lv_has ls nL (lvl lv) :=
  ⟨h.1, h.2.1, fun q hq => h.2.2 q.1 q.2 (lvl_mem.mp hq)⟩
def noL (lv : List (Option Value)) : Nat → Bool
  | 0 => true
  | j + 1 => match lv[j]? with
    | some (some w) => w.category == 1
    | _ => true
theorem noL_sp {lv : List (Option Value)} {i j : Nat} {w : Value} (h : noL lv i = true) (hj : j + 1 = i) (hw : lv[j]? = some (some w)) : ¬ w.category = 2 := by
  subst hj
  simp only [noL, hw, beq_iff_eq] at h
  omega
theorem lvh_st1 {ls : Array Slot} {nL i : Nat} {v : Value} {lv : List (Option Value)} (h : lv_has ls nL ((i, v) :: (lvl lv).filter (fun q => !(q.1 == i) && !(q.1 + 1 == i && q.2.category == 2)))) (hn : noL lv i = true) : lvh ls nL (lv.set i (some v)) := by
  refine ⟨h.1, h.2.1, fun j w hj => ?_⟩
  by_cases hji : j = i
  · subst hji
    have hl : j < lv.length := by
      have := (List.getElem?_eq_some_iff.mp hj).1
      simpa using this
    rw [List.getElem?_set_self hl] at hj
    cases hj
    exact h.2.2 (j, v) List.mem_cons_self
  · rw [List.getElem?_set_ne (fun z => hji z.symm)] at hj
    refine h.2.2 (j, w) (List.mem_cons_of_mem _ (List.mem_filter.mpr ⟨lvl_mem.mpr hj, ?_⟩))
    simp only [Bool.and_eq_true, Bool.not_eq_true', beq_eq_false_iff_ne, Bool.and_eq_false_iff]
    refine ⟨hji, ?_⟩
    by_cases hc : j + 1 = i
    · exact Or.inr (noL_sp hn hc hj)
    · exact Or.inl hc
theorem lvh_st2 {ls : Array Slot} {nL i : Nat} {v : Value} {lv : List (Option Value)} (h : lv_has ls nL ((i, v) :: (lvl lv).filter (fun q => !(q.1 == i) && (!(q.1 == i + 1) && !(q.1 + 1 == i && q.2.category == 2))))) (hn : noL lv i = true) : lvh ls nL ((lv.set i (some v)).set (i + 1) none) := by
  refine ⟨h.1, h.2.1, fun j w hj => ?_⟩
  by_cases hj1 : j = i + 1
  · subst hj1
    have hl : i + 1 < (lv.set i (some v)).length := (by
      have := (List.getElem?_eq_some_iff.mp hj).1
      simpa using this)
    rw [List.getElem?_set_self hl] at hj
    cases hj
  · rw [List.getElem?_set_ne (fun z => hj1 z.symm)] at hj
    by_cases hji : j = i
    · subst hji
      have hl : j < lv.length := by
        have := (List.getElem?_eq_some_iff.mp hj).1
        simpa using this
      rw [List.getElem?_set_self hl] at hj
      cases hj
      exact h.2.2 (j, v) List.mem_cons_self
    · rw [List.getElem?_set_ne (fun z => hji z.symm)] at hj
      refine h.2.2 (j, w) (List.mem_cons_of_mem _ (List.mem_filter.mpr ⟨lvl_mem.mpr hj, ?_⟩))
      simp only [Bool.and_eq_true, Bool.not_eq_true', beq_eq_false_iff_ne, Bool.and_eq_false_iff]
      refine ⟨hji, hj1, ?_⟩
      by_cases hc : j + 1 = i
      · exact Or.inr (noL_sp hn hc hj)
      · exact Or.inl hc
def ent : List Value → Nat → List (Option Value)
  | [], n => List.replicate n none
  | v :: vs, n => if v.category = 2 then some v :: none :: ent vs (n - 2) else some v :: ent vs (n - 1)
theorem ent_args : ∀ (vs : List Value) (n i k : Nat) (v : Value), (ent vs n)[i]? = some (some v) → (k + i, v) ∈ lv_args k vs
  | [], n, i, k, v, h => by
    simp only [ent] at h
    have := List.mem_of_getElem? h
    simp at this
  | a :: vs, n, i, k, v, h => by
    simp only [ent] at h
    simp only [lv_args]
    by_cases hc : a.category = 2
    · rw [if_pos hc] at h
      rw [if_pos hc]
      match i, h with
      | 0, h => simp at h; subst h; simp
      | 1, h => simp at h
      | i + 2, h =>
        have := ent_args vs (n - 2) i (k + 2) v (by simpa using h)
        refine List.mem_cons_of_mem _ ?_
        rw [show k + (i + 2) = k + 2 + i by omega]
        exact this
    · rw [if_neg hc] at h
      rw [if_neg hc]
      match i, h with
      | 0, h => simp at h; subst h; simp
      | i + 1, h =>
        have := ent_args vs (n - 1) i (k + 1) v (by simpa using h)
        refine List.mem_cons_of_mem _ ?_
        rw [show k + (i + 1) = k + 1 + i by omega]
        exact this
/-! the table of words that go through every call -/
def gTb : List Cond := lw_tbl.filter goodWord
theorem gTb_at {w : Cond} (i : Nat) (h : lw_tbl[i]? = some w) (hg : goodWord w = true) : w ∈ gTb := List.mem_filter.mpr ⟨List.mem_of_getElem? h, hg⟩
theorem gTb_good {w : Cond} (h : w ∈ gTb) : goodWord w = true := (List.mem_filter.mp h).2
theorem gTb_tbl {w : Cond} (h : w ∈ gTb) : w ∈ lw_tbl := (List.mem_filter.mp h).1
/-! what stays for ever: nest words, the row ABOVE, the texts -/
def aboveF (j : Nat) : Value := .int (([-1, 0, 0, 0, 1, 2] : List Int32).getD j 0)
def txLen : List Nat := [6, 5, 3, 8, 7, 8, 5, 4, 4]
def txByt : List (List Int32) := [[109, 101, 109, 98, 101, 114], [101, 108, 100, 101, 114], [98, 111, 121], [115, 116, 114, 97, 110, 103, 101, 114], [104, 101, 114, 101, 116, 105, 99], [99, 104, 111, 105, 114, 98, 111, 121], [107, 110, 111, 119, 115], [109, 111, 118, 101], [100, 101, 101, 112]]
def txIdx : List Nat := [123, 125, 127, 129, 131, 133, 135, 136, 138]
def txTxt : List String := ["member", "elder", "boy", "stranger", "heretic", "choirboy", "knows", "move", "deep"]
def Gl (g : GG) (A : Nat → Prop) (U : State) : Prop :=
  va_Nw (.methodLinkNest RX0 58 yX4_within RX4) U ∧ va_Nw (.methodLinkNest RX3 84 yX4_within RX4) U ∧
  va_Z RX1 "ABOVE" "[I" (.ref (gB g)) A U U.heap ∧ va_T .int (gB g) 6 aboveF A U U.heap ∧
  vk_S 9 txLen txByt (gK g) (gV g) A U U.heap ∧ (∀ i, i < 9 → vk_R RX3 (txIdx.getD i 0) (txTxt.getD i "") (gK g i) U) ∧
  va_Z "java/lang/String" "COMPACT_STRINGS" "Z" (.int 1) A U U.heap ∧ va_Zq "jdk/internal/util/Preconditions" "SIOOBE_FORMATTER" "Ljava/util/function/BiFunction;" A U U.heap
theorem Gl.same {g : GG} {A : Nat → Prop} {u U : State} (hv : U.vm = u.vm) (hh : U.heap = u.heap) (h : Gl g A u) : Gl g A U := by
  obtain ⟨h1, h2, h3, h4, h5, h6, h7, h8⟩ := h
  have hl : u.vm.Alike U.vm := by rw [hv]; exact Vm.Alike.refl _
  exact ⟨va_Nw.same rfl hv.symm h1, va_Nw.same rfl hv.symm h2, by rw [hh]; exact h3.moved hl, by rw [hh]; exact h4.moved hl, by rw [hh]; exact h5.moved hl, fun i hi => vk_R.same hv (h6 i hi), by rw [hh]; exact h7.moved hl, by rw [hh]; exact h8.moved hl⟩
theorem Gl.call {g : GG} {A B : Nat → Prop} {s U : State} {H : Heap} {locs : List Loc} (h : Gl g A s) (hS : va_S A s.heap H locs) (hAB : ∀ q, B q → A q) (hU : U.heap = H) (hW : s.WarmedH U.vm) : Gl g B U := by
  obtain ⟨h1, h2, h3, h4, h5, h6, h7, h8⟩ := h
  have hl : s.vm.Alike U.vm := hW.alike
  exact ⟨va_Nw.warmM hW h1, va_Nw.warmM hW h2, by rw [hU]; exact ((h3.kept hS.2.1).narrow hAB).moved hl, by rw [hU]; exact ((h4.kept hS.2.1).narrow hAB).moved hl, by rw [hU]; exact ((h5.kept hS.2.1).narrow hAB).moved hl, fun i hi => vk_R.warm hW (h6 i hi), by rw [hU]; exact ((h7.kept hS.2.1).narrow hAB).moved hl, by rw [hU]; exact ((h8.kept hS.2.1).narrow hAB).moved hl⟩
/-! contracts -/
def CQ (g : GG) (h0 : Hp) (sz : Nat) (post : Option Value → Hp → Prop) : Array Value → State → Outcome → State → Prop := fun _ st oc t =>
  (∃ (v : Option Value) (h' : Hp), oc = .returned v ∧ post v h' ∧ va_P (gD g) vwCl (wl g h') t.heap ∧ va_D (va_A (wl g h0) sz) (wl g h')) ∧ va_F (va_A (wl g h0) sz) st t
def CP (g : GG) (h0 : Hp) (sz : Nat) (U : State) : Prop := U.heap.size = sz ∧ va_P (gD g) vwCl (wl g h0) U.heap ∧ va_K (gD g) vwCl (gty g) U ∧ va_D (fun _ => True) (wl g h0) ∧ Gl g (va_A (wl g h0) sz) U
abbrev MM : Type := MethodName × ByteArray × Nat × Option FieldType × Room
def rmM (fr lo : Nat) : Room := { frames := fr, cells := 0, slots := 0, locals := lo }
def CT (l : Launch) (g : GG) (M : MM) (av : List Value) (h : Hp) (post : Option Value → Hp → Prop) : Prop :=
  ∀ sz : Nat, Met l M.1 (Cond.code M.1 M.2.1 M.2.2.1 M.2.2.2.1 :: gTb) M.2.2.2.2 (va_Pc av (CP g h sz)) (CQ g h sz post) 0 0 (va_A (wl g h) sz)
theorem CP_blind {g : GG} {h : Hp} {sz : Nat} {av : List Value} : FrameBlind (va_Pc av (CP g h sz)) := by
  intro a U gg mk q
  obtain ⟨q0, q1, q2, q3, q4, q5⟩ := q
  exact ⟨q0, q1, q2, va_K.moved (u := U) (U := U.calling gg mk a) (Vm.Alike.refl U.vm) q3, q4, Gl.same (u := U) rfl rfl q5⟩
section AWL
variable {p : Program} {l : Launch} {e : Env} {R : Room} {s : State} {m : MethodId} {args : Array Value} {below : List Frame} {meth : Method} {c : Code} {g : GG} {A : Nat → Prop} {cc : ByteArray} {nL : Nat} {own : String} {w0 : Cond} {ret : Option FieldType} {cells slots : Nat} {Q : State → Prop} {pc : Nat} {lv : List (Option Value)} {st : List Value} {h : Hp}
/-- what holds while a method runs -/
def AX (p : Program) (s : State) (m : MethodId) (args : Array Value) (meth : Method) (c : Code) (g : GG) (A : Nat → Prop) (cc : ByteArray) (nL : Nat) (own : String) (w0 : Cond) (ret : Option FieldType) : Prop :=
  CallFix p m c cc nL s args (w0 :: gTb) own ∧ va_K (gD g) vwCl (gty g) s ∧ Gl g A s ∧ (∀ q, s.heap.size ≤ q → A q) ∧ meth.sig.returnType = ret ∧ meth.locks = false
def AW (p : Program) (l : Launch) (e : Env) (R : Room) (s : State) (m : MethodId) (args : Array Value) (below : List Frame) (meth : Method) (c : Code) (g : GG) (A : Nat → Prop) (nL : Nat) (cells slots : Nat) (Q : State → Prop) (pc : Nat) (lv : List (Option Value)) (st : List Value) (h : Hp) : Prop :=
  ∀ (H : Heap) (locs : List Loc) (ls : Array Slot), va_P (gD g) vwCl (wl g h) H → va_D A (wl g h) → va_S A s.heap H locs → lvh ls nL lv → W p l e R s m args below meth c H locs cells slots Q (F0 m pc ls st)
theorem ct_start {M : MM} {av : List Value} {post : Option Value → Hp → Prop} (hy : plainName M.1.cls = true) (hlen : (lg_sl av).length ≤ M.2.2.1)
    (body : ∀ (p : Program) (e : Env) (s : State) (m : MethodId) (args : Array Value) (below : List Frame) (meth : Method) (c : Code) (A : Nat → Prop), AX p s m args meth c g A M.2.1 M.2.2.1 M.1.cls (Cond.code M.1 M.2.1 M.2.2.1 M.2.2.2.1) M.2.2.2.1 →
      A = va_A (wl g h) s.heap.size → AW p l e M.2.2.2.2 s m args below meth c g A M.2.2.1 0 0 (MQ below (CQ g h s.heap.size post) args s 0 0 A) 0 (ent av M.2.2.1) [] h) : CT l g M av h post := by
  intro sz
  refine Met.ofW (cc := M.2.1) (maxL := M.2.2.1) (ret := M.2.2.2.1) hy rfl ?_
  intro p e s m args below meth c s₁ B hml hv
  obtain ⟨rfl, rfl, hP, hK, hD0, hG⟩ := hv
  have hts := atoms_spec (ws := Cond.code M.1 M.2.1 M.2.2.1 M.2.2.2.1 :: gTb) B.pre
  have hown : s.vm.findClass M.1.cls = some m.cls := findClass_of_methodNamed B.named
  have hD := hD0.self (sz := s.heap.size)
  have hl := lv_entry av (n := M.2.2.1) hlen
  rw [lg_entry_eq]
  refine body p e s m _ below meth c _ ⟨⟨B.exec, B.bytes, hml, hown, hts⟩, hK, hG, fun q hq => Or.inr hq, B.returns, B.notSynchronized⟩ rfl s.heap [] _ hP hD va_S.rf ⟨hl.1, hl.2.1, fun i v hi => ?_⟩
  have := ent_args av M.2.2.1 i 0 v hi
  rw [Nat.zero_add] at this
  exact hl.2.2 (i, v) this
end AWL
