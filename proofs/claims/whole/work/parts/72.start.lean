/-! the law's start: what the Statement gives -/
theorem st_fl {args : Array Value} {s : State} (h : (Jvm.Cond.and given_1 narrow_1).before args s = true) {w : Cond} (i : Nat) (hi : (flatC (Jvm.Cond.and given_1 narrow_1))[i]? = some w) : w.before args s = true := flat_of_before _ h _ (List.mem_of_getElem? hi)
def tmS (i : Nat) : Term := Term.string RX3 (txIdx.getD i 0)
theorem st_ex {args : Array Value} {s : State} (hgv : (Jvm.Cond.and given_1 narrow_1).before args s = true) (i : Nat) (hi : i < 9) : (Cond.exactly (tmS i) "java/lang/String").before args s = true := by
  rcases lt9 hi with rfl | rfl | rfl | rfl | rfl | rfl | rfl | rfl | rfl
  · exact (st_fl hgv 18 (by decide +kernel))
  · exact (st_fl hgv 28 (by decide +kernel))
  · exact (st_fl hgv 38 (by decide +kernel))
  · exact (st_fl hgv 47 (by decide +kernel))
  · exact (st_fl hgv 62 (by decide +kernel))
  · exact (st_fl hgv 77 (by decide +kernel))
  · exact (st_fl hgv 94 (by decide +kernel))
  · exact (st_fl hgv 109 (by decide +kernel))
  · exact (st_fl hgv 124 (by decide +kernel))
theorem st_co {args : Array Value} {s : State} (hgv : (Jvm.Cond.and given_1 narrow_1).before args s = true) (i : Nat) (hi : i < 9) : (Cond.eq (.field (tmS i) "java/lang/String" "coder" "B") (.int 0)).before args s = true := by
  rcases lt9 hi with rfl | rfl | rfl | rfl | rfl | rfl | rfl | rfl | rfl
  · exact (st_fl hgv 19 (by decide +kernel))
  · exact (st_fl hgv 29 (by decide +kernel))
  · exact (st_fl hgv 39 (by decide +kernel))
  · exact (st_fl hgv 48 (by decide +kernel))
  · exact (st_fl hgv 63 (by decide +kernel))
  · exact (st_fl hgv 78 (by decide +kernel))
  · exact (st_fl hgv 95 (by decide +kernel))
  · exact (st_fl hgv 110 (by decide +kernel))
  · exact (st_fl hgv 125 (by decide +kernel))
theorem st_ar {args : Array Value} {s : State} (hgv : (Jvm.Cond.and given_1 narrow_1).before args s = true) (i : Nat) (hi : i < 9) : (Cond.arrayOf (.field (tmS i) "java/lang/String" "value" "[B") .byte).before args s = true := by
  rcases lt9 hi with rfl | rfl | rfl | rfl | rfl | rfl | rfl | rfl | rfl
  · exact (st_fl hgv 20 (by decide +kernel))
  · exact (st_fl hgv 30 (by decide +kernel))
  · exact (st_fl hgv 40 (by decide +kernel))
  · exact (st_fl hgv 49 (by decide +kernel))
  · exact (st_fl hgv 64 (by decide +kernel))
  · exact (st_fl hgv 79 (by decide +kernel))
  · exact (st_fl hgv 96 (by decide +kernel))
  · exact (st_fl hgv 111 (by decide +kernel))
  · exact (st_fl hgv 126 (by decide +kernel))
theorem st_le {args : Array Value} {s : State} (hgv : (Jvm.Cond.and given_1 narrow_1).before args s = true) (i : Nat) (hi : i < 9) : (Cond.eq (.length (.field (tmS i) "java/lang/String" "value" "[B")) (.int (Int32.ofNat (txLen.getD i 0)))).before args s = true := by
  rcases lt9 hi with rfl | rfl | rfl | rfl | rfl | rfl | rfl | rfl | rfl
  · exact (st_fl hgv 21 (by decide +kernel))
  · exact (st_fl hgv 31 (by decide +kernel))
  · exact (st_fl hgv 41 (by decide +kernel))
  · exact (st_fl hgv 50 (by decide +kernel))
  · exact (st_fl hgv 65 (by decide +kernel))
  · exact (st_fl hgv 80 (by decide +kernel))
  · exact (st_fl hgv 97 (by decide +kernel))
  · exact (st_fl hgv 112 (by decide +kernel))
  · exact (st_fl hgv 127 (by decide +kernel))
theorem st_el {args : Array Value} {s : State} (hgv : (Jvm.Cond.and given_1 narrow_1).before args s = true) (i : Nat) (hi : i < 9) (j : Nat) (hj : j < txLen.getD i 0) : (Cond.eq (.elem (.field (tmS i) "java/lang/String" "value" "[B") (.int (Int32.ofNat j))) (.int ((txByt.getD i []).getD j 0))).before args s = true := by
  rcases lt9 hi with rfl | rfl | rfl | rfl | rfl | rfl | rfl | rfl | rfl
  · have hj : j < 6 := hj
    rcases (show j = 0 ∨ j = 1 ∨ j = 2 ∨ j = 3 ∨ j = 4 ∨ j = 5 by omega) with rfl | rfl | rfl | rfl | rfl | rfl
    · exact (st_fl hgv 22 (by decide +kernel))
    · exact (st_fl hgv 23 (by decide +kernel))
    · exact (st_fl hgv 24 (by decide +kernel))
    · exact (st_fl hgv 25 (by decide +kernel))
    · exact (st_fl hgv 26 (by decide +kernel))
    · exact (st_fl hgv 27 (by decide +kernel))
  · have hj : j < 5 := hj
    rcases (show j = 0 ∨ j = 1 ∨ j = 2 ∨ j = 3 ∨ j = 4 by omega) with rfl | rfl | rfl | rfl | rfl
    · exact (st_fl hgv 32 (by decide +kernel))
    · exact (st_fl hgv 33 (by decide +kernel))
    · exact (st_fl hgv 34 (by decide +kernel))
    · exact (st_fl hgv 35 (by decide +kernel))
    · exact (st_fl hgv 36 (by decide +kernel))
  · have hj : j < 3 := hj
    rcases (show j = 0 ∨ j = 1 ∨ j = 2 by omega) with rfl | rfl | rfl
    · exact (st_fl hgv 42 (by decide +kernel))
    · exact (st_fl hgv 43 (by decide +kernel))
    · exact (st_fl hgv 44 (by decide +kernel))
  · have hj : j < 8 := hj
    rcases (show j = 0 ∨ j = 1 ∨ j = 2 ∨ j = 3 ∨ j = 4 ∨ j = 5 ∨ j = 6 ∨ j = 7 by omega) with rfl | rfl | rfl | rfl | rfl | rfl | rfl | rfl
    · exact (st_fl hgv 51 (by decide +kernel))
    · exact (st_fl hgv 52 (by decide +kernel))
    · exact (st_fl hgv 53 (by decide +kernel))
    · exact (st_fl hgv 54 (by decide +kernel))
    · exact (st_fl hgv 55 (by decide +kernel))
    · exact (st_fl hgv 56 (by decide +kernel))
    · exact (st_fl hgv 57 (by decide +kernel))
    · exact (st_fl hgv 58 (by decide +kernel))
  · have hj : j < 7 := hj
    rcases (show j = 0 ∨ j = 1 ∨ j = 2 ∨ j = 3 ∨ j = 4 ∨ j = 5 ∨ j = 6 by omega) with rfl | rfl | rfl | rfl | rfl | rfl | rfl
    · exact (st_fl hgv 66 (by decide +kernel))
    · exact (st_fl hgv 67 (by decide +kernel))
    · exact (st_fl hgv 68 (by decide +kernel))
    · exact (st_fl hgv 69 (by decide +kernel))
    · exact (st_fl hgv 70 (by decide +kernel))
    · exact (st_fl hgv 71 (by decide +kernel))
    · exact (st_fl hgv 72 (by decide +kernel))
  · have hj : j < 8 := hj
    rcases (show j = 0 ∨ j = 1 ∨ j = 2 ∨ j = 3 ∨ j = 4 ∨ j = 5 ∨ j = 6 ∨ j = 7 by omega) with rfl | rfl | rfl | rfl | rfl | rfl | rfl | rfl
    · exact (st_fl hgv 81 (by decide +kernel))
    · exact (st_fl hgv 82 (by decide +kernel))
    · exact (st_fl hgv 83 (by decide +kernel))
    · exact (st_fl hgv 84 (by decide +kernel))
    · exact (st_fl hgv 85 (by decide +kernel))
    · exact (st_fl hgv 86 (by decide +kernel))
    · exact (st_fl hgv 87 (by decide +kernel))
    · exact (st_fl hgv 88 (by decide +kernel))
  · have hj : j < 5 := hj
    rcases (show j = 0 ∨ j = 1 ∨ j = 2 ∨ j = 3 ∨ j = 4 by omega) with rfl | rfl | rfl | rfl | rfl
    · exact (st_fl hgv 98 (by decide +kernel))
    · exact (st_fl hgv 99 (by decide +kernel))
    · exact (st_fl hgv 100 (by decide +kernel))
    · exact (st_fl hgv 101 (by decide +kernel))
    · exact (st_fl hgv 102 (by decide +kernel))
  · have hj : j < 4 := hj
    rcases (show j = 0 ∨ j = 1 ∨ j = 2 ∨ j = 3 by omega) with rfl | rfl | rfl | rfl
    · exact (st_fl hgv 113 (by decide +kernel))
    · exact (st_fl hgv 114 (by decide +kernel))
    · exact (st_fl hgv 115 (by decide +kernel))
    · exact (st_fl hgv 116 (by decide +kernel))
  · have hj : j < 4 := hj
    rcases (show j = 0 ∨ j = 1 ∨ j = 2 ∨ j = 3 by omega) with rfl | rfl | rfl | rfl
    · exact (st_fl hgv 128 (by decide +kernel))
    · exact (st_fl hgv 129 (by decide +kernel))
    · exact (st_fl hgv 130 (by decide +kernel))
    · exact (st_fl hgv 131 (by decide +kernel))
theorem st_ne {args : Array Value} {s : State} (hgv : (Jvm.Cond.and given_1 narrow_1).before args s = true) (i j : Nat) (hij : i < j) (hj : j < 9) : (Cond.not (Cond.eq (tmS i) (tmS j))).before args s = true := by
  rcases lt9 hj with rfl | rfl | rfl | rfl | rfl | rfl | rfl | rfl | rfl
  · exact absurd hij (by omega)
  · rcases (show i = 0 by omega) with rfl
    · exact (st_fl hgv 37 (by decide +kernel))
  · rcases (show i = 0 ∨ i = 1 by omega) with rfl | rfl
    · exact (st_fl hgv 45 (by decide +kernel))
    · exact (st_fl hgv 46 (by decide +kernel))
  · rcases (show i = 0 ∨ i = 1 ∨ i = 2 by omega) with rfl | rfl | rfl
    · exact (st_fl hgv 59 (by decide +kernel))
    · exact (st_fl hgv 60 (by decide +kernel))
    · exact (st_fl hgv 61 (by decide +kernel))
  · rcases (show i = 0 ∨ i = 1 ∨ i = 2 ∨ i = 3 by omega) with rfl | rfl | rfl | rfl
    · exact (st_fl hgv 73 (by decide +kernel))
    · exact (st_fl hgv 74 (by decide +kernel))
    · exact (st_fl hgv 75 (by decide +kernel))
    · exact (st_fl hgv 76 (by decide +kernel))
  · rcases (show i = 0 ∨ i = 1 ∨ i = 2 ∨ i = 3 ∨ i = 4 by omega) with rfl | rfl | rfl | rfl | rfl
    · exact (st_fl hgv 89 (by decide +kernel))
    · exact (st_fl hgv 90 (by decide +kernel))
    · exact (st_fl hgv 91 (by decide +kernel))
    · exact (st_fl hgv 92 (by decide +kernel))
    · exact (st_fl hgv 93 (by decide +kernel))
  · rcases (show i = 0 ∨ i = 1 ∨ i = 2 ∨ i = 3 ∨ i = 4 ∨ i = 5 by omega) with rfl | rfl | rfl | rfl | rfl | rfl
    · exact (st_fl hgv 103 (by decide +kernel))
    · exact (st_fl hgv 104 (by decide +kernel))
    · exact (st_fl hgv 105 (by decide +kernel))
    · exact (st_fl hgv 106 (by decide +kernel))
    · exact (st_fl hgv 107 (by decide +kernel))
    · exact (st_fl hgv 108 (by decide +kernel))
  · rcases (show i = 0 ∨ i = 1 ∨ i = 2 ∨ i = 3 ∨ i = 4 ∨ i = 5 ∨ i = 6 by omega) with rfl | rfl | rfl | rfl | rfl | rfl | rfl
    · exact (st_fl hgv 117 (by decide +kernel))
    · exact (st_fl hgv 118 (by decide +kernel))
    · exact (st_fl hgv 119 (by decide +kernel))
    · exact (st_fl hgv 120 (by decide +kernel))
    · exact (st_fl hgv 121 (by decide +kernel))
    · exact (st_fl hgv 122 (by decide +kernel))
    · exact (st_fl hgv 123 (by decide +kernel))
  · rcases (show i = 0 ∨ i = 1 ∨ i = 2 ∨ i = 3 ∨ i = 4 ∨ i = 5 ∨ i = 6 ∨ i = 7 by omega) with rfl | rfl | rfl | rfl | rfl | rfl | rfl | rfl
    · exact (st_fl hgv 132 (by decide +kernel))
    · exact (st_fl hgv 133 (by decide +kernel))
    · exact (st_fl hgv 134 (by decide +kernel))
    · exact (st_fl hgv 135 (by decide +kernel))
    · exact (st_fl hgv 136 (by decide +kernel))
    · exact (st_fl hgv 137 (by decide +kernel))
    · exact (st_fl hgv 138 (by decide +kernel))
    · exact (st_fl hgv 139 (by decide +kernel))
theorem st_ab {args : Array Value} {s : State} (hgv : (Jvm.Cond.and given_1 narrow_1).before args s = true) {A : Nat → Prop} (hA : ∀ a, a < s.heap.size → ¬ A a) : ∃ t : Nat, (Term.static RX1 "ABOVE" "[I").eval args s none [] s = some (.ref t) ∧ va_T .int t 6 aboveF A s s.heap := by
  refine va_Tof (by decide) (st_fl hgv 5 (by decide +kernel)) (va_eqt (st_fl hgv 6 (by decide +kernel))) (fun j hj => ?_) hA
  rcases (show j = 0 ∨ j = 1 ∨ j = 2 ∨ j = 3 ∨ j = 4 ∨ j = 5 by omega) with rfl | rfl | rfl | rfl | rfl | rfl
  · exact va_eqt (st_fl hgv 7 (by decide +kernel))
  · exact va_eqt (st_fl hgv 8 (by decide +kernel))
  · exact va_eqt (st_fl hgv 9 (by decide +kernel))
  · exact va_eqt (st_fl hgv 10 (by decide +kernel))
  · exact va_eqt (st_fl hgv 11 (by decide +kernel))
  · exact va_eqt (st_fl hgv 12 (by decide +kernel))
theorem gl_start {args : Array Value} {s : State} (hgv : (Jvm.Cond.and given_1 narrow_1).before args s = true) {A : Nat → Prop} (hts : ∀ w ∈ lw_tbl, w.before args s = true) (hA : ∀ a, a < s.heap.size → ¬ A a) : ∃ (kB : Nat) (kK kV : Nat → Nat), ∀ g : GG, gB g = kB → gK g = kK → gV g = kV → Gl g A s := by
  obtain ⟨kB, hb1, hb2⟩ := st_ab hgv hA
  obtain ⟨kK, kV, hs1, hs2⟩ := vk_Sof (N := 9) (tm := tmS) (len := txLen) (byt := txByt) (A := A) (fun i hi => tx_31 hi) (st_ex hgv) (st_co hgv) (st_ar hgv) (st_le hgv) (fun i hi j hj => st_el hgv i hi j hj) (fun i j hi hj hij => by
    rcases Nat.lt_or_gt_of_ne hij with h | h
    · exact Or.inl (st_ne hgv i j h hj)
    · exact Or.inr (st_ne hgv j i h hi)) hA
  refine ⟨kB, kK, kV, fun g e1 e2 e3 => ⟨va_Nw.of rfl (hts _ (List.mem_of_getElem? (i := 216) (by decide +kernel))), va_Nw.of rfl (hts _ (List.mem_of_getElem? (i := 563) (by decide +kernel))), ?_, ?_, ?_, ?_, ?_, ?_⟩⟩
  · rw [e1]
    exact va_Zref (hts _ (List.mem_of_getElem? (i := 351) (by decide +kernel))) (hts _ (List.mem_of_getElem? (i := 62) (by decide +kernel))) hb1 hA
  · rw [e1]; exact hb2
  · rw [e2, e3]; exact hs1
  · intro i hi
    rw [e2]
    have hz := hs2 i hi
    rcases lt9 hi with rfl | rfl | rfl | rfl | rfl | rfl | rfl | rfl | rfl
    · exact vk_R.of (hts _ (List.mem_of_getElem? (i := 482) (by decide +kernel))) hz
    · exact vk_R.of (hts _ (List.mem_of_getElem? (i := 483) (by decide +kernel))) hz
    · exact vk_R.of (hts _ (List.mem_of_getElem? (i := 484) (by decide +kernel))) hz
    · exact vk_R.of (hts _ (List.mem_of_getElem? (i := 485) (by decide +kernel))) hz
    · exact vk_R.of (hts _ (List.mem_of_getElem? (i := 486) (by decide +kernel))) hz
    · exact vk_R.of (hts _ (List.mem_of_getElem? (i := 487) (by decide +kernel))) hz
    · exact vk_R.of (hts _ (List.mem_of_getElem? (i := 488) (by decide +kernel))) hz
    · exact vk_R.of (hts _ (List.mem_of_getElem? (i := 489) (by decide +kernel))) hz
    · exact vk_R.of (hts _ (List.mem_of_getElem? (i := 490) (by decide +kernel))) hz
  · exact va_Zof (hts _ (List.mem_of_getElem? (i := 504) (by decide +kernel))) (hts _ (List.mem_of_getElem? (i := 65) (by decide +kernel))) (va_eqi (st_fl hgv 13 (by decide +kernel))) hA
  · exact va_Zqof (hts _ (List.mem_of_getElem? (i := 520) (by decide +kernel))) (hts _ (List.mem_of_getElem? (i := 67) (by decide +kernel))) (st_fl hgv 14 (by decide +kernel)) hA
theorem gTb_all {args : Array Value} {s : State} (hts : ∀ w ∈ lw_tbl, w.before args s = true) : ∀ w ∈ gTb, w.before args s = true := fun w hw => hts w (gTb_tbl hw)
theorem arr_start {args : Array Value} {s : State} {ty : FieldType} (hno : ∀ C, ty ≠ .object C) (h : (Cond.arrayClass ty).before args s = true) : ∃ cA : ClassId, ArrOfT s cA ty ∧ va_RA s cA ty := by
  obtain ⟨cA, kA, comp, h1, h2, h3⟩ := Cond.arrayClass_spec h
  refine ⟨cA, fun n z => ⟨fun k h => (by cases h), kA, h2, comp, h3⟩, ?_⟩
  cases ty with
  | object C => exact absurd rfl (hno C)
  | _ => exact h1
theorem ars_start {args : Array Value} {s : State} {C : String} (h : (Cond.arrayOver (.object C)).before args s = true) : ∃ cA : ClassId, ArrOfT s cA (.object C) ∧ va_RA s cA (.object C) := by
  obtain ⟨comp, cA, kA, h1, h2, h3, h4, h5⟩ := Cond.arrayOver_spec h
  exact ⟨cA, fun n z => ⟨fun k h => (by cases h), kA, h3, comp, h4⟩, kA, comp, h3, h4, h1, h5⟩
theorem k_start {args : Array Value} {s : State} (hts : ∀ w ∈ lw_tbl, w.before args s = true) : ∃ (D : va_G) (cI cJ cS : ClassId), va_K D vwCl [(cI, .int), (cJ, .long), (cS, .object RX2)] s := by
  obtain ⟨c0, iS0, hKn0⟩ := u_known (C := RX0) (T := TX0) (N := 11) (n := 11) hts (fun w hw => gTb_tbl (in_X0 w hw)) (hts _ (gTb_tbl is_X0))
  obtain ⟨c1, iS1, hKn1⟩ := u_known (C := RX2) (T := TX2) (N := 3) (n := 3) hts (fun w hw => gTb_tbl (in_X2 w hw)) (hts _ (gTb_tbl is_X2))
  obtain ⟨c2, iS2, hKn2⟩ := u_known (C := RX3) (T := TX3) (N := 6) (n := 6) hts (fun w hw => gTb_tbl (in_X3 w hw)) (hts _ (gTb_tbl is_X3))
  obtain ⟨c3, iS3, hKn3⟩ := u_known (C := RX4) (T := TX4) (N := 7) (n := 7) hts (fun w hw => gTb_tbl (in_X4 w hw)) (hts _ (gTb_tbl is_X4))
  obtain ⟨c4, iS4, hKn4⟩ := u_known (C := RX5) (T := TX5) (N := 21) (n := 21) hts (fun w hw => gTb_tbl (in_X5 w hw)) (hts _ (gTb_tbl is_X5))
  obtain ⟨cI, a1, a2⟩ := arr_start (ty := .int) (fun C h => by cases h) (hts _ (gTb_tbl aw_int))
  obtain ⟨cJ, b1, b2⟩ := arr_start (ty := .long) (fun C h => by cases h) (hts _ (gTb_tbl aw_long))
  obtain ⟨cS, d1, d2⟩ := ars_start (C := RX2) (hts _ (List.mem_of_getElem? (i := 158) (by decide +kernel)))
  refine ⟨(fun k => if k = 0 then c0 else if k = 1 then c1 else if k = 2 then c2 else if k = 3 then c3 else c4, fun k => if k = 0 then iS0 else if k = 1 then iS1 else if k = 2 then iS2 else if k = 3 then iS3 else iS4), cI, cJ, cS, ?_, ?_⟩
  · intro k q hq
    match k, hq with
    | 0, hq => cases hq; exact hKn0
    | 1, hq => cases hq; exact hKn1
    | 2, hq => cases hq; exact hKn2
    | 3, hq => cases hq; exact hKn3
    | 4, hq => cases hq; exact hKn4
    | k + 5, hq => simp [vwCl] at hq
  · intro k q hq
    match k, hq with
    | 0, hq => cases hq; exact ⟨a1, a2⟩
    | 1, hq => cases hq; exact ⟨b1, b2⟩
    | 2, hq => cases hq; exact ⟨d1, d2⟩
    | k + 3, hq => simp at hq
theorem ex_start {args : Array Value} {s : State} (hts : ∀ w ∈ lw_tbl, w.before args s = true) : Ex s := ⟨va_AO.of (hts _ (List.mem_of_getElem? (i := 158) (by decide +kernel))), va_Nw.of rfl (hts _ (List.mem_of_getElem? (i := 133) (by decide +kernel))), va_Nw.of rfl (hts _ (List.mem_of_getElem? (i := 160) (by decide +kernel)))⟩
