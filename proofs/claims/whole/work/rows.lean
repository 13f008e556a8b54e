section
-- ===== PART A: goes FIRST, ahead of the names: the tables' words, and 'selects' of the private methods out of them =====
/-- a private method of a class that the tables say can be made, by its rows of tables_1 -/
def lw_okq (q : MethodName × Nat) : Prop := (q.1.cls ≠ "java/lang/invoke/MethodHandle" ∧ q.1.cls ≠ "java/lang/invoke/VarHandle") ∧ Cond.instantiable q.1.cls q.2 ∈ tables_1 ∧ Cond.privateMethod q.1 ∈ tables_1 ∧ Cond.instanceMethod q.1 ∈ tables_1
theorem lw_p0 : lw_okq (⟨"BackVerses", "found", "(I)I"⟩, 7) := ⟨⟨by decide +kernel, by decide +kernel⟩, List.mem_of_getElem? (i := 16) (by decide +kernel), List.mem_of_getElem? (i := 155) (by decide +kernel), List.mem_of_getElem? (i := 156) (by decide +kernel)⟩
theorem lw_p1 : lw_okq (⟨"BackVerses", "rowOf", "(I)[I"⟩, 7) := ⟨⟨by decide +kernel, by decide +kernel⟩, List.mem_of_getElem? (i := 16) (by decide +kernel), List.mem_of_getElem? (i := 269) (by decide +kernel), List.mem_of_getElem? (i := 270) (by decide +kernel)⟩
theorem lw_p2 : lw_okq (⟨"BackVerses$Chapel", "findOut", "(I)V"⟩, 11) := ⟨⟨by decide +kernel, by decide +kernel⟩, List.mem_of_getElem? (i := 24) (by decide +kernel), List.mem_of_getElem? (i := 313) (by decide +kernel), List.mem_of_getElem? (i := 314) (by decide +kernel)⟩
theorem lw_p3 : lw_okq (⟨"BackVerses$Tape", "advance", "()V"⟩, 6) := ⟨⟨by decide +kernel, by decide +kernel⟩, List.mem_of_getElem? (i := 78) (by decide +kernel), List.mem_of_getElem? (i := 415) (by decide +kernel), List.mem_of_getElem? (i := 416) (by decide +kernel)⟩
theorem lw_p4 : lw_okq (⟨"BackVerses$Tape", "takeWord", "()V"⟩, 6) := ⟨⟨by decide +kernel, by decide +kernel⟩, List.mem_of_getElem? (i := 78) (by decide +kernel), List.mem_of_getElem? (i := 422) (by decide +kernel), List.mem_of_getElem? (i := 423) (by decide +kernel)⟩
theorem lw_p5 : lw_okq (⟨"BackVerses$Tape", "isWord", "(Ljava/lang/String;)Z"⟩, 6) := ⟨⟨by decide +kernel, by decide +kernel⟩, List.mem_of_getElem? (i := 78) (by decide +kernel), List.mem_of_getElem? (i := 438) (by decide +kernel), List.mem_of_getElem? (i := 439) (by decide +kernel)⟩
theorem lw_p6 : lw_okq (⟨"BackVerses$Tape", "takeNumber", "()V"⟩, 6) := ⟨⟨by decide +kernel, by decide +kernel⟩, List.mem_of_getElem? (i := 78) (by decide +kernel), List.mem_of_getElem? (i := 493) (by decide +kernel), List.mem_of_getElem? (i := 494) (by decide +kernel)⟩
theorem lw_p7 : lw_okq (⟨"BackVerses$Tape", "takesItem", "(LBackVerses$Chapel;)Z"⟩, 6) := ⟨⟨by decide +kernel, by decide +kernel⟩, List.mem_of_getElem? (i := 78) (by decide +kernel), List.mem_of_getElem? (i := 498) (by decide +kernel), List.mem_of_getElem? (i := 499) (by decide +kernel)⟩
theorem lw_p8 : lw_okq (⟨"BackVerses$Tape", "takesKnows", "(LBackVerses$Chapel;)Z"⟩, 6) := ⟨⟨by decide +kernel, by decide +kernel⟩, List.mem_of_getElem? (i := 78) (by decide +kernel), List.mem_of_getElem? (i := 502) (by decide +kernel), List.mem_of_getElem? (i := 503) (by decide +kernel)⟩
theorem lw_p9 : lw_okq (⟨"BackVerses$Tape", "atNumber", "(II)Z"⟩, 6) := ⟨⟨by decide +kernel, by decide +kernel⟩, List.mem_of_getElem? (i := 78) (by decide +kernel), List.mem_of_getElem? (i := 506) (by decide +kernel), List.mem_of_getElem? (i := 507) (by decide +kernel)⟩
theorem lw_p10 : lw_okq (⟨"BackVerses$Tape", "takesMove", "(LBackVerses$Chapel;)Z"⟩, 6) := ⟨⟨by decide +kernel, by decide +kernel⟩, List.mem_of_getElem? (i := 78) (by decide +kernel), List.mem_of_getElem? (i := 511) (by decide +kernel), List.mem_of_getElem? (i := 512) (by decide +kernel)⟩
theorem lw_p11 : lw_okq (⟨"BackVerses$Tape", "atEmptySeat", "(LBackVerses$Chapel;)Z"⟩, 6) := ⟨⟨by decide +kernel, by decide +kernel⟩, List.mem_of_getElem? (i := 78) (by decide +kernel), List.mem_of_getElem? (i := 515) (by decide +kernel), List.mem_of_getElem? (i := 516) (by decide +kernel)⟩
theorem lw_p12 : lw_okq (⟨"BackVerses$Tape", "takesMember", "(LBackVerses$Chapel;)Z"⟩, 6) := ⟨⟨by decide +kernel, by decide +kernel⟩, List.mem_of_getElem? (i := 78) (by decide +kernel), List.mem_of_getElem? (i := 522) (by decide +kernel), List.mem_of_getElem? (i := 523) (by decide +kernel)⟩
theorem lw_p13 : lw_okq (⟨"BackVerses", "trialGoesAs", "(LBackVerses$Sheet;I)Z"⟩, 7) := ⟨⟨by decide +kernel, by decide +kernel⟩, List.mem_of_getElem? (i := 16) (by decide +kernel), List.mem_of_getElem? (i := 579) (by decide +kernel), List.mem_of_getElem? (i := 580) (by decide +kernel)⟩
theorem lw_p14 : lw_okq (⟨"BackVersesModel", "whoIn", "(I)I"⟩, 21) := ⟨⟨by decide +kernel, by decide +kernel⟩, List.mem_of_getElem? (i := 603) (by decide +kernel), List.mem_of_getElem? (i := 683) (by decide +kernel), List.mem_of_getElem? (i := 684) (by decide +kernel)⟩
theorem lw_p15 : lw_okq (⟨"BackVersesModel", "its", "(II)I"⟩, 21) := ⟨⟨by decide +kernel, by decide +kernel⟩, List.mem_of_getElem? (i := 603) (by decide +kernel), List.mem_of_getElem? (i := 687) (by decide +kernel), List.mem_of_getElem? (i := 688) (by decide +kernel)⟩
def lw_privs_1 : List (MethodName × Nat) := [(⟨"BackVerses", "found", "(I)I"⟩, 7), (⟨"BackVerses", "rowOf", "(I)[I"⟩, 7), (⟨"BackVerses$Chapel", "findOut", "(I)V"⟩, 11), (⟨"BackVerses$Tape", "advance", "()V"⟩, 6), (⟨"BackVerses$Tape", "takeWord", "()V"⟩, 6), (⟨"BackVerses$Tape", "isWord", "(Ljava/lang/String;)Z"⟩, 6), (⟨"BackVerses$Tape", "takeNumber", "()V"⟩, 6), (⟨"BackVerses$Tape", "takesItem", "(LBackVerses$Chapel;)Z"⟩, 6), (⟨"BackVerses$Tape", "takesKnows", "(LBackVerses$Chapel;)Z"⟩, 6), (⟨"BackVerses$Tape", "atNumber", "(II)Z"⟩, 6), (⟨"BackVerses$Tape", "takesMove", "(LBackVerses$Chapel;)Z"⟩, 6), (⟨"BackVerses$Tape", "atEmptySeat", "(LBackVerses$Chapel;)Z"⟩, 6), (⟨"BackVerses$Tape", "takesMember", "(LBackVerses$Chapel;)Z"⟩, 6), (⟨"BackVerses", "trialGoesAs", "(LBackVerses$Sheet;I)Z"⟩, 7), (⟨"BackVersesModel", "whoIn", "(I)I"⟩, 21), (⟨"BackVersesModel", "its", "(II)I"⟩, 21)]
theorem lw_r1 : ∀ q ∈ lw_privs_1, lw_okq q := List.forall_mem_cons.mpr ⟨lw_p0, List.forall_mem_cons.mpr ⟨lw_p1, List.forall_mem_cons.mpr ⟨lw_p2, List.forall_mem_cons.mpr ⟨lw_p3, List.forall_mem_cons.mpr ⟨lw_p4, List.forall_mem_cons.mpr ⟨lw_p5, List.forall_mem_cons.mpr ⟨lw_p6, List.forall_mem_cons.mpr ⟨lw_p7, List.forall_mem_cons.mpr ⟨lw_p8, List.forall_mem_cons.mpr ⟨lw_p9, List.forall_mem_cons.mpr ⟨lw_p10, List.forall_mem_cons.mpr ⟨lw_p11, List.forall_mem_cons.mpr ⟨lw_p12, List.forall_mem_cons.mpr ⟨lw_p13, List.forall_mem_cons.mpr ⟨lw_p14, List.forall_mem_cons.mpr ⟨lw_p15, fun _ h => absurd h List.not_mem_nil⟩⟩⟩⟩⟩⟩⟩⟩⟩⟩⟩⟩⟩⟩⟩⟩
theorem lw_p16 : lw_okq (⟨"BackVersesModel", "finds", "(I)I"⟩, 21) := ⟨⟨by decide +kernel, by decide +kernel⟩, List.mem_of_getElem? (i := 603) (by decide +kernel), List.mem_of_getElem? (i := 692) (by decide +kernel), List.mem_of_getElem? (i := 693) (by decide +kernel)⟩
theorem lw_p17 : lw_okq (⟨"BackVersesModel", "gaps", "()I"⟩, 21) := ⟨⟨by decide +kernel, by decide +kernel⟩, List.mem_of_getElem? (i := 603) (by decide +kernel), List.mem_of_getElem? (i := 700) (by decide +kernel), List.mem_of_getElem? (i := 701) (by decide +kernel)⟩
theorem lw_p18 : lw_okq (⟨"BackVersesModel", "seatsTaken", "()I"⟩, 21) := ⟨⟨by decide +kernel, by decide +kernel⟩, List.mem_of_getElem? (i := 603) (by decide +kernel), List.mem_of_getElem? (i := 704) (by decide +kernel), List.mem_of_getElem? (i := 705) (by decide +kernel)⟩
theorem lw_p19 : lw_okq (⟨"BackVersesModel", "standing", "()I"⟩, 21) := ⟨⟨by decide +kernel, by decide +kernel⟩, List.mem_of_getElem? (i := 603) (by decide +kernel), List.mem_of_getElem? (i := 708) (by decide +kernel), List.mem_of_getElem? (i := 709) (by decide +kernel)⟩
theorem lw_p20 : lw_okq (⟨"BackVersesModel", "known", "()I"⟩, 21) := ⟨⟨by decide +kernel, by decide +kernel⟩, List.mem_of_getElem? (i := 603) (by decide +kernel), List.mem_of_getElem? (i := 712) (by decide +kernel), List.mem_of_getElem? (i := 713) (by decide +kernel)⟩
theorem lw_p21 : lw_okq (⟨"BackVersesModel", "knownOfAll", "()I"⟩, 21) := ⟨⟨by decide +kernel, by decide +kernel⟩, List.mem_of_getElem? (i := 603) (by decide +kernel), List.mem_of_getElem? (i := 716) (by decide +kernel), List.mem_of_getElem? (i := 717) (by decide +kernel)⟩
theorem lw_p22 : lw_okq (⟨"BackVersesModel", "sumOf", "(I)I"⟩, 21) := ⟨⟨by decide +kernel, by decide +kernel⟩, List.mem_of_getElem? (i := 603) (by decide +kernel), List.mem_of_getElem? (i := 723) (by decide +kernel), List.mem_of_getElem? (i := 724) (by decide +kernel)⟩
theorem lw_p23 : lw_okq (⟨"BackVersesModel", "adds", "(IIII)V"⟩, 21) := ⟨⟨by decide +kernel, by decide +kernel⟩, List.mem_of_getElem? (i := 603) (by decide +kernel), List.mem_of_getElem? (i := 744) (by decide +kernel), List.mem_of_getElem? (i := 745) (by decide +kernel)⟩
theorem lw_p24 : lw_okq (⟨"BackVersesModel", "puts", "(III)V"⟩, 21) := ⟨⟨by decide +kernel, by decide +kernel⟩, List.mem_of_getElem? (i := 603) (by decide +kernel), List.mem_of_getElem? (i := 748) (by decide +kernel), List.mem_of_getElem? (i := 749) (by decide +kernel)⟩
theorem lw_p25 : lw_okq (⟨"BackVersesModel", "isOne", "(I)Z"⟩, 21) := ⟨⟨by decide +kernel, by decide +kernel⟩, List.mem_of_getElem? (i := 603) (by decide +kernel), List.mem_of_getElem? (i := 756) (by decide +kernel), List.mem_of_getElem? (i := 757) (by decide +kernel)⟩
theorem lw_p26 : lw_okq (⟨"BackVersesModel", "feels", "(I)I"⟩, 21) := ⟨⟨by decide +kernel, by decide +kernel⟩, List.mem_of_getElem? (i := 603) (by decide +kernel), List.mem_of_getElem? (i := 760) (by decide +kernel), List.mem_of_getElem? (i := 761) (by decide +kernel)⟩
theorem lw_p27 : lw_okq (⟨"BackVersesModel", "felt", "(I)I"⟩, 21) := ⟨⟨by decide +kernel, by decide +kernel⟩, List.mem_of_getElem? (i := 603) (by decide +kernel), List.mem_of_getElem? (i := 764) (by decide +kernel), List.mem_of_getElem? (i := 765) (by decide +kernel)⟩
theorem lw_p28 : lw_okq (⟨"BackVersesModel", "isReading", "(I)Z"⟩, 21) := ⟨⟨by decide +kernel, by decide +kernel⟩, List.mem_of_getElem? (i := 603) (by decide +kernel), List.mem_of_getElem? (i := 768) (by decide +kernel), List.mem_of_getElem? (i := 769) (by decide +kernel)⟩
theorem lw_p29 : lw_okq (⟨"BackVersesModel", "tells", "(I)I"⟩, 21) := ⟨⟨by decide +kernel, by decide +kernel⟩, List.mem_of_getElem? (i := 603) (by decide +kernel), List.mem_of_getElem? (i := 772) (by decide +kernel), List.mem_of_getElem? (i := 773) (by decide +kernel)⟩
theorem lw_p30 : lw_okq (⟨"BackVersesModel", "becomes", "(II)I"⟩, 21) := ⟨⟨by decide +kernel, by decide +kernel⟩, List.mem_of_getElem? (i := 603) (by decide +kernel), List.mem_of_getElem? (i := 789) (by decide +kernel), List.mem_of_getElem? (i := 790) (by decide +kernel)⟩
theorem lw_p31 : lw_okq (⟨"BackVersesModel", "passes", "(I)V"⟩, 21) := ⟨⟨by decide +kernel, by decide +kernel⟩, List.mem_of_getElem? (i := 603) (by decide +kernel), List.mem_of_getElem? (i := 811) (by decide +kernel), List.mem_of_getElem? (i := 812) (by decide +kernel)⟩
def lw_privs_2 : List (MethodName × Nat) := [(⟨"BackVersesModel", "finds", "(I)I"⟩, 21), (⟨"BackVersesModel", "gaps", "()I"⟩, 21), (⟨"BackVersesModel", "seatsTaken", "()I"⟩, 21), (⟨"BackVersesModel", "standing", "()I"⟩, 21), (⟨"BackVersesModel", "known", "()I"⟩, 21), (⟨"BackVersesModel", "knownOfAll", "()I"⟩, 21), (⟨"BackVersesModel", "sumOf", "(I)I"⟩, 21), (⟨"BackVersesModel", "adds", "(IIII)V"⟩, 21), (⟨"BackVersesModel", "puts", "(III)V"⟩, 21), (⟨"BackVersesModel", "isOne", "(I)Z"⟩, 21), (⟨"BackVersesModel", "feels", "(I)I"⟩, 21), (⟨"BackVersesModel", "felt", "(I)I"⟩, 21), (⟨"BackVersesModel", "isReading", "(I)Z"⟩, 21), (⟨"BackVersesModel", "tells", "(I)I"⟩, 21), (⟨"BackVersesModel", "becomes", "(II)I"⟩, 21), (⟨"BackVersesModel", "passes", "(I)V"⟩, 21)]
theorem lw_r2 : ∀ q ∈ lw_privs_2, lw_okq q := List.forall_mem_cons.mpr ⟨lw_p16, List.forall_mem_cons.mpr ⟨lw_p17, List.forall_mem_cons.mpr ⟨lw_p18, List.forall_mem_cons.mpr ⟨lw_p19, List.forall_mem_cons.mpr ⟨lw_p20, List.forall_mem_cons.mpr ⟨lw_p21, List.forall_mem_cons.mpr ⟨lw_p22, List.forall_mem_cons.mpr ⟨lw_p23, List.forall_mem_cons.mpr ⟨lw_p24, List.forall_mem_cons.mpr ⟨lw_p25, List.forall_mem_cons.mpr ⟨lw_p26, List.forall_mem_cons.mpr ⟨lw_p27, List.forall_mem_cons.mpr ⟨lw_p28, List.forall_mem_cons.mpr ⟨lw_p29, List.forall_mem_cons.mpr ⟨lw_p30, List.forall_mem_cons.mpr ⟨lw_p31, fun _ h => absurd h List.not_mem_nil⟩⟩⟩⟩⟩⟩⟩⟩⟩⟩⟩⟩⟩⟩⟩⟩
theorem lw_p32 : lw_okq (⟨"BackVersesModel", "oneNight", "()V"⟩, 21) := ⟨⟨by decide +kernel, by decide +kernel⟩, List.mem_of_getElem? (i := 603) (by decide +kernel), List.mem_of_getElem? (i := 815) (by decide +kernel), List.mem_of_getElem? (i := 816) (by decide +kernel)⟩
theorem lw_p33 : lw_okq (⟨"BackVersesModel", "got", "(I)I"⟩, 21) := ⟨⟨by decide +kernel, by decide +kernel⟩, List.mem_of_getElem? (i := 603) (by decide +kernel), List.mem_of_getElem? (i := 819) (by decide +kernel), List.mem_of_getElem? (i := 820) (by decide +kernel)⟩
theorem lw_p34 : lw_okq (⟨"BackVersesModel", "tires", "(I)I"⟩, 21) := ⟨⟨by decide +kernel, by decide +kernel⟩, List.mem_of_getElem? (i := 603) (by decide +kernel), List.mem_of_getElem? (i := 823) (by decide +kernel), List.mem_of_getElem? (i := 824) (by decide +kernel)⟩
theorem lw_p35 : lw_okq (⟨"BackVersesModel", "moveAll", "(Z[I)V"⟩, 21) := ⟨⟨by decide +kernel, by decide +kernel⟩, List.mem_of_getElem? (i := 603) (by decide +kernel), List.mem_of_getElem? (i := 834) (by decide +kernel), List.mem_of_getElem? (i := 835) (by decide +kernel)⟩
theorem lw_p36 : lw_okq (⟨"BackVersesModel", "isKnown", "(II)Z"⟩, 21) := ⟨⟨by decide +kernel, by decide +kernel⟩, List.mem_of_getElem? (i := 603) (by decide +kernel), List.mem_of_getElem? (i := 842) (by decide +kernel), List.mem_of_getElem? (i := 843) (by decide +kernel)⟩
theorem lw_p37 : lw_okq (⟨"BackVersesModel", "isSpread", "(I)Z"⟩, 21) := ⟨⟨by decide +kernel, by decide +kernel⟩, List.mem_of_getElem? (i := 603) (by decide +kernel), List.mem_of_getElem? (i := 850) (by decide +kernel), List.mem_of_getElem? (i := 851) (by decide +kernel)⟩
theorem lw_p38 : lw_okq (⟨"BackVersesModel", "isHeresy", "()Z"⟩, 21) := ⟨⟨by decide +kernel, by decide +kernel⟩, List.mem_of_getElem? (i := 603) (by decide +kernel), List.mem_of_getElem? (i := 858) (by decide +kernel), List.mem_of_getElem? (i := 859) (by decide +kernel)⟩
theorem lw_p39 : lw_okq (⟨"BackVersesModel", "knowsBehind", "(II)I"⟩, 21) := ⟨⟨by decide +kernel, by decide +kernel⟩, List.mem_of_getElem? (i := 603) (by decide +kernel), List.mem_of_getElem? (i := 866) (by decide +kernel), List.mem_of_getElem? (i := 867) (by decide +kernel)⟩
theorem lw_p40 : lw_okq (⟨"BackVersesModel", "advance", "()V"⟩, 21) := ⟨⟨by decide +kernel, by decide +kernel⟩, List.mem_of_getElem? (i := 603) (by decide +kernel), List.mem_of_getElem? (i := 902) (by decide +kernel), List.mem_of_getElem? (i := 903) (by decide +kernel)⟩
theorem lw_p41 : lw_okq (⟨"BackVersesModel", "byteAt", "(I)I"⟩, 21) := ⟨⟨by decide +kernel, by decide +kernel⟩, List.mem_of_getElem? (i := 603) (by decide +kernel), List.mem_of_getElem? (i := 906) (by decide +kernel), List.mem_of_getElem? (i := 907) (by decide +kernel)⟩
theorem lw_p42 : lw_okq (⟨"BackVersesModel", "wantItem", "()V"⟩, 21) := ⟨⟨by decide +kernel, by decide +kernel⟩, List.mem_of_getElem? (i := 603) (by decide +kernel), List.mem_of_getElem? (i := 919) (by decide +kernel), List.mem_of_getElem? (i := 920) (by decide +kernel)⟩
theorem lw_p43 : lw_okq (⟨"BackVersesModel", "kindHere", "()I"⟩, 21) := ⟨⟨by decide +kernel, by decide +kernel⟩, List.mem_of_getElem? (i := 603) (by decide +kernel), List.mem_of_getElem? (i := 923) (by decide +kernel), List.mem_of_getElem? (i := 924) (by decide +kernel)⟩
theorem lw_p44 : lw_okq (⟨"BackVersesModel", "isWord", "(J)Z"⟩, 21) := ⟨⟨by decide +kernel, by decide +kernel⟩, List.mem_of_getElem? (i := 603) (by decide +kernel), List.mem_of_getElem? (i := 928) (by decide +kernel), List.mem_of_getElem? (i := 929) (by decide +kernel)⟩
theorem lw_p45 : lw_okq (⟨"BackVersesModel", "wantOne", "(I)V"⟩, 21) := ⟨⟨by decide +kernel, by decide +kernel⟩, List.mem_of_getElem? (i := 603) (by decide +kernel), List.mem_of_getElem? (i := 937) (by decide +kernel), List.mem_of_getElem? (i := 938) (by decide +kernel)⟩
theorem lw_p46 : lw_okq (⟨"BackVersesModel", "wantSeat", "()I"⟩, 21) := ⟨⟨by decide +kernel, by decide +kernel⟩, List.mem_of_getElem? (i := 603) (by decide +kernel), List.mem_of_getElem? (i := 941) (by decide +kernel), List.mem_of_getElem? (i := 942) (by decide +kernel)⟩
theorem lw_p47 : lw_okq (⟨"BackVersesModel", "wantNumber", "(II)I"⟩, 21) := ⟨⟨by decide +kernel, by decide +kernel⟩, List.mem_of_getElem? (i := 603) (by decide +kernel), List.mem_of_getElem? (i := 945) (by decide +kernel), List.mem_of_getElem? (i := 946) (by decide +kernel)⟩
def lw_privs_3 : List (MethodName × Nat) := [(⟨"BackVersesModel", "oneNight", "()V"⟩, 21), (⟨"BackVersesModel", "got", "(I)I"⟩, 21), (⟨"BackVersesModel", "tires", "(I)I"⟩, 21), (⟨"BackVersesModel", "moveAll", "(Z[I)V"⟩, 21), (⟨"BackVersesModel", "isKnown", "(II)Z"⟩, 21), (⟨"BackVersesModel", "isSpread", "(I)Z"⟩, 21), (⟨"BackVersesModel", "isHeresy", "()Z"⟩, 21), (⟨"BackVersesModel", "knowsBehind", "(II)I"⟩, 21), (⟨"BackVersesModel", "advance", "()V"⟩, 21), (⟨"BackVersesModel", "byteAt", "(I)I"⟩, 21), (⟨"BackVersesModel", "wantItem", "()V"⟩, 21), (⟨"BackVersesModel", "kindHere", "()I"⟩, 21), (⟨"BackVersesModel", "isWord", "(J)Z"⟩, 21), (⟨"BackVersesModel", "wantOne", "(I)V"⟩, 21), (⟨"BackVersesModel", "wantSeat", "()I"⟩, 21), (⟨"BackVersesModel", "wantNumber", "(II)I"⟩, 21)]
theorem lw_r3 : ∀ q ∈ lw_privs_3, lw_okq q := List.forall_mem_cons.mpr ⟨lw_p32, List.forall_mem_cons.mpr ⟨lw_p33, List.forall_mem_cons.mpr ⟨lw_p34, List.forall_mem_cons.mpr ⟨lw_p35, List.forall_mem_cons.mpr ⟨lw_p36, List.forall_mem_cons.mpr ⟨lw_p37, List.forall_mem_cons.mpr ⟨lw_p38, List.forall_mem_cons.mpr ⟨lw_p39, List.forall_mem_cons.mpr ⟨lw_p40, List.forall_mem_cons.mpr ⟨lw_p41, List.forall_mem_cons.mpr ⟨lw_p42, List.forall_mem_cons.mpr ⟨lw_p43, List.forall_mem_cons.mpr ⟨lw_p44, List.forall_mem_cons.mpr ⟨lw_p45, List.forall_mem_cons.mpr ⟨lw_p46, List.forall_mem_cons.mpr ⟨lw_p47, fun _ h => absurd h List.not_mem_nil⟩⟩⟩⟩⟩⟩⟩⟩⟩⟩⟩⟩⟩⟩⟩⟩
theorem lw_p48 : lw_okq (⟨"BackVersesModel", "mayWant", "(JIII)I"⟩, 21) := ⟨⟨by decide +kernel, by decide +kernel⟩, List.mem_of_getElem? (i := 603) (by decide +kernel), List.mem_of_getElem? (i := 950) (by decide +kernel), List.mem_of_getElem? (i := 951) (by decide +kernel)⟩
theorem lw_p49 : lw_okq (⟨"BackVersesModel", "wantKnowing", "()V"⟩, 21) := ⟨⟨by decide +kernel, by decide +kernel⟩, List.mem_of_getElem? (i := 603) (by decide +kernel), List.mem_of_getElem? (i := 955) (by decide +kernel), List.mem_of_getElem? (i := 956) (by decide +kernel)⟩
theorem lw_p50 : lw_okq (⟨"BackVersesModel", "wantMove", "()V"⟩, 21) := ⟨⟨by decide +kernel, by decide +kernel⟩, List.mem_of_getElem? (i := 603) (by decide +kernel), List.mem_of_getElem? (i := 960) (by decide +kernel), List.mem_of_getElem? (i := 961) (by decide +kernel)⟩
theorem lw_p51 : lw_okq (⟨"BackVersesModel", "isPart", "(III)Z"⟩, 21) := ⟨⟨by decide +kernel, by decide +kernel⟩, List.mem_of_getElem? (i := 603) (by decide +kernel), List.mem_of_getElem? (i := 984) (by decide +kernel), List.mem_of_getElem? (i := 985) (by decide +kernel)⟩
theorem lw_p52 : lw_okq (⟨"BackVersesModel", "badSheet", "(I)I"⟩, 21) := ⟨⟨by decide +kernel, by decide +kernel⟩, List.mem_of_getElem? (i := 603) (by decide +kernel), List.mem_of_getElem? (i := 992) (by decide +kernel), List.mem_of_getElem? (i := 993) (by decide +kernel)⟩
theorem lw_p53 : lw_okq (⟨"BackVersesModel", "isSo", "(II)Z"⟩, 21) := ⟨⟨by decide +kernel, by decide +kernel⟩, List.mem_of_getElem? (i := 603) (by decide +kernel), List.mem_of_getElem? (i := 1005) (by decide +kernel), List.mem_of_getElem? (i := 1006) (by decide +kernel)⟩
def lw_privs_4 : List (MethodName × Nat) := [(⟨"BackVersesModel", "mayWant", "(JIII)I"⟩, 21), (⟨"BackVersesModel", "wantKnowing", "()V"⟩, 21), (⟨"BackVersesModel", "wantMove", "()V"⟩, 21), (⟨"BackVersesModel", "isPart", "(III)Z"⟩, 21), (⟨"BackVersesModel", "badSheet", "(I)I"⟩, 21), (⟨"BackVersesModel", "isSo", "(II)Z"⟩, 21)]
theorem lw_r4 : ∀ q ∈ lw_privs_4, lw_okq q := List.forall_mem_cons.mpr ⟨lw_p48, List.forall_mem_cons.mpr ⟨lw_p49, List.forall_mem_cons.mpr ⟨lw_p50, List.forall_mem_cons.mpr ⟨lw_p51, List.forall_mem_cons.mpr ⟨lw_p52, List.forall_mem_cons.mpr ⟨lw_p53, fun _ h => absurd h List.not_mem_nil⟩⟩⟩⟩⟩⟩
def lw_privs : List (MethodName × Nat) := lw_privs_1 ++ (lw_privs_2 ++ (lw_privs_3 ++ (lw_privs_4)))
def lw_tbl : List Cond := k2_sels lw_privs ++ tables_1
theorem lw_privs_ok : ∀ q ∈ lw_privs, lw_okq q := by
  show ∀ q ∈ lw_privs_1 ++ (lw_privs_2 ++ (lw_privs_3 ++ (lw_privs_4))), lw_okq q
  exact List.forall_mem_append.mpr ⟨lw_r1, List.forall_mem_append.mpr ⟨lw_r2, List.forall_mem_append.mpr ⟨lw_r3, lw_r4⟩⟩⟩
end
section
def RX0 : String := "BackVerses$Chapel"
def TX0 : u_T := fun k => match k with
  | 0 => ("BackVerses$Chapel", "night", "I", false)
  | 1 => ("BackVerses$Chapel", "size", "I", false)
  | 2 => ("BackVerses$Chapel", "kinds", "[I", true)
  | 3 => ("BackVerses$Chapel", "places", "[I", true)
  | 4 => ("BackVerses$Chapel", "verses", "[I", true)
  | 5 => ("BackVerses$Chapel", "deeps", "[I", true)
  | 6 => ("BackVerses$Chapel", "knows", "[I", true)
  | 7 => ("BackVerses$Chapel", "tired", "[I", true)
  | 8 => ("BackVerses$Chapel", "sitters", "[I", true)
  | 9 => ("BackVerses$Chapel", "gains", "[I", true)
  | _ => ("BackVerses$Chapel", "strains", "[I", true)
def tyX0 : Nat → FieldType := fun k => match k with
  | 0 => .int
  | 1 => .int
  | 2 => .array .int
  | 3 => .array .int
  | 4 => .array .int
  | 5 => .array .int
  | 6 => .array .int
  | 7 => .array .int
  | 8 => .array .int
  | 9 => .array .int
  | _ => .array .int
abbrev wsX00 : List Cond := u_ws RX0 TX0 11
theorem nmX0 : ∀ a, a < 11 → ∀ b, b < 11 → a ≠ b → (TX0 a).2.1 ≠ (TX0 b).2.1 := by decide +kernel
theorem tyX0_ok : ∀ k, k < 11 → parseFieldDescriptor (TX0 k).2.2.1 = some (tyX0 k) := by decide +kernel
abbrev cX0_init : ByteArray := prog_2_method_1_code
def yX0_init : MethodName := ⟨RX0, "<init>", "()V"⟩
abbrev cX0_become : ByteArray := prog_2_method_2_code
def yX0_become : MethodName := ⟨RX0, "become", "(LBackVerses$Chapel;)V"⟩
abbrev cX0_has : ByteArray := prog_2_method_3_code
def yX0_has : MethodName := ⟨RX0, "has", "(I)Z"⟩
abbrev cX0_isFull : ByteArray := prog_2_method_4_code
def yX0_isFull : MethodName := ⟨RX0, "isFull", "()Z"⟩
abbrev cX0_sitter : ByteArray := prog_2_method_5_code
def yX0_sitter : MethodName := ⟨RX0, "sitter", "(I)I"⟩
abbrev cX0_maySit : ByteArray := prog_2_method_6_code
def yX0_maySit : MethodName := ⟨RX0, "maySit", "(II)Z"⟩
abbrev cX0_add : ByteArray := prog_2_method_7_code
def yX0_add : MethodName := ⟨RX0, "add", "(IIII)I"⟩
abbrev cX0_reseat : ByteArray := prog_2_method_8_code
def yX0_reseat : MethodName := ⟨RX0, "reseat", "(II)V"⟩
abbrev cX0_leastEmptySeat : ByteArray := prog_2_method_9_code
def yX0_leastEmptySeat : MethodName := ⟨RX0, "leastEmptySeat", "()I"⟩
abbrev cX0_sitterInOrder : ByteArray := prog_2_method_10_code
def yX0_sitterInOrder : MethodName := ⟨RX0, "sitterInOrder", "(I)I"⟩
abbrev cX0_gaps : ByteArray := prog_2_method_11_code
def yX0_gaps : MethodName := ⟨RX0, "gaps", "()I"⟩
abbrev cX0_versesBorne : ByteArray := prog_2_method_12_code
def yX0_versesBorne : MethodName := ⟨RX0, "versesBorne", "()I"⟩
abbrev cX0_versesKnown : ByteArray := prog_2_method_13_code
def yX0_versesKnown : MethodName := ⟨RX0, "versesKnown", "()I"⟩
abbrev cX0_knownTogether : ByteArray := prog_2_method_14_code
def yX0_knownTogether : MethodName := ⟨RX0, "knownTogether", "()I"⟩
abbrev cX0_knownBy : ByteArray := prog_2_method_15_code
def yX0_knownBy : MethodName := ⟨RX0, "knownBy", "(I)I"⟩
abbrev cX0_doesKnow : ByteArray := prog_2_method_16_code
def yX0_doesKnow : MethodName := ⟨RX0, "doesKnow", "(II)Z"⟩
abbrev cX0_isSpread : ByteArray := prog_2_method_17_code
def yX0_isSpread : MethodName := ⟨RX0, "isSpread", "(I)Z"⟩
abbrev cX0_isHeretical : ByteArray := prog_2_method_18_code
def yX0_isHeretical : MethodName := ⟨RX0, "isHeretical", "()Z"⟩
abbrev cX0_sum : ByteArray := prog_2_method_19_code
def yX0_sum : MethodName := ⟨RX0, "sum", "([I)I"⟩
abbrev cX0_felt : ByteArray := prog_2_method_20_code
def yX0_felt : MethodName := ⟨RX0, "felt", "(I)I"⟩
abbrev cX0_getsFrom : ByteArray := prog_2_method_21_code
def yX0_getsFrom : MethodName := ⟨RX0, "getsFrom", "(II)Z"⟩
abbrev cX0_told : ByteArray := prog_2_method_22_code
def yX0_told : MethodName := ⟨RX0, "told", "(I)I"⟩
abbrev cX0_passNights : ByteArray := prog_2_method_23_code
def yX0_passNights : MethodName := ⟨RX0, "passNights", "(I)V"⟩
abbrev cX0_passNight : ByteArray := prog_2_method_24_code
def yX0_passNight : MethodName := ⟨RX0, "passNight", "()V"⟩
abbrev cX0_findOut : ByteArray := prog_2_method_25_code
def yX0_findOut : MethodName := ⟨RX0, "findOut", "(I)V"⟩
def RX1 : String := "BackVerses$Kinds"
def TX1 : u_T := fun k => match k with
  | _ => ("", "", "", false)
def tyX1 : Nat → FieldType := fun k => match k with
  | _ => .int
abbrev wsX10 : List Cond := u_ws RX1 TX1 0
theorem nmX1 : ∀ a, a < 0 → ∀ b, b < 0 → a ≠ b → (TX1 a).2.1 ≠ (TX1 b).2.1 := by decide +kernel
theorem tyX1_ok : ∀ k, k < 0 → parseFieldDescriptor (TX1 k).2.2.1 = some (tyX1 k) := by decide +kernel
abbrev cX1_isKind : ByteArray := prog_3_method_2_code
def yX1_isKind : MethodName := ⟨RX1, "isKind", "(I)Z"⟩
abbrev cX1_isUnder : ByteArray := prog_3_method_3_code
def yX1_isUnder : MethodName := ⟨RX1, "isUnder", "(II)Z"⟩
abbrev cX1_reach : ByteArray := prog_3_method_4_code
def yX1_reach : MethodName := ⟨RX1, "reach", "(II)I"⟩
abbrev cX1_gets : ByteArray := prog_3_method_5_code
def yX1_gets : MethodName := ⟨RX1, "gets", "(IIII)Z"⟩
abbrev cX1_tells : ByteArray := prog_3_method_6_code
def yX1_tells : MethodName := ⟨RX1, "tells", "(II)I"⟩
abbrev cX1_tires : ByteArray := prog_3_method_7_code
def yX1_tires : MethodName := ⟨RX1, "tires", "(IZ)I"⟩
abbrev cX1_least : ByteArray := prog_3_method_8_code
def yX1_least : MethodName := ⟨RX1, "least", "(I)I"⟩
abbrev cX1_greatest : ByteArray := prog_3_method_9_code
def yX1_greatest : MethodName := ⟨RX1, "greatest", "(I)I"⟩
def RX2 : String := "BackVerses$Sheet"
def TX2 : u_T := fun k => match k with
  | 0 => ("BackVerses$Sheet", "bits", "I", false)
  | 1 => ("BackVerses$Sheet", "size", "I", false)
  | _ => ("BackVerses$Sheet", "numbers", "[J", true)
def tyX2 : Nat → FieldType := fun k => match k with
  | 0 => .int
  | 1 => .int
  | _ => .array .long
abbrev wsX20 : List Cond := u_ws RX2 TX2 3
theorem nmX2 : ∀ a, a < 3 → ∀ b, b < 3 → a ≠ b → (TX2 a).2.1 ≠ (TX2 b).2.1 := by decide +kernel
theorem tyX2_ok : ∀ k, k < 3 → parseFieldDescriptor (TX2 k).2.2.1 = some (tyX2 k) := by decide +kernel
abbrev cX2_init : ByteArray := prog_4_method_1_code
def yX2_init : MethodName := ⟨RX2, "<init>", "()V"⟩
abbrev cX2_isMissing : ByteArray := prog_4_method_2_code
def yX2_isMissing : MethodName := ⟨RX2, "isMissing", "()Z"⟩
abbrev cX2_lay : ByteArray := prog_4_method_3_code
def yX2_lay : MethodName := ⟨RX2, "lay", "(II)V"⟩
abbrev cX2_put : ByteArray := prog_4_method_4_code
def yX2_put : MethodName := ⟨RX2, "put", "(IJ)V"⟩
abbrev cX2_hasPart : ByteArray := prog_4_method_5_code
def yX2_hasPart : MethodName := ⟨RX2, "hasPart", "(II)Z"⟩
def RX3 : String := "BackVerses$Tape"
def TX3 : u_T := fun k => match k with
  | 0 => ("BackVerses$Tape", "length", "I", false)
  | 1 => ("BackVerses$Tape", "bytes", "[I", true)
  | 2 => ("BackVerses$Tape", "start", "I", false)
  | 3 => ("BackVerses$Tape", "end", "I", false)
  | 4 => ("BackVerses$Tape", "token", "I", false)
  | _ => ("BackVerses$Tape", "value", "I", false)
def tyX3 : Nat → FieldType := fun k => match k with
  | 0 => .int
  | 1 => .array .int
  | 2 => .int
  | 3 => .int
  | 4 => .int
  | _ => .int
abbrev wsX30 : List Cond := u_ws RX3 TX3 6
theorem nmX3 : ∀ a, a < 6 → ∀ b, b < 6 → a ≠ b → (TX3 a).2.1 ≠ (TX3 b).2.1 := by decide +kernel
theorem tyX3_ok : ∀ k, k < 6 → parseFieldDescriptor (TX3 k).2.2.1 = some (tyX3 k) := by decide +kernel
abbrev cX3_init : ByteArray := prog_5_method_1_code
def yX3_init : MethodName := ⟨RX3, "<init>", "()V"⟩
abbrev cX3_append : ByteArray := prog_5_method_2_code
def yX3_append : MethodName := ⟨RX3, "append", "(I)V"⟩
abbrev cX3_parse : ByteArray := prog_5_method_3_code
def yX3_parse : MethodName := ⟨RX3, "parse", "(LBackVerses$Chapel;)I"⟩
abbrev cX3_takesItem : ByteArray := prog_5_method_4_code
def yX3_takesItem : MethodName := ⟨RX3, "takesItem", "(LBackVerses$Chapel;)Z"⟩
abbrev cX3_takesMember : ByteArray := prog_5_method_5_code
def yX3_takesMember : MethodName := ⟨RX3, "takesMember", "(LBackVerses$Chapel;)Z"⟩
abbrev cX3_takesKnows : ByteArray := prog_5_method_6_code
def yX3_takesKnows : MethodName := ⟨RX3, "takesKnows", "(LBackVerses$Chapel;)Z"⟩
abbrev cX3_takesMove : ByteArray := prog_5_method_7_code
def yX3_takesMove : MethodName := ⟨RX3, "takesMove", "(LBackVerses$Chapel;)Z"⟩
abbrev cX3_atEmptySeat : ByteArray := prog_5_method_8_code
def yX3_atEmptySeat : MethodName := ⟨RX3, "atEmptySeat", "(LBackVerses$Chapel;)Z"⟩
abbrev cX3_atNumber : ByteArray := prog_5_method_9_code
def yX3_atNumber : MethodName := ⟨RX3, "atNumber", "(II)Z"⟩
abbrev cX3_advance : ByteArray := prog_5_method_10_code
def yX3_advance : MethodName := ⟨RX3, "advance", "()V"⟩
abbrev cX3_takeWord : ByteArray := prog_5_method_11_code
def yX3_takeWord : MethodName := ⟨RX3, "takeWord", "()V"⟩
abbrev cX3_takeNumber : ByteArray := prog_5_method_12_code
def yX3_takeNumber : MethodName := ⟨RX3, "takeNumber", "()V"⟩
abbrev cX3_isWord : ByteArray := prog_5_method_13_code
def yX3_isWord : MethodName := ⟨RX3, "isWord", "(Ljava/lang/String;)Z"⟩
abbrev cX3_spelling : ByteArray := prog_5_method_14_code
def yX3_spelling : MethodName := ⟨RX3, "spelling", "(I)Ljava/lang/String;"⟩
abbrev cX3_isLetter : ByteArray := prog_5_method_15_code
def yX3_isLetter : MethodName := ⟨RX3, "isLetter", "(I)Z"⟩
abbrev cX3_isDigit : ByteArray := prog_5_method_16_code
def yX3_isDigit : MethodName := ⟨RX3, "isDigit", "(I)Z"⟩
def RX4 : String := "BackVerses"
def TX4 : u_T := fun k => match k with
  | 0 => ("BackVerses", "present", "LBackVerses$Chapel;", true)
  | 1 => ("BackVerses", "trial", "LBackVerses$Chapel;", true)
  | 2 => ("BackVerses", "kept", "LBackVerses$Chapel;", true)
  | 3 => ("BackVerses", "keeps", "Z", false)
  | 4 => ("BackVerses", "tape", "LBackVerses$Tape;", true)
  | 5 => ("BackVerses", "sheets", "[LBackVerses$Sheet;", true)
  | _ => ("BackVerses", "findings", "[I", true)
def tyX4 : Nat → FieldType := fun k => match k with
  | 0 => .object "BackVerses$Chapel"
  | 1 => .object "BackVerses$Chapel"
  | 2 => .object "BackVerses$Chapel"
  | 3 => .boolean
  | 4 => .object "BackVerses$Tape"
  | 5 => .array (.object "BackVerses$Sheet")
  | _ => .array .int
abbrev wsX40 : List Cond := u_ws RX4 TX4 7
theorem nmX4 : ∀ a, a < 7 → ∀ b, b < 7 → a ≠ b → (TX4 a).2.1 ≠ (TX4 b).2.1 := by decide +kernel
theorem tyX4_ok : ∀ k, k < 7 → parseFieldDescriptor (TX4 k).2.2.1 = some (tyX4 k) := by decide +kernel
abbrev cX4_init : ByteArray := prog_1_method_1_code
def yX4_init : MethodName := ⟨RX4, "<init>", "()V"⟩
abbrev cX4_seat : ByteArray := prog_1_method_2_code
def yX4_seat : MethodName := ⟨RX4, "seat", "(I)I"⟩
abbrev cX4_now : ByteArray := prog_1_method_3_code
def yX4_now : MethodName := ⟨RX4, "now", "(I)I"⟩
abbrev cX4_verse : ByteArray := prog_1_method_4_code
def yX4_verse : MethodName := ⟨RX4, "verse", "(I)I"⟩
abbrev cX4_member : ByteArray := prog_1_method_5_code
def yX4_member : MethodName := ⟨RX4, "member", "(III)I"⟩
abbrev cX4_of : ByteArray := prog_1_method_6_code
def yX4_of : MethodName := ⟨RX4, "of", "(II)I"⟩
abbrev cX4_set : ByteArray := prog_1_method_7_code
def yX4_set : MethodName := ⟨RX4, "set", "(III)I"⟩
abbrev cX4_maySet : ByteArray := prog_1_method_8_code
def yX4_maySet : MethodName := ⟨RX4, "maySet", "(II)Z"⟩
abbrev cX4_rowOf : ByteArray := prog_1_method_9_code
def yX4_rowOf : MethodName := ⟨RX4, "rowOf", "(I)[I"⟩
abbrev cX4_move : ByteArray := prog_1_method_10_code
def yX4_move : MethodName := ⟨RX4, "move", "(II)I"⟩
abbrev cX4_turn : ByteArray := prog_1_method_11_code
def yX4_turn : MethodName := ⟨RX4, "turn", "(II)I"⟩
abbrev cX4_as : ByteArray := prog_1_method_12_code
def yX4_as : MethodName := ⟨RX4, "as", "(II)I"⟩
abbrev cX4_nights : ByteArray := prog_1_method_13_code
def yX4_nights : MethodName := ⟨RX4, "nights", "(I)I"⟩
abbrev cX4_on : ByteArray := prog_1_method_14_code
def yX4_on : MethodName := ⟨RX4, "on", "(III)I"⟩
abbrev cX4_learns : ByteArray := prog_1_method_15_code
def yX4_learns : MethodName := ⟨RX4, "learns", "(II)I"⟩
abbrev cX4_spreads : ByteArray := prog_1_method_16_code
def yX4_spreads : MethodName := ⟨RX4, "spreads", "(I)I"⟩
abbrev cX4_heresy : ByteArray := prog_1_method_17_code
def yX4_heresy : MethodName := ⟨RX4, "heresy", "()I"⟩
abbrev cX4_best : ByteArray := prog_1_method_18_code
def yX4_best : MethodName := ⟨RX4, "best", "(II)I"⟩
abbrev cX4_kind : ByteArray := prog_1_method_19_code
def yX4_kind : MethodName := ⟨RX4, "kind", "(II)I"⟩
abbrev cX4_deep : ByteArray := prog_1_method_20_code
def yX4_deep : MethodName := ⟨RX4, "deep", "(III)I"⟩
abbrev cX4_shift : ByteArray := prog_1_method_21_code
def yX4_shift : MethodName := ⟨RX4, "shift", "(I)I"⟩
abbrev cX4_bears : ByteArray := prog_1_method_22_code
def yX4_bears : MethodName := ⟨RX4, "bears", "(III)I"⟩
abbrev cX4_wisest : ByteArray := prog_1_method_23_code
def yX4_wisest : MethodName := ⟨RX4, "wisest", "(I)I"⟩
abbrev cX4_feed : ByteArray := prog_1_method_24_code
def yX4_feed : MethodName := ⟨RX4, "feed", "(II)I"⟩
abbrev cX4_wipe : ByteArray := prog_1_method_25_code
def yX4_wipe : MethodName := ⟨RX4, "wipe", "()I"⟩
abbrev cX4_chapel : ByteArray := prog_1_method_26_code
def yX4_chapel : MethodName := ⟨RX4, "chapel", "()I"⟩
abbrev cX4_sheet : ByteArray := prog_1_method_27_code
def yX4_sheet : MethodName := ⟨RX4, "sheet", "(III)I"⟩
abbrev cX4_write : ByteArray := prog_1_method_28_code
def yX4_write : MethodName := ⟨RX4, "write", "(IIJ)J"⟩
abbrev cX4_copy : ByteArray := prog_1_method_29_code
def yX4_copy : MethodName := ⟨RX4, "copy", "(IIIII)I"⟩
abbrev cX4_lays : ByteArray := prog_1_method_30_code
def yX4_lays : MethodName := ⟨RX4, "lays", "(I)I"⟩
abbrev cX4_book : ByteArray := prog_1_method_31_code
def yX4_book : MethodName := ⟨RX4, "book", "(II)I"⟩
abbrev cX4_read : ByteArray := prog_1_method_32_code
def yX4_read : MethodName := ⟨RX4, "read", "(III)I"⟩
abbrev cX4_trialGoesAs : ByteArray := prog_1_method_33_code
def yX4_trialGoesAs : MethodName := ⟨RX4, "trialGoesAs", "(LBackVerses$Sheet;I)Z"⟩
abbrev cX4_image : ByteArray := prog_1_method_34_code
def yX4_image : MethodName := ⟨RX4, "image", "()I"⟩
abbrev cX4_undo : ByteArray := prog_1_method_35_code
def yX4_undo : MethodName := ⟨RX4, "undo", "()I"⟩
abbrev cX4_tear : ByteArray := prog_1_method_36_code
def yX4_tear : MethodName := ⟨RX4, "tear", "()I"⟩
abbrev cX4_count : ByteArray := prog_1_method_37_code
def yX4_count : MethodName := ⟨RX4, "count", "(I)I"⟩
abbrev cX4_status : ByteArray := prog_1_method_38_code
def yX4_status : MethodName := ⟨RX4, "status", "(I)I"⟩
abbrev cX4_found : ByteArray := prog_1_method_39_code
def yX4_found : MethodName := ⟨RX4, "found", "(I)I"⟩
abbrev cX4_isSheet : ByteArray := prog_1_method_40_code
def yX4_isSheet : MethodName := ⟨RX4, "isSheet", "(I)Z"⟩
abbrev cX4_within : ByteArray := prog_1_method_41_code
def yX4_within : MethodName := ⟨RX4, "within", "(III)Z"⟩
def RX5 : String := "BackVersesModel"
def TX5 : u_T := fun k => match k with
  | 0 => ("BackVersesModel", "row", "[I", true)
  | 1 => ("BackVersesModel", "found", "[I", true)
  | 2 => ("BackVersesModel", "gets", "[I", true)
  | 3 => ("BackVersesModel", "wears", "[I", true)
  | 4 => ("BackVersesModel", "tried", "[I", true)
  | 5 => ("BackVersesModel", "before1", "[I", true)
  | 6 => ("BackVersesModel", "tape", "[I", true)
  | 7 => ("BackVersesModel", "tapeMany", "I", false)
  | 8 => ("BackVersesModel", "sort", "I", false)
  | 9 => ("BackVersesModel", "begins", "I", false)
  | 10 => ("BackVersesModel", "tokenEnds", "I", false)
  | 11 => ("BackVersesModel", "word", "J", false)
  | 12 => ("BackVersesModel", "value", "I", false)
  | 13 => ("BackVersesModel", "good", "Z", false)
  | 14 => ("BackVersesModel", "bitsOf", "[I", true)
  | 15 => ("BackVersesModel", "sizeOf", "[I", true)
  | 16 => ("BackVersesModel", "sheets", "[J", true)
  | 17 => ("BackVersesModel", "lent", "[J", true)
  | 18 => ("BackVersesModel", "image", "[I", true)
  | 19 => ("BackVersesModel", "before", "[I", true)
  | _ => ("BackVersesModel", "isKept", "Z", false)
def tyX5 : Nat → FieldType := fun k => match k with
  | 0 => .array .int
  | 1 => .array .int
  | 2 => .array .int
  | 3 => .array .int
  | 4 => .array .int
  | 5 => .array .int
  | 6 => .array .int
  | 7 => .int
  | 8 => .int
  | 9 => .int
  | 10 => .int
  | 11 => .long
  | 12 => .int
  | 13 => .boolean
  | 14 => .array .int
  | 15 => .array .int
  | 16 => .array .long
  | 17 => .array .long
  | 18 => .array .int
  | 19 => .array .int
  | _ => .boolean
abbrev wsX50 : List Cond := u_ws RX5 TX5 21
theorem nmX5 : ∀ a, a < 21 → ∀ b, b < 21 → a ≠ b → (TX5 a).2.1 ≠ (TX5 b).2.1 := by decide +kernel
theorem tyX5_ok : ∀ k, k < 21 → parseFieldDescriptor (TX5 k).2.2.1 = some (tyX5 k) := by decide +kernel
abbrev cX5_init : ByteArray := prog_7_method_1_code
def yX5_init : MethodName := ⟨RX5, "<init>", "()V"⟩
abbrev cX5_in : ByteArray := prog_7_method_2_code
def yX5_in : MethodName := ⟨RX5, "in", "(III)Z"⟩
abbrev cX5_finds : ByteArray := prog_7_method_3_code
def yX5_finds : MethodName := ⟨RX5, "finds", "(I)I"⟩
abbrev cX5_held : ByteArray := prog_7_method_4_code
def yX5_held : MethodName := ⟨RX5, "held", "(III)I"⟩
abbrev cX5_its : ByteArray := prog_7_method_5_code
def yX5_its : MethodName := ⟨RX5, "its", "(II)I"⟩
abbrev cX5_puts : ByteArray := prog_7_method_6_code
def yX5_puts : MethodName := ⟨RX5, "puts", "(III)V"⟩
abbrev cX5_becomes : ByteArray := prog_7_method_7_code
def yX5_becomes : MethodName := ⟨RX5, "becomes", "(II)I"⟩
abbrev cX5_isOne : ByteArray := prog_7_method_8_code
def yX5_isOne : MethodName := ⟨RX5, "isOne", "(I)Z"⟩
abbrev cX5_isKind : ByteArray := prog_7_method_9_code
def yX5_isKind : MethodName := ⟨RX5, "isKind", "(I)Z"⟩
abbrev cX5_isSeat : ByteArray := prog_7_method_10_code
def yX5_isSeat : MethodName := ⟨RX5, "isSeat", "(I)Z"⟩
abbrev cX5_isVerse : ByteArray := prog_7_method_11_code
def yX5_isVerse : MethodName := ⟨RX5, "isVerse", "(I)Z"⟩
abbrev cX5_bits : ByteArray := prog_7_method_12_code
def yX5_bits : MethodName := ⟨RX5, "bits", "(I)I"⟩
abbrev cX5_leastOf : ByteArray := prog_7_method_13_code
def yX5_leastOf : MethodName := ⟨RX5, "leastOf", "(I)I"⟩
abbrev cX5_greatestOf : ByteArray := prog_7_method_14_code
def yX5_greatestOf : MethodName := ⟨RX5, "greatestOf", "(I)I"⟩
abbrev cX5_whoIn : ByteArray := prog_7_method_15_code
def yX5_whoIn : MethodName := ⟨RX5, "whoIn", "(I)I"⟩
abbrev cX5_seat : ByteArray := prog_7_method_16_code
def yX5_seat : MethodName := ⟨RX5, "seat", "(I)I"⟩
abbrev cX5_seatsTaken : ByteArray := prog_7_method_17_code
def yX5_seatsTaken : MethodName := ⟨RX5, "seatsTaken", "()I"⟩
abbrev cX5_gaps : ByteArray := prog_7_method_18_code
def yX5_gaps : MethodName := ⟨RX5, "gaps", "()I"⟩
abbrev cX5_standing : ByteArray := prog_7_method_19_code
def yX5_standing : MethodName := ⟨RX5, "standing", "()I"⟩
abbrev cX5_known : ByteArray := prog_7_method_20_code
def yX5_known : MethodName := ⟨RX5, "known", "()I"⟩
abbrev cX5_knownOfAll : ByteArray := prog_7_method_21_code
def yX5_knownOfAll : MethodName := ⟨RX5, "knownOfAll", "()I"⟩
abbrev cX5_sumOf : ByteArray := prog_7_method_22_code
def yX5_sumOf : MethodName := ⟨RX5, "sumOf", "(I)I"⟩
abbrev cX5_now : ByteArray := prog_7_method_23_code
def yX5_now : MethodName := ⟨RX5, "now", "(I)I"⟩
abbrev cX5_verse : ByteArray := prog_7_method_24_code
def yX5_verse : MethodName := ⟨RX5, "verse", "(I)I"⟩
abbrev cX5_feels : ByteArray := prog_7_method_25_code
def yX5_feels : MethodName := ⟨RX5, "feels", "(I)I"⟩
abbrev cX5_felt : ByteArray := prog_7_method_26_code
def yX5_felt : MethodName := ⟨RX5, "felt", "(I)I"⟩
abbrev cX5_isReading : ByteArray := prog_7_method_27_code
def yX5_isReading : MethodName := ⟨RX5, "isReading", "(I)Z"⟩
abbrev cX5_tells : ByteArray := prog_7_method_28_code
def yX5_tells : MethodName := ⟨RX5, "tells", "(I)I"⟩
abbrev cX5_tires : ByteArray := prog_7_method_29_code
def yX5_tires : MethodName := ⟨RX5, "tires", "(I)I"⟩
abbrev cX5_adds : ByteArray := prog_7_method_30_code
def yX5_adds : MethodName := ⟨RX5, "adds", "(IIII)V"⟩
abbrev cX5_member : ByteArray := prog_7_method_31_code
def yX5_member : MethodName := ⟨RX5, "member", "(III)I"⟩
abbrev cX5_of : ByteArray := prog_7_method_32_code
def yX5_of : MethodName := ⟨RX5, "of", "(II)I"⟩
abbrev cX5_isPart : ByteArray := prog_7_method_33_code
def yX5_isPart : MethodName := ⟨RX5, "isPart", "(II)Z"⟩
abbrev cX5_set : ByteArray := prog_7_method_34_code
def yX5_set : MethodName := ⟨RX5, "set", "(III)I"⟩
abbrev cX5_move : ByteArray := prog_7_method_35_code
def yX5_move : MethodName := ⟨RX5, "move", "(II)I"⟩
abbrev cX5_turn : ByteArray := prog_7_method_36_code
def yX5_turn : MethodName := ⟨RX5, "turn", "(II)I"⟩
abbrev cX5_as : ByteArray := prog_7_method_37_code
def yX5_as : MethodName := ⟨RX5, "as", "(II)I"⟩
abbrev cX5_got : ByteArray := prog_7_method_38_code
def yX5_got : MethodName := ⟨RX5, "got", "(I)I"⟩
abbrev cX5_oneNight : ByteArray := prog_7_method_39_code
def yX5_oneNight : MethodName := ⟨RX5, "oneNight", "()V"⟩
abbrev cX5_passes : ByteArray := prog_7_method_40_code
def yX5_passes : MethodName := ⟨RX5, "passes", "(I)V"⟩
abbrev cX5_nights : ByteArray := prog_7_method_41_code
def yX5_nights : MethodName := ⟨RX5, "nights", "(I)I"⟩
abbrev cX5_on : ByteArray := prog_7_method_42_code
def yX5_on : MethodName := ⟨RX5, "on", "(III)I"⟩
abbrev cX5_isKnown : ByteArray := prog_7_method_43_code
def yX5_isKnown : MethodName := ⟨RX5, "isKnown", "(II)Z"⟩
abbrev cX5_learns : ByteArray := prog_7_method_44_code
def yX5_learns : MethodName := ⟨RX5, "learns", "(II)I"⟩
abbrev cX5_isSpread : ByteArray := prog_7_method_45_code
def yX5_isSpread : MethodName := ⟨RX5, "isSpread", "(I)Z"⟩
abbrev cX5_spreads : ByteArray := prog_7_method_46_code
def yX5_spreads : MethodName := ⟨RX5, "spreads", "(I)I"⟩
abbrev cX5_isHeresy : ByteArray := prog_7_method_47_code
def yX5_isHeresy : MethodName := ⟨RX5, "isHeresy", "()Z"⟩
abbrev cX5_heresy : ByteArray := prog_7_method_48_code
def yX5_heresy : MethodName := ⟨RX5, "heresy", "()I"⟩
abbrev cX5_knowsBehind : ByteArray := prog_7_method_49_code
def yX5_knowsBehind : MethodName := ⟨RX5, "knowsBehind", "(II)I"⟩
abbrev cX5_best : ByteArray := prog_7_method_50_code
def yX5_best : MethodName := ⟨RX5, "best", "(II)I"⟩
abbrev cX5_kind : ByteArray := prog_7_method_51_code
def yX5_kind : MethodName := ⟨RX5, "kind", "(II)I"⟩
abbrev cX5_deep : ByteArray := prog_7_method_52_code
def yX5_deep : MethodName := ⟨RX5, "deep", "(III)I"⟩
abbrev cX5_shift : ByteArray := prog_7_method_53_code
def yX5_shift : MethodName := ⟨RX5, "shift", "(I)I"⟩
abbrev cX5_bears : ByteArray := prog_7_method_54_code
def yX5_bears : MethodName := ⟨RX5, "bears", "(III)I"⟩
abbrev cX5_wisest : ByteArray := prog_7_method_55_code
def yX5_wisest : MethodName := ⟨RX5, "wisest", "(I)I"⟩
abbrev cX5_feed : ByteArray := prog_7_method_56_code
def yX5_feed : MethodName := ⟨RX5, "feed", "(II)I"⟩
abbrev cX5_wipe : ByteArray := prog_7_method_57_code
def yX5_wipe : MethodName := ⟨RX5, "wipe", "()I"⟩
abbrev cX5_byteAt : ByteArray := prog_7_method_58_code
def yX5_byteAt : MethodName := ⟨RX5, "byteAt", "(I)I"⟩
abbrev cX5_isLetter : ByteArray := prog_7_method_59_code
def yX5_isLetter : MethodName := ⟨RX5, "isLetter", "(I)Z"⟩
abbrev cX5_isDigit : ByteArray := prog_7_method_60_code
def yX5_isDigit : MethodName := ⟨RX5, "isDigit", "(I)Z"⟩
abbrev cX5_advance : ByteArray := prog_7_method_61_code
def yX5_advance : MethodName := ⟨RX5, "advance", "()V"⟩
abbrev cX5_isWord : ByteArray := prog_7_method_62_code
def yX5_isWord : MethodName := ⟨RX5, "isWord", "(J)Z"⟩
abbrev cX5_kindHere : ByteArray := prog_7_method_63_code
def yX5_kindHere : MethodName := ⟨RX5, "kindHere", "()I"⟩
abbrev cX5_wantNumber : ByteArray := prog_7_method_64_code
def yX5_wantNumber : MethodName := ⟨RX5, "wantNumber", "(II)I"⟩
abbrev cX5_mayWant : ByteArray := prog_7_method_65_code
def yX5_mayWant : MethodName := ⟨RX5, "mayWant", "(JIII)I"⟩
abbrev cX5_wantSeat : ByteArray := prog_7_method_66_code
def yX5_wantSeat : MethodName := ⟨RX5, "wantSeat", "()I"⟩
abbrev cX5_wantOne : ByteArray := prog_7_method_67_code
def yX5_wantOne : MethodName := ⟨RX5, "wantOne", "(I)V"⟩
abbrev cX5_wantKnowing : ByteArray := prog_7_method_68_code
def yX5_wantKnowing : MethodName := ⟨RX5, "wantKnowing", "()V"⟩
abbrev cX5_wantMove : ByteArray := prog_7_method_69_code
def yX5_wantMove : MethodName := ⟨RX5, "wantMove", "()V"⟩
abbrev cX5_wantItem : ByteArray := prog_7_method_70_code
def yX5_wantItem : MethodName := ⟨RX5, "wantItem", "()V"⟩
abbrev cX5_chapel : ByteArray := prog_7_method_71_code
def yX5_chapel : MethodName := ⟨RX5, "chapel", "()I"⟩
abbrev cX5_isSheet : ByteArray := prog_7_method_72_code
def yX5_isSheet : MethodName := ⟨RX5, "isSheet", "(I)Z"⟩
abbrev cX5_narrow : ByteArray := prog_7_method_73_code
def yX5_narrow : MethodName := ⟨RX5, "narrow", "(IJ)J"⟩
abbrev cX5_sheet : ByteArray := prog_7_method_74_code
def yX5_sheet : MethodName := ⟨RX5, "sheet", "(III)I"⟩
abbrev cX5_write : ByteArray := prog_7_method_75_code
def yX5_write : MethodName := ⟨RX5, "write", "(IIJ)J"⟩
abbrev cX5_isPart_ : ByteArray := prog_7_method_76_code
def yX5_isPart_ : MethodName := ⟨RX5, "isPart", "(III)Z"⟩
abbrev cX5_copy : ByteArray := prog_7_method_77_code
def yX5_copy : MethodName := ⟨RX5, "copy", "(IIIII)I"⟩
abbrev cX5_badSheet : ByteArray := prog_7_method_78_code
def yX5_badSheet : MethodName := ⟨RX5, "badSheet", "(I)I"⟩
abbrev cX5_lays : ByteArray := prog_7_method_79_code
def yX5_lays : MethodName := ⟨RX5, "lays", "(I)I"⟩
abbrev cX5_book : ByteArray := prog_7_method_80_code
def yX5_book : MethodName := ⟨RX5, "book", "(II)I"⟩
abbrev cX5_isSo : ByteArray := prog_7_method_81_code
def yX5_isSo : MethodName := ⟨RX5, "isSo", "(II)Z"⟩
abbrev cX5_read : ByteArray := prog_7_method_82_code
def yX5_read : MethodName := ⟨RX5, "read", "(III)I"⟩
abbrev cX5_moveAll : ByteArray := prog_7_method_83_code
def yX5_moveAll : MethodName := ⟨RX5, "moveAll", "(Z[I)V"⟩
abbrev cX5_image : ByteArray := prog_7_method_84_code
def yX5_image : MethodName := ⟨RX5, "image", "()I"⟩
abbrev cX5_undo : ByteArray := prog_7_method_85_code
def yX5_undo : MethodName := ⟨RX5, "undo", "()I"⟩
abbrev cX5_tear : ByteArray := prog_7_method_86_code
def yX5_tear : MethodName := ⟨RX5, "tear", "()I"⟩
abbrev cX5_count : ByteArray := prog_7_method_87_code
def yX5_count : MethodName := ⟨RX5, "count", "(I)I"⟩
abbrev cX5_status : ByteArray := prog_7_method_88_code
def yX5_status : MethodName := ⟨RX5, "status", "(I)I"⟩
def RJx145de : String := "java/io/Serializable"
def TJx145de : u_T := fun k => match k with
  | _ => ("", "", "", false)
def tyJx145de : Nat → FieldType := fun k => match k with
  | _ => .int
abbrev wsJx145de0 : List Cond := u_ws RJx145de TJx145de 0
theorem nmJx145de : ∀ a, a < 0 → ∀ b, b < 0 → a ≠ b → (TJx145de a).2.1 ≠ (TJx145de b).2.1 := by decide +kernel
theorem tyJx145de_ok : ∀ k, k < 0 → parseFieldDescriptor (TJx145de k).2.2.1 = some (tyJx145de k) := by decide +kernel
def RJx9f9b0 : String := "java/lang/CharSequence"
def TJx9f9b0 : u_T := fun k => match k with
  | _ => ("", "", "", false)
def tyJx9f9b0 : Nat → FieldType := fun k => match k with
  | _ => .int
abbrev wsJx9f9b00 : List Cond := u_ws RJx9f9b0 TJx9f9b0 0
theorem nmJx9f9b0 : ∀ a, a < 0 → ∀ b, b < 0 → a ≠ b → (TJx9f9b0 a).2.1 ≠ (TJx9f9b0 b).2.1 := by decide +kernel
theorem tyJx9f9b0_ok : ∀ k, k < 0 → parseFieldDescriptor (TJx9f9b0 k).2.2.1 = some (tyJx9f9b0 k) := by decide +kernel
def RJxb160c : String := "java/lang/Comparable"
def TJxb160c : u_T := fun k => match k with
  | _ => ("", "", "", false)
def tyJxb160c : Nat → FieldType := fun k => match k with
  | _ => .int
abbrev wsJxb160c0 : List Cond := u_ws RJxb160c TJxb160c 0
theorem nmJxb160c : ∀ a, a < 0 → ∀ b, b < 0 → a ≠ b → (TJxb160c a).2.1 ≠ (TJxb160c b).2.1 := by decide +kernel
theorem tyJxb160c_ok : ∀ k, k < 0 → parseFieldDescriptor (TJxb160c k).2.2.1 = some (tyJxb160c k) := by decide +kernel
def RJ6 : String := "java/lang/Integer"
def TJ6 : u_T := fun k => match k with
  | _ => ("", "", "", false)
def tyJ6 : Nat → FieldType := fun k => match k with
  | _ => .int
abbrev wsJ60 : List Cond := u_ws RJ6 TJ6 0
theorem nmJ6 : ∀ a, a < 0 → ∀ b, b < 0 → a ≠ b → (TJ6 a).2.1 ≠ (TJ6 b).2.1 := by decide +kernel
theorem tyJ6_ok : ∀ k, k < 0 → parseFieldDescriptor (TJ6 k).2.2.1 = some (tyJ6 k) := by decide +kernel
abbrev cJ6_bitCount_0f7a4 : ByteArray := prog_8_method_49_code
def yJ6_bitCount_0f7a4 : MethodName := ⟨RJ6, "bitCount", "(I)I"⟩
def RJ9 : String := "java/lang/Math"
def TJ9 : u_T := fun k => match k with
  | _ => ("", "", "", false)
def tyJ9 : Nat → FieldType := fun k => match k with
  | _ => .int
abbrev wsJ90 : List Cond := u_ws RJ9 TJ9 0
theorem nmJ9 : ∀ a, a < 0 → ∀ b, b < 0 → a ≠ b → (TJ9 a).2.1 ≠ (TJ9 b).2.1 := by decide +kernel
theorem tyJ9_ok : ∀ k, k < 0 → parseFieldDescriptor (TJ9 k).2.2.1 = some (tyJ9 k) := by decide +kernel
abbrev cJ9_max_7cf53 : ByteArray := prog_9_method_65_code
def yJ9_max_7cf53 : MethodName := ⟨RJ9, "max", "(II)I"⟩
abbrev cJ9_min_7cf53 : ByteArray := prog_9_method_69_code
def yJ9_min_7cf53 : MethodName := ⟨RJ9, "min", "(II)I"⟩
def RJ0 : String := "java/lang/String"
def TJ0 : u_T := fun k => match k with
  | _ => ("", "", "", false)
def tyJ0 : Nat → FieldType := fun k => match k with
  | _ => .int
abbrev wsJ00 : List Cond := u_ws RJ0 TJ0 0
theorem nmJ0 : ∀ a, a < 0 → ∀ b, b < 0 → a ≠ b → (TJ0 a).2.1 ≠ (TJ0 b).2.1 := by decide +kernel
theorem tyJ0_ok : ∀ k, k < 0 → parseFieldDescriptor (TJ0 k).2.2.1 = some (tyJ0 k) := by decide +kernel
abbrev cJ0_length_8abf5 : ByteArray := prog_10_method_54_code
def yJ0_length_8abf5 : MethodName := ⟨RJ0, "length", "()I"⟩
abbrev cJ0_charAt_5068e : ByteArray := prog_10_method_56_code
def yJ0_charAt_5068e : MethodName := ⟨RJ0, "charAt", "(I)C"⟩
abbrev cJ0_coder_7d493 : ByteArray := prog_10_method_152_code
def yJ0_coder_7d493 : MethodName := ⟨RJ0, "coder", "()B"⟩
abbrev cJ0_isLatin1_aae02 : ByteArray := prog_10_method_154_code
def yJ0_isLatin1_aae02 : MethodName := ⟨RJ0, "isLatin1", "()Z"⟩
abbrev cJ0_checkIndex_df160 : ByteArray := prog_10_method_155_code
def yJ0_checkIndex_df160 : MethodName := ⟨RJ0, "checkIndex", "(II)V"⟩
def RJ1 : String := "java/lang/StringLatin1"
def TJ1 : u_T := fun k => match k with
  | _ => ("", "", "", false)
def tyJ1 : Nat → FieldType := fun k => match k with
  | _ => .int
abbrev wsJ10 : List Cond := u_ws RJ1 TJ1 0
theorem nmJ1 : ∀ a, a < 0 → ∀ b, b < 0 → a ≠ b → (TJ1 a).2.1 ≠ (TJ1 b).2.1 := by decide +kernel
theorem tyJ1_ok : ∀ k, k < 0 → parseFieldDescriptor (TJ1 k).2.2.1 = some (tyJ1 k) := by decide +kernel
abbrev cJ1_charAt_3b067 : ByteArray := prog_11_method_2_code
def yJ1_charAt_3b067 : MethodName := ⟨RJ1, "charAt", "([BI)C"⟩
def RJ2 : String := "java/lang/StringUTF16"
def TJ2 : u_T := fun k => match k with
  | _ => ("", "", "", false)
def tyJ2 : Nat → FieldType := fun k => match k with
  | _ => .int
abbrev wsJ20 : List Cond := u_ws RJ2 TJ2 0
theorem nmJ2 : ∀ a, a < 0 → ∀ b, b < 0 → a ≠ b → (TJ2 a).2.1 ≠ (TJ2 b).2.1 := by decide +kernel
theorem tyJ2_ok : ∀ k, k < 0 → parseFieldDescriptor (TJ2 k).2.2.1 = some (tyJ2 k) := by decide +kernel
abbrev cJ2_getChar_3b067 : ByteArray := prog_12_method_5_code
def yJ2_getChar_3b067 : MethodName := ⟨RJ2, "getChar", "([BI)C"⟩
abbrev cJ2_length_9d52b : ByteArray := prog_12_method_6_code
def yJ2_length_9d52b : MethodName := ⟨RJ2, "length", "([B)I"⟩
abbrev cJ2_charAt_3b067 : ByteArray := prog_12_method_83_code
def yJ2_charAt_3b067 : MethodName := ⟨RJ2, "charAt", "([BI)C"⟩
abbrev cJ2_checkIndex_2214a : ByteArray := prog_12_method_91_code
def yJ2_checkIndex_2214a : MethodName := ⟨RJ2, "checkIndex", "(I[B)V"⟩
def RJ10 : String := "java/lang/System"
def TJ10 : u_T := fun k => match k with
  | _ => ("", "", "", false)
def tyJ10 : Nat → FieldType := fun k => match k with
  | _ => .int
abbrev wsJ100 : List Cond := u_ws RJ10 TJ10 0
theorem nmJ10 : ∀ a, a < 0 → ∀ b, b < 0 → a ≠ b → (TJ10 a).2.1 ≠ (TJ10 b).2.1 := by decide +kernel
theorem tyJ10_ok : ∀ k, k < 0 → parseFieldDescriptor (TJ10 k).2.2.1 = some (tyJ10 k) := by decide +kernel
def RJxfd54e : String := "java/lang/constant/Constable"
def TJxfd54e : u_T := fun k => match k with
  | _ => ("", "", "", false)
def tyJxfd54e : Nat → FieldType := fun k => match k with
  | _ => .int
abbrev wsJxfd54e0 : List Cond := u_ws RJxfd54e TJxfd54e 0
theorem nmJxfd54e : ∀ a, a < 0 → ∀ b, b < 0 → a ≠ b → (TJxfd54e a).2.1 ≠ (TJxfd54e b).2.1 := by decide +kernel
theorem tyJxfd54e_ok : ∀ k, k < 0 → parseFieldDescriptor (TJxfd54e k).2.2.1 = some (tyJxfd54e k) := by decide +kernel
def RJx3cf43 : String := "java/lang/constant/ConstantDesc"
def TJx3cf43 : u_T := fun k => match k with
  | _ => ("", "", "", false)
def tyJx3cf43 : Nat → FieldType := fun k => match k with
  | _ => .int
abbrev wsJx3cf430 : List Cond := u_ws RJx3cf43 TJx3cf43 0
theorem nmJx3cf43 : ∀ a, a < 0 → ∀ b, b < 0 → a ≠ b → (TJx3cf43 a).2.1 ≠ (TJx3cf43 b).2.1 := by decide +kernel
theorem tyJx3cf43_ok : ∀ k, k < 0 → parseFieldDescriptor (TJx3cf43 k).2.2.1 = some (tyJx3cf43 k) := by decide +kernel
def RJ7 : String := "java/util/Arrays"
def TJ7 : u_T := fun k => match k with
  | _ => ("", "", "", false)
def tyJ7 : Nat → FieldType := fun k => match k with
  | _ => .int
abbrev wsJ70 : List Cond := u_ws RJ7 TJ7 0
theorem nmJ7 : ∀ a, a < 0 → ∀ b, b < 0 → a ≠ b → (TJ7 a).2.1 ≠ (TJ7 b).2.1 := by decide +kernel
theorem tyJ7_ok : ∀ k, k < 0 → parseFieldDescriptor (TJ7 k).2.2.1 = some (tyJ7 k) := by decide +kernel
abbrev cJ7_fill_d0a16 : ByteArray := prog_14_method_101_code
def yJ7_fill_d0a16 : MethodName := ⟨RJ7, "fill", "([JJ)V"⟩
abbrev cJ7_fill_53178 : ByteArray := prog_14_method_103_code
def yJ7_fill_53178 : MethodName := ⟨RJ7, "fill", "([II)V"⟩
def RJ3 : String := "jdk/internal/util/Preconditions"
def TJ3 : u_T := fun k => match k with
  | _ => ("", "", "", false)
def tyJ3 : Nat → FieldType := fun k => match k with
  | _ => .int
abbrev wsJ30 : List Cond := u_ws RJ3 TJ3 0
theorem nmJ3 : ∀ a, a < 0 → ∀ b, b < 0 → a ≠ b → (TJ3 a).2.1 ≠ (TJ3 b).2.1 := by decide +kernel
theorem tyJ3_ok : ∀ k, k < 0 → parseFieldDescriptor (TJ3 k).2.2.1 = some (tyJ3 k) := by decide +kernel
abbrev cJ3_checkIndex_8e157 : ByteArray := prog_15_method_11_code
def yJ3_checkIndex_8e157 : MethodName := ⟨RJ3, "checkIndex", "(IILjava/util/function/BiFunction;)I"⟩
def RL : String := "BackVersesLaw"
abbrev cL_law : ByteArray := code
def yL_law : MethodName := ⟨RL, "law", "([I)Z"⟩
abbrev vwCl : List vw_C := [(RX0, TX0, 11), (RX2, TX2, 3), (RX3, TX3, 6), (RX4, TX4, 7), (RX5, TX5, 21)]
end
section
theorem dX0_init_0 : decode cX0_init 0 = .ok (.aload_n 0, 1) := by decide +kernel
theorem dX0_init_1 : decode cX0_init 1 = .ok (.invokespecial 3, 3) := by decide +kernel
theorem dX0_init_4 : decode cX0_init 4 = .ok (.aload_n 0, 1) := by decide +kernel
theorem dX0_init_5 : decode cX0_init 5 = .ok (.iconst 0, 1) := by decide +kernel
theorem dX0_init_6 : decode cX0_init 6 = .ok (.putfield 9, 3) := by decide +kernel
theorem dX0_init_9 : decode cX0_init 9 = .ok (.aload_n 0, 1) := by decide +kernel
theorem dX0_init_10 : decode cX0_init 10 = .ok (.iconst 0, 1) := by decide +kernel
theorem dX0_init_11 : decode cX0_init 11 = .ok (.putfield 15, 3) := by decide +kernel
theorem dX0_init_14 : decode cX0_init 14 = .ok (.aload_n 0, 1) := by decide +kernel
theorem dX0_init_15 : decode cX0_init 15 = .ok (.bipush 10, 2) := by decide +kernel
theorem dX0_init_17 : decode cX0_init 17 = .ok (.newarray .int, 2) := by decide +kernel
theorem dX0_init_19 : decode cX0_init 19 = .ok (.putfield 18, 3) := by decide +kernel
theorem dX0_init_22 : decode cX0_init 22 = .ok (.aload_n 0, 1) := by decide +kernel
theorem dX0_init_23 : decode cX0_init 23 = .ok (.bipush 10, 2) := by decide +kernel
theorem dX0_init_25 : decode cX0_init 25 = .ok (.newarray .int, 2) := by decide +kernel
theorem dX0_init_27 : decode cX0_init 27 = .ok (.putfield 22, 3) := by decide +kernel
theorem dX0_init_30 : decode cX0_init 30 = .ok (.aload_n 0, 1) := by decide +kernel
theorem dX0_init_31 : decode cX0_init 31 = .ok (.bipush 10, 2) := by decide +kernel
theorem dX0_init_33 : decode cX0_init 33 = .ok (.newarray .int, 2) := by decide +kernel
theorem dX0_init_35 : decode cX0_init 35 = .ok (.putfield 25, 3) := by decide +kernel
theorem dX0_init_38 : decode cX0_init 38 = .ok (.aload_n 0, 1) := by decide +kernel
theorem dX0_init_39 : decode cX0_init 39 = .ok (.bipush 10, 2) := by decide +kernel
theorem dX0_init_41 : decode cX0_init 41 = .ok (.newarray .int, 2) := by decide +kernel
theorem dX0_init_43 : decode cX0_init 43 = .ok (.putfield 28, 3) := by decide +kernel
theorem dX0_init_46 : decode cX0_init 46 = .ok (.aload_n 0, 1) := by decide +kernel
theorem dX0_init_47 : decode cX0_init 47 = .ok (.bipush 10, 2) := by decide +kernel
theorem dX0_init_49 : decode cX0_init 49 = .ok (.newarray .int, 2) := by decide +kernel
theorem dX0_init_51 : decode cX0_init 51 = .ok (.putfield 31, 3) := by decide +kernel
theorem dX0_init_54 : decode cX0_init 54 = .ok (.aload_n 0, 1) := by decide +kernel
theorem dX0_init_55 : decode cX0_init 55 = .ok (.bipush 10, 2) := by decide +kernel
theorem dX0_init_57 : decode cX0_init 57 = .ok (.newarray .int, 2) := by decide +kernel
theorem dX0_init_59 : decode cX0_init 59 = .ok (.putfield 34, 3) := by decide +kernel
theorem dX0_init_62 : decode cX0_init 62 = .ok (.aload_n 0, 1) := by decide +kernel
theorem dX0_init_63 : decode cX0_init 63 = .ok (.bipush 12, 2) := by decide +kernel
theorem dX0_init_65 : decode cX0_init 65 = .ok (.newarray .int, 2) := by decide +kernel
theorem dX0_init_67 : decode cX0_init 67 = .ok (.putfield 37, 3) := by decide +kernel
theorem dX0_init_70 : decode cX0_init 70 = .ok (.aload_n 0, 1) := by decide +kernel
theorem dX0_init_71 : decode cX0_init 71 = .ok (.bipush 10, 2) := by decide +kernel
theorem dX0_init_73 : decode cX0_init 73 = .ok (.newarray .int, 2) := by decide +kernel
theorem dX0_init_75 : decode cX0_init 75 = .ok (.putfield 40, 3) := by decide +kernel
theorem dX0_init_78 : decode cX0_init 78 = .ok (.aload_n 0, 1) := by decide +kernel
theorem dX0_init_79 : decode cX0_init 79 = .ok (.bipush 10, 2) := by decide +kernel
theorem dX0_init_81 : decode cX0_init 81 = .ok (.newarray .int, 2) := by decide +kernel
theorem dX0_init_83 : decode cX0_init 83 = .ok (.putfield 43, 3) := by decide +kernel
theorem dX0_init_86 : decode cX0_init 86 = .ok (.aload_n 0, 1) := by decide +kernel
theorem dX0_init_87 : decode cX0_init 87 = .ok (.getfield 37, 3) := by decide +kernel
theorem dX0_init_90 : decode cX0_init 90 = .ok (.iconst (-1), 1) := by decide +kernel
theorem dX0_init_91 : decode cX0_init 91 = .ok (.invokestatic 46, 3) := by decide +kernel
theorem dX0_init_94 : decode cX0_init 94 = .ok (.return_, 1) := by decide +kernel
theorem dX0_become_0 : decode cX0_become 0 = .ok (.aload_n 0, 1) := by decide +kernel
theorem dX0_become_1 : decode cX0_become 1 = .ok (.aload_n 1, 1) := by decide +kernel
theorem dX0_become_2 : decode cX0_become 2 = .ok (.getfield 9, 3) := by decide +kernel
theorem dX0_become_5 : decode cX0_become 5 = .ok (.putfield 9, 3) := by decide +kernel
theorem dX0_become_8 : decode cX0_become 8 = .ok (.aload_n 0, 1) := by decide +kernel
theorem dX0_become_9 : decode cX0_become 9 = .ok (.aload_n 1, 1) := by decide +kernel
theorem dX0_become_10 : decode cX0_become 10 = .ok (.getfield 15, 3) := by decide +kernel
theorem dX0_become_13 : decode cX0_become 13 = .ok (.putfield 15, 3) := by decide +kernel
theorem dX0_become_16 : decode cX0_become 16 = .ok (.aload_n 1, 1) := by decide +kernel
theorem dX0_become_17 : decode cX0_become 17 = .ok (.getfield 18, 3) := by decide +kernel
theorem dX0_become_20 : decode cX0_become 20 = .ok (.iconst 0, 1) := by decide +kernel
theorem dX0_become_21 : decode cX0_become 21 = .ok (.aload_n 0, 1) := by decide +kernel
theorem dX0_become_22 : decode cX0_become 22 = .ok (.getfield 18, 3) := by decide +kernel
theorem dX0_become_25 : decode cX0_become 25 = .ok (.iconst 0, 1) := by decide +kernel
theorem dX0_become_26 : decode cX0_become 26 = .ok (.bipush 10, 2) := by decide +kernel
theorem dX0_become_28 : decode cX0_become 28 = .ok (.invokestatic 52, 3) := by decide +kernel
theorem dX0_become_31 : decode cX0_become 31 = .ok (.aload_n 1, 1) := by decide +kernel
theorem dX0_become_32 : decode cX0_become 32 = .ok (.getfield 22, 3) := by decide +kernel
theorem dX0_become_35 : decode cX0_become 35 = .ok (.iconst 0, 1) := by decide +kernel
theorem dX0_become_36 : decode cX0_become 36 = .ok (.aload_n 0, 1) := by decide +kernel
theorem dX0_become_37 : decode cX0_become 37 = .ok (.getfield 22, 3) := by decide +kernel
theorem dX0_become_40 : decode cX0_become 40 = .ok (.iconst 0, 1) := by decide +kernel
theorem dX0_become_41 : decode cX0_become 41 = .ok (.bipush 10, 2) := by decide +kernel
theorem dX0_become_43 : decode cX0_become 43 = .ok (.invokestatic 52, 3) := by decide +kernel
theorem dX0_become_46 : decode cX0_become 46 = .ok (.aload_n 1, 1) := by decide +kernel
theorem dX0_become_47 : decode cX0_become 47 = .ok (.getfield 25, 3) := by decide +kernel
theorem dX0_become_50 : decode cX0_become 50 = .ok (.iconst 0, 1) := by decide +kernel
theorem dX0_become_51 : decode cX0_become 51 = .ok (.aload_n 0, 1) := by decide +kernel
theorem dX0_become_52 : decode cX0_become 52 = .ok (.getfield 25, 3) := by decide +kernel
theorem dX0_become_55 : decode cX0_become 55 = .ok (.iconst 0, 1) := by decide +kernel
theorem dX0_become_56 : decode cX0_become 56 = .ok (.bipush 10, 2) := by decide +kernel
theorem dX0_become_58 : decode cX0_become 58 = .ok (.invokestatic 52, 3) := by decide +kernel
theorem dX0_become_61 : decode cX0_become 61 = .ok (.aload_n 1, 1) := by decide +kernel
theorem dX0_become_62 : decode cX0_become 62 = .ok (.getfield 28, 3) := by decide +kernel
theorem dX0_become_65 : decode cX0_become 65 = .ok (.iconst 0, 1) := by decide +kernel
theorem dX0_become_66 : decode cX0_become 66 = .ok (.aload_n 0, 1) := by decide +kernel
theorem dX0_become_67 : decode cX0_become 67 = .ok (.getfield 28, 3) := by decide +kernel
theorem dX0_become_70 : decode cX0_become 70 = .ok (.iconst 0, 1) := by decide +kernel
theorem dX0_become_71 : decode cX0_become 71 = .ok (.bipush 10, 2) := by decide +kernel
theorem dX0_become_73 : decode cX0_become 73 = .ok (.invokestatic 52, 3) := by decide +kernel
theorem dX0_become_76 : decode cX0_become 76 = .ok (.aload_n 1, 1) := by decide +kernel
theorem dX0_become_77 : decode cX0_become 77 = .ok (.getfield 31, 3) := by decide +kernel
theorem dX0_become_80 : decode cX0_become 80 = .ok (.iconst 0, 1) := by decide +kernel
theorem dX0_become_81 : decode cX0_become 81 = .ok (.aload_n 0, 1) := by decide +kernel
theorem dX0_become_82 : decode cX0_become 82 = .ok (.getfield 31, 3) := by decide +kernel
theorem dX0_become_85 : decode cX0_become 85 = .ok (.iconst 0, 1) := by decide +kernel
theorem dX0_become_86 : decode cX0_become 86 = .ok (.bipush 10, 2) := by decide +kernel
theorem dX0_become_88 : decode cX0_become 88 = .ok (.invokestatic 52, 3) := by decide +kernel
theorem dX0_become_91 : decode cX0_become 91 = .ok (.aload_n 1, 1) := by decide +kernel
theorem dX0_become_92 : decode cX0_become 92 = .ok (.getfield 34, 3) := by decide +kernel
theorem dX0_become_95 : decode cX0_become 95 = .ok (.iconst 0, 1) := by decide +kernel
theorem dX0_become_96 : decode cX0_become 96 = .ok (.aload_n 0, 1) := by decide +kernel
theorem dX0_become_97 : decode cX0_become 97 = .ok (.getfield 34, 3) := by decide +kernel
theorem dX0_become_100 : decode cX0_become 100 = .ok (.iconst 0, 1) := by decide +kernel
theorem dX0_become_101 : decode cX0_become 101 = .ok (.bipush 10, 2) := by decide +kernel
theorem dX0_become_103 : decode cX0_become 103 = .ok (.invokestatic 52, 3) := by decide +kernel
theorem dX0_become_106 : decode cX0_become 106 = .ok (.aload_n 1, 1) := by decide +kernel
theorem dX0_become_107 : decode cX0_become 107 = .ok (.getfield 37, 3) := by decide +kernel
theorem dX0_become_110 : decode cX0_become 110 = .ok (.iconst 0, 1) := by decide +kernel
theorem dX0_become_111 : decode cX0_become 111 = .ok (.aload_n 0, 1) := by decide +kernel
theorem dX0_become_112 : decode cX0_become 112 = .ok (.getfield 37, 3) := by decide +kernel
theorem dX0_become_115 : decode cX0_become 115 = .ok (.iconst 0, 1) := by decide +kernel
theorem dX0_become_116 : decode cX0_become 116 = .ok (.bipush 12, 2) := by decide +kernel
theorem dX0_become_118 : decode cX0_become 118 = .ok (.invokestatic 52, 3) := by decide +kernel
theorem dX0_become_121 : decode cX0_become 121 = .ok (.return_, 1) := by decide +kernel
theorem dX0_has_0 : decode cX0_has 0 = .ok (.iload_n 1, 1) := by decide +kernel
theorem dX0_has_1 : decode cX0_has 1 = .ok (.ifCond .lt 15, 3) := by decide +kernel
theorem dX0_has_4 : decode cX0_has 4 = .ok (.iload_n 1, 1) := by decide +kernel
theorem dX0_has_5 : decode cX0_has 5 = .ok (.aload_n 0, 1) := by decide +kernel
theorem dX0_has_6 : decode cX0_has 6 = .ok (.getfield 15, 3) := by decide +kernel
theorem dX0_has_9 : decode cX0_has 9 = .ok (.if_icmp .ge 7, 3) := by decide +kernel
theorem dX0_has_12 : decode cX0_has 12 = .ok (.iconst 1, 1) := by decide +kernel
theorem dX0_has_13 : decode cX0_has 13 = .ok (.goto 4, 3) := by decide +kernel
theorem dX0_has_16 : decode cX0_has 16 = .ok (.iconst 0, 1) := by decide +kernel
theorem dX0_has_17 : decode cX0_has 17 = .ok (.ireturn, 1) := by decide +kernel
theorem dX0_isFull_0 : decode cX0_isFull 0 = .ok (.aload_n 0, 1) := by decide +kernel
theorem dX0_isFull_1 : decode cX0_isFull 1 = .ok (.getfield 15, 3) := by decide +kernel
theorem dX0_isFull_4 : decode cX0_isFull 4 = .ok (.bipush 10, 2) := by decide +kernel
theorem dX0_isFull_6 : decode cX0_isFull 6 = .ok (.if_icmp .lt 7, 3) := by decide +kernel
theorem dX0_isFull_9 : decode cX0_isFull 9 = .ok (.iconst 1, 1) := by decide +kernel
theorem dX0_isFull_10 : decode cX0_isFull 10 = .ok (.goto 4, 3) := by decide +kernel
theorem dX0_isFull_13 : decode cX0_isFull 13 = .ok (.iconst 0, 1) := by decide +kernel
theorem dX0_isFull_14 : decode cX0_isFull 14 = .ok (.ireturn, 1) := by decide +kernel
theorem dX0_sitter_0 : decode cX0_sitter 0 = .ok (.iload_n 1, 1) := by decide +kernel
theorem dX0_sitter_1 : decode cX0_sitter 1 = .ok (.iconst 0, 1) := by decide +kernel
theorem dX0_sitter_2 : decode cX0_sitter 2 = .ok (.bipush 11, 2) := by decide +kernel
theorem dX0_sitter_4 : decode cX0_sitter 4 = .ok (.invokestatic 58, 3) := by decide +kernel
theorem dX0_sitter_7 : decode cX0_sitter 7 = .ok (.ifCond .eq 12, 3) := by decide +kernel
theorem dX0_sitter_10 : decode cX0_sitter 10 = .ok (.aload_n 0, 1) := by decide +kernel
theorem dX0_sitter_11 : decode cX0_sitter 11 = .ok (.getfield 37, 3) := by decide +kernel
theorem dX0_sitter_14 : decode cX0_sitter 14 = .ok (.iload_n 1, 1) := by decide +kernel
theorem dX0_sitter_15 : decode cX0_sitter 15 = .ok (.iaload, 1) := by decide +kernel
theorem dX0_sitter_16 : decode cX0_sitter 16 = .ok (.goto 4, 3) := by decide +kernel
theorem dX0_sitter_19 : decode cX0_sitter 19 = .ok (.iconst (-1), 1) := by decide +kernel
theorem dX0_sitter_20 : decode cX0_sitter 20 = .ok (.ireturn, 1) := by decide +kernel
theorem dX0_maySit_0 : decode cX0_maySit 0 = .ok (.aload_n 0, 1) := by decide +kernel
theorem dX0_maySit_1 : decode cX0_maySit 1 = .ok (.iload_n 2, 1) := by decide +kernel
theorem dX0_maySit_2 : decode cX0_maySit 2 = .ok (.invokevirtual 62, 3) := by decide +kernel
theorem dX0_maySit_5 : decode cX0_maySit 5 = .ok (.istore_n 3, 1) := by decide +kernel
theorem dX0_maySit_6 : decode cX0_maySit 6 = .ok (.iload_n 3, 1) := by decide +kernel
theorem dX0_maySit_7 : decode cX0_maySit 7 = .ok (.iconst (-1), 1) := by decide +kernel
theorem dX0_maySit_8 : decode cX0_maySit 8 = .ok (.if_icmp .eq 8, 3) := by decide +kernel
theorem dX0_maySit_11 : decode cX0_maySit 11 = .ok (.iload_n 3, 1) := by decide +kernel
theorem dX0_maySit_12 : decode cX0_maySit 12 = .ok (.iload_n 1, 1) := by decide +kernel
theorem dX0_maySit_13 : decode cX0_maySit 13 = .ok (.if_icmp .ne 7, 3) := by decide +kernel
theorem dX0_maySit_16 : decode cX0_maySit 16 = .ok (.iconst 1, 1) := by decide +kernel
theorem dX0_maySit_17 : decode cX0_maySit 17 = .ok (.goto 4, 3) := by decide +kernel
theorem dX0_maySit_20 : decode cX0_maySit 20 = .ok (.iconst 0, 1) := by decide +kernel
theorem dX0_maySit_21 : decode cX0_maySit 21 = .ok (.ireturn, 1) := by decide +kernel
theorem dX0_add_0 : decode cX0_add 0 = .ok (.aload_n 0, 1) := by decide +kernel
theorem dX0_add_1 : decode cX0_add 1 = .ok (.getfield 15, 3) := by decide +kernel
theorem dX0_add_4 : decode cX0_add 4 = .ok (.istore 5, 2) := by decide +kernel
theorem dX0_add_6 : decode cX0_add 6 = .ok (.aload_n 0, 1) := by decide +kernel
theorem dX0_add_7 : decode cX0_add 7 = .ok (.getfield 18, 3) := by decide +kernel
theorem dX0_add_10 : decode cX0_add 10 = .ok (.iload 5, 2) := by decide +kernel
theorem dX0_add_12 : decode cX0_add 12 = .ok (.iload_n 1, 1) := by decide +kernel
theorem dX0_add_13 : decode cX0_add 13 = .ok (.iastore, 1) := by decide +kernel
theorem dX0_add_14 : decode cX0_add 14 = .ok (.aload_n 0, 1) := by decide +kernel
theorem dX0_add_15 : decode cX0_add 15 = .ok (.getfield 22, 3) := by decide +kernel
theorem dX0_add_18 : decode cX0_add 18 = .ok (.iload 5, 2) := by decide +kernel
theorem dX0_add_20 : decode cX0_add 20 = .ok (.iload_n 2, 1) := by decide +kernel
theorem dX0_add_21 : decode cX0_add 21 = .ok (.iastore, 1) := by decide +kernel
theorem dX0_add_22 : decode cX0_add 22 = .ok (.aload_n 0, 1) := by decide +kernel
theorem dX0_add_23 : decode cX0_add 23 = .ok (.getfield 25, 3) := by decide +kernel
theorem dX0_add_26 : decode cX0_add 26 = .ok (.iload 5, 2) := by decide +kernel
theorem dX0_add_28 : decode cX0_add 28 = .ok (.iload_n 3, 1) := by decide +kernel
theorem dX0_add_29 : decode cX0_add 29 = .ok (.iastore, 1) := by decide +kernel
theorem dX0_add_30 : decode cX0_add 30 = .ok (.aload_n 0, 1) := by decide +kernel
theorem dX0_add_31 : decode cX0_add 31 = .ok (.getfield 28, 3) := by decide +kernel
theorem dX0_add_34 : decode cX0_add 34 = .ok (.iload 5, 2) := by decide +kernel
theorem dX0_add_36 : decode cX0_add 36 = .ok (.iload 4, 2) := by decide +kernel
theorem dX0_add_38 : decode cX0_add 38 = .ok (.iastore, 1) := by decide +kernel
theorem dX0_add_39 : decode cX0_add 39 = .ok (.aload_n 0, 1) := by decide +kernel
theorem dX0_add_40 : decode cX0_add 40 = .ok (.getfield 31, 3) := by decide +kernel
theorem dX0_add_43 : decode cX0_add 43 = .ok (.iload 5, 2) := by decide +kernel
theorem dX0_add_45 : decode cX0_add 45 = .ok (.iconst 0, 1) := by decide +kernel
theorem dX0_add_46 : decode cX0_add 46 = .ok (.iastore, 1) := by decide +kernel
theorem dX0_add_47 : decode cX0_add 47 = .ok (.aload_n 0, 1) := by decide +kernel
theorem dX0_add_48 : decode cX0_add 48 = .ok (.getfield 34, 3) := by decide +kernel
theorem dX0_add_51 : decode cX0_add 51 = .ok (.iload 5, 2) := by decide +kernel
theorem dX0_add_53 : decode cX0_add 53 = .ok (.iconst 0, 1) := by decide +kernel
theorem dX0_add_54 : decode cX0_add 54 = .ok (.iastore, 1) := by decide +kernel
theorem dX0_add_55 : decode cX0_add 55 = .ok (.aload_n 0, 1) := by decide +kernel
theorem dX0_add_56 : decode cX0_add 56 = .ok (.getfield 37, 3) := by decide +kernel
theorem dX0_add_59 : decode cX0_add 59 = .ok (.iload_n 2, 1) := by decide +kernel
theorem dX0_add_60 : decode cX0_add 60 = .ok (.iload 5, 2) := by decide +kernel
theorem dX0_add_62 : decode cX0_add 62 = .ok (.iastore, 1) := by decide +kernel
theorem dX0_add_63 : decode cX0_add 63 = .ok (.aload_n 0, 1) := by decide +kernel
theorem dX0_add_64 : decode cX0_add 64 = .ok (.dup, 1) := by decide +kernel
theorem dX0_add_65 : decode cX0_add 65 = .ok (.getfield 15, 3) := by decide +kernel
theorem dX0_add_68 : decode cX0_add 68 = .ok (.iconst 1, 1) := by decide +kernel
theorem dX0_add_69 : decode cX0_add 69 = .ok (.iadd, 1) := by decide +kernel
theorem dX0_add_70 : decode cX0_add 70 = .ok (.putfield 15, 3) := by decide +kernel
theorem dX0_add_73 : decode cX0_add 73 = .ok (.iload 5, 2) := by decide +kernel
theorem dX0_add_75 : decode cX0_add 75 = .ok (.ireturn, 1) := by decide +kernel
theorem dX0_reseat_0 : decode cX0_reseat 0 = .ok (.aload_n 0, 1) := by decide +kernel
theorem dX0_reseat_1 : decode cX0_reseat 1 = .ok (.getfield 37, 3) := by decide +kernel
theorem dX0_reseat_4 : decode cX0_reseat 4 = .ok (.aload_n 0, 1) := by decide +kernel
theorem dX0_reseat_5 : decode cX0_reseat 5 = .ok (.getfield 22, 3) := by decide +kernel
theorem dX0_reseat_8 : decode cX0_reseat 8 = .ok (.iload_n 1, 1) := by decide +kernel
theorem dX0_reseat_9 : decode cX0_reseat 9 = .ok (.iaload, 1) := by decide +kernel
theorem dX0_reseat_10 : decode cX0_reseat 10 = .ok (.iconst (-1), 1) := by decide +kernel
theorem dX0_reseat_11 : decode cX0_reseat 11 = .ok (.iastore, 1) := by decide +kernel
theorem dX0_reseat_12 : decode cX0_reseat 12 = .ok (.aload_n 0, 1) := by decide +kernel
theorem dX0_reseat_13 : decode cX0_reseat 13 = .ok (.getfield 37, 3) := by decide +kernel
theorem dX0_reseat_16 : decode cX0_reseat 16 = .ok (.iload_n 2, 1) := by decide +kernel
theorem dX0_reseat_17 : decode cX0_reseat 17 = .ok (.iload_n 1, 1) := by decide +kernel
theorem dX0_reseat_18 : decode cX0_reseat 18 = .ok (.iastore, 1) := by decide +kernel
theorem dX0_reseat_19 : decode cX0_reseat 19 = .ok (.aload_n 0, 1) := by decide +kernel
theorem dX0_reseat_20 : decode cX0_reseat 20 = .ok (.getfield 22, 3) := by decide +kernel
theorem dX0_reseat_23 : decode cX0_reseat 23 = .ok (.iload_n 1, 1) := by decide +kernel
theorem dX0_reseat_24 : decode cX0_reseat 24 = .ok (.iload_n 2, 1) := by decide +kernel
theorem dX0_reseat_25 : decode cX0_reseat 25 = .ok (.iastore, 1) := by decide +kernel
theorem dX0_reseat_26 : decode cX0_reseat 26 = .ok (.return_, 1) := by decide +kernel
theorem dX0_leastEmptySeat_0 : decode cX0_leastEmptySeat 0 = .ok (.iconst 0, 1) := by decide +kernel
theorem dX0_leastEmptySeat_1 : decode cX0_leastEmptySeat 1 = .ok (.istore_n 1, 1) := by decide +kernel
theorem dX0_leastEmptySeat_2 : decode cX0_leastEmptySeat 2 = .ok (.iload_n 1, 1) := by decide +kernel
theorem dX0_leastEmptySeat_3 : decode cX0_leastEmptySeat 3 = .ok (.bipush 12, 2) := by decide +kernel
theorem dX0_leastEmptySeat_5 : decode cX0_leastEmptySeat 5 = .ok (.if_icmp .ge 19, 3) := by decide +kernel
theorem dX0_leastEmptySeat_8 : decode cX0_leastEmptySeat 8 = .ok (.aload_n 0, 1) := by decide +kernel
theorem dX0_leastEmptySeat_9 : decode cX0_leastEmptySeat 9 = .ok (.getfield 37, 3) := by decide +kernel
theorem dX0_leastEmptySeat_12 : decode cX0_leastEmptySeat 12 = .ok (.iload_n 1, 1) := by decide +kernel
theorem dX0_leastEmptySeat_13 : decode cX0_leastEmptySeat 13 = .ok (.iaload, 1) := by decide +kernel
theorem dX0_leastEmptySeat_14 : decode cX0_leastEmptySeat 14 = .ok (.iconst (-1), 1) := by decide +kernel
theorem dX0_leastEmptySeat_15 : decode cX0_leastEmptySeat 15 = .ok (.if_icmp .eq 9, 3) := by decide +kernel
theorem dX0_leastEmptySeat_18 : decode cX0_leastEmptySeat 18 = .ok (.iinc 1 1, 3) := by decide +kernel
theorem dX0_leastEmptySeat_21 : decode cX0_leastEmptySeat 21 = .ok (.goto (-19), 3) := by decide +kernel
theorem dX0_leastEmptySeat_24 : decode cX0_leastEmptySeat 24 = .ok (.iload_n 1, 1) := by decide +kernel
theorem dX0_leastEmptySeat_25 : decode cX0_leastEmptySeat 25 = .ok (.ireturn, 1) := by decide +kernel
theorem dX0_sitterInOrder_0 : decode cX0_sitterInOrder 0 = .ok (.iconst 0, 1) := by decide +kernel
theorem dX0_sitterInOrder_1 : decode cX0_sitterInOrder 1 = .ok (.istore_n 2, 1) := by decide +kernel
theorem dX0_sitterInOrder_2 : decode cX0_sitterInOrder 2 = .ok (.iconst 0, 1) := by decide +kernel
theorem dX0_sitterInOrder_3 : decode cX0_sitterInOrder 3 = .ok (.istore_n 3, 1) := by decide +kernel
theorem dX0_sitterInOrder_4 : decode cX0_sitterInOrder 4 = .ok (.iload_n 3, 1) := by decide +kernel
theorem dX0_sitterInOrder_5 : decode cX0_sitterInOrder 5 = .ok (.bipush 12, 2) := by decide +kernel
theorem dX0_sitterInOrder_7 : decode cX0_sitterInOrder 7 = .ok (.if_icmp .ge 34, 3) := by decide +kernel
theorem dX0_sitterInOrder_10 : decode cX0_sitterInOrder 10 = .ok (.aload_n 0, 1) := by decide +kernel
theorem dX0_sitterInOrder_11 : decode cX0_sitterInOrder 11 = .ok (.getfield 37, 3) := by decide +kernel
theorem dX0_sitterInOrder_14 : decode cX0_sitterInOrder 14 = .ok (.iload_n 3, 1) := by decide +kernel
theorem dX0_sitterInOrder_15 : decode cX0_sitterInOrder 15 = .ok (.iaload, 1) := by decide +kernel
theorem dX0_sitterInOrder_16 : decode cX0_sitterInOrder 16 = .ok (.iconst (-1), 1) := by decide +kernel
theorem dX0_sitterInOrder_17 : decode cX0_sitterInOrder 17 = .ok (.if_icmp .eq 18, 3) := by decide +kernel
theorem dX0_sitterInOrder_20 : decode cX0_sitterInOrder 20 = .ok (.iload_n 2, 1) := by decide +kernel
theorem dX0_sitterInOrder_21 : decode cX0_sitterInOrder 21 = .ok (.iload_n 1, 1) := by decide +kernel
theorem dX0_sitterInOrder_22 : decode cX0_sitterInOrder 22 = .ok (.if_icmp .ne 10, 3) := by decide +kernel
theorem dX0_sitterInOrder_25 : decode cX0_sitterInOrder 25 = .ok (.aload_n 0, 1) := by decide +kernel
theorem dX0_sitterInOrder_26 : decode cX0_sitterInOrder 26 = .ok (.getfield 37, 3) := by decide +kernel
theorem dX0_sitterInOrder_29 : decode cX0_sitterInOrder 29 = .ok (.iload_n 3, 1) := by decide +kernel
theorem dX0_sitterInOrder_30 : decode cX0_sitterInOrder 30 = .ok (.iaload, 1) := by decide +kernel
theorem dX0_sitterInOrder_31 : decode cX0_sitterInOrder 31 = .ok (.ireturn, 1) := by decide +kernel
theorem dX0_sitterInOrder_32 : decode cX0_sitterInOrder 32 = .ok (.iinc 2 1, 3) := by decide +kernel
theorem dX0_sitterInOrder_35 : decode cX0_sitterInOrder 35 = .ok (.iinc 3 1, 3) := by decide +kernel
theorem dX0_sitterInOrder_38 : decode cX0_sitterInOrder 38 = .ok (.goto (-34), 3) := by decide +kernel
theorem dX0_sitterInOrder_41 : decode cX0_sitterInOrder 41 = .ok (.iconst (-1), 1) := by decide +kernel
theorem dX0_sitterInOrder_42 : decode cX0_sitterInOrder 42 = .ok (.ireturn, 1) := by decide +kernel
theorem dX0_gaps_0 : decode cX0_gaps 0 = .ok (.iconst 0, 1) := by decide +kernel
theorem dX0_gaps_1 : decode cX0_gaps 1 = .ok (.istore_n 1, 1) := by decide +kernel
theorem dX0_gaps_2 : decode cX0_gaps 2 = .ok (.iconst 0, 1) := by decide +kernel
theorem dX0_gaps_3 : decode cX0_gaps 3 = .ok (.istore_n 2, 1) := by decide +kernel
theorem dX0_gaps_4 : decode cX0_gaps 4 = .ok (.iconst 0, 1) := by decide +kernel
theorem dX0_gaps_5 : decode cX0_gaps 5 = .ok (.istore_n 3, 1) := by decide +kernel
theorem dX0_gaps_6 : decode cX0_gaps 6 = .ok (.iconst 0, 1) := by decide +kernel
theorem dX0_gaps_7 : decode cX0_gaps 7 = .ok (.istore 4, 2) := by decide +kernel
theorem dX0_gaps_9 : decode cX0_gaps 9 = .ok (.iload 4, 2) := by decide +kernel
theorem dX0_gaps_11 : decode cX0_gaps 11 = .ok (.bipush 12, 2) := by decide +kernel
theorem dX0_gaps_13 : decode cX0_gaps 13 = .ok (.if_icmp .ge 38, 3) := by decide +kernel
theorem dX0_gaps_16 : decode cX0_gaps 16 = .ok (.aload_n 0, 1) := by decide +kernel
theorem dX0_gaps_17 : decode cX0_gaps 17 = .ok (.getfield 37, 3) := by decide +kernel
theorem dX0_gaps_20 : decode cX0_gaps 20 = .ok (.iload 4, 2) := by decide +kernel
theorem dX0_gaps_22 : decode cX0_gaps 22 = .ok (.iaload, 1) := by decide +kernel
theorem dX0_gaps_23 : decode cX0_gaps 23 = .ok (.iconst (-1), 1) := by decide +kernel
theorem dX0_gaps_24 : decode cX0_gaps 24 = .ok (.if_icmp .eq 10, 3) := by decide +kernel
theorem dX0_gaps_27 : decode cX0_gaps 27 = .ok (.iload_n 2, 1) := by decide +kernel
theorem dX0_gaps_28 : decode cX0_gaps 28 = .ok (.istore_n 1, 1) := by decide +kernel
theorem dX0_gaps_29 : decode cX0_gaps 29 = .ok (.iconst 1, 1) := by decide +kernel
theorem dX0_gaps_30 : decode cX0_gaps 30 = .ok (.istore_n 3, 1) := by decide +kernel
theorem dX0_gaps_31 : decode cX0_gaps 31 = .ok (.goto 14, 3) := by decide +kernel
theorem dX0_gaps_34 : decode cX0_gaps 34 = .ok (.iload_n 3, 1) := by decide +kernel
theorem dX0_gaps_35 : decode cX0_gaps 35 = .ok (.ifCond .eq 10, 3) := by decide +kernel
theorem dX0_gaps_38 : decode cX0_gaps 38 = .ok (.iload_n 2, 1) := by decide +kernel
theorem dX0_gaps_39 : decode cX0_gaps 39 = .ok (.iconst 1, 1) := by decide +kernel
theorem dX0_gaps_40 : decode cX0_gaps 40 = .ok (.iload 4, 2) := by decide +kernel
theorem dX0_gaps_42 : decode cX0_gaps 42 = .ok (.ishl, 1) := by decide +kernel
theorem dX0_gaps_43 : decode cX0_gaps 43 = .ok (.ior, 1) := by decide +kernel
theorem dX0_gaps_44 : decode cX0_gaps 44 = .ok (.istore_n 2, 1) := by decide +kernel
theorem dX0_gaps_45 : decode cX0_gaps 45 = .ok (.iinc 4 1, 3) := by decide +kernel
theorem dX0_gaps_48 : decode cX0_gaps 48 = .ok (.goto (-39), 3) := by decide +kernel
theorem dX0_gaps_51 : decode cX0_gaps 51 = .ok (.iload_n 1, 1) := by decide +kernel
theorem dX0_gaps_52 : decode cX0_gaps 52 = .ok (.ireturn, 1) := by decide +kernel
theorem dX0_versesBorne_0 : decode cX0_versesBorne 0 = .ok (.iconst 0, 1) := by decide +kernel
theorem dX0_versesBorne_1 : decode cX0_versesBorne 1 = .ok (.istore_n 1, 1) := by decide +kernel
theorem dX0_versesBorne_2 : decode cX0_versesBorne 2 = .ok (.iconst 0, 1) := by decide +kernel
theorem dX0_versesBorne_3 : decode cX0_versesBorne 3 = .ok (.istore_n 2, 1) := by decide +kernel
theorem dX0_versesBorne_4 : decode cX0_versesBorne 4 = .ok (.iload_n 2, 1) := by decide +kernel
theorem dX0_versesBorne_5 : decode cX0_versesBorne 5 = .ok (.aload_n 0, 1) := by decide +kernel
theorem dX0_versesBorne_6 : decode cX0_versesBorne 6 = .ok (.getfield 15, 3) := by decide +kernel
theorem dX0_versesBorne_9 : decode cX0_versesBorne 9 = .ok (.if_icmp .ge 20, 3) := by decide +kernel
theorem dX0_versesBorne_12 : decode cX0_versesBorne 12 = .ok (.iload_n 1, 1) := by decide +kernel
theorem dX0_versesBorne_13 : decode cX0_versesBorne 13 = .ok (.iconst 1, 1) := by decide +kernel
theorem dX0_versesBorne_14 : decode cX0_versesBorne 14 = .ok (.aload_n 0, 1) := by decide +kernel
theorem dX0_versesBorne_15 : decode cX0_versesBorne 15 = .ok (.getfield 25, 3) := by decide +kernel
theorem dX0_versesBorne_18 : decode cX0_versesBorne 18 = .ok (.iload_n 2, 1) := by decide +kernel
theorem dX0_versesBorne_19 : decode cX0_versesBorne 19 = .ok (.iaload, 1) := by decide +kernel
theorem dX0_versesBorne_20 : decode cX0_versesBorne 20 = .ok (.ishl, 1) := by decide +kernel
theorem dX0_versesBorne_21 : decode cX0_versesBorne 21 = .ok (.ior, 1) := by decide +kernel
theorem dX0_versesBorne_22 : decode cX0_versesBorne 22 = .ok (.istore_n 1, 1) := by decide +kernel
theorem dX0_versesBorne_23 : decode cX0_versesBorne 23 = .ok (.iinc 2 1, 3) := by decide +kernel
theorem dX0_versesBorne_26 : decode cX0_versesBorne 26 = .ok (.goto (-22), 3) := by decide +kernel
theorem dX0_versesBorne_29 : decode cX0_versesBorne 29 = .ok (.iload_n 1, 1) := by decide +kernel
theorem dX0_versesBorne_30 : decode cX0_versesBorne 30 = .ok (.ireturn, 1) := by decide +kernel
theorem dX0_versesKnown_0 : decode cX0_versesKnown 0 = .ok (.iconst 0, 1) := by decide +kernel
theorem dX0_versesKnown_1 : decode cX0_versesKnown 1 = .ok (.istore_n 1, 1) := by decide +kernel
theorem dX0_versesKnown_2 : decode cX0_versesKnown 2 = .ok (.iconst 0, 1) := by decide +kernel
theorem dX0_versesKnown_3 : decode cX0_versesKnown 3 = .ok (.istore_n 2, 1) := by decide +kernel
theorem dX0_versesKnown_4 : decode cX0_versesKnown 4 = .ok (.iload_n 2, 1) := by decide +kernel
theorem dX0_versesKnown_5 : decode cX0_versesKnown 5 = .ok (.aload_n 0, 1) := by decide +kernel
theorem dX0_versesKnown_6 : decode cX0_versesKnown 6 = .ok (.getfield 15, 3) := by decide +kernel
theorem dX0_versesKnown_9 : decode cX0_versesKnown 9 = .ok (.if_icmp .ge 18, 3) := by decide +kernel
theorem dX0_versesKnown_12 : decode cX0_versesKnown 12 = .ok (.iload_n 1, 1) := by decide +kernel
theorem dX0_versesKnown_13 : decode cX0_versesKnown 13 = .ok (.aload_n 0, 1) := by decide +kernel
theorem dX0_versesKnown_14 : decode cX0_versesKnown 14 = .ok (.getfield 31, 3) := by decide +kernel
theorem dX0_versesKnown_17 : decode cX0_versesKnown 17 = .ok (.iload_n 2, 1) := by decide +kernel
theorem dX0_versesKnown_18 : decode cX0_versesKnown 18 = .ok (.iaload, 1) := by decide +kernel
theorem dX0_versesKnown_19 : decode cX0_versesKnown 19 = .ok (.ior, 1) := by decide +kernel
theorem dX0_versesKnown_20 : decode cX0_versesKnown 20 = .ok (.istore_n 1, 1) := by decide +kernel
theorem dX0_versesKnown_21 : decode cX0_versesKnown 21 = .ok (.iinc 2 1, 3) := by decide +kernel
theorem dX0_versesKnown_24 : decode cX0_versesKnown 24 = .ok (.goto (-20), 3) := by decide +kernel
theorem dX0_versesKnown_27 : decode cX0_versesKnown 27 = .ok (.iload_n 1, 1) := by decide +kernel
theorem dX0_versesKnown_28 : decode cX0_versesKnown 28 = .ok (.ireturn, 1) := by decide +kernel
theorem dX0_knownTogether_0 : decode cX0_knownTogether 0 = .ok (.iconst 0, 1) := by decide +kernel
theorem dX0_knownTogether_1 : decode cX0_knownTogether 1 = .ok (.istore_n 1, 1) := by decide +kernel
theorem dX0_knownTogether_2 : decode cX0_knownTogether 2 = .ok (.iconst 0, 1) := by decide +kernel
theorem dX0_knownTogether_3 : decode cX0_knownTogether 3 = .ok (.istore_n 2, 1) := by decide +kernel
theorem dX0_knownTogether_4 : decode cX0_knownTogether 4 = .ok (.iload_n 2, 1) := by decide +kernel
theorem dX0_knownTogether_5 : decode cX0_knownTogether 5 = .ok (.aload_n 0, 1) := by decide +kernel
theorem dX0_knownTogether_6 : decode cX0_knownTogether 6 = .ok (.getfield 15, 3) := by decide +kernel
theorem dX0_knownTogether_9 : decode cX0_knownTogether 9 = .ok (.if_icmp .ge 17, 3) := by decide +kernel
theorem dX0_knownTogether_12 : decode cX0_knownTogether 12 = .ok (.iload_n 1, 1) := by decide +kernel
theorem dX0_knownTogether_13 : decode cX0_knownTogether 13 = .ok (.aload_n 0, 1) := by decide +kernel
theorem dX0_knownTogether_14 : decode cX0_knownTogether 14 = .ok (.iload_n 2, 1) := by decide +kernel
theorem dX0_knownTogether_15 : decode cX0_knownTogether 15 = .ok (.invokevirtual 66, 3) := by decide +kernel
theorem dX0_knownTogether_18 : decode cX0_knownTogether 18 = .ok (.iadd, 1) := by decide +kernel
theorem dX0_knownTogether_19 : decode cX0_knownTogether 19 = .ok (.istore_n 1, 1) := by decide +kernel
theorem dX0_knownTogether_20 : decode cX0_knownTogether 20 = .ok (.iinc 2 1, 3) := by decide +kernel
theorem dX0_knownTogether_23 : decode cX0_knownTogether 23 = .ok (.goto (-19), 3) := by decide +kernel
theorem dX0_knownTogether_26 : decode cX0_knownTogether 26 = .ok (.iload_n 1, 1) := by decide +kernel
theorem dX0_knownTogether_27 : decode cX0_knownTogether 27 = .ok (.ireturn, 1) := by decide +kernel
theorem dX0_knownBy_0 : decode cX0_knownBy 0 = .ok (.aload_n 0, 1) := by decide +kernel
theorem dX0_knownBy_1 : decode cX0_knownBy 1 = .ok (.getfield 31, 3) := by decide +kernel
theorem dX0_knownBy_4 : decode cX0_knownBy 4 = .ok (.iload_n 1, 1) := by decide +kernel
theorem dX0_knownBy_5 : decode cX0_knownBy 5 = .ok (.iaload, 1) := by decide +kernel
theorem dX0_knownBy_6 : decode cX0_knownBy 6 = .ok (.invokestatic 69, 3) := by decide +kernel
theorem dX0_knownBy_9 : decode cX0_knownBy 9 = .ok (.ireturn, 1) := by decide +kernel
theorem dX0_doesKnow_0 : decode cX0_doesKnow 0 = .ok (.aload_n 0, 1) := by decide +kernel
theorem dX0_doesKnow_1 : decode cX0_doesKnow 1 = .ok (.getfield 31, 3) := by decide +kernel
theorem dX0_doesKnow_4 : decode cX0_doesKnow 4 = .ok (.iload_n 1, 1) := by decide +kernel
theorem dX0_doesKnow_5 : decode cX0_doesKnow 5 = .ok (.iaload, 1) := by decide +kernel
theorem dX0_doesKnow_6 : decode cX0_doesKnow 6 = .ok (.iconst 1, 1) := by decide +kernel
theorem dX0_doesKnow_7 : decode cX0_doesKnow 7 = .ok (.iload_n 2, 1) := by decide +kernel
theorem dX0_doesKnow_8 : decode cX0_doesKnow 8 = .ok (.ishl, 1) := by decide +kernel
theorem dX0_doesKnow_9 : decode cX0_doesKnow 9 = .ok (.iand, 1) := by decide +kernel
theorem dX0_doesKnow_10 : decode cX0_doesKnow 10 = .ok (.ifCond .eq 7, 3) := by decide +kernel
theorem dX0_doesKnow_13 : decode cX0_doesKnow 13 = .ok (.iconst 1, 1) := by decide +kernel
theorem dX0_doesKnow_14 : decode cX0_doesKnow 14 = .ok (.goto 4, 3) := by decide +kernel
theorem dX0_doesKnow_17 : decode cX0_doesKnow 17 = .ok (.iconst 0, 1) := by decide +kernel
theorem dX0_doesKnow_18 : decode cX0_doesKnow 18 = .ok (.ireturn, 1) := by decide +kernel
theorem dX0_isSpread_0 : decode cX0_isSpread 0 = .ok (.iconst 0, 1) := by decide +kernel
theorem dX0_isSpread_1 : decode cX0_isSpread 1 = .ok (.istore_n 2, 1) := by decide +kernel
theorem dX0_isSpread_2 : decode cX0_isSpread 2 = .ok (.iload_n 2, 1) := by decide +kernel
theorem dX0_isSpread_3 : decode cX0_isSpread 3 = .ok (.aload_n 0, 1) := by decide +kernel
theorem dX0_isSpread_4 : decode cX0_isSpread 4 = .ok (.getfield 15, 3) := by decide +kernel
theorem dX0_isSpread_7 : decode cX0_isSpread 7 = .ok (.if_icmp .ge 50, 3) := by decide +kernel
theorem dX0_isSpread_10 : decode cX0_isSpread 10 = .ok (.aload_n 0, 1) := by decide +kernel
theorem dX0_isSpread_11 : decode cX0_isSpread 11 = .ok (.getfield 18, 3) := by decide +kernel
theorem dX0_isSpread_14 : decode cX0_isSpread 14 = .ok (.iload_n 2, 1) := by decide +kernel
theorem dX0_isSpread_15 : decode cX0_isSpread 15 = .ok (.iaload, 1) := by decide +kernel
theorem dX0_isSpread_16 : decode cX0_isSpread 16 = .ok (.iconst 3, 1) := by decide +kernel
theorem dX0_isSpread_17 : decode cX0_isSpread 17 = .ok (.if_icmp .eq 17, 3) := by decide +kernel
theorem dX0_isSpread_20 : decode cX0_isSpread 20 = .ok (.aload_n 0, 1) := by decide +kernel
theorem dX0_isSpread_21 : decode cX0_isSpread 21 = .ok (.getfield 25, 3) := by decide +kernel
theorem dX0_isSpread_24 : decode cX0_isSpread 24 = .ok (.iload_n 2, 1) := by decide +kernel
theorem dX0_isSpread_25 : decode cX0_isSpread 25 = .ok (.iaload, 1) := by decide +kernel
theorem dX0_isSpread_26 : decode cX0_isSpread 26 = .ok (.iload_n 1, 1) := by decide +kernel
theorem dX0_isSpread_27 : decode cX0_isSpread 27 = .ok (.if_icmp .eq 7, 3) := by decide +kernel
theorem dX0_isSpread_30 : decode cX0_isSpread 30 = .ok (.iconst 1, 1) := by decide +kernel
theorem dX0_isSpread_31 : decode cX0_isSpread 31 = .ok (.goto 4, 3) := by decide +kernel
theorem dX0_isSpread_34 : decode cX0_isSpread 34 = .ok (.iconst 0, 1) := by decide +kernel
theorem dX0_isSpread_35 : decode cX0_isSpread 35 = .ok (.istore_n 3, 1) := by decide +kernel
theorem dX0_isSpread_36 : decode cX0_isSpread 36 = .ok (.iload_n 3, 1) := by decide +kernel
theorem dX0_isSpread_37 : decode cX0_isSpread 37 = .ok (.ifCond .eq 14, 3) := by decide +kernel
theorem dX0_isSpread_40 : decode cX0_isSpread 40 = .ok (.aload_n 0, 1) := by decide +kernel
theorem dX0_isSpread_41 : decode cX0_isSpread 41 = .ok (.iload_n 2, 1) := by decide +kernel
theorem dX0_isSpread_42 : decode cX0_isSpread 42 = .ok (.iload_n 1, 1) := by decide +kernel
theorem dX0_isSpread_43 : decode cX0_isSpread 43 = .ok (.invokevirtual 76, 3) := by decide +kernel
theorem dX0_isSpread_46 : decode cX0_isSpread 46 = .ok (.ifCond .ne 5, 3) := by decide +kernel
theorem dX0_isSpread_49 : decode cX0_isSpread 49 = .ok (.iconst 0, 1) := by decide +kernel
theorem dX0_isSpread_50 : decode cX0_isSpread 50 = .ok (.ireturn, 1) := by decide +kernel
theorem dX0_isSpread_51 : decode cX0_isSpread 51 = .ok (.iinc 2 1, 3) := by decide +kernel
theorem dX0_isSpread_54 : decode cX0_isSpread 54 = .ok (.goto (-52), 3) := by decide +kernel
theorem dX0_isSpread_57 : decode cX0_isSpread 57 = .ok (.iconst 1, 1) := by decide +kernel
theorem dX0_isSpread_58 : decode cX0_isSpread 58 = .ok (.ireturn, 1) := by decide +kernel
theorem dX0_isHeretical_0 : decode cX0_isHeretical 0 = .ok (.iconst 0, 1) := by decide +kernel
theorem dX0_isHeretical_1 : decode cX0_isHeretical 1 = .ok (.istore_n 1, 1) := by decide +kernel
theorem dX0_isHeretical_2 : decode cX0_isHeretical 2 = .ok (.iload_n 1, 1) := by decide +kernel
theorem dX0_isHeretical_3 : decode cX0_isHeretical 3 = .ok (.aload_n 0, 1) := by decide +kernel
theorem dX0_isHeretical_4 : decode cX0_isHeretical 4 = .ok (.getfield 15, 3) := by decide +kernel
theorem dX0_isHeretical_7 : decode cX0_isHeretical 7 = .ok (.if_icmp .ge 25, 3) := by decide +kernel
theorem dX0_isHeretical_10 : decode cX0_isHeretical 10 = .ok (.aload_n 0, 1) := by decide +kernel
theorem dX0_isHeretical_11 : decode cX0_isHeretical 11 = .ok (.iload_n 1, 1) := by decide +kernel
theorem dX0_isHeretical_12 : decode cX0_isHeretical 12 = .ok (.aload_n 0, 1) := by decide +kernel
theorem dX0_isHeretical_13 : decode cX0_isHeretical 13 = .ok (.getfield 25, 3) := by decide +kernel
theorem dX0_isHeretical_16 : decode cX0_isHeretical 16 = .ok (.iload_n 1, 1) := by decide +kernel
theorem dX0_isHeretical_17 : decode cX0_isHeretical 17 = .ok (.iaload, 1) := by decide +kernel
theorem dX0_isHeretical_18 : decode cX0_isHeretical 18 = .ok (.invokevirtual 76, 3) := by decide +kernel
theorem dX0_isHeretical_21 : decode cX0_isHeretical 21 = .ok (.ifCond .eq 5, 3) := by decide +kernel
theorem dX0_isHeretical_24 : decode cX0_isHeretical 24 = .ok (.iconst 1, 1) := by decide +kernel
theorem dX0_isHeretical_25 : decode cX0_isHeretical 25 = .ok (.ireturn, 1) := by decide +kernel
theorem dX0_isHeretical_26 : decode cX0_isHeretical 26 = .ok (.iinc 1 1, 3) := by decide +kernel
theorem dX0_isHeretical_29 : decode cX0_isHeretical 29 = .ok (.goto (-27), 3) := by decide +kernel
theorem dX0_isHeretical_32 : decode cX0_isHeretical 32 = .ok (.iconst 0, 1) := by decide +kernel
theorem dX0_isHeretical_33 : decode cX0_isHeretical 33 = .ok (.ireturn, 1) := by decide +kernel
theorem dX0_sum_0 : decode cX0_sum 0 = .ok (.iconst 0, 1) := by decide +kernel
theorem dX0_sum_1 : decode cX0_sum 1 = .ok (.istore_n 2, 1) := by decide +kernel
theorem dX0_sum_2 : decode cX0_sum 2 = .ok (.iconst 0, 1) := by decide +kernel
theorem dX0_sum_3 : decode cX0_sum 3 = .ok (.istore_n 3, 1) := by decide +kernel
theorem dX0_sum_4 : decode cX0_sum 4 = .ok (.iload_n 3, 1) := by decide +kernel
theorem dX0_sum_5 : decode cX0_sum 5 = .ok (.aload_n 0, 1) := by decide +kernel
theorem dX0_sum_6 : decode cX0_sum 6 = .ok (.getfield 15, 3) := by decide +kernel
theorem dX0_sum_9 : decode cX0_sum 9 = .ok (.if_icmp .ge 21, 3) := by decide +kernel
theorem dX0_sum_12 : decode cX0_sum 12 = .ok (.iload_n 3, 1) := by decide +kernel
theorem dX0_sum_13 : decode cX0_sum 13 = .ok (.aload_n 1, 1) := by decide +kernel
theorem dX0_sum_14 : decode cX0_sum 14 = .ok (.arraylength, 1) := by decide +kernel
theorem dX0_sum_15 : decode cX0_sum 15 = .ok (.if_icmp .ge 15, 3) := by decide +kernel
theorem dX0_sum_18 : decode cX0_sum 18 = .ok (.iload_n 2, 1) := by decide +kernel
theorem dX0_sum_19 : decode cX0_sum 19 = .ok (.aload_n 1, 1) := by decide +kernel
theorem dX0_sum_20 : decode cX0_sum 20 = .ok (.iload_n 3, 1) := by decide +kernel
theorem dX0_sum_21 : decode cX0_sum 21 = .ok (.iaload, 1) := by decide +kernel
theorem dX0_sum_22 : decode cX0_sum 22 = .ok (.iadd, 1) := by decide +kernel
theorem dX0_sum_23 : decode cX0_sum 23 = .ok (.istore_n 2, 1) := by decide +kernel
theorem dX0_sum_24 : decode cX0_sum 24 = .ok (.iinc 3 1, 3) := by decide +kernel
theorem dX0_sum_27 : decode cX0_sum 27 = .ok (.goto (-23), 3) := by decide +kernel
theorem dX0_sum_30 : decode cX0_sum 30 = .ok (.iload_n 2, 1) := by decide +kernel
theorem dX0_sum_31 : decode cX0_sum 31 = .ok (.ireturn, 1) := by decide +kernel
theorem dX0_felt_0 : decode cX0_felt 0 = .ok (.aload_n 0, 1) := by decide +kernel
theorem dX0_felt_1 : decode cX0_felt 1 = .ok (.getfield 18, 3) := by decide +kernel
theorem dX0_felt_4 : decode cX0_felt 4 = .ok (.iload_n 1, 1) := by decide +kernel
theorem dX0_felt_5 : decode cX0_felt 5 = .ok (.iaload, 1) := by decide +kernel
theorem dX0_felt_6 : decode cX0_felt 6 = .ok (.aload_n 0, 1) := by decide +kernel
theorem dX0_felt_7 : decode cX0_felt 7 = .ok (.getfield 34, 3) := by decide +kernel
theorem dX0_felt_10 : decode cX0_felt 10 = .ok (.iload_n 1, 1) := by decide +kernel
theorem dX0_felt_11 : decode cX0_felt 11 = .ok (.iaload, 1) := by decide +kernel
theorem dX0_felt_12 : decode cX0_felt 12 = .ok (.invokestatic 80, 3) := by decide +kernel
theorem dX0_felt_15 : decode cX0_felt 15 = .ok (.istore_n 2, 1) := by decide +kernel
theorem dX0_felt_16 : decode cX0_felt 16 = .ok (.iconst 1, 1) := by decide +kernel
theorem dX0_felt_17 : decode cX0_felt 17 = .ok (.istore_n 3, 1) := by decide +kernel
theorem dX0_felt_18 : decode cX0_felt 18 = .ok (.iload_n 3, 1) := by decide +kernel
theorem dX0_felt_19 : decode cX0_felt 19 = .ok (.iload_n 2, 1) := by decide +kernel
theorem dX0_felt_20 : decode cX0_felt 20 = .ok (.if_icmp .gt 32, 3) := by decide +kernel
theorem dX0_felt_23 : decode cX0_felt 23 = .ok (.aload_n 0, 1) := by decide +kernel
theorem dX0_felt_24 : decode cX0_felt 24 = .ok (.aload_n 0, 1) := by decide +kernel
theorem dX0_felt_25 : decode cX0_felt 25 = .ok (.getfield 22, 3) := by decide +kernel
theorem dX0_felt_28 : decode cX0_felt 28 = .ok (.iload_n 1, 1) := by decide +kernel
theorem dX0_felt_29 : decode cX0_felt 29 = .ok (.iaload, 1) := by decide +kernel
theorem dX0_felt_30 : decode cX0_felt 30 = .ok (.iload_n 3, 1) := by decide +kernel
theorem dX0_felt_31 : decode cX0_felt 31 = .ok (.iadd, 1) := by decide +kernel
theorem dX0_felt_32 : decode cX0_felt 32 = .ok (.invokevirtual 62, 3) := by decide +kernel
theorem dX0_felt_35 : decode cX0_felt 35 = .ok (.istore 4, 2) := by decide +kernel
theorem dX0_felt_37 : decode cX0_felt 37 = .ok (.iload 4, 2) := by decide +kernel
theorem dX0_felt_39 : decode cX0_felt 39 = .ok (.iconst (-1), 1) := by decide +kernel
theorem dX0_felt_40 : decode cX0_felt 40 = .ok (.if_icmp .eq 6, 3) := by decide +kernel
theorem dX0_felt_43 : decode cX0_felt 43 = .ok (.iload 4, 2) := by decide +kernel
theorem dX0_felt_45 : decode cX0_felt 45 = .ok (.ireturn, 1) := by decide +kernel
theorem dX0_felt_46 : decode cX0_felt 46 = .ok (.iinc 3 1, 3) := by decide +kernel
theorem dX0_felt_49 : decode cX0_felt 49 = .ok (.goto (-31), 3) := by decide +kernel
theorem dX0_felt_52 : decode cX0_felt 52 = .ok (.iconst (-1), 1) := by decide +kernel
theorem dX0_felt_53 : decode cX0_felt 53 = .ok (.ireturn, 1) := by decide +kernel
theorem dX0_getsFrom_0 : decode cX0_getsFrom 0 = .ok (.iload_n 2, 1) := by decide +kernel
theorem dX0_getsFrom_1 : decode cX0_getsFrom 1 = .ok (.iconst (-1), 1) := by decide +kernel
theorem dX0_getsFrom_2 : decode cX0_getsFrom 2 = .ok (.if_icmp .eq 35, 3) := by decide +kernel
theorem dX0_getsFrom_5 : decode cX0_getsFrom 5 = .ok (.aload_n 0, 1) := by decide +kernel
theorem dX0_getsFrom_6 : decode cX0_getsFrom 6 = .ok (.getfield 18, 3) := by decide +kernel
theorem dX0_getsFrom_9 : decode cX0_getsFrom 9 = .ok (.iload_n 1, 1) := by decide +kernel
theorem dX0_getsFrom_10 : decode cX0_getsFrom 10 = .ok (.iaload, 1) := by decide +kernel
theorem dX0_getsFrom_11 : decode cX0_getsFrom 11 = .ok (.aload_n 0, 1) := by decide +kernel
theorem dX0_getsFrom_12 : decode cX0_getsFrom 12 = .ok (.getfield 34, 3) := by decide +kernel
theorem dX0_getsFrom_15 : decode cX0_getsFrom 15 = .ok (.iload_n 1, 1) := by decide +kernel
theorem dX0_getsFrom_16 : decode cX0_getsFrom 16 = .ok (.iaload, 1) := by decide +kernel
theorem dX0_getsFrom_17 : decode cX0_getsFrom 17 = .ok (.aload_n 0, 1) := by decide +kernel
theorem dX0_getsFrom_18 : decode cX0_getsFrom 18 = .ok (.getfield 28, 3) := by decide +kernel
theorem dX0_getsFrom_21 : decode cX0_getsFrom 21 = .ok (.iload_n 2, 1) := by decide +kernel
theorem dX0_getsFrom_22 : decode cX0_getsFrom 22 = .ok (.iaload, 1) := by decide +kernel
theorem dX0_getsFrom_23 : decode cX0_getsFrom 23 = .ok (.aload_n 0, 1) := by decide +kernel
theorem dX0_getsFrom_24 : decode cX0_getsFrom 24 = .ok (.getfield 9, 3) := by decide +kernel
theorem dX0_getsFrom_27 : decode cX0_getsFrom 27 = .ok (.invokestatic 84, 3) := by decide +kernel
theorem dX0_getsFrom_30 : decode cX0_getsFrom 30 = .ok (.ifCond .eq 7, 3) := by decide +kernel
theorem dX0_getsFrom_33 : decode cX0_getsFrom 33 = .ok (.iconst 1, 1) := by decide +kernel
theorem dX0_getsFrom_34 : decode cX0_getsFrom 34 = .ok (.goto 4, 3) := by decide +kernel
theorem dX0_getsFrom_37 : decode cX0_getsFrom 37 = .ok (.iconst 0, 1) := by decide +kernel
theorem dX0_getsFrom_38 : decode cX0_getsFrom 38 = .ok (.ireturn, 1) := by decide +kernel
theorem dX0_told_0 : decode cX0_told 0 = .ok (.aload_n 0, 1) := by decide +kernel
theorem dX0_told_1 : decode cX0_told 1 = .ok (.getfield 18, 3) := by decide +kernel
theorem dX0_told_4 : decode cX0_told 4 = .ok (.iload_n 1, 1) := by decide +kernel
theorem dX0_told_5 : decode cX0_told 5 = .ok (.iaload, 1) := by decide +kernel
theorem dX0_told_6 : decode cX0_told 6 = .ok (.aload_n 0, 1) := by decide +kernel
theorem dX0_told_7 : decode cX0_told 7 = .ok (.getfield 31, 3) := by decide +kernel
theorem dX0_told_10 : decode cX0_told 10 = .ok (.iload_n 1, 1) := by decide +kernel
theorem dX0_told_11 : decode cX0_told 11 = .ok (.iaload, 1) := by decide +kernel
theorem dX0_told_12 : decode cX0_told 12 = .ok (.invokestatic 88, 3) := by decide +kernel
theorem dX0_told_15 : decode cX0_told 15 = .ok (.ireturn, 1) := by decide +kernel
theorem dX0_passNights_0 : decode cX0_passNights 0 = .ok (.iconst 0, 1) := by decide +kernel
theorem dX0_passNights_1 : decode cX0_passNights 1 = .ok (.istore_n 2, 1) := by decide +kernel
theorem dX0_passNights_2 : decode cX0_passNights 2 = .ok (.iload_n 2, 1) := by decide +kernel
theorem dX0_passNights_3 : decode cX0_passNights 3 = .ok (.iload_n 1, 1) := by decide +kernel
theorem dX0_passNights_4 : decode cX0_passNights 4 = .ok (.if_icmp .ge 13, 3) := by decide +kernel
theorem dX0_passNights_7 : decode cX0_passNights 7 = .ok (.aload_n 0, 1) := by decide +kernel
theorem dX0_passNights_8 : decode cX0_passNights 8 = .ok (.invokevirtual 91, 3) := by decide +kernel
theorem dX0_passNights_11 : decode cX0_passNights 11 = .ok (.iinc 2 1, 3) := by decide +kernel
theorem dX0_passNights_14 : decode cX0_passNights 14 = .ok (.goto (-12), 3) := by decide +kernel
theorem dX0_passNights_17 : decode cX0_passNights 17 = .ok (.return_, 1) := by decide +kernel
theorem dX0_passNight_0 : decode cX0_passNight 0 = .ok (.iconst 0, 1) := by decide +kernel
theorem dX0_passNight_1 : decode cX0_passNight 1 = .ok (.istore_n 1, 1) := by decide +kernel
theorem dX0_passNight_2 : decode cX0_passNight 2 = .ok (.iload_n 1, 1) := by decide +kernel
theorem dX0_passNight_3 : decode cX0_passNight 3 = .ok (.aload_n 0, 1) := by decide +kernel
theorem dX0_passNight_4 : decode cX0_passNight 4 = .ok (.getfield 15, 3) := by decide +kernel
theorem dX0_passNight_7 : decode cX0_passNight 7 = .ok (.if_icmp .ge 14, 3) := by decide +kernel
theorem dX0_passNight_10 : decode cX0_passNight 10 = .ok (.aload_n 0, 1) := by decide +kernel
theorem dX0_passNight_11 : decode cX0_passNight 11 = .ok (.iload_n 1, 1) := by decide +kernel
theorem dX0_passNight_12 : decode cX0_passNight 12 = .ok (.invokevirtual 94, 3) := by decide +kernel
theorem dX0_passNight_15 : decode cX0_passNight 15 = .ok (.iinc 1 1, 3) := by decide +kernel
theorem dX0_passNight_18 : decode cX0_passNight 18 = .ok (.goto (-16), 3) := by decide +kernel
theorem dX0_passNight_21 : decode cX0_passNight 21 = .ok (.iconst 0, 1) := by decide +kernel
theorem dX0_passNight_22 : decode cX0_passNight 22 = .ok (.istore_n 1, 1) := by decide +kernel
theorem dX0_passNight_23 : decode cX0_passNight 23 = .ok (.iload_n 1, 1) := by decide +kernel
theorem dX0_passNight_24 : decode cX0_passNight 24 = .ok (.aload_n 0, 1) := by decide +kernel
theorem dX0_passNight_25 : decode cX0_passNight 25 = .ok (.getfield 15, 3) := by decide +kernel
theorem dX0_passNight_28 : decode cX0_passNight 28 = .ok (.if_icmp .ge 52, 3) := by decide +kernel
theorem dX0_passNight_31 : decode cX0_passNight 31 = .ok (.aload_n 0, 1) := by decide +kernel
theorem dX0_passNight_32 : decode cX0_passNight 32 = .ok (.getfield 31, 3) := by decide +kernel
theorem dX0_passNight_35 : decode cX0_passNight 35 = .ok (.iload_n 1, 1) := by decide +kernel
theorem dX0_passNight_36 : decode cX0_passNight 36 = .ok (.dup2, 1) := by decide +kernel
theorem dX0_passNight_37 : decode cX0_passNight 37 = .ok (.iaload, 1) := by decide +kernel
theorem dX0_passNight_38 : decode cX0_passNight 38 = .ok (.aload_n 0, 1) := by decide +kernel
theorem dX0_passNight_39 : decode cX0_passNight 39 = .ok (.getfield 40, 3) := by decide +kernel
theorem dX0_passNight_42 : decode cX0_passNight 42 = .ok (.iload_n 1, 1) := by decide +kernel
theorem dX0_passNight_43 : decode cX0_passNight 43 = .ok (.iaload, 1) := by decide +kernel
theorem dX0_passNight_44 : decode cX0_passNight 44 = .ok (.ior, 1) := by decide +kernel
theorem dX0_passNight_45 : decode cX0_passNight 45 = .ok (.iastore, 1) := by decide +kernel
theorem dX0_passNight_46 : decode cX0_passNight 46 = .ok (.aload_n 0, 1) := by decide +kernel
theorem dX0_passNight_47 : decode cX0_passNight 47 = .ok (.getfield 34, 3) := by decide +kernel
theorem dX0_passNight_50 : decode cX0_passNight 50 = .ok (.iload_n 1, 1) := by decide +kernel
theorem dX0_passNight_51 : decode cX0_passNight 51 = .ok (.iconst 0, 1) := by decide +kernel
theorem dX0_passNight_52 : decode cX0_passNight 52 = .ok (.bipush 99, 2) := by decide +kernel
theorem dX0_passNight_54 : decode cX0_passNight 54 = .ok (.aload_n 0, 1) := by decide +kernel
theorem dX0_passNight_55 : decode cX0_passNight 55 = .ok (.getfield 34, 3) := by decide +kernel
theorem dX0_passNight_58 : decode cX0_passNight 58 = .ok (.iload_n 1, 1) := by decide +kernel
theorem dX0_passNight_59 : decode cX0_passNight 59 = .ok (.iaload, 1) := by decide +kernel
theorem dX0_passNight_60 : decode cX0_passNight 60 = .ok (.aload_n 0, 1) := by decide +kernel
theorem dX0_passNight_61 : decode cX0_passNight 61 = .ok (.getfield 43, 3) := by decide +kernel
theorem dX0_passNight_64 : decode cX0_passNight 64 = .ok (.iload_n 1, 1) := by decide +kernel
theorem dX0_passNight_65 : decode cX0_passNight 65 = .ok (.iaload, 1) := by decide +kernel
theorem dX0_passNight_66 : decode cX0_passNight 66 = .ok (.iadd, 1) := by decide +kernel
theorem dX0_passNight_67 : decode cX0_passNight 67 = .ok (.invokestatic 98, 3) := by decide +kernel
theorem dX0_passNight_70 : decode cX0_passNight 70 = .ok (.invokestatic 103, 3) := by decide +kernel
theorem dX0_passNight_73 : decode cX0_passNight 73 = .ok (.iastore, 1) := by decide +kernel
theorem dX0_passNight_74 : decode cX0_passNight 74 = .ok (.iinc 1 1, 3) := by decide +kernel
theorem dX0_passNight_77 : decode cX0_passNight 77 = .ok (.goto (-54), 3) := by decide +kernel
theorem dX0_passNight_80 : decode cX0_passNight 80 = .ok (.aload_n 0, 1) := by decide +kernel
theorem dX0_passNight_81 : decode cX0_passNight 81 = .ok (.dup, 1) := by decide +kernel
theorem dX0_passNight_82 : decode cX0_passNight 82 = .ok (.getfield 9, 3) := by decide +kernel
theorem dX0_passNight_85 : decode cX0_passNight 85 = .ok (.iconst 1, 1) := by decide +kernel
theorem dX0_passNight_86 : decode cX0_passNight 86 = .ok (.iadd, 1) := by decide +kernel
theorem dX0_passNight_87 : decode cX0_passNight 87 = .ok (.putfield 9, 3) := by decide +kernel
theorem dX0_passNight_90 : decode cX0_passNight 90 = .ok (.return_, 1) := by decide +kernel
theorem dX0_findOut_0 : decode cX0_findOut 0 = .ok (.aload_n 0, 1) := by decide +kernel
theorem dX0_findOut_1 : decode cX0_findOut 1 = .ok (.iload_n 1, 1) := by decide +kernel
theorem dX0_findOut_2 : decode cX0_findOut 2 = .ok (.invokevirtual 106, 3) := by decide +kernel
theorem dX0_findOut_5 : decode cX0_findOut 5 = .ok (.istore_n 2, 1) := by decide +kernel
theorem dX0_findOut_6 : decode cX0_findOut 6 = .ok (.aload_n 0, 1) := by decide +kernel
theorem dX0_findOut_7 : decode cX0_findOut 7 = .ok (.iload_n 1, 1) := by decide +kernel
theorem dX0_findOut_8 : decode cX0_findOut 8 = .ok (.iload_n 2, 1) := by decide +kernel
theorem dX0_findOut_9 : decode cX0_findOut 9 = .ok (.invokevirtual 109, 3) := by decide +kernel
theorem dX0_findOut_12 : decode cX0_findOut 12 = .ok (.istore_n 3, 1) := by decide +kernel
theorem dX0_findOut_13 : decode cX0_findOut 13 = .ok (.iload_n 3, 1) := by decide +kernel
theorem dX0_findOut_14 : decode cX0_findOut 14 = .ok (.ifCond .eq 14, 3) := by decide +kernel
theorem dX0_findOut_17 : decode cX0_findOut 17 = .ok (.iconst 1, 1) := by decide +kernel
theorem dX0_findOut_18 : decode cX0_findOut 18 = .ok (.aload_n 0, 1) := by decide +kernel
theorem dX0_findOut_19 : decode cX0_findOut 19 = .ok (.getfield 25, 3) := by decide +kernel
theorem dX0_findOut_22 : decode cX0_findOut 22 = .ok (.iload_n 2, 1) := by decide +kernel
theorem dX0_findOut_23 : decode cX0_findOut 23 = .ok (.iaload, 1) := by decide +kernel
theorem dX0_findOut_24 : decode cX0_findOut 24 = .ok (.ishl, 1) := by decide +kernel
theorem dX0_findOut_25 : decode cX0_findOut 25 = .ok (.goto 4, 3) := by decide +kernel
theorem dX0_findOut_28 : decode cX0_findOut 28 = .ok (.iconst 0, 1) := by decide +kernel
theorem dX0_findOut_29 : decode cX0_findOut 29 = .ok (.istore 4, 2) := by decide +kernel
theorem dX0_findOut_31 : decode cX0_findOut 31 = .ok (.aload_n 0, 1) := by decide +kernel
theorem dX0_findOut_32 : decode cX0_findOut 32 = .ok (.aload_n 0, 1) := by decide +kernel
theorem dX0_findOut_33 : decode cX0_findOut 33 = .ok (.getfield 22, 3) := by decide +kernel
theorem dX0_findOut_36 : decode cX0_findOut 36 = .ok (.iload_n 1, 1) := by decide +kernel
theorem dX0_findOut_37 : decode cX0_findOut 37 = .ok (.iaload, 1) := by decide +kernel
theorem dX0_findOut_38 : decode cX0_findOut 38 = .ok (.iconst 1, 1) := by decide +kernel
theorem dX0_findOut_39 : decode cX0_findOut 39 = .ok (.iadd, 1) := by decide +kernel
theorem dX0_findOut_40 : decode cX0_findOut 40 = .ok (.invokevirtual 62, 3) := by decide +kernel
theorem dX0_findOut_43 : decode cX0_findOut 43 = .ok (.istore 5, 2) := by decide +kernel
theorem dX0_findOut_45 : decode cX0_findOut 45 = .ok (.iload 5, 2) := by decide +kernel
theorem dX0_findOut_47 : decode cX0_findOut 47 = .ok (.iconst (-1), 1) := by decide +kernel
theorem dX0_findOut_48 : decode cX0_findOut 48 = .ok (.if_icmp .eq 14, 3) := by decide +kernel
theorem dX0_findOut_51 : decode cX0_findOut 51 = .ok (.iload 4, 2) := by decide +kernel
theorem dX0_findOut_53 : decode cX0_findOut 53 = .ok (.aload_n 0, 1) := by decide +kernel
theorem dX0_findOut_54 : decode cX0_findOut 54 = .ok (.iload 5, 2) := by decide +kernel
theorem dX0_findOut_56 : decode cX0_findOut 56 = .ok (.invokevirtual 112, 3) := by decide +kernel
theorem dX0_findOut_59 : decode cX0_findOut 59 = .ok (.ior, 1) := by decide +kernel
theorem dX0_findOut_60 : decode cX0_findOut 60 = .ok (.istore 4, 2) := by decide +kernel
theorem dX0_findOut_62 : decode cX0_findOut 62 = .ok (.aload_n 0, 1) := by decide +kernel
theorem dX0_findOut_63 : decode cX0_findOut 63 = .ok (.getfield 18, 3) := by decide +kernel
theorem dX0_findOut_66 : decode cX0_findOut 66 = .ok (.iload_n 1, 1) := by decide +kernel
theorem dX0_findOut_67 : decode cX0_findOut 67 = .ok (.iaload, 1) := by decide +kernel
theorem dX0_findOut_68 : decode cX0_findOut 68 = .ok (.iconst 4, 1) := by decide +kernel
theorem dX0_findOut_69 : decode cX0_findOut 69 = .ok (.if_icmp .eq 18, 3) := by decide +kernel
theorem dX0_findOut_72 : decode cX0_findOut 72 = .ok (.iload 4, 2) := by decide +kernel
theorem dX0_findOut_74 : decode cX0_findOut 74 = .ok (.iconst 1, 1) := by decide +kernel
theorem dX0_findOut_75 : decode cX0_findOut 75 = .ok (.aload_n 0, 1) := by decide +kernel
theorem dX0_findOut_76 : decode cX0_findOut 76 = .ok (.getfield 25, 3) := by decide +kernel
theorem dX0_findOut_79 : decode cX0_findOut 79 = .ok (.iload_n 1, 1) := by decide +kernel
theorem dX0_findOut_80 : decode cX0_findOut 80 = .ok (.iaload, 1) := by decide +kernel
theorem dX0_findOut_81 : decode cX0_findOut 81 = .ok (.ishl, 1) := by decide +kernel
theorem dX0_findOut_82 : decode cX0_findOut 82 = .ok (.iconst (-1), 1) := by decide +kernel
theorem dX0_findOut_83 : decode cX0_findOut 83 = .ok (.ixor, 1) := by decide +kernel
theorem dX0_findOut_84 : decode cX0_findOut 84 = .ok (.iand, 1) := by decide +kernel
theorem dX0_findOut_85 : decode cX0_findOut 85 = .ok (.istore 4, 2) := by decide +kernel
theorem dX0_findOut_87 : decode cX0_findOut 87 = .ok (.aload_n 0, 1) := by decide +kernel
theorem dX0_findOut_88 : decode cX0_findOut 88 = .ok (.getfield 40, 3) := by decide +kernel
theorem dX0_findOut_91 : decode cX0_findOut 91 = .ok (.iload_n 1, 1) := by decide +kernel
theorem dX0_findOut_92 : decode cX0_findOut 92 = .ok (.iload 4, 2) := by decide +kernel
theorem dX0_findOut_94 : decode cX0_findOut 94 = .ok (.iastore, 1) := by decide +kernel
theorem dX0_findOut_95 : decode cX0_findOut 95 = .ok (.aload_n 0, 1) := by decide +kernel
theorem dX0_findOut_96 : decode cX0_findOut 96 = .ok (.getfield 43, 3) := by decide +kernel
theorem dX0_findOut_99 : decode cX0_findOut 99 = .ok (.iload_n 1, 1) := by decide +kernel
theorem dX0_findOut_100 : decode cX0_findOut 100 = .ok (.aload_n 0, 1) := by decide +kernel
theorem dX0_findOut_101 : decode cX0_findOut 101 = .ok (.getfield 18, 3) := by decide +kernel
theorem dX0_findOut_104 : decode cX0_findOut 104 = .ok (.iload_n 1, 1) := by decide +kernel
theorem dX0_findOut_105 : decode cX0_findOut 105 = .ok (.iaload, 1) := by decide +kernel
theorem dX0_findOut_106 : decode cX0_findOut 106 = .ok (.iload_n 3, 1) := by decide +kernel
theorem dX0_findOut_107 : decode cX0_findOut 107 = .ok (.invokestatic 115, 3) := by decide +kernel
theorem dX0_findOut_110 : decode cX0_findOut 110 = .ok (.iastore, 1) := by decide +kernel
theorem dX0_findOut_111 : decode cX0_findOut 111 = .ok (.return_, 1) := by decide +kernel
theorem dX1_isKind_0 : decode cX1_isKind 0 = .ok (.iload_n 0, 1) := by decide +kernel
theorem dX1_isKind_1 : decode cX1_isKind 1 = .ok (.ifCond .lt 13, 3) := by decide +kernel
theorem dX1_isKind_4 : decode cX1_isKind 4 = .ok (.iload_n 0, 1) := by decide +kernel
theorem dX1_isKind_5 : decode cX1_isKind 5 = .ok (.bipush 6, 2) := by decide +kernel
theorem dX1_isKind_7 : decode cX1_isKind 7 = .ok (.if_icmp .ge 7, 3) := by decide +kernel
theorem dX1_isKind_10 : decode cX1_isKind 10 = .ok (.iconst 1, 1) := by decide +kernel
theorem dX1_isKind_11 : decode cX1_isKind 11 = .ok (.goto 4, 3) := by decide +kernel
theorem dX1_isKind_14 : decode cX1_isKind 14 = .ok (.iconst 0, 1) := by decide +kernel
theorem dX1_isKind_15 : decode cX1_isKind 15 = .ok (.ireturn, 1) := by decide +kernel
theorem dX1_isUnder_0 : decode cX1_isUnder 0 = .ok (.iload_n 0, 1) := by decide +kernel
theorem dX1_isUnder_1 : decode cX1_isUnder 1 = .ok (.istore_n 2, 1) := by decide +kernel
theorem dX1_isUnder_2 : decode cX1_isUnder 2 = .ok (.iconst 0, 1) := by decide +kernel
theorem dX1_isUnder_3 : decode cX1_isUnder 3 = .ok (.istore_n 3, 1) := by decide +kernel
theorem dX1_isUnder_4 : decode cX1_isUnder 4 = .ok (.iload_n 3, 1) := by decide +kernel
theorem dX1_isUnder_5 : decode cX1_isUnder 5 = .ok (.bipush 6, 2) := by decide +kernel
theorem dX1_isUnder_7 : decode cX1_isUnder 7 = .ok (.if_icmp .ge 29, 3) := by decide +kernel
theorem dX1_isUnder_10 : decode cX1_isUnder 10 = .ok (.iload_n 2, 1) := by decide +kernel
theorem dX1_isUnder_11 : decode cX1_isUnder 11 = .ok (.invokestatic 11, 3) := by decide +kernel
theorem dX1_isUnder_14 : decode cX1_isUnder 14 = .ok (.ifCond .eq 22, 3) := by decide +kernel
theorem dX1_isUnder_17 : decode cX1_isUnder 17 = .ok (.iload_n 2, 1) := by decide +kernel
theorem dX1_isUnder_18 : decode cX1_isUnder 18 = .ok (.iload_n 1, 1) := by decide +kernel
theorem dX1_isUnder_19 : decode cX1_isUnder 19 = .ok (.if_icmp .ne 5, 3) := by decide +kernel
theorem dX1_isUnder_22 : decode cX1_isUnder 22 = .ok (.iconst 1, 1) := by decide +kernel
theorem dX1_isUnder_23 : decode cX1_isUnder 23 = .ok (.ireturn, 1) := by decide +kernel
theorem dX1_isUnder_24 : decode cX1_isUnder 24 = .ok (.getstatic 15, 3) := by decide +kernel
theorem dX1_isUnder_27 : decode cX1_isUnder 27 = .ok (.iload_n 2, 1) := by decide +kernel
theorem dX1_isUnder_28 : decode cX1_isUnder 28 = .ok (.iaload, 1) := by decide +kernel
theorem dX1_isUnder_29 : decode cX1_isUnder 29 = .ok (.istore_n 2, 1) := by decide +kernel
theorem dX1_isUnder_30 : decode cX1_isUnder 30 = .ok (.iinc 3 1, 3) := by decide +kernel
theorem dX1_isUnder_33 : decode cX1_isUnder 33 = .ok (.goto (-29), 3) := by decide +kernel
theorem dX1_isUnder_36 : decode cX1_isUnder 36 = .ok (.iconst 0, 1) := by decide +kernel
theorem dX1_isUnder_37 : decode cX1_isUnder 37 = .ok (.ireturn, 1) := by decide +kernel
theorem dX1_reach_0 : decode cX1_reach 0 = .ok (.iload_n 0, 1) := by decide +kernel
theorem dX1_reach_1 : decode cX1_reach 1 = .ok (.tableswitch 51 1 5 #[35, 51, 37, 35, 39], 35) := by decide +kernel
theorem dX1_reach_36 : decode cX1_reach 36 = .ok (.iconst 2, 1) := by decide +kernel
theorem dX1_reach_37 : decode cX1_reach 37 = .ok (.ireturn, 1) := by decide +kernel
theorem dX1_reach_38 : decode cX1_reach 38 = .ok (.iconst 0, 1) := by decide +kernel
theorem dX1_reach_39 : decode cX1_reach 39 = .ok (.ireturn, 1) := by decide +kernel
theorem dX1_reach_40 : decode cX1_reach 40 = .ok (.iload_n 1, 1) := by decide +kernel
theorem dX1_reach_41 : decode cX1_reach 41 = .ok (.bipush 10, 2) := by decide +kernel
theorem dX1_reach_43 : decode cX1_reach 43 = .ok (.if_icmp .ge 7, 3) := by decide +kernel
theorem dX1_reach_46 : decode cX1_reach 46 = .ok (.iconst 2, 1) := by decide +kernel
theorem dX1_reach_47 : decode cX1_reach 47 = .ok (.goto 4, 3) := by decide +kernel
theorem dX1_reach_50 : decode cX1_reach 50 = .ok (.iconst 1, 1) := by decide +kernel
theorem dX1_reach_51 : decode cX1_reach 51 = .ok (.ireturn, 1) := by decide +kernel
theorem dX1_reach_52 : decode cX1_reach 52 = .ok (.iconst 1, 1) := by decide +kernel
theorem dX1_reach_53 : decode cX1_reach 53 = .ok (.ireturn, 1) := by decide +kernel
theorem dX1_gets_0 : decode cX1_gets 0 = .ok (.iload_n 1, 1) := by decide +kernel
theorem dX1_gets_1 : decode cX1_gets 1 = .ok (.bipush 60, 2) := by decide +kernel
theorem dX1_gets_3 : decode cX1_gets 3 = .ok (.if_icmp .lt 5, 3) := by decide +kernel
theorem dX1_gets_6 : decode cX1_gets 6 = .ok (.iconst 0, 1) := by decide +kernel
theorem dX1_gets_7 : decode cX1_gets 7 = .ok (.ireturn, 1) := by decide +kernel
theorem dX1_gets_8 : decode cX1_gets 8 = .ok (.iload_n 0, 1) := by decide +kernel
theorem dX1_gets_9 : decode cX1_gets 9 = .ok (.tableswitch 64 1 5 #[35, 46, 62, 35, 46], 35) := by decide +kernel
theorem dX1_gets_44 : decode cX1_gets 44 = .ok (.iload_n 2, 1) := by decide +kernel
theorem dX1_gets_45 : decode cX1_gets 45 = .ok (.iconst 3, 1) := by decide +kernel
theorem dX1_gets_46 : decode cX1_gets 46 = .ok (.if_icmp .lt 7, 3) := by decide +kernel
theorem dX1_gets_49 : decode cX1_gets 49 = .ok (.iconst 1, 1) := by decide +kernel
theorem dX1_gets_50 : decode cX1_gets 50 = .ok (.goto 4, 3) := by decide +kernel
theorem dX1_gets_53 : decode cX1_gets 53 = .ok (.iconst 0, 1) := by decide +kernel
theorem dX1_gets_54 : decode cX1_gets 54 = .ok (.ireturn, 1) := by decide +kernel
theorem dX1_gets_55 : decode cX1_gets 55 = .ok (.iload_n 2, 1) := by decide +kernel
theorem dX1_gets_56 : decode cX1_gets 56 = .ok (.iload_n 3, 1) := by decide +kernel
theorem dX1_gets_57 : decode cX1_gets 57 = .ok (.iconst 4, 1) := by decide +kernel
theorem dX1_gets_58 : decode cX1_gets 58 = .ok (.irem, 1) := by decide +kernel
theorem dX1_gets_59 : decode cX1_gets 59 = .ok (.iadd, 1) := by decide +kernel
theorem dX1_gets_60 : decode cX1_gets 60 = .ok (.bipush 7, 2) := by decide +kernel
theorem dX1_gets_62 : decode cX1_gets 62 = .ok (.if_icmp .lt 7, 3) := by decide +kernel
theorem dX1_gets_65 : decode cX1_gets 65 = .ok (.iconst 1, 1) := by decide +kernel
theorem dX1_gets_66 : decode cX1_gets 66 = .ok (.goto 4, 3) := by decide +kernel
theorem dX1_gets_69 : decode cX1_gets 69 = .ok (.iconst 0, 1) := by decide +kernel
theorem dX1_gets_70 : decode cX1_gets 70 = .ok (.ireturn, 1) := by decide +kernel
theorem dX1_gets_71 : decode cX1_gets 71 = .ok (.iconst 1, 1) := by decide +kernel
theorem dX1_gets_72 : decode cX1_gets 72 = .ok (.ireturn, 1) := by decide +kernel
theorem dX1_gets_73 : decode cX1_gets 73 = .ok (.iload_n 2, 1) := by decide +kernel
theorem dX1_gets_74 : decode cX1_gets 74 = .ok (.iconst 5, 1) := by decide +kernel
theorem dX1_gets_75 : decode cX1_gets 75 = .ok (.if_icmp .lt 7, 3) := by decide +kernel
theorem dX1_gets_78 : decode cX1_gets 78 = .ok (.iconst 1, 1) := by decide +kernel
theorem dX1_gets_79 : decode cX1_gets 79 = .ok (.goto 4, 3) := by decide +kernel
theorem dX1_gets_82 : decode cX1_gets 82 = .ok (.iconst 0, 1) := by decide +kernel
theorem dX1_gets_83 : decode cX1_gets 83 = .ok (.ireturn, 1) := by decide +kernel
theorem dX1_tells_0 : decode cX1_tells 0 = .ok (.iload_n 0, 1) := by decide +kernel
theorem dX1_tells_1 : decode cX1_tells 1 = .ok (.tableswitch 71 1 5 #[35, 40, 49, 51, 40], 35) := by decide +kernel
theorem dX1_tells_36 : decode cX1_tells 36 = .ok (.iload_n 1, 1) := by decide +kernel
theorem dX1_tells_37 : decode cX1_tells 37 = .ok (.invokestatic 19, 3) := by decide +kernel
theorem dX1_tells_40 : decode cX1_tells 40 = .ok (.ireturn, 1) := by decide +kernel
theorem dX1_tells_41 : decode cX1_tells 41 = .ok (.iload_n 1, 1) := by decide +kernel
theorem dX1_tells_42 : decode cX1_tells 42 = .ok (.iload_n 1, 1) := by decide +kernel
theorem dX1_tells_43 : decode cX1_tells 43 = .ok (.invokestatic 23, 3) := by decide +kernel
theorem dX1_tells_46 : decode cX1_tells 46 = .ok (.iconst (-1), 1) := by decide +kernel
theorem dX1_tells_47 : decode cX1_tells 47 = .ok (.ixor, 1) := by decide +kernel
theorem dX1_tells_48 : decode cX1_tells 48 = .ok (.iand, 1) := by decide +kernel
theorem dX1_tells_49 : decode cX1_tells 49 = .ok (.ireturn, 1) := by decide +kernel
theorem dX1_tells_50 : decode cX1_tells 50 = .ok (.iload_n 1, 1) := by decide +kernel
theorem dX1_tells_51 : decode cX1_tells 51 = .ok (.ireturn, 1) := by decide +kernel
theorem dX1_tells_52 : decode cX1_tells 52 = .ok (.iload_n 1, 1) := by decide +kernel
theorem dX1_tells_53 : decode cX1_tells 53 = .ok (.invokestatic 26, 3) := by decide +kernel
theorem dX1_tells_56 : decode cX1_tells 56 = .ok (.iconst 4, 1) := by decide +kernel
theorem dX1_tells_57 : decode cX1_tells 57 = .ok (.if_icmp .lt 10, 3) := by decide +kernel
theorem dX1_tells_60 : decode cX1_tells 60 = .ok (.iload_n 1, 1) := by decide +kernel
theorem dX1_tells_61 : decode cX1_tells 61 = .ok (.invokestatic 23, 3) := by decide +kernel
theorem dX1_tells_64 : decode cX1_tells 64 = .ok (.goto 7, 3) := by decide +kernel
theorem dX1_tells_67 : decode cX1_tells 67 = .ok (.iload_n 1, 1) := by decide +kernel
theorem dX1_tells_68 : decode cX1_tells 68 = .ok (.invokestatic 19, 3) := by decide +kernel
theorem dX1_tells_71 : decode cX1_tells 71 = .ok (.ireturn, 1) := by decide +kernel
theorem dX1_tells_72 : decode cX1_tells 72 = .ok (.iconst 0, 1) := by decide +kernel
theorem dX1_tells_73 : decode cX1_tells 73 = .ok (.ireturn, 1) := by decide +kernel
theorem dX1_tires_0 : decode cX1_tires 0 = .ok (.iload_n 1, 1) := by decide +kernel
theorem dX1_tires_1 : decode cX1_tires 1 = .ok (.ifCond .eq 7, 3) := by decide +kernel
theorem dX1_tires_4 : decode cX1_tires 4 = .ok (.iconst 3, 1) := by decide +kernel
theorem dX1_tires_5 : decode cX1_tires 5 = .ok (.goto 5, 3) := by decide +kernel
theorem dX1_tires_8 : decode cX1_tires 8 = .ok (.bipush (-5), 2) := by decide +kernel
theorem dX1_tires_10 : decode cX1_tires 10 = .ok (.istore_n 2, 1) := by decide +kernel
theorem dX1_tires_11 : decode cX1_tires 11 = .ok (.iload_n 0, 1) := by decide +kernel
theorem dX1_tires_12 : decode cX1_tires 12 = .ok (.tableswitch 52 1 5 #[36, 40, 44, 46, 40], 36) := by decide +kernel
theorem dX1_tires_48 : decode cX1_tires 48 = .ok (.iload_n 2, 1) := by decide +kernel
theorem dX1_tires_49 : decode cX1_tires 49 = .ok (.iconst 2, 1) := by decide +kernel
theorem dX1_tires_50 : decode cX1_tires 50 = .ok (.iadd, 1) := by decide +kernel
theorem dX1_tires_51 : decode cX1_tires 51 = .ok (.ireturn, 1) := by decide +kernel
theorem dX1_tires_52 : decode cX1_tires 52 = .ok (.iconst 2, 1) := by decide +kernel
theorem dX1_tires_53 : decode cX1_tires 53 = .ok (.iload_n 2, 1) := by decide +kernel
theorem dX1_tires_54 : decode cX1_tires 54 = .ok (.imul, 1) := by decide +kernel
theorem dX1_tires_55 : decode cX1_tires 55 = .ok (.ireturn, 1) := by decide +kernel
theorem dX1_tires_56 : decode cX1_tires 56 = .ok (.iconst 0, 1) := by decide +kernel
theorem dX1_tires_57 : decode cX1_tires 57 = .ok (.ireturn, 1) := by decide +kernel
theorem dX1_tires_58 : decode cX1_tires 58 = .ok (.iload_n 2, 1) := by decide +kernel
theorem dX1_tires_59 : decode cX1_tires 59 = .ok (.iconst 2, 1) := by decide +kernel
theorem dX1_tires_60 : decode cX1_tires 60 = .ok (.iadd, 1) := by decide +kernel
theorem dX1_tires_61 : decode cX1_tires 61 = .ok (.iconst 3, 1) := by decide +kernel
theorem dX1_tires_62 : decode cX1_tires 62 = .ok (.iadd, 1) := by decide +kernel
theorem dX1_tires_63 : decode cX1_tires 63 = .ok (.ireturn, 1) := by decide +kernel
theorem dX1_tires_64 : decode cX1_tires 64 = .ok (.iload_n 2, 1) := by decide +kernel
theorem dX1_tires_65 : decode cX1_tires 65 = .ok (.ireturn, 1) := by decide +kernel
theorem dX1_least_0 : decode cX1_least 0 = .ok (.iload_n 0, 1) := by decide +kernel
theorem dX1_least_1 : decode cX1_least 1 = .ok (.iload_n 0, 1) := by decide +kernel
theorem dX1_least_2 : decode cX1_least 2 = .ok (.ineg, 1) := by decide +kernel
theorem dX1_least_3 : decode cX1_least 3 = .ok (.iand, 1) := by decide +kernel
theorem dX1_least_4 : decode cX1_least 4 = .ok (.ireturn, 1) := by decide +kernel
theorem dX1_greatest_0 : decode cX1_greatest 0 = .ok (.bipush 9, 2) := by decide +kernel
theorem dX1_greatest_2 : decode cX1_greatest 2 = .ok (.istore_n 1, 1) := by decide +kernel
theorem dX1_greatest_3 : decode cX1_greatest 3 = .ok (.iload_n 1, 1) := by decide +kernel
theorem dX1_greatest_4 : decode cX1_greatest 4 = .ok (.ifCond .lt 21, 3) := by decide +kernel
theorem dX1_greatest_7 : decode cX1_greatest 7 = .ok (.iconst 1, 1) := by decide +kernel
theorem dX1_greatest_8 : decode cX1_greatest 8 = .ok (.iload_n 1, 1) := by decide +kernel
theorem dX1_greatest_9 : decode cX1_greatest 9 = .ok (.ishl, 1) := by decide +kernel
theorem dX1_greatest_10 : decode cX1_greatest 10 = .ok (.istore_n 2, 1) := by decide +kernel
theorem dX1_greatest_11 : decode cX1_greatest 11 = .ok (.iload_n 0, 1) := by decide +kernel
theorem dX1_greatest_12 : decode cX1_greatest 12 = .ok (.iload_n 2, 1) := by decide +kernel
theorem dX1_greatest_13 : decode cX1_greatest 13 = .ok (.iand, 1) := by decide +kernel
theorem dX1_greatest_14 : decode cX1_greatest 14 = .ok (.ifCond .eq 5, 3) := by decide +kernel
theorem dX1_greatest_17 : decode cX1_greatest 17 = .ok (.iload_n 2, 1) := by decide +kernel
theorem dX1_greatest_18 : decode cX1_greatest 18 = .ok (.ireturn, 1) := by decide +kernel
theorem dX1_greatest_19 : decode cX1_greatest 19 = .ok (.iinc 1 (-1), 3) := by decide +kernel
theorem dX1_greatest_22 : decode cX1_greatest 22 = .ok (.goto (-19), 3) := by decide +kernel
theorem dX1_greatest_25 : decode cX1_greatest 25 = .ok (.iconst 0, 1) := by decide +kernel
theorem dX1_greatest_26 : decode cX1_greatest 26 = .ok (.ireturn, 1) := by decide +kernel
theorem dX2_init_0 : decode cX2_init 0 = .ok (.aload_n 0, 1) := by decide +kernel
theorem dX2_init_1 : decode cX2_init 1 = .ok (.invokespecial 3, 3) := by decide +kernel
theorem dX2_init_4 : decode cX2_init 4 = .ok (.aload_n 0, 1) := by decide +kernel
theorem dX2_init_5 : decode cX2_init 5 = .ok (.iconst 0, 1) := by decide +kernel
theorem dX2_init_6 : decode cX2_init 6 = .ok (.putfield 9, 3) := by decide +kernel
theorem dX2_init_9 : decode cX2_init 9 = .ok (.aload_n 0, 1) := by decide +kernel
theorem dX2_init_10 : decode cX2_init 10 = .ok (.iconst 0, 1) := by decide +kernel
theorem dX2_init_11 : decode cX2_init 11 = .ok (.putfield 15, 3) := by decide +kernel
theorem dX2_init_14 : decode cX2_init 14 = .ok (.aload_n 0, 1) := by decide +kernel
theorem dX2_init_15 : decode cX2_init 15 = .ok (.bipush 40, 2) := by decide +kernel
theorem dX2_init_17 : decode cX2_init 17 = .ok (.newarray .long, 2) := by decide +kernel
theorem dX2_init_19 : decode cX2_init 19 = .ok (.putfield 18, 3) := by decide +kernel
theorem dX2_init_22 : decode cX2_init 22 = .ok (.return_, 1) := by decide +kernel
theorem dX2_isMissing_0 : decode cX2_isMissing 0 = .ok (.aload_n 0, 1) := by decide +kernel
theorem dX2_isMissing_1 : decode cX2_isMissing 1 = .ok (.getfield 9, 3) := by decide +kernel
theorem dX2_isMissing_4 : decode cX2_isMissing 4 = .ok (.ifCond .ne 7, 3) := by decide +kernel
theorem dX2_isMissing_7 : decode cX2_isMissing 7 = .ok (.iconst 1, 1) := by decide +kernel
theorem dX2_isMissing_8 : decode cX2_isMissing 8 = .ok (.goto 4, 3) := by decide +kernel
theorem dX2_isMissing_11 : decode cX2_isMissing 11 = .ok (.iconst 0, 1) := by decide +kernel
theorem dX2_isMissing_12 : decode cX2_isMissing 12 = .ok (.ireturn, 1) := by decide +kernel
theorem dX2_lay_0 : decode cX2_lay 0 = .ok (.aload_n 0, 1) := by decide +kernel
theorem dX2_lay_1 : decode cX2_lay 1 = .ok (.iload_n 1, 1) := by decide +kernel
theorem dX2_lay_2 : decode cX2_lay 2 = .ok (.putfield 9, 3) := by decide +kernel
theorem dX2_lay_5 : decode cX2_lay 5 = .ok (.aload_n 0, 1) := by decide +kernel
theorem dX2_lay_6 : decode cX2_lay 6 = .ok (.iload_n 1, 1) := by decide +kernel
theorem dX2_lay_7 : decode cX2_lay 7 = .ok (.ifCond .ne 7, 3) := by decide +kernel
theorem dX2_lay_10 : decode cX2_lay 10 = .ok (.iconst 0, 1) := by decide +kernel
theorem dX2_lay_11 : decode cX2_lay 11 = .ok (.goto 4, 3) := by decide +kernel
theorem dX2_lay_14 : decode cX2_lay 14 = .ok (.iload_n 2, 1) := by decide +kernel
theorem dX2_lay_15 : decode cX2_lay 15 = .ok (.putfield 15, 3) := by decide +kernel
theorem dX2_lay_18 : decode cX2_lay 18 = .ok (.aload_n 0, 1) := by decide +kernel
theorem dX2_lay_19 : decode cX2_lay 19 = .ok (.getfield 18, 3) := by decide +kernel
theorem dX2_lay_22 : decode cX2_lay 22 = .ok (.lconst 0, 1) := by decide +kernel
theorem dX2_lay_23 : decode cX2_lay 23 = .ok (.invokestatic 22, 3) := by decide +kernel
theorem dX2_lay_26 : decode cX2_lay 26 = .ok (.return_, 1) := by decide +kernel
theorem dX2_put_0 : decode cX2_put 0 = .ok (.aload_n 0, 1) := by decide +kernel
theorem dX2_put_1 : decode cX2_put 1 = .ok (.getfield 9, 3) := by decide +kernel
theorem dX2_put_4 : decode cX2_put 4 = .ok (.bipush 8, 2) := by decide +kernel
theorem dX2_put_6 : decode cX2_put 6 = .ok (.if_icmp .ne 16, 3) := by decide +kernel
theorem dX2_put_9 : decode cX2_put 9 = .ok (.aload_n 0, 1) := by decide +kernel
theorem dX2_put_10 : decode cX2_put 10 = .ok (.getfield 18, 3) := by decide +kernel
theorem dX2_put_13 : decode cX2_put 13 = .ok (.iload_n 1, 1) := by decide +kernel
theorem dX2_put_14 : decode cX2_put 14 = .ok (.lload_n 2, 1) := by decide +kernel
theorem dX2_put_15 : decode cX2_put 15 = .ok (.l2i, 1) := by decide +kernel
theorem dX2_put_16 : decode cX2_put 16 = .ok (.i2b, 1) := by decide +kernel
theorem dX2_put_17 : decode cX2_put 17 = .ok (.i2l, 1) := by decide +kernel
theorem dX2_put_18 : decode cX2_put 18 = .ok (.lastore, 1) := by decide +kernel
theorem dX2_put_19 : decode cX2_put 19 = .ok (.goto 32, 3) := by decide +kernel
theorem dX2_put_22 : decode cX2_put 22 = .ok (.aload_n 0, 1) := by decide +kernel
theorem dX2_put_23 : decode cX2_put 23 = .ok (.getfield 9, 3) := by decide +kernel
theorem dX2_put_26 : decode cX2_put 26 = .ok (.bipush 16, 2) := by decide +kernel
theorem dX2_put_28 : decode cX2_put 28 = .ok (.if_icmp .ne 16, 3) := by decide +kernel
theorem dX2_put_31 : decode cX2_put 31 = .ok (.aload_n 0, 1) := by decide +kernel
theorem dX2_put_32 : decode cX2_put 32 = .ok (.getfield 18, 3) := by decide +kernel
theorem dX2_put_35 : decode cX2_put 35 = .ok (.iload_n 1, 1) := by decide +kernel
theorem dX2_put_36 : decode cX2_put 36 = .ok (.lload_n 2, 1) := by decide +kernel
theorem dX2_put_37 : decode cX2_put 37 = .ok (.l2i, 1) := by decide +kernel
theorem dX2_put_38 : decode cX2_put 38 = .ok (.i2s, 1) := by decide +kernel
theorem dX2_put_39 : decode cX2_put 39 = .ok (.i2l, 1) := by decide +kernel
theorem dX2_put_40 : decode cX2_put 40 = .ok (.lastore, 1) := by decide +kernel
theorem dX2_put_41 : decode cX2_put 41 = .ok (.goto 10, 3) := by decide +kernel
theorem dX2_put_44 : decode cX2_put 44 = .ok (.aload_n 0, 1) := by decide +kernel
theorem dX2_put_45 : decode cX2_put 45 = .ok (.getfield 18, 3) := by decide +kernel
theorem dX2_put_48 : decode cX2_put 48 = .ok (.iload_n 1, 1) := by decide +kernel
theorem dX2_put_49 : decode cX2_put 49 = .ok (.lload_n 2, 1) := by decide +kernel
theorem dX2_put_50 : decode cX2_put 50 = .ok (.lastore, 1) := by decide +kernel
theorem dX2_put_51 : decode cX2_put 51 = .ok (.return_, 1) := by decide +kernel
theorem dX2_hasPart_0 : decode cX2_hasPart 0 = .ok (.iload_n 1, 1) := by decide +kernel
theorem dX2_hasPart_1 : decode cX2_hasPart 1 = .ok (.ifCond .lt 29, 3) := by decide +kernel
theorem dX2_hasPart_4 : decode cX2_hasPart 4 = .ok (.iload_n 2, 1) := by decide +kernel
theorem dX2_hasPart_5 : decode cX2_hasPart 5 = .ok (.ifCond .lt 25, 3) := by decide +kernel
theorem dX2_hasPart_8 : decode cX2_hasPart 8 = .ok (.iload_n 2, 1) := by decide +kernel
theorem dX2_hasPart_9 : decode cX2_hasPart 9 = .ok (.aload_n 0, 1) := by decide +kernel
theorem dX2_hasPart_10 : decode cX2_hasPart 10 = .ok (.getfield 15, 3) := by decide +kernel
theorem dX2_hasPart_13 : decode cX2_hasPart 13 = .ok (.if_icmp .gt 17, 3) := by decide +kernel
theorem dX2_hasPart_16 : decode cX2_hasPart 16 = .ok (.iload_n 1, 1) := by decide +kernel
theorem dX2_hasPart_17 : decode cX2_hasPart 17 = .ok (.aload_n 0, 1) := by decide +kernel
theorem dX2_hasPart_18 : decode cX2_hasPart 18 = .ok (.getfield 15, 3) := by decide +kernel
theorem dX2_hasPart_21 : decode cX2_hasPart 21 = .ok (.iload_n 2, 1) := by decide +kernel
theorem dX2_hasPart_22 : decode cX2_hasPart 22 = .ok (.isub, 1) := by decide +kernel
theorem dX2_hasPart_23 : decode cX2_hasPart 23 = .ok (.if_icmp .gt 7, 3) := by decide +kernel
theorem dX2_hasPart_26 : decode cX2_hasPart 26 = .ok (.iconst 1, 1) := by decide +kernel
theorem dX2_hasPart_27 : decode cX2_hasPart 27 = .ok (.goto 4, 3) := by decide +kernel
theorem dX2_hasPart_30 : decode cX2_hasPart 30 = .ok (.iconst 0, 1) := by decide +kernel
theorem dX2_hasPart_31 : decode cX2_hasPart 31 = .ok (.ireturn, 1) := by decide +kernel
theorem dX3_init_0 : decode cX3_init 0 = .ok (.aload_n 0, 1) := by decide +kernel
theorem dX3_init_1 : decode cX3_init 1 = .ok (.invokespecial 5, 3) := by decide +kernel
theorem dX3_init_4 : decode cX3_init 4 = .ok (.aload_n 0, 1) := by decide +kernel
theorem dX3_init_5 : decode cX3_init 5 = .ok (.iconst 0, 1) := by decide +kernel
theorem dX3_init_6 : decode cX3_init 6 = .ok (.putfield 11, 3) := by decide +kernel
theorem dX3_init_9 : decode cX3_init 9 = .ok (.aload_n 0, 1) := by decide +kernel
theorem dX3_init_10 : decode cX3_init 10 = .ok (.bipush 120, 2) := by decide +kernel
theorem dX3_init_12 : decode cX3_init 12 = .ok (.newarray .int, 2) := by decide +kernel
theorem dX3_init_14 : decode cX3_init 14 = .ok (.putfield 17, 3) := by decide +kernel
theorem dX3_init_17 : decode cX3_init 17 = .ok (.aload_n 0, 1) := by decide +kernel
theorem dX3_init_18 : decode cX3_init 18 = .ok (.iconst 0, 1) := by decide +kernel
theorem dX3_init_19 : decode cX3_init 19 = .ok (.putfield 21, 3) := by decide +kernel
theorem dX3_init_22 : decode cX3_init 22 = .ok (.aload_n 0, 1) := by decide +kernel
theorem dX3_init_23 : decode cX3_init 23 = .ok (.iconst 0, 1) := by decide +kernel
theorem dX3_init_24 : decode cX3_init 24 = .ok (.putfield 24, 3) := by decide +kernel
theorem dX3_init_27 : decode cX3_init 27 = .ok (.aload_n 0, 1) := by decide +kernel
theorem dX3_init_28 : decode cX3_init 28 = .ok (.iconst 0, 1) := by decide +kernel
theorem dX3_init_29 : decode cX3_init 29 = .ok (.putfield 27, 3) := by decide +kernel
theorem dX3_init_32 : decode cX3_init 32 = .ok (.aload_n 0, 1) := by decide +kernel
theorem dX3_init_33 : decode cX3_init 33 = .ok (.iconst 0, 1) := by decide +kernel
theorem dX3_init_34 : decode cX3_init 34 = .ok (.putfield 30, 3) := by decide +kernel
theorem dX3_init_37 : decode cX3_init 37 = .ok (.return_, 1) := by decide +kernel
theorem dX3_append_0 : decode cX3_append 0 = .ok (.aload_n 0, 1) := by decide +kernel
theorem dX3_append_1 : decode cX3_append 1 = .ok (.getfield 11, 3) := by decide +kernel
theorem dX3_append_4 : decode cX3_append 4 = .ok (.bipush 120, 2) := by decide +kernel
theorem dX3_append_6 : decode cX3_append 6 = .ok (.if_icmp .ge 23, 3) := by decide +kernel
theorem dX3_append_9 : decode cX3_append 9 = .ok (.aload_n 0, 1) := by decide +kernel
theorem dX3_append_10 : decode cX3_append 10 = .ok (.getfield 17, 3) := by decide +kernel
theorem dX3_append_13 : decode cX3_append 13 = .ok (.aload_n 0, 1) := by decide +kernel
theorem dX3_append_14 : decode cX3_append 14 = .ok (.getfield 11, 3) := by decide +kernel
theorem dX3_append_17 : decode cX3_append 17 = .ok (.iload_n 1, 1) := by decide +kernel
theorem dX3_append_18 : decode cX3_append 18 = .ok (.iastore, 1) := by decide +kernel
theorem dX3_append_19 : decode cX3_append 19 = .ok (.aload_n 0, 1) := by decide +kernel
theorem dX3_append_20 : decode cX3_append 20 = .ok (.dup, 1) := by decide +kernel
theorem dX3_append_21 : decode cX3_append 21 = .ok (.getfield 11, 3) := by decide +kernel
theorem dX3_append_24 : decode cX3_append 24 = .ok (.iconst 1, 1) := by decide +kernel
theorem dX3_append_25 : decode cX3_append 25 = .ok (.iadd, 1) := by decide +kernel
theorem dX3_append_26 : decode cX3_append 26 = .ok (.putfield 11, 3) := by decide +kernel
theorem dX3_append_29 : decode cX3_append 29 = .ok (.return_, 1) := by decide +kernel
theorem dX3_parse_0 : decode cX3_parse 0 = .ok (.aload_n 0, 1) := by decide +kernel
theorem dX3_parse_1 : decode cX3_parse 1 = .ok (.iconst 0, 1) := by decide +kernel
theorem dX3_parse_2 : decode cX3_parse 2 = .ok (.putfield 24, 3) := by decide +kernel
theorem dX3_parse_5 : decode cX3_parse 5 = .ok (.aload_n 0, 1) := by decide +kernel
theorem dX3_parse_6 : decode cX3_parse 6 = .ok (.invokevirtual 33, 3) := by decide +kernel
theorem dX3_parse_9 : decode cX3_parse 9 = .ok (.iconst 1, 1) := by decide +kernel
theorem dX3_parse_10 : decode cX3_parse 10 = .ok (.istore_n 2, 1) := by decide +kernel
theorem dX3_parse_11 : decode cX3_parse 11 = .ok (.iload_n 2, 1) := by decide +kernel
theorem dX3_parse_12 : decode cX3_parse 12 = .ok (.bipush 120, 2) := by decide +kernel
theorem dX3_parse_14 : decode cX3_parse 14 = .ok (.if_icmp .gt 52, 3) := by decide +kernel
theorem dX3_parse_17 : decode cX3_parse 17 = .ok (.aload_n 0, 1) := by decide +kernel
theorem dX3_parse_18 : decode cX3_parse 18 = .ok (.aload_n 1, 1) := by decide +kernel
theorem dX3_parse_19 : decode cX3_parse 19 = .ok (.invokevirtual 36, 3) := by decide +kernel
theorem dX3_parse_22 : decode cX3_parse 22 = .ok (.ifCond .ne 10, 3) := by decide +kernel
theorem dX3_parse_25 : decode cX3_parse 25 = .ok (.iconst (-1), 1) := by decide +kernel
theorem dX3_parse_26 : decode cX3_parse 26 = .ok (.aload_n 0, 1) := by decide +kernel
theorem dX3_parse_27 : decode cX3_parse 27 = .ok (.getfield 21, 3) := by decide +kernel
theorem dX3_parse_30 : decode cX3_parse 30 = .ok (.isub, 1) := by decide +kernel
theorem dX3_parse_31 : decode cX3_parse 31 = .ok (.ireturn, 1) := by decide +kernel
theorem dX3_parse_32 : decode cX3_parse 32 = .ok (.aload_n 0, 1) := by decide +kernel
theorem dX3_parse_33 : decode cX3_parse 33 = .ok (.getfield 27, 3) := by decide +kernel
theorem dX3_parse_36 : decode cX3_parse 36 = .ok (.ifCond .ne 5, 3) := by decide +kernel
theorem dX3_parse_39 : decode cX3_parse 39 = .ok (.iload_n 2, 1) := by decide +kernel
theorem dX3_parse_40 : decode cX3_parse 40 = .ok (.ireturn, 1) := by decide +kernel
theorem dX3_parse_41 : decode cX3_parse 41 = .ok (.aload_n 0, 1) := by decide +kernel
theorem dX3_parse_42 : decode cX3_parse 42 = .ok (.getfield 27, 3) := by decide +kernel
theorem dX3_parse_45 : decode cX3_parse 45 = .ok (.iconst 3, 1) := by decide +kernel
theorem dX3_parse_46 : decode cX3_parse 46 = .ok (.if_icmp .eq 10, 3) := by decide +kernel
theorem dX3_parse_49 : decode cX3_parse 49 = .ok (.iconst (-1), 1) := by decide +kernel
theorem dX3_parse_50 : decode cX3_parse 50 = .ok (.aload_n 0, 1) := by decide +kernel
theorem dX3_parse_51 : decode cX3_parse 51 = .ok (.getfield 21, 3) := by decide +kernel
theorem dX3_parse_54 : decode cX3_parse 54 = .ok (.isub, 1) := by decide +kernel
theorem dX3_parse_55 : decode cX3_parse 55 = .ok (.ireturn, 1) := by decide +kernel
theorem dX3_parse_56 : decode cX3_parse 56 = .ok (.aload_n 0, 1) := by decide +kernel
theorem dX3_parse_57 : decode cX3_parse 57 = .ok (.invokevirtual 33, 3) := by decide +kernel
theorem dX3_parse_60 : decode cX3_parse 60 = .ok (.iinc 2 1, 3) := by decide +kernel
theorem dX3_parse_63 : decode cX3_parse 63 = .ok (.goto (-52), 3) := by decide +kernel
theorem dX3_parse_66 : decode cX3_parse 66 = .ok (.iconst (-1), 1) := by decide +kernel
theorem dX3_parse_67 : decode cX3_parse 67 = .ok (.aload_n 0, 1) := by decide +kernel
theorem dX3_parse_68 : decode cX3_parse 68 = .ok (.getfield 21, 3) := by decide +kernel
theorem dX3_parse_71 : decode cX3_parse 71 = .ok (.isub, 1) := by decide +kernel
theorem dX3_parse_72 : decode cX3_parse 72 = .ok (.ireturn, 1) := by decide +kernel
theorem dX3_takesItem_0 : decode cX3_takesItem 0 = .ok (.aload_n 0, 1) := by decide +kernel
theorem dX3_takesItem_1 : decode cX3_takesItem 1 = .ok (.getfield 27, 3) := by decide +kernel
theorem dX3_takesItem_4 : decode cX3_takesItem 4 = .ok (.iconst 1, 1) := by decide +kernel
theorem dX3_takesItem_5 : decode cX3_takesItem 5 = .ok (.if_icmp .eq 5, 3) := by decide +kernel
theorem dX3_takesItem_8 : decode cX3_takesItem 8 = .ok (.iconst 0, 1) := by decide +kernel
theorem dX3_takesItem_9 : decode cX3_takesItem 9 = .ok (.ireturn, 1) := by decide +kernel
theorem dX3_takesItem_10 : decode cX3_takesItem 10 = .ok (.aload_n 0, 1) := by decide +kernel
theorem dX3_takesItem_11 : decode cX3_takesItem 11 = .ok (.getfield 30, 3) := by decide +kernel
theorem dX3_takesItem_14 : decode cX3_takesItem 14 = .ok (.bipush 6, 2) := by decide +kernel
theorem dX3_takesItem_16 : decode cX3_takesItem 16 = .ok (.if_icmp .ne 9, 3) := by decide +kernel
theorem dX3_takesItem_19 : decode cX3_takesItem 19 = .ok (.aload_n 0, 1) := by decide +kernel
theorem dX3_takesItem_20 : decode cX3_takesItem 20 = .ok (.aload_n 1, 1) := by decide +kernel
theorem dX3_takesItem_21 : decode cX3_takesItem 21 = .ok (.invokevirtual 40, 3) := by decide +kernel
theorem dX3_takesItem_24 : decode cX3_takesItem 24 = .ok (.ireturn, 1) := by decide +kernel
theorem dX3_takesItem_25 : decode cX3_takesItem 25 = .ok (.aload_n 0, 1) := by decide +kernel
theorem dX3_takesItem_26 : decode cX3_takesItem 26 = .ok (.getfield 30, 3) := by decide +kernel
theorem dX3_takesItem_29 : decode cX3_takesItem 29 = .ok (.bipush 7, 2) := by decide +kernel
theorem dX3_takesItem_31 : decode cX3_takesItem 31 = .ok (.if_icmp .ne 9, 3) := by decide +kernel
theorem dX3_takesItem_34 : decode cX3_takesItem 34 = .ok (.aload_n 0, 1) := by decide +kernel
theorem dX3_takesItem_35 : decode cX3_takesItem 35 = .ok (.aload_n 1, 1) := by decide +kernel
theorem dX3_takesItem_36 : decode cX3_takesItem 36 = .ok (.invokevirtual 43, 3) := by decide +kernel
theorem dX3_takesItem_39 : decode cX3_takesItem 39 = .ok (.ireturn, 1) := by decide +kernel
theorem dX3_takesItem_40 : decode cX3_takesItem 40 = .ok (.aload_n 0, 1) := by decide +kernel
theorem dX3_takesItem_41 : decode cX3_takesItem 41 = .ok (.getfield 30, 3) := by decide +kernel
theorem dX3_takesItem_44 : decode cX3_takesItem 44 = .ok (.invokestatic 46, 3) := by decide +kernel
theorem dX3_takesItem_47 : decode cX3_takesItem 47 = .ok (.ifCond .eq 15, 3) := by decide +kernel
theorem dX3_takesItem_50 : decode cX3_takesItem 50 = .ok (.aload_n 0, 1) := by decide +kernel
theorem dX3_takesItem_51 : decode cX3_takesItem 51 = .ok (.aload_n 1, 1) := by decide +kernel
theorem dX3_takesItem_52 : decode cX3_takesItem 52 = .ok (.invokevirtual 50, 3) := by decide +kernel
theorem dX3_takesItem_55 : decode cX3_takesItem 55 = .ok (.ifCond .eq 7, 3) := by decide +kernel
theorem dX3_takesItem_58 : decode cX3_takesItem 58 = .ok (.iconst 1, 1) := by decide +kernel
theorem dX3_takesItem_59 : decode cX3_takesItem 59 = .ok (.goto 4, 3) := by decide +kernel
theorem dX3_takesItem_62 : decode cX3_takesItem 62 = .ok (.iconst 0, 1) := by decide +kernel
theorem dX3_takesItem_63 : decode cX3_takesItem 63 = .ok (.ireturn, 1) := by decide +kernel
theorem dX3_takesMember_0 : decode cX3_takesMember 0 = .ok (.aload_n 1, 1) := by decide +kernel
theorem dX3_takesMember_1 : decode cX3_takesMember 1 = .ok (.invokevirtual 53, 3) := by decide +kernel
theorem dX3_takesMember_4 : decode cX3_takesMember 4 = .ok (.ifCond .eq 5, 3) := by decide +kernel
theorem dX3_takesMember_7 : decode cX3_takesMember 7 = .ok (.iconst 0, 1) := by decide +kernel
theorem dX3_takesMember_8 : decode cX3_takesMember 8 = .ok (.ireturn, 1) := by decide +kernel
theorem dX3_takesMember_9 : decode cX3_takesMember 9 = .ok (.aload_n 0, 1) := by decide +kernel
theorem dX3_takesMember_10 : decode cX3_takesMember 10 = .ok (.getfield 30, 3) := by decide +kernel
theorem dX3_takesMember_13 : decode cX3_takesMember 13 = .ok (.istore_n 2, 1) := by decide +kernel
theorem dX3_takesMember_14 : decode cX3_takesMember 14 = .ok (.aload_n 0, 1) := by decide +kernel
theorem dX3_takesMember_15 : decode cX3_takesMember 15 = .ok (.invokevirtual 33, 3) := by decide +kernel
theorem dX3_takesMember_18 : decode cX3_takesMember 18 = .ok (.aload_n 0, 1) := by decide +kernel
theorem dX3_takesMember_19 : decode cX3_takesMember 19 = .ok (.aload_n 1, 1) := by decide +kernel
theorem dX3_takesMember_20 : decode cX3_takesMember 20 = .ok (.invokevirtual 59, 3) := by decide +kernel
theorem dX3_takesMember_23 : decode cX3_takesMember 23 = .ok (.ifCond .ne 5, 3) := by decide +kernel
theorem dX3_takesMember_26 : decode cX3_takesMember 26 = .ok (.iconst 0, 1) := by decide +kernel
theorem dX3_takesMember_27 : decode cX3_takesMember 27 = .ok (.ireturn, 1) := by decide +kernel
theorem dX3_takesMember_28 : decode cX3_takesMember 28 = .ok (.aload_n 0, 1) := by decide +kernel
theorem dX3_takesMember_29 : decode cX3_takesMember 29 = .ok (.getfield 30, 3) := by decide +kernel
theorem dX3_takesMember_32 : decode cX3_takesMember 32 = .ok (.istore_n 3, 1) := by decide +kernel
theorem dX3_takesMember_33 : decode cX3_takesMember 33 = .ok (.aload_n 0, 1) := by decide +kernel
theorem dX3_takesMember_34 : decode cX3_takesMember 34 = .ok (.invokevirtual 33, 3) := by decide +kernel
theorem dX3_takesMember_37 : decode cX3_takesMember 37 = .ok (.aload_n 0, 1) := by decide +kernel
theorem dX3_takesMember_38 : decode cX3_takesMember 38 = .ok (.iconst 0, 1) := by decide +kernel
theorem dX3_takesMember_39 : decode cX3_takesMember 39 = .ok (.bipush 9, 2) := by decide +kernel
theorem dX3_takesMember_41 : decode cX3_takesMember 41 = .ok (.invokevirtual 62, 3) := by decide +kernel
theorem dX3_takesMember_44 : decode cX3_takesMember 44 = .ok (.ifCond .ne 5, 3) := by decide +kernel
theorem dX3_takesMember_47 : decode cX3_takesMember 47 = .ok (.iconst 0, 1) := by decide +kernel
theorem dX3_takesMember_48 : decode cX3_takesMember 48 = .ok (.ireturn, 1) := by decide +kernel
theorem dX3_takesMember_49 : decode cX3_takesMember 49 = .ok (.aload_n 0, 1) := by decide +kernel
theorem dX3_takesMember_50 : decode cX3_takesMember 50 = .ok (.getfield 30, 3) := by decide +kernel
theorem dX3_takesMember_53 : decode cX3_takesMember 53 = .ok (.istore 4, 2) := by decide +kernel
theorem dX3_takesMember_55 : decode cX3_takesMember 55 = .ok (.aload_n 0, 1) := by decide +kernel
theorem dX3_takesMember_56 : decode cX3_takesMember 56 = .ok (.invokevirtual 33, 3) := by decide +kernel
theorem dX3_takesMember_59 : decode cX3_takesMember 59 = .ok (.iconst 5, 1) := by decide +kernel
theorem dX3_takesMember_60 : decode cX3_takesMember 60 = .ok (.istore 5, 2) := by decide +kernel
theorem dX3_takesMember_62 : decode cX3_takesMember 62 = .ok (.aload_n 0, 1) := by decide +kernel
theorem dX3_takesMember_63 : decode cX3_takesMember 63 = .ok (.getfield 27, 3) := by decide +kernel
theorem dX3_takesMember_66 : decode cX3_takesMember 66 = .ok (.iconst 1, 1) := by decide +kernel
theorem dX3_takesMember_67 : decode cX3_takesMember 67 = .ok (.if_icmp .ne 38, 3) := by decide +kernel
theorem dX3_takesMember_70 : decode cX3_takesMember 70 = .ok (.aload_n 0, 1) := by decide +kernel
theorem dX3_takesMember_71 : decode cX3_takesMember 71 = .ok (.getfield 30, 3) := by decide +kernel
theorem dX3_takesMember_74 : decode cX3_takesMember 74 = .ok (.bipush 8, 2) := by decide +kernel
theorem dX3_takesMember_76 : decode cX3_takesMember 76 = .ok (.if_icmp .ne 29, 3) := by decide +kernel
theorem dX3_takesMember_79 : decode cX3_takesMember 79 = .ok (.aload_n 0, 1) := by decide +kernel
theorem dX3_takesMember_80 : decode cX3_takesMember 80 = .ok (.invokevirtual 33, 3) := by decide +kernel
theorem dX3_takesMember_83 : decode cX3_takesMember 83 = .ok (.aload_n 0, 1) := by decide +kernel
theorem dX3_takesMember_84 : decode cX3_takesMember 84 = .ok (.iconst 1, 1) := by decide +kernel
theorem dX3_takesMember_85 : decode cX3_takesMember 85 = .ok (.bipush 9, 2) := by decide +kernel
theorem dX3_takesMember_87 : decode cX3_takesMember 87 = .ok (.invokevirtual 62, 3) := by decide +kernel
theorem dX3_takesMember_90 : decode cX3_takesMember 90 = .ok (.ifCond .ne 5, 3) := by decide +kernel
theorem dX3_takesMember_93 : decode cX3_takesMember 93 = .ok (.iconst 0, 1) := by decide +kernel
theorem dX3_takesMember_94 : decode cX3_takesMember 94 = .ok (.ireturn, 1) := by decide +kernel
theorem dX3_takesMember_95 : decode cX3_takesMember 95 = .ok (.aload_n 0, 1) := by decide +kernel
theorem dX3_takesMember_96 : decode cX3_takesMember 96 = .ok (.getfield 30, 3) := by decide +kernel
theorem dX3_takesMember_99 : decode cX3_takesMember 99 = .ok (.istore 5, 2) := by decide +kernel
theorem dX3_takesMember_101 : decode cX3_takesMember 101 = .ok (.aload_n 0, 1) := by decide +kernel
theorem dX3_takesMember_102 : decode cX3_takesMember 102 = .ok (.invokevirtual 33, 3) := by decide +kernel
theorem dX3_takesMember_105 : decode cX3_takesMember 105 = .ok (.aload_n 1, 1) := by decide +kernel
theorem dX3_takesMember_106 : decode cX3_takesMember 106 = .ok (.iload_n 2, 1) := by decide +kernel
theorem dX3_takesMember_107 : decode cX3_takesMember 107 = .ok (.iload_n 3, 1) := by decide +kernel
theorem dX3_takesMember_108 : decode cX3_takesMember 108 = .ok (.iload 4, 2) := by decide +kernel
theorem dX3_takesMember_110 : decode cX3_takesMember 110 = .ok (.iload 5, 2) := by decide +kernel
theorem dX3_takesMember_112 : decode cX3_takesMember 112 = .ok (.invokevirtual 66, 3) := by decide +kernel
theorem dX3_takesMember_115 : decode cX3_takesMember 115 = .ok (.pop, 1) := by decide +kernel
theorem dX3_takesMember_116 : decode cX3_takesMember 116 = .ok (.iconst 1, 1) := by decide +kernel
theorem dX3_takesMember_117 : decode cX3_takesMember 117 = .ok (.ireturn, 1) := by decide +kernel
theorem dX3_takesKnows_0 : decode cX3_takesKnows 0 = .ok (.aload_n 0, 1) := by decide +kernel
theorem dX3_takesKnows_1 : decode cX3_takesKnows 1 = .ok (.invokevirtual 33, 3) := by decide +kernel
theorem dX3_takesKnows_4 : decode cX3_takesKnows 4 = .ok (.aload_n 0, 1) := by decide +kernel
theorem dX3_takesKnows_5 : decode cX3_takesKnows 5 = .ok (.iconst 0, 1) := by decide +kernel
theorem dX3_takesKnows_6 : decode cX3_takesKnows 6 = .ok (.aload_n 1, 1) := by decide +kernel
theorem dX3_takesKnows_7 : decode cX3_takesKnows 7 = .ok (.getfield 70, 3) := by decide +kernel
theorem dX3_takesKnows_10 : decode cX3_takesKnows 10 = .ok (.iconst 1, 1) := by decide +kernel
theorem dX3_takesKnows_11 : decode cX3_takesKnows 11 = .ok (.isub, 1) := by decide +kernel
theorem dX3_takesKnows_12 : decode cX3_takesKnows 12 = .ok (.invokevirtual 62, 3) := by decide +kernel
theorem dX3_takesKnows_15 : decode cX3_takesKnows 15 = .ok (.ifCond .ne 5, 3) := by decide +kernel
theorem dX3_takesKnows_18 : decode cX3_takesKnows 18 = .ok (.iconst 0, 1) := by decide +kernel
theorem dX3_takesKnows_19 : decode cX3_takesKnows 19 = .ok (.ireturn, 1) := by decide +kernel
theorem dX3_takesKnows_20 : decode cX3_takesKnows 20 = .ok (.aload_n 0, 1) := by decide +kernel
theorem dX3_takesKnows_21 : decode cX3_takesKnows 21 = .ok (.getfield 30, 3) := by decide +kernel
theorem dX3_takesKnows_24 : decode cX3_takesKnows 24 = .ok (.istore_n 2, 1) := by decide +kernel
theorem dX3_takesKnows_25 : decode cX3_takesKnows 25 = .ok (.aload_n 0, 1) := by decide +kernel
theorem dX3_takesKnows_26 : decode cX3_takesKnows 26 = .ok (.invokevirtual 33, 3) := by decide +kernel
theorem dX3_takesKnows_29 : decode cX3_takesKnows 29 = .ok (.aload_n 0, 1) := by decide +kernel
theorem dX3_takesKnows_30 : decode cX3_takesKnows 30 = .ok (.iconst 0, 1) := by decide +kernel
theorem dX3_takesKnows_31 : decode cX3_takesKnows 31 = .ok (.bipush 9, 2) := by decide +kernel
theorem dX3_takesKnows_33 : decode cX3_takesKnows 33 = .ok (.invokevirtual 62, 3) := by decide +kernel
theorem dX3_takesKnows_36 : decode cX3_takesKnows 36 = .ok (.ifCond .ne 5, 3) := by decide +kernel
theorem dX3_takesKnows_39 : decode cX3_takesKnows 39 = .ok (.iconst 0, 1) := by decide +kernel
theorem dX3_takesKnows_40 : decode cX3_takesKnows 40 = .ok (.ireturn, 1) := by decide +kernel
theorem dX3_takesKnows_41 : decode cX3_takesKnows 41 = .ok (.aload_n 1, 1) := by decide +kernel
end
section
theorem dX3_takesKnows_42 : decode cX3_takesKnows 42 = .ok (.getfield 73, 3) := by decide +kernel
theorem dX3_takesKnows_45 : decode cX3_takesKnows 45 = .ok (.iload_n 2, 1) := by decide +kernel
theorem dX3_takesKnows_46 : decode cX3_takesKnows 46 = .ok (.dup2, 1) := by decide +kernel
theorem dX3_takesKnows_47 : decode cX3_takesKnows 47 = .ok (.iaload, 1) := by decide +kernel
theorem dX3_takesKnows_48 : decode cX3_takesKnows 48 = .ok (.iconst 1, 1) := by decide +kernel
theorem dX3_takesKnows_49 : decode cX3_takesKnows 49 = .ok (.aload_n 0, 1) := by decide +kernel
theorem dX3_takesKnows_50 : decode cX3_takesKnows 50 = .ok (.getfield 30, 3) := by decide +kernel
theorem dX3_takesKnows_53 : decode cX3_takesKnows 53 = .ok (.ishl, 1) := by decide +kernel
theorem dX3_takesKnows_54 : decode cX3_takesKnows 54 = .ok (.ior, 1) := by decide +kernel
theorem dX3_takesKnows_55 : decode cX3_takesKnows 55 = .ok (.iastore, 1) := by decide +kernel
theorem dX3_takesKnows_56 : decode cX3_takesKnows 56 = .ok (.aload_n 0, 1) := by decide +kernel
theorem dX3_takesKnows_57 : decode cX3_takesKnows 57 = .ok (.invokevirtual 33, 3) := by decide +kernel
theorem dX3_takesKnows_60 : decode cX3_takesKnows 60 = .ok (.iconst 1, 1) := by decide +kernel
theorem dX3_takesKnows_61 : decode cX3_takesKnows 61 = .ok (.ireturn, 1) := by decide +kernel
theorem dX3_takesMove_0 : decode cX3_takesMove 0 = .ok (.aload_n 0, 1) := by decide +kernel
theorem dX3_takesMove_1 : decode cX3_takesMove 1 = .ok (.invokevirtual 33, 3) := by decide +kernel
theorem dX3_takesMove_4 : decode cX3_takesMove 4 = .ok (.aload_n 0, 1) := by decide +kernel
theorem dX3_takesMove_5 : decode cX3_takesMove 5 = .ok (.iconst 0, 1) := by decide +kernel
theorem dX3_takesMove_6 : decode cX3_takesMove 6 = .ok (.aload_n 1, 1) := by decide +kernel
theorem dX3_takesMove_7 : decode cX3_takesMove 7 = .ok (.getfield 70, 3) := by decide +kernel
theorem dX3_takesMove_10 : decode cX3_takesMove 10 = .ok (.iconst 1, 1) := by decide +kernel
theorem dX3_takesMove_11 : decode cX3_takesMove 11 = .ok (.isub, 1) := by decide +kernel
theorem dX3_takesMove_12 : decode cX3_takesMove 12 = .ok (.invokevirtual 62, 3) := by decide +kernel
theorem dX3_takesMove_15 : decode cX3_takesMove 15 = .ok (.ifCond .ne 5, 3) := by decide +kernel
theorem dX3_takesMove_18 : decode cX3_takesMove 18 = .ok (.iconst 0, 1) := by decide +kernel
theorem dX3_takesMove_19 : decode cX3_takesMove 19 = .ok (.ireturn, 1) := by decide +kernel
theorem dX3_takesMove_20 : decode cX3_takesMove 20 = .ok (.aload_n 0, 1) := by decide +kernel
theorem dX3_takesMove_21 : decode cX3_takesMove 21 = .ok (.getfield 30, 3) := by decide +kernel
theorem dX3_takesMove_24 : decode cX3_takesMove 24 = .ok (.istore_n 2, 1) := by decide +kernel
theorem dX3_takesMove_25 : decode cX3_takesMove 25 = .ok (.aload_n 0, 1) := by decide +kernel
theorem dX3_takesMove_26 : decode cX3_takesMove 26 = .ok (.invokevirtual 33, 3) := by decide +kernel
theorem dX3_takesMove_29 : decode cX3_takesMove 29 = .ok (.aload_n 0, 1) := by decide +kernel
theorem dX3_takesMove_30 : decode cX3_takesMove 30 = .ok (.aload_n 1, 1) := by decide +kernel
theorem dX3_takesMove_31 : decode cX3_takesMove 31 = .ok (.invokevirtual 59, 3) := by decide +kernel
theorem dX3_takesMove_34 : decode cX3_takesMove 34 = .ok (.ifCond .ne 5, 3) := by decide +kernel
theorem dX3_takesMove_37 : decode cX3_takesMove 37 = .ok (.iconst 0, 1) := by decide +kernel
theorem dX3_takesMove_38 : decode cX3_takesMove 38 = .ok (.ireturn, 1) := by decide +kernel
theorem dX3_takesMove_39 : decode cX3_takesMove 39 = .ok (.aload_n 1, 1) := by decide +kernel
theorem dX3_takesMove_40 : decode cX3_takesMove 40 = .ok (.iload_n 2, 1) := by decide +kernel
theorem dX3_takesMove_41 : decode cX3_takesMove 41 = .ok (.aload_n 0, 1) := by decide +kernel
theorem dX3_takesMove_42 : decode cX3_takesMove 42 = .ok (.getfield 30, 3) := by decide +kernel
theorem dX3_takesMove_45 : decode cX3_takesMove 45 = .ok (.invokevirtual 76, 3) := by decide +kernel
theorem dX3_takesMove_48 : decode cX3_takesMove 48 = .ok (.aload_n 0, 1) := by decide +kernel
theorem dX3_takesMove_49 : decode cX3_takesMove 49 = .ok (.invokevirtual 33, 3) := by decide +kernel
theorem dX3_takesMove_52 : decode cX3_takesMove 52 = .ok (.iconst 1, 1) := by decide +kernel
theorem dX3_takesMove_53 : decode cX3_takesMove 53 = .ok (.ireturn, 1) := by decide +kernel
theorem dX3_atEmptySeat_0 : decode cX3_atEmptySeat 0 = .ok (.aload_n 0, 1) := by decide +kernel
theorem dX3_atEmptySeat_1 : decode cX3_atEmptySeat 1 = .ok (.iconst 0, 1) := by decide +kernel
theorem dX3_atEmptySeat_2 : decode cX3_atEmptySeat 2 = .ok (.bipush 11, 2) := by decide +kernel
theorem dX3_atEmptySeat_4 : decode cX3_atEmptySeat 4 = .ok (.invokevirtual 62, 3) := by decide +kernel
theorem dX3_atEmptySeat_7 : decode cX3_atEmptySeat 7 = .ok (.ifCond .eq 19, 3) := by decide +kernel
theorem dX3_atEmptySeat_10 : decode cX3_atEmptySeat 10 = .ok (.aload_n 1, 1) := by decide +kernel
theorem dX3_atEmptySeat_11 : decode cX3_atEmptySeat 11 = .ok (.aload_n 0, 1) := by decide +kernel
theorem dX3_atEmptySeat_12 : decode cX3_atEmptySeat 12 = .ok (.getfield 30, 3) := by decide +kernel
theorem dX3_atEmptySeat_15 : decode cX3_atEmptySeat 15 = .ok (.invokevirtual 80, 3) := by decide +kernel
theorem dX3_atEmptySeat_18 : decode cX3_atEmptySeat 18 = .ok (.iconst (-1), 1) := by decide +kernel
theorem dX3_atEmptySeat_19 : decode cX3_atEmptySeat 19 = .ok (.if_icmp .ne 7, 3) := by decide +kernel
theorem dX3_atEmptySeat_22 : decode cX3_atEmptySeat 22 = .ok (.iconst 1, 1) := by decide +kernel
theorem dX3_atEmptySeat_23 : decode cX3_atEmptySeat 23 = .ok (.goto 4, 3) := by decide +kernel
theorem dX3_atEmptySeat_26 : decode cX3_atEmptySeat 26 = .ok (.iconst 0, 1) := by decide +kernel
theorem dX3_atEmptySeat_27 : decode cX3_atEmptySeat 27 = .ok (.ireturn, 1) := by decide +kernel
theorem dX3_atNumber_0 : decode cX3_atNumber 0 = .ok (.aload_n 0, 1) := by decide +kernel
theorem dX3_atNumber_1 : decode cX3_atNumber 1 = .ok (.getfield 27, 3) := by decide +kernel
theorem dX3_atNumber_4 : decode cX3_atNumber 4 = .ok (.iconst 2, 1) := by decide +kernel
theorem dX3_atNumber_5 : decode cX3_atNumber 5 = .ok (.if_icmp .ne 19, 3) := by decide +kernel
theorem dX3_atNumber_8 : decode cX3_atNumber 8 = .ok (.aload_n 0, 1) := by decide +kernel
theorem dX3_atNumber_9 : decode cX3_atNumber 9 = .ok (.getfield 30, 3) := by decide +kernel
theorem dX3_atNumber_12 : decode cX3_atNumber 12 = .ok (.iload_n 1, 1) := by decide +kernel
theorem dX3_atNumber_13 : decode cX3_atNumber 13 = .ok (.iload_n 2, 1) := by decide +kernel
theorem dX3_atNumber_14 : decode cX3_atNumber 14 = .ok (.invokestatic 84, 3) := by decide +kernel
theorem dX3_atNumber_17 : decode cX3_atNumber 17 = .ok (.ifCond .eq 7, 3) := by decide +kernel
theorem dX3_atNumber_20 : decode cX3_atNumber 20 = .ok (.iconst 1, 1) := by decide +kernel
theorem dX3_atNumber_21 : decode cX3_atNumber 21 = .ok (.goto 4, 3) := by decide +kernel
theorem dX3_atNumber_24 : decode cX3_atNumber 24 = .ok (.iconst 0, 1) := by decide +kernel
theorem dX3_atNumber_25 : decode cX3_atNumber 25 = .ok (.ireturn, 1) := by decide +kernel
theorem dX3_advance_0 : decode cX3_advance 0 = .ok (.aload_n 0, 1) := by decide +kernel
theorem dX3_advance_1 : decode cX3_advance 1 = .ok (.aload_n 0, 1) := by decide +kernel
theorem dX3_advance_2 : decode cX3_advance 2 = .ok (.getfield 24, 3) := by decide +kernel
theorem dX3_advance_5 : decode cX3_advance 5 = .ok (.putfield 21, 3) := by decide +kernel
theorem dX3_advance_8 : decode cX3_advance 8 = .ok (.aload_n 0, 1) := by decide +kernel
theorem dX3_advance_9 : decode cX3_advance 9 = .ok (.getfield 21, 3) := by decide +kernel
theorem dX3_advance_12 : decode cX3_advance 12 = .ok (.aload_n 0, 1) := by decide +kernel
theorem dX3_advance_13 : decode cX3_advance 13 = .ok (.getfield 11, 3) := by decide +kernel
theorem dX3_advance_16 : decode cX3_advance 16 = .ok (.if_icmp .ge 30, 3) := by decide +kernel
theorem dX3_advance_19 : decode cX3_advance 19 = .ok (.aload_n 0, 1) := by decide +kernel
theorem dX3_advance_20 : decode cX3_advance 20 = .ok (.getfield 17, 3) := by decide +kernel
theorem dX3_advance_23 : decode cX3_advance 23 = .ok (.aload_n 0, 1) := by decide +kernel
theorem dX3_advance_24 : decode cX3_advance 24 = .ok (.getfield 21, 3) := by decide +kernel
theorem dX3_advance_27 : decode cX3_advance 27 = .ok (.iaload, 1) := by decide +kernel
theorem dX3_advance_28 : decode cX3_advance 28 = .ok (.bipush 32, 2) := by decide +kernel
theorem dX3_advance_30 : decode cX3_advance 30 = .ok (.if_icmp .ne 16, 3) := by decide +kernel
theorem dX3_advance_33 : decode cX3_advance 33 = .ok (.aload_n 0, 1) := by decide +kernel
theorem dX3_advance_34 : decode cX3_advance 34 = .ok (.dup, 1) := by decide +kernel
theorem dX3_advance_35 : decode cX3_advance 35 = .ok (.getfield 21, 3) := by decide +kernel
theorem dX3_advance_38 : decode cX3_advance 38 = .ok (.iconst 1, 1) := by decide +kernel
theorem dX3_advance_39 : decode cX3_advance 39 = .ok (.iadd, 1) := by decide +kernel
theorem dX3_advance_40 : decode cX3_advance 40 = .ok (.putfield 21, 3) := by decide +kernel
theorem dX3_advance_43 : decode cX3_advance 43 = .ok (.goto (-35), 3) := by decide +kernel
theorem dX3_advance_46 : decode cX3_advance 46 = .ok (.aload_n 0, 1) := by decide +kernel
theorem dX3_advance_47 : decode cX3_advance 47 = .ok (.aload_n 0, 1) := by decide +kernel
theorem dX3_advance_48 : decode cX3_advance 48 = .ok (.getfield 21, 3) := by decide +kernel
theorem dX3_advance_51 : decode cX3_advance 51 = .ok (.putfield 24, 3) := by decide +kernel
theorem dX3_advance_54 : decode cX3_advance 54 = .ok (.aload_n 0, 1) := by decide +kernel
theorem dX3_advance_55 : decode cX3_advance 55 = .ok (.getfield 21, 3) := by decide +kernel
theorem dX3_advance_58 : decode cX3_advance 58 = .ok (.aload_n 0, 1) := by decide +kernel
theorem dX3_advance_59 : decode cX3_advance 59 = .ok (.getfield 11, 3) := by decide +kernel
theorem dX3_advance_62 : decode cX3_advance 62 = .ok (.if_icmp .lt 11, 3) := by decide +kernel
theorem dX3_advance_65 : decode cX3_advance 65 = .ok (.aload_n 0, 1) := by decide +kernel
theorem dX3_advance_66 : decode cX3_advance 66 = .ok (.iconst 0, 1) := by decide +kernel
theorem dX3_advance_67 : decode cX3_advance 67 = .ok (.putfield 27, 3) := by decide +kernel
theorem dX3_advance_70 : decode cX3_advance 70 = .ok (.goto 80, 3) := by decide +kernel
theorem dX3_advance_73 : decode cX3_advance 73 = .ok (.aload_n 0, 1) := by decide +kernel
theorem dX3_advance_74 : decode cX3_advance 74 = .ok (.getfield 17, 3) := by decide +kernel
theorem dX3_advance_77 : decode cX3_advance 77 = .ok (.aload_n 0, 1) := by decide +kernel
theorem dX3_advance_78 : decode cX3_advance 78 = .ok (.getfield 21, 3) := by decide +kernel
theorem dX3_advance_81 : decode cX3_advance 81 = .ok (.iaload, 1) := by decide +kernel
theorem dX3_advance_82 : decode cX3_advance 82 = .ok (.invokestatic 88, 3) := by decide +kernel
theorem dX3_advance_85 : decode cX3_advance 85 = .ok (.ifCond .eq 10, 3) := by decide +kernel
theorem dX3_advance_88 : decode cX3_advance 88 = .ok (.aload_n 0, 1) := by decide +kernel
theorem dX3_advance_89 : decode cX3_advance 89 = .ok (.invokevirtual 91, 3) := by decide +kernel
theorem dX3_advance_92 : decode cX3_advance 92 = .ok (.goto 58, 3) := by decide +kernel
theorem dX3_advance_95 : decode cX3_advance 95 = .ok (.aload_n 0, 1) := by decide +kernel
theorem dX3_advance_96 : decode cX3_advance 96 = .ok (.getfield 17, 3) := by decide +kernel
theorem dX3_advance_99 : decode cX3_advance 99 = .ok (.aload_n 0, 1) := by decide +kernel
theorem dX3_advance_100 : decode cX3_advance 100 = .ok (.getfield 21, 3) := by decide +kernel
theorem dX3_advance_103 : decode cX3_advance 103 = .ok (.iaload, 1) := by decide +kernel
theorem dX3_advance_104 : decode cX3_advance 104 = .ok (.invokestatic 94, 3) := by decide +kernel
theorem dX3_advance_107 : decode cX3_advance 107 = .ok (.ifCond .eq 10, 3) := by decide +kernel
theorem dX3_advance_110 : decode cX3_advance 110 = .ok (.aload_n 0, 1) := by decide +kernel
theorem dX3_advance_111 : decode cX3_advance 111 = .ok (.invokevirtual 97, 3) := by decide +kernel
theorem dX3_advance_114 : decode cX3_advance 114 = .ok (.goto 36, 3) := by decide +kernel
theorem dX3_advance_117 : decode cX3_advance 117 = .ok (.aload_n 0, 1) := by decide +kernel
theorem dX3_advance_118 : decode cX3_advance 118 = .ok (.aload_n 0, 1) := by decide +kernel
theorem dX3_advance_119 : decode cX3_advance 119 = .ok (.getfield 17, 3) := by decide +kernel
theorem dX3_advance_122 : decode cX3_advance 122 = .ok (.aload_n 0, 1) := by decide +kernel
theorem dX3_advance_123 : decode cX3_advance 123 = .ok (.getfield 21, 3) := by decide +kernel
theorem dX3_advance_126 : decode cX3_advance 126 = .ok (.iaload, 1) := by decide +kernel
theorem dX3_advance_127 : decode cX3_advance 127 = .ok (.bipush 59, 2) := by decide +kernel
theorem dX3_advance_129 : decode cX3_advance 129 = .ok (.if_icmp .ne 7, 3) := by decide +kernel
theorem dX3_advance_132 : decode cX3_advance 132 = .ok (.iconst 3, 1) := by decide +kernel
theorem dX3_advance_133 : decode cX3_advance 133 = .ok (.goto 4, 3) := by decide +kernel
theorem dX3_advance_136 : decode cX3_advance 136 = .ok (.iconst 4, 1) := by decide +kernel
theorem dX3_advance_137 : decode cX3_advance 137 = .ok (.putfield 27, 3) := by decide +kernel
theorem dX3_advance_140 : decode cX3_advance 140 = .ok (.aload_n 0, 1) := by decide +kernel
theorem dX3_advance_141 : decode cX3_advance 141 = .ok (.dup, 1) := by decide +kernel
theorem dX3_advance_142 : decode cX3_advance 142 = .ok (.getfield 24, 3) := by decide +kernel
theorem dX3_advance_145 : decode cX3_advance 145 = .ok (.iconst 1, 1) := by decide +kernel
theorem dX3_advance_146 : decode cX3_advance 146 = .ok (.iadd, 1) := by decide +kernel
theorem dX3_advance_147 : decode cX3_advance 147 = .ok (.putfield 24, 3) := by decide +kernel
theorem dX3_advance_150 : decode cX3_advance 150 = .ok (.return_, 1) := by decide +kernel
theorem dX3_takeWord_0 : decode cX3_takeWord 0 = .ok (.aload_n 0, 1) := by decide +kernel
theorem dX3_takeWord_1 : decode cX3_takeWord 1 = .ok (.iconst 1, 1) := by decide +kernel
theorem dX3_takeWord_2 : decode cX3_takeWord 2 = .ok (.putfield 27, 3) := by decide +kernel
theorem dX3_takeWord_5 : decode cX3_takeWord 5 = .ok (.aload_n 0, 1) := by decide +kernel
theorem dX3_takeWord_6 : decode cX3_takeWord 6 = .ok (.getfield 24, 3) := by decide +kernel
theorem dX3_takeWord_9 : decode cX3_takeWord 9 = .ok (.aload_n 0, 1) := by decide +kernel
theorem dX3_takeWord_10 : decode cX3_takeWord 10 = .ok (.getfield 11, 3) := by decide +kernel
theorem dX3_takeWord_13 : decode cX3_takeWord 13 = .ok (.if_icmp .ge 31, 3) := by decide +kernel
theorem dX3_takeWord_16 : decode cX3_takeWord 16 = .ok (.aload_n 0, 1) := by decide +kernel
theorem dX3_takeWord_17 : decode cX3_takeWord 17 = .ok (.getfield 17, 3) := by decide +kernel
theorem dX3_takeWord_20 : decode cX3_takeWord 20 = .ok (.aload_n 0, 1) := by decide +kernel
theorem dX3_takeWord_21 : decode cX3_takeWord 21 = .ok (.getfield 24, 3) := by decide +kernel
theorem dX3_takeWord_24 : decode cX3_takeWord 24 = .ok (.iaload, 1) := by decide +kernel
theorem dX3_takeWord_25 : decode cX3_takeWord 25 = .ok (.invokestatic 88, 3) := by decide +kernel
theorem dX3_takeWord_28 : decode cX3_takeWord 28 = .ok (.ifCond .eq 16, 3) := by decide +kernel
theorem dX3_takeWord_31 : decode cX3_takeWord 31 = .ok (.aload_n 0, 1) := by decide +kernel
theorem dX3_takeWord_32 : decode cX3_takeWord 32 = .ok (.dup, 1) := by decide +kernel
theorem dX3_takeWord_33 : decode cX3_takeWord 33 = .ok (.getfield 24, 3) := by decide +kernel
theorem dX3_takeWord_36 : decode cX3_takeWord 36 = .ok (.iconst 1, 1) := by decide +kernel
theorem dX3_takeWord_37 : decode cX3_takeWord 37 = .ok (.iadd, 1) := by decide +kernel
theorem dX3_takeWord_38 : decode cX3_takeWord 38 = .ok (.putfield 24, 3) := by decide +kernel
theorem dX3_takeWord_41 : decode cX3_takeWord 41 = .ok (.goto (-36), 3) := by decide +kernel
theorem dX3_takeWord_44 : decode cX3_takeWord 44 = .ok (.aload_n 0, 1) := by decide +kernel
theorem dX3_takeWord_45 : decode cX3_takeWord 45 = .ok (.iconst (-1), 1) := by decide +kernel
theorem dX3_takeWord_46 : decode cX3_takeWord 46 = .ok (.putfield 30, 3) := by decide +kernel
theorem dX3_takeWord_49 : decode cX3_takeWord 49 = .ok (.iconst 0, 1) := by decide +kernel
theorem dX3_takeWord_50 : decode cX3_takeWord 50 = .ok (.istore_n 1, 1) := by decide +kernel
theorem dX3_takeWord_51 : decode cX3_takeWord 51 = .ok (.iload_n 1, 1) := by decide +kernel
theorem dX3_takeWord_52 : decode cX3_takeWord 52 = .ok (.bipush 9, 2) := by decide +kernel
theorem dX3_takeWord_54 : decode cX3_takeWord 54 = .ok (.if_icmp .ge 25, 3) := by decide +kernel
theorem dX3_takeWord_57 : decode cX3_takeWord 57 = .ok (.aload_n 0, 1) := by decide +kernel
theorem dX3_takeWord_58 : decode cX3_takeWord 58 = .ok (.iload_n 1, 1) := by decide +kernel
theorem dX3_takeWord_59 : decode cX3_takeWord 59 = .ok (.invokestatic 100, 3) := by decide +kernel
theorem dX3_takeWord_62 : decode cX3_takeWord 62 = .ok (.invokevirtual 104, 3) := by decide +kernel
theorem dX3_takeWord_65 : decode cX3_takeWord 65 = .ok (.ifCond .eq 8, 3) := by decide +kernel
theorem dX3_takeWord_68 : decode cX3_takeWord 68 = .ok (.aload_n 0, 1) := by decide +kernel
theorem dX3_takeWord_69 : decode cX3_takeWord 69 = .ok (.iload_n 1, 1) := by decide +kernel
theorem dX3_takeWord_70 : decode cX3_takeWord 70 = .ok (.putfield 30, 3) := by decide +kernel
theorem dX3_takeWord_73 : decode cX3_takeWord 73 = .ok (.iinc 1 1, 3) := by decide +kernel
theorem dX3_takeWord_76 : decode cX3_takeWord 76 = .ok (.goto (-25), 3) := by decide +kernel
theorem dX3_takeWord_79 : decode cX3_takeWord 79 = .ok (.return_, 1) := by decide +kernel
theorem dX3_takeNumber_0 : decode cX3_takeNumber 0 = .ok (.aload_n 0, 1) := by decide +kernel
theorem dX3_takeNumber_1 : decode cX3_takeNumber 1 = .ok (.iconst 2, 1) := by decide +kernel
theorem dX3_takeNumber_2 : decode cX3_takeNumber 2 = .ok (.putfield 27, 3) := by decide +kernel
theorem dX3_takeNumber_5 : decode cX3_takeNumber 5 = .ok (.aload_n 0, 1) := by decide +kernel
theorem dX3_takeNumber_6 : decode cX3_takeNumber 6 = .ok (.iconst 0, 1) := by decide +kernel
theorem dX3_takeNumber_7 : decode cX3_takeNumber 7 = .ok (.putfield 30, 3) := by decide +kernel
theorem dX3_takeNumber_10 : decode cX3_takeNumber 10 = .ok (.aload_n 0, 1) := by decide +kernel
theorem dX3_takeNumber_11 : decode cX3_takeNumber 11 = .ok (.getfield 24, 3) := by decide +kernel
theorem dX3_takeNumber_14 : decode cX3_takeNumber 14 = .ok (.aload_n 0, 1) := by decide +kernel
theorem dX3_takeNumber_15 : decode cX3_takeNumber 15 = .ok (.getfield 11, 3) := by decide +kernel
theorem dX3_takeNumber_18 : decode cX3_takeNumber 18 = .ok (.if_icmp .ge 61, 3) := by decide +kernel
theorem dX3_takeNumber_21 : decode cX3_takeNumber 21 = .ok (.aload_n 0, 1) := by decide +kernel
theorem dX3_takeNumber_22 : decode cX3_takeNumber 22 = .ok (.getfield 17, 3) := by decide +kernel
theorem dX3_takeNumber_25 : decode cX3_takeNumber 25 = .ok (.aload_n 0, 1) := by decide +kernel
theorem dX3_takeNumber_26 : decode cX3_takeNumber 26 = .ok (.getfield 24, 3) := by decide +kernel
theorem dX3_takeNumber_29 : decode cX3_takeNumber 29 = .ok (.iaload, 1) := by decide +kernel
theorem dX3_takeNumber_30 : decode cX3_takeNumber 30 = .ok (.invokestatic 94, 3) := by decide +kernel
theorem dX3_takeNumber_33 : decode cX3_takeNumber 33 = .ok (.ifCond .eq 46, 3) := by decide +kernel
theorem dX3_takeNumber_36 : decode cX3_takeNumber 36 = .ok (.aload_n 0, 1) := by decide +kernel
theorem dX3_takeNumber_37 : decode cX3_takeNumber 37 = .ok (.sipush 1000, 3) := by decide +kernel
theorem dX3_takeNumber_40 : decode cX3_takeNumber 40 = .ok (.bipush 10, 2) := by decide +kernel
theorem dX3_takeNumber_42 : decode cX3_takeNumber 42 = .ok (.aload_n 0, 1) := by decide +kernel
theorem dX3_takeNumber_43 : decode cX3_takeNumber 43 = .ok (.getfield 30, 3) := by decide +kernel
theorem dX3_takeNumber_46 : decode cX3_takeNumber 46 = .ok (.imul, 1) := by decide +kernel
theorem dX3_takeNumber_47 : decode cX3_takeNumber 47 = .ok (.aload_n 0, 1) := by decide +kernel
theorem dX3_takeNumber_48 : decode cX3_takeNumber 48 = .ok (.getfield 17, 3) := by decide +kernel
theorem dX3_takeNumber_51 : decode cX3_takeNumber 51 = .ok (.aload_n 0, 1) := by decide +kernel
theorem dX3_takeNumber_52 : decode cX3_takeNumber 52 = .ok (.getfield 24, 3) := by decide +kernel
theorem dX3_takeNumber_55 : decode cX3_takeNumber 55 = .ok (.iaload, 1) := by decide +kernel
theorem dX3_takeNumber_56 : decode cX3_takeNumber 56 = .ok (.iadd, 1) := by decide +kernel
theorem dX3_takeNumber_57 : decode cX3_takeNumber 57 = .ok (.bipush 48, 2) := by decide +kernel
theorem dX3_takeNumber_59 : decode cX3_takeNumber 59 = .ok (.isub, 1) := by decide +kernel
theorem dX3_takeNumber_60 : decode cX3_takeNumber 60 = .ok (.invokestatic 108, 3) := by decide +kernel
theorem dX3_takeNumber_63 : decode cX3_takeNumber 63 = .ok (.putfield 30, 3) := by decide +kernel
theorem dX3_takeNumber_66 : decode cX3_takeNumber 66 = .ok (.aload_n 0, 1) := by decide +kernel
theorem dX3_takeNumber_67 : decode cX3_takeNumber 67 = .ok (.dup, 1) := by decide +kernel
theorem dX3_takeNumber_68 : decode cX3_takeNumber 68 = .ok (.getfield 24, 3) := by decide +kernel
theorem dX3_takeNumber_71 : decode cX3_takeNumber 71 = .ok (.iconst 1, 1) := by decide +kernel
theorem dX3_takeNumber_72 : decode cX3_takeNumber 72 = .ok (.iadd, 1) := by decide +kernel
theorem dX3_takeNumber_73 : decode cX3_takeNumber 73 = .ok (.putfield 24, 3) := by decide +kernel
theorem dX3_takeNumber_76 : decode cX3_takeNumber 76 = .ok (.goto (-66), 3) := by decide +kernel
theorem dX3_takeNumber_79 : decode cX3_takeNumber 79 = .ok (.return_, 1) := by decide +kernel
theorem dX3_isWord_0 : decode cX3_isWord 0 = .ok (.aload_n 1, 1) := by decide +kernel
theorem dX3_isWord_1 : decode cX3_isWord 1 = .ok (.invokevirtual 114, 3) := by decide +kernel
theorem dX3_isWord_4 : decode cX3_isWord 4 = .ok (.aload_n 0, 1) := by decide +kernel
theorem dX3_isWord_5 : decode cX3_isWord 5 = .ok (.getfield 24, 3) := by decide +kernel
theorem dX3_isWord_8 : decode cX3_isWord 8 = .ok (.aload_n 0, 1) := by decide +kernel
theorem dX3_isWord_9 : decode cX3_isWord 9 = .ok (.getfield 21, 3) := by decide +kernel
theorem dX3_isWord_12 : decode cX3_isWord 12 = .ok (.isub, 1) := by decide +kernel
theorem dX3_isWord_13 : decode cX3_isWord 13 = .ok (.if_icmp .eq 5, 3) := by decide +kernel
theorem dX3_isWord_16 : decode cX3_isWord 16 = .ok (.iconst 0, 1) := by decide +kernel
theorem dX3_isWord_17 : decode cX3_isWord 17 = .ok (.ireturn, 1) := by decide +kernel
theorem dX3_isWord_18 : decode cX3_isWord 18 = .ok (.iconst 0, 1) := by decide +kernel
theorem dX3_isWord_19 : decode cX3_isWord 19 = .ok (.istore_n 2, 1) := by decide +kernel
theorem dX3_isWord_20 : decode cX3_isWord 20 = .ok (.iload_n 2, 1) := by decide +kernel
theorem dX3_isWord_21 : decode cX3_isWord 21 = .ok (.aload_n 1, 1) := by decide +kernel
theorem dX3_isWord_22 : decode cX3_isWord 22 = .ok (.invokevirtual 114, 3) := by decide +kernel
theorem dX3_isWord_25 : decode cX3_isWord 25 = .ok (.if_icmp .ge 30, 3) := by decide +kernel
theorem dX3_isWord_28 : decode cX3_isWord 28 = .ok (.aload_n 0, 1) := by decide +kernel
theorem dX3_isWord_29 : decode cX3_isWord 29 = .ok (.getfield 17, 3) := by decide +kernel
theorem dX3_isWord_32 : decode cX3_isWord 32 = .ok (.aload_n 0, 1) := by decide +kernel
theorem dX3_isWord_33 : decode cX3_isWord 33 = .ok (.getfield 21, 3) := by decide +kernel
theorem dX3_isWord_36 : decode cX3_isWord 36 = .ok (.iload_n 2, 1) := by decide +kernel
theorem dX3_isWord_37 : decode cX3_isWord 37 = .ok (.iadd, 1) := by decide +kernel
theorem dX3_isWord_38 : decode cX3_isWord 38 = .ok (.iaload, 1) := by decide +kernel
theorem dX3_isWord_39 : decode cX3_isWord 39 = .ok (.aload_n 1, 1) := by decide +kernel
theorem dX3_isWord_40 : decode cX3_isWord 40 = .ok (.iload_n 2, 1) := by decide +kernel
theorem dX3_isWord_41 : decode cX3_isWord 41 = .ok (.invokevirtual 119, 3) := by decide +kernel
theorem dX3_isWord_44 : decode cX3_isWord 44 = .ok (.if_icmp .eq 5, 3) := by decide +kernel
theorem dX3_isWord_47 : decode cX3_isWord 47 = .ok (.iconst 0, 1) := by decide +kernel
theorem dX3_isWord_48 : decode cX3_isWord 48 = .ok (.ireturn, 1) := by decide +kernel
theorem dX3_isWord_49 : decode cX3_isWord 49 = .ok (.iinc 2 1, 3) := by decide +kernel
theorem dX3_isWord_52 : decode cX3_isWord 52 = .ok (.goto (-32), 3) := by decide +kernel
theorem dX3_isWord_55 : decode cX3_isWord 55 = .ok (.iconst 1, 1) := by decide +kernel
theorem dX3_isWord_56 : decode cX3_isWord 56 = .ok (.ireturn, 1) := by decide +kernel
theorem dX3_spelling_0 : decode cX3_spelling 0 = .ok (.iload_n 0, 1) := by decide +kernel
theorem dX3_spelling_1 : decode cX3_spelling 1 = .ok (.tableswitch 71 0 7 #[47, 50, 53, 56, 59, 62, 65, 68], 47) := by decide +kernel
theorem dX3_spelling_48 : decode cX3_spelling 48 = .ok (.ldc 123, 2) := by decide +kernel
theorem dX3_spelling_50 : decode cX3_spelling 50 = .ok (.areturn, 1) := by decide +kernel
theorem dX3_spelling_51 : decode cX3_spelling 51 = .ok (.ldc 125, 2) := by decide +kernel
theorem dX3_spelling_53 : decode cX3_spelling 53 = .ok (.areturn, 1) := by decide +kernel
theorem dX3_spelling_54 : decode cX3_spelling 54 = .ok (.ldc 127, 2) := by decide +kernel
theorem dX3_spelling_56 : decode cX3_spelling 56 = .ok (.areturn, 1) := by decide +kernel
theorem dX3_spelling_57 : decode cX3_spelling 57 = .ok (.ldc 129, 2) := by decide +kernel
theorem dX3_spelling_59 : decode cX3_spelling 59 = .ok (.areturn, 1) := by decide +kernel
theorem dX3_spelling_60 : decode cX3_spelling 60 = .ok (.ldc 131, 2) := by decide +kernel
theorem dX3_spelling_62 : decode cX3_spelling 62 = .ok (.areturn, 1) := by decide +kernel
theorem dX3_spelling_63 : decode cX3_spelling 63 = .ok (.ldc 133, 2) := by decide +kernel
theorem dX3_spelling_65 : decode cX3_spelling 65 = .ok (.areturn, 1) := by decide +kernel
theorem dX3_spelling_66 : decode cX3_spelling 66 = .ok (.ldc 135, 2) := by decide +kernel
theorem dX3_spelling_68 : decode cX3_spelling 68 = .ok (.areturn, 1) := by decide +kernel
theorem dX3_spelling_69 : decode cX3_spelling 69 = .ok (.ldc 136, 2) := by decide +kernel
theorem dX3_spelling_71 : decode cX3_spelling 71 = .ok (.areturn, 1) := by decide +kernel
theorem dX3_spelling_72 : decode cX3_spelling 72 = .ok (.ldc 138, 2) := by decide +kernel
theorem dX3_spelling_74 : decode cX3_spelling 74 = .ok (.areturn, 1) := by decide +kernel
theorem dX3_isLetter_0 : decode cX3_isLetter 0 = .ok (.iload_n 0, 1) := by decide +kernel
theorem dX3_isLetter_1 : decode cX3_isLetter 1 = .ok (.bipush 97, 2) := by decide +kernel
theorem dX3_isLetter_3 : decode cX3_isLetter 3 = .ok (.if_icmp .lt 13, 3) := by decide +kernel
theorem dX3_isLetter_6 : decode cX3_isLetter 6 = .ok (.iload_n 0, 1) := by decide +kernel
theorem dX3_isLetter_7 : decode cX3_isLetter 7 = .ok (.bipush 122, 2) := by decide +kernel
theorem dX3_isLetter_9 : decode cX3_isLetter 9 = .ok (.if_icmp .gt 7, 3) := by decide +kernel
theorem dX3_isLetter_12 : decode cX3_isLetter 12 = .ok (.iconst 1, 1) := by decide +kernel
theorem dX3_isLetter_13 : decode cX3_isLetter 13 = .ok (.goto 4, 3) := by decide +kernel
theorem dX3_isLetter_16 : decode cX3_isLetter 16 = .ok (.iconst 0, 1) := by decide +kernel
theorem dX3_isLetter_17 : decode cX3_isLetter 17 = .ok (.ireturn, 1) := by decide +kernel
theorem dX3_isDigit_0 : decode cX3_isDigit 0 = .ok (.iload_n 0, 1) := by decide +kernel
theorem dX3_isDigit_1 : decode cX3_isDigit 1 = .ok (.bipush 48, 2) := by decide +kernel
theorem dX3_isDigit_3 : decode cX3_isDigit 3 = .ok (.if_icmp .lt 13, 3) := by decide +kernel
theorem dX3_isDigit_6 : decode cX3_isDigit 6 = .ok (.iload_n 0, 1) := by decide +kernel
theorem dX3_isDigit_7 : decode cX3_isDigit 7 = .ok (.bipush 57, 2) := by decide +kernel
theorem dX3_isDigit_9 : decode cX3_isDigit 9 = .ok (.if_icmp .gt 7, 3) := by decide +kernel
theorem dX3_isDigit_12 : decode cX3_isDigit 12 = .ok (.iconst 1, 1) := by decide +kernel
theorem dX3_isDigit_13 : decode cX3_isDigit 13 = .ok (.goto 4, 3) := by decide +kernel
theorem dX3_isDigit_16 : decode cX3_isDigit 16 = .ok (.iconst 0, 1) := by decide +kernel
theorem dX3_isDigit_17 : decode cX3_isDigit 17 = .ok (.ireturn, 1) := by decide +kernel
theorem dJ0_length_8abf5_0 : decode cJ0_length_8abf5 0 = .ok (.aload_n 0, 1) := by decide +kernel
theorem dJ0_length_8abf5_1 : decode cJ0_length_8abf5 1 = .ok (.getfield 9, 3) := by decide +kernel
theorem dJ0_length_8abf5_4 : decode cJ0_length_8abf5 4 = .ok (.arraylength, 1) := by decide +kernel
theorem dJ0_length_8abf5_5 : decode cJ0_length_8abf5 5 = .ok (.aload_n 0, 1) := by decide +kernel
theorem dJ0_length_8abf5_6 : decode cJ0_length_8abf5 6 = .ok (.invokevirtual 335, 3) := by decide +kernel
theorem dJ0_length_8abf5_9 : decode cJ0_length_8abf5 9 = .ok (.ishr, 1) := by decide +kernel
theorem dJ0_length_8abf5_10 : decode cJ0_length_8abf5 10 = .ok (.ireturn, 1) := by decide +kernel
theorem dJ0_charAt_5068e_0 : decode cJ0_charAt_5068e 0 = .ok (.aload_n 0, 1) := by decide +kernel
theorem dJ0_charAt_5068e_1 : decode cJ0_charAt_5068e 1 = .ok (.invokevirtual 492, 3) := by decide +kernel
theorem dJ0_charAt_5068e_4 : decode cJ0_charAt_5068e 4 = .ok (.ifCond .eq 12, 3) := by decide +kernel
theorem dJ0_charAt_5068e_7 : decode cJ0_charAt_5068e 7 = .ok (.aload_n 0, 1) := by decide +kernel
theorem dJ0_charAt_5068e_8 : decode cJ0_charAt_5068e 8 = .ok (.getfield 9, 3) := by decide +kernel
theorem dJ0_charAt_5068e_11 : decode cJ0_charAt_5068e 11 = .ok (.iload_n 1, 1) := by decide +kernel
theorem dJ0_charAt_5068e_12 : decode cJ0_charAt_5068e 12 = .ok (.invokestatic 495, 3) := by decide +kernel
theorem dJ0_charAt_5068e_15 : decode cJ0_charAt_5068e 15 = .ok (.ireturn, 1) := by decide +kernel
theorem dJ0_charAt_5068e_16 : decode cJ0_charAt_5068e 16 = .ok (.aload_n 0, 1) := by decide +kernel
theorem dJ0_charAt_5068e_17 : decode cJ0_charAt_5068e 17 = .ok (.getfield 9, 3) := by decide +kernel
theorem dJ0_charAt_5068e_20 : decode cJ0_charAt_5068e 20 = .ok (.iload_n 1, 1) := by decide +kernel
theorem dJ0_charAt_5068e_21 : decode cJ0_charAt_5068e 21 = .ok (.invokestatic 498, 3) := by decide +kernel
theorem dJ0_charAt_5068e_24 : decode cJ0_charAt_5068e 24 = .ok (.ireturn, 1) := by decide +kernel
theorem dJ0_coder_7d493_0 : decode cJ0_coder_7d493 0 = .ok (.getstatic 38, 3) := by decide +kernel
theorem dJ0_coder_7d493_3 : decode cJ0_coder_7d493 3 = .ok (.ifCond .eq 10, 3) := by decide +kernel
theorem dJ0_coder_7d493_6 : decode cJ0_coder_7d493 6 = .ok (.aload_n 0, 1) := by decide +kernel
theorem dJ0_coder_7d493_7 : decode cJ0_coder_7d493 7 = .ok (.getfield 15, 3) := by decide +kernel
theorem dJ0_coder_7d493_10 : decode cJ0_coder_7d493 10 = .ok (.goto 4, 3) := by decide +kernel
theorem dJ0_coder_7d493_13 : decode cJ0_coder_7d493 13 = .ok (.iconst 1, 1) := by decide +kernel
theorem dJ0_coder_7d493_14 : decode cJ0_coder_7d493 14 = .ok (.ireturn, 1) := by decide +kernel
theorem dJ0_isLatin1_aae02_0 : decode cJ0_isLatin1_aae02 0 = .ok (.getstatic 38, 3) := by decide +kernel
theorem dJ0_isLatin1_aae02_3 : decode cJ0_isLatin1_aae02 3 = .ok (.ifCond .eq 14, 3) := by decide +kernel
theorem dJ0_isLatin1_aae02_6 : decode cJ0_isLatin1_aae02 6 = .ok (.aload_n 0, 1) := by decide +kernel
theorem dJ0_isLatin1_aae02_7 : decode cJ0_isLatin1_aae02 7 = .ok (.getfield 15, 3) := by decide +kernel
theorem dJ0_isLatin1_aae02_10 : decode cJ0_isLatin1_aae02 10 = .ok (.ifCond .ne 7, 3) := by decide +kernel
theorem dJ0_isLatin1_aae02_13 : decode cJ0_isLatin1_aae02 13 = .ok (.iconst 1, 1) := by decide +kernel
theorem dJ0_isLatin1_aae02_14 : decode cJ0_isLatin1_aae02 14 = .ok (.goto 4, 3) := by decide +kernel
theorem dJ0_isLatin1_aae02_17 : decode cJ0_isLatin1_aae02 17 = .ok (.iconst 0, 1) := by decide +kernel
theorem dJ0_isLatin1_aae02_18 : decode cJ0_isLatin1_aae02 18 = .ok (.ireturn, 1) := by decide +kernel
theorem dJ0_checkIndex_df160_0 : decode cJ0_checkIndex_df160 0 = .ok (.iload_n 0, 1) := by decide +kernel
theorem dJ0_checkIndex_df160_1 : decode cJ0_checkIndex_df160 1 = .ok (.iload_n 1, 1) := by decide +kernel
theorem dJ0_checkIndex_df160_2 : decode cJ0_checkIndex_df160 2 = .ok (.getstatic 1053, 3) := by decide +kernel
theorem dJ0_checkIndex_df160_5 : decode cJ0_checkIndex_df160 5 = .ok (.invokestatic 1059, 3) := by decide +kernel
theorem dJ0_checkIndex_df160_8 : decode cJ0_checkIndex_df160 8 = .ok (.pop, 1) := by decide +kernel
theorem dJ0_checkIndex_df160_9 : decode cJ0_checkIndex_df160 9 = .ok (.return_, 1) := by decide +kernel
theorem dJ1_charAt_3b067_0 : decode cJ1_charAt_3b067 0 = .ok (.iload_n 1, 1) := by decide +kernel
theorem dJ1_charAt_3b067_1 : decode cJ1_charAt_3b067 1 = .ok (.aload_n 0, 1) := by decide +kernel
theorem dJ1_charAt_3b067_2 : decode cJ1_charAt_3b067 2 = .ok (.arraylength, 1) := by decide +kernel
theorem dJ1_charAt_3b067_3 : decode cJ1_charAt_3b067 3 = .ok (.invokestatic 9, 3) := by decide +kernel
theorem dJ1_charAt_3b067_6 : decode cJ1_charAt_3b067 6 = .ok (.aload_n 0, 1) := by decide +kernel
theorem dJ1_charAt_3b067_7 : decode cJ1_charAt_3b067 7 = .ok (.iload_n 1, 1) := by decide +kernel
theorem dJ1_charAt_3b067_8 : decode cJ1_charAt_3b067 8 = .ok (.baload, 1) := by decide +kernel
theorem dJ1_charAt_3b067_9 : decode cJ1_charAt_3b067 9 = .ok (.sipush 255, 3) := by decide +kernel
theorem dJ1_charAt_3b067_12 : decode cJ1_charAt_3b067 12 = .ok (.iand, 1) := by decide +kernel
theorem dJ1_charAt_3b067_13 : decode cJ1_charAt_3b067 13 = .ok (.i2c, 1) := by decide +kernel
theorem dJ1_charAt_3b067_14 : decode cJ1_charAt_3b067 14 = .ok (.ireturn, 1) := by decide +kernel
theorem dJ2_getChar_3b067_0 : decode cJ2_getChar_3b067 0 = .ok (.getstatic 44, 3) := by decide +kernel
theorem dJ2_getChar_3b067_3 : decode cJ2_getChar_3b067 3 = .ok (.ifCond .ne 25, 3) := by decide +kernel
theorem dJ2_getChar_3b067_6 : decode cJ2_getChar_3b067 6 = .ok (.iload_n 1, 1) := by decide +kernel
theorem dJ2_getChar_3b067_7 : decode cJ2_getChar_3b067 7 = .ok (.ifCond .lt 11, 3) := by decide +kernel
theorem dJ2_getChar_3b067_10 : decode cJ2_getChar_3b067 10 = .ok (.iload_n 1, 1) := by decide +kernel
theorem dJ2_getChar_3b067_11 : decode cJ2_getChar_3b067 11 = .ok (.aload_n 0, 1) := by decide +kernel
theorem dJ2_getChar_3b067_12 : decode cJ2_getChar_3b067 12 = .ok (.invokestatic 48, 3) := by decide +kernel
theorem dJ2_getChar_3b067_15 : decode cJ2_getChar_3b067 15 = .ok (.if_icmp .lt 13, 3) := by decide +kernel
theorem dJ2_getChar_3b067_18 : decode cJ2_getChar_3b067 18 = .ok (.new 52, 3) := by decide +kernel
theorem dJ2_getChar_3b067_21 : decode cJ2_getChar_3b067 21 = .ok (.dup, 1) := by decide +kernel
theorem dJ2_getChar_3b067_22 : decode cJ2_getChar_3b067 22 = .ok (.ldc 54, 2) := by decide +kernel
theorem dJ2_getChar_3b067_24 : decode cJ2_getChar_3b067 24 = .ok (.invokespecial 56, 3) := by decide +kernel
theorem dJ2_getChar_3b067_27 : decode cJ2_getChar_3b067 27 = .ok (.athrow, 1) := by decide +kernel
theorem dJ2_getChar_3b067_28 : decode cJ2_getChar_3b067 28 = .ok (.iload_n 1, 1) := by decide +kernel
theorem dJ2_getChar_3b067_29 : decode cJ2_getChar_3b067 29 = .ok (.iconst 1, 1) := by decide +kernel
theorem dJ2_getChar_3b067_30 : decode cJ2_getChar_3b067 30 = .ok (.ishl, 1) := by decide +kernel
theorem dJ2_getChar_3b067_31 : decode cJ2_getChar_3b067 31 = .ok (.istore_n 1, 1) := by decide +kernel
theorem dJ2_getChar_3b067_32 : decode cJ2_getChar_3b067 32 = .ok (.aload_n 0, 1) := by decide +kernel
theorem dJ2_getChar_3b067_33 : decode cJ2_getChar_3b067 33 = .ok (.iload_n 1, 1) := by decide +kernel
theorem dJ2_getChar_3b067_34 : decode cJ2_getChar_3b067 34 = .ok (.iinc 1 1, 3) := by decide +kernel
theorem dJ2_getChar_3b067_37 : decode cJ2_getChar_3b067 37 = .ok (.baload, 1) := by decide +kernel
theorem dJ2_getChar_3b067_38 : decode cJ2_getChar_3b067 38 = .ok (.sipush 255, 3) := by decide +kernel
theorem dJ2_getChar_3b067_41 : decode cJ2_getChar_3b067 41 = .ok (.iand, 1) := by decide +kernel
theorem dJ2_getChar_3b067_42 : decode cJ2_getChar_3b067 42 = .ok (.getstatic 59, 3) := by decide +kernel
theorem dJ2_getChar_3b067_45 : decode cJ2_getChar_3b067 45 = .ok (.ishl, 1) := by decide +kernel
theorem dJ2_getChar_3b067_46 : decode cJ2_getChar_3b067 46 = .ok (.aload_n 0, 1) := by decide +kernel
theorem dJ2_getChar_3b067_47 : decode cJ2_getChar_3b067 47 = .ok (.iload_n 1, 1) := by decide +kernel
theorem dJ2_getChar_3b067_48 : decode cJ2_getChar_3b067 48 = .ok (.baload, 1) := by decide +kernel
theorem dJ2_getChar_3b067_49 : decode cJ2_getChar_3b067 49 = .ok (.sipush 255, 3) := by decide +kernel
theorem dJ2_getChar_3b067_52 : decode cJ2_getChar_3b067 52 = .ok (.iand, 1) := by decide +kernel
theorem dJ2_getChar_3b067_53 : decode cJ2_getChar_3b067 53 = .ok (.getstatic 63, 3) := by decide +kernel
theorem dJ2_getChar_3b067_56 : decode cJ2_getChar_3b067 56 = .ok (.ishl, 1) := by decide +kernel
theorem dJ2_getChar_3b067_57 : decode cJ2_getChar_3b067 57 = .ok (.ior, 1) := by decide +kernel
theorem dJ2_getChar_3b067_58 : decode cJ2_getChar_3b067 58 = .ok (.i2c, 1) := by decide +kernel
theorem dJ2_getChar_3b067_59 : decode cJ2_getChar_3b067 59 = .ok (.ireturn, 1) := by decide +kernel
theorem dJ2_length_9d52b_0 : decode cJ2_length_9d52b 0 = .ok (.aload_n 0, 1) := by decide +kernel
theorem dJ2_length_9d52b_1 : decode cJ2_length_9d52b 1 = .ok (.arraylength, 1) := by decide +kernel
theorem dJ2_length_9d52b_2 : decode cJ2_length_9d52b 2 = .ok (.iconst 1, 1) := by decide +kernel
theorem dJ2_length_9d52b_3 : decode cJ2_length_9d52b 3 = .ok (.ishr, 1) := by decide +kernel
theorem dJ2_length_9d52b_4 : decode cJ2_length_9d52b 4 = .ok (.ireturn, 1) := by decide +kernel
theorem dJ2_charAt_3b067_0 : decode cJ2_charAt_3b067 0 = .ok (.iload_n 1, 1) := by decide +kernel
theorem dJ2_charAt_3b067_1 : decode cJ2_charAt_3b067 1 = .ok (.aload_n 0, 1) := by decide +kernel
theorem dJ2_charAt_3b067_2 : decode cJ2_charAt_3b067 2 = .ok (.invokestatic 67, 3) := by decide +kernel
theorem dJ2_charAt_3b067_5 : decode cJ2_charAt_3b067 5 = .ok (.aload_n 0, 1) := by decide +kernel
theorem dJ2_charAt_3b067_6 : decode cJ2_charAt_3b067 6 = .ok (.iload_n 1, 1) := by decide +kernel
theorem dJ2_charAt_3b067_7 : decode cJ2_charAt_3b067 7 = .ok (.invokestatic 71, 3) := by decide +kernel
theorem dJ2_charAt_3b067_10 : decode cJ2_charAt_3b067 10 = .ok (.ireturn, 1) := by decide +kernel
theorem dJ2_checkIndex_2214a_0 : decode cJ2_checkIndex_2214a 0 = .ok (.iload_n 0, 1) := by decide +kernel
theorem dJ2_checkIndex_2214a_1 : decode cJ2_checkIndex_2214a 1 = .ok (.aload_n 1, 1) := by decide +kernel
theorem dJ2_checkIndex_2214a_2 : decode cJ2_checkIndex_2214a 2 = .ok (.invokestatic 48, 3) := by decide +kernel
theorem dJ2_checkIndex_2214a_5 : decode cJ2_checkIndex_2214a 5 = .ok (.invokestatic 414, 3) := by decide +kernel
theorem dJ2_checkIndex_2214a_8 : decode cJ2_checkIndex_2214a 8 = .ok (.return_, 1) := by decide +kernel
theorem dJ3_checkIndex_8e157_0 : decode cJ3_checkIndex_8e157 0 = .ok (.iload_n 0, 1) := by decide +kernel
theorem dJ3_checkIndex_8e157_1 : decode cJ3_checkIndex_8e157 1 = .ok (.ifCond .lt 8, 3) := by decide +kernel
theorem dJ3_checkIndex_8e157_4 : decode cJ3_checkIndex_8e157 4 = .ok (.iload_n 0, 1) := by decide +kernel
theorem dJ3_checkIndex_8e157_5 : decode cJ3_checkIndex_8e157 5 = .ok (.iload_n 1, 1) := by decide +kernel
theorem dJ3_checkIndex_8e157_6 : decode cJ3_checkIndex_8e157 6 = .ok (.if_icmp .lt 10, 3) := by decide +kernel
theorem dJ3_checkIndex_8e157_9 : decode cJ3_checkIndex_8e157 9 = .ok (.aload_n 2, 1) := by decide +kernel
theorem dJ3_checkIndex_8e157_10 : decode cJ3_checkIndex_8e157 10 = .ok (.iload_n 0, 1) := by decide +kernel
theorem dJ3_checkIndex_8e157_11 : decode cJ3_checkIndex_8e157 11 = .ok (.iload_n 1, 1) := by decide +kernel
theorem dJ3_checkIndex_8e157_12 : decode cJ3_checkIndex_8e157 12 = .ok (.invokestatic 95, 3) := by decide +kernel
theorem dJ3_checkIndex_8e157_15 : decode cJ3_checkIndex_8e157 15 = .ok (.athrow, 1) := by decide +kernel
theorem dJ3_checkIndex_8e157_16 : decode cJ3_checkIndex_8e157 16 = .ok (.iload_n 0, 1) := by decide +kernel
theorem dJ3_checkIndex_8e157_17 : decode cJ3_checkIndex_8e157 17 = .ok (.ireturn, 1) := by decide +kernel
theorem dJ6_bitCount_0f7a4_0 : decode cJ6_bitCount_0f7a4 0 = .ok (.iload_n 0, 1) := by decide +kernel
theorem dJ6_bitCount_0f7a4_1 : decode cJ6_bitCount_0f7a4 1 = .ok (.iload_n 0, 1) := by decide +kernel
theorem dJ6_bitCount_0f7a4_2 : decode cJ6_bitCount_0f7a4 2 = .ok (.iconst 1, 1) := by decide +kernel
theorem dJ6_bitCount_0f7a4_3 : decode cJ6_bitCount_0f7a4 3 = .ok (.iushr, 1) := by decide +kernel
theorem dJ6_bitCount_0f7a4_4 : decode cJ6_bitCount_0f7a4 4 = .ok (.ldc_w 265, 3) := by decide +kernel
theorem dJ6_bitCount_0f7a4_7 : decode cJ6_bitCount_0f7a4 7 = .ok (.iand, 1) := by decide +kernel
theorem dJ6_bitCount_0f7a4_8 : decode cJ6_bitCount_0f7a4 8 = .ok (.isub, 1) := by decide +kernel
theorem dJ6_bitCount_0f7a4_9 : decode cJ6_bitCount_0f7a4 9 = .ok (.istore_n 0, 1) := by decide +kernel
theorem dJ6_bitCount_0f7a4_10 : decode cJ6_bitCount_0f7a4 10 = .ok (.iload_n 0, 1) := by decide +kernel
theorem dJ6_bitCount_0f7a4_11 : decode cJ6_bitCount_0f7a4 11 = .ok (.ldc_w 266, 3) := by decide +kernel
theorem dJ6_bitCount_0f7a4_14 : decode cJ6_bitCount_0f7a4 14 = .ok (.iand, 1) := by decide +kernel
theorem dJ6_bitCount_0f7a4_15 : decode cJ6_bitCount_0f7a4 15 = .ok (.iload_n 0, 1) := by decide +kernel
theorem dJ6_bitCount_0f7a4_16 : decode cJ6_bitCount_0f7a4 16 = .ok (.iconst 2, 1) := by decide +kernel
theorem dJ6_bitCount_0f7a4_17 : decode cJ6_bitCount_0f7a4 17 = .ok (.iushr, 1) := by decide +kernel
theorem dJ6_bitCount_0f7a4_18 : decode cJ6_bitCount_0f7a4 18 = .ok (.ldc_w 266, 3) := by decide +kernel
theorem dJ6_bitCount_0f7a4_21 : decode cJ6_bitCount_0f7a4 21 = .ok (.iand, 1) := by decide +kernel
theorem dJ6_bitCount_0f7a4_22 : decode cJ6_bitCount_0f7a4 22 = .ok (.iadd, 1) := by decide +kernel
theorem dJ6_bitCount_0f7a4_23 : decode cJ6_bitCount_0f7a4 23 = .ok (.istore_n 0, 1) := by decide +kernel
theorem dJ6_bitCount_0f7a4_24 : decode cJ6_bitCount_0f7a4 24 = .ok (.iload_n 0, 1) := by decide +kernel
theorem dJ6_bitCount_0f7a4_25 : decode cJ6_bitCount_0f7a4 25 = .ok (.iload_n 0, 1) := by decide +kernel
theorem dJ6_bitCount_0f7a4_26 : decode cJ6_bitCount_0f7a4 26 = .ok (.iconst 4, 1) := by decide +kernel
theorem dJ6_bitCount_0f7a4_27 : decode cJ6_bitCount_0f7a4 27 = .ok (.iushr, 1) := by decide +kernel
theorem dJ6_bitCount_0f7a4_28 : decode cJ6_bitCount_0f7a4 28 = .ok (.iadd, 1) := by decide +kernel
theorem dJ6_bitCount_0f7a4_29 : decode cJ6_bitCount_0f7a4 29 = .ok (.ldc_w 267, 3) := by decide +kernel
theorem dJ6_bitCount_0f7a4_32 : decode cJ6_bitCount_0f7a4 32 = .ok (.iand, 1) := by decide +kernel
theorem dJ6_bitCount_0f7a4_33 : decode cJ6_bitCount_0f7a4 33 = .ok (.istore_n 0, 1) := by decide +kernel
theorem dJ6_bitCount_0f7a4_34 : decode cJ6_bitCount_0f7a4 34 = .ok (.iload_n 0, 1) := by decide +kernel
theorem dJ6_bitCount_0f7a4_35 : decode cJ6_bitCount_0f7a4 35 = .ok (.iload_n 0, 1) := by decide +kernel
theorem dJ6_bitCount_0f7a4_36 : decode cJ6_bitCount_0f7a4 36 = .ok (.bipush 8, 2) := by decide +kernel
theorem dJ6_bitCount_0f7a4_38 : decode cJ6_bitCount_0f7a4 38 = .ok (.iushr, 1) := by decide +kernel
theorem dJ6_bitCount_0f7a4_39 : decode cJ6_bitCount_0f7a4 39 = .ok (.iadd, 1) := by decide +kernel
theorem dJ6_bitCount_0f7a4_40 : decode cJ6_bitCount_0f7a4 40 = .ok (.istore_n 0, 1) := by decide +kernel
theorem dJ6_bitCount_0f7a4_41 : decode cJ6_bitCount_0f7a4 41 = .ok (.iload_n 0, 1) := by decide +kernel
theorem dJ6_bitCount_0f7a4_42 : decode cJ6_bitCount_0f7a4 42 = .ok (.iload_n 0, 1) := by decide +kernel
theorem dJ6_bitCount_0f7a4_43 : decode cJ6_bitCount_0f7a4 43 = .ok (.bipush 16, 2) := by decide +kernel
theorem dJ6_bitCount_0f7a4_45 : decode cJ6_bitCount_0f7a4 45 = .ok (.iushr, 1) := by decide +kernel
theorem dJ6_bitCount_0f7a4_46 : decode cJ6_bitCount_0f7a4 46 = .ok (.iadd, 1) := by decide +kernel
theorem dJ6_bitCount_0f7a4_47 : decode cJ6_bitCount_0f7a4 47 = .ok (.istore_n 0, 1) := by decide +kernel
theorem dJ6_bitCount_0f7a4_48 : decode cJ6_bitCount_0f7a4 48 = .ok (.iload_n 0, 1) := by decide +kernel
theorem dJ6_bitCount_0f7a4_49 : decode cJ6_bitCount_0f7a4 49 = .ok (.bipush 63, 2) := by decide +kernel
theorem dJ6_bitCount_0f7a4_51 : decode cJ6_bitCount_0f7a4 51 = .ok (.iand, 1) := by decide +kernel
theorem dJ6_bitCount_0f7a4_52 : decode cJ6_bitCount_0f7a4 52 = .ok (.ireturn, 1) := by decide +kernel
theorem dJ7_fill_d0a16_0 : decode cJ7_fill_d0a16 0 = .ok (.iconst 0, 1) := by decide +kernel
theorem dJ7_fill_d0a16_1 : decode cJ7_fill_d0a16 1 = .ok (.istore_n 3, 1) := by decide +kernel
theorem dJ7_fill_d0a16_2 : decode cJ7_fill_d0a16 2 = .ok (.aload_n 0, 1) := by decide +kernel
theorem dJ7_fill_d0a16_3 : decode cJ7_fill_d0a16 3 = .ok (.arraylength, 1) := by decide +kernel
theorem dJ7_fill_d0a16_4 : decode cJ7_fill_d0a16 4 = .ok (.istore 4, 2) := by decide +kernel
theorem dJ7_fill_d0a16_6 : decode cJ7_fill_d0a16 6 = .ok (.iload_n 3, 1) := by decide +kernel
theorem dJ7_fill_d0a16_7 : decode cJ7_fill_d0a16 7 = .ok (.iload 4, 2) := by decide +kernel
theorem dJ7_fill_d0a16_9 : decode cJ7_fill_d0a16 9 = .ok (.if_icmp .ge 13, 3) := by decide +kernel
theorem dJ7_fill_d0a16_12 : decode cJ7_fill_d0a16 12 = .ok (.aload_n 0, 1) := by decide +kernel
theorem dJ7_fill_d0a16_13 : decode cJ7_fill_d0a16 13 = .ok (.iload_n 3, 1) := by decide +kernel
theorem dJ7_fill_d0a16_14 : decode cJ7_fill_d0a16 14 = .ok (.lload_n 1, 1) := by decide +kernel
theorem dJ7_fill_d0a16_15 : decode cJ7_fill_d0a16 15 = .ok (.lastore, 1) := by decide +kernel
theorem dJ7_fill_d0a16_16 : decode cJ7_fill_d0a16 16 = .ok (.iinc 3 1, 3) := by decide +kernel
theorem dJ7_fill_d0a16_19 : decode cJ7_fill_d0a16 19 = .ok (.goto (-13), 3) := by decide +kernel
theorem dJ7_fill_d0a16_22 : decode cJ7_fill_d0a16 22 = .ok (.return_, 1) := by decide +kernel
theorem dJ7_fill_53178_0 : decode cJ7_fill_53178 0 = .ok (.iconst 0, 1) := by decide +kernel
theorem dJ7_fill_53178_1 : decode cJ7_fill_53178 1 = .ok (.istore_n 2, 1) := by decide +kernel
theorem dJ7_fill_53178_2 : decode cJ7_fill_53178 2 = .ok (.aload_n 0, 1) := by decide +kernel
theorem dJ7_fill_53178_3 : decode cJ7_fill_53178 3 = .ok (.arraylength, 1) := by decide +kernel
theorem dJ7_fill_53178_4 : decode cJ7_fill_53178 4 = .ok (.istore_n 3, 1) := by decide +kernel
theorem dJ7_fill_53178_5 : decode cJ7_fill_53178 5 = .ok (.iload_n 2, 1) := by decide +kernel
theorem dJ7_fill_53178_6 : decode cJ7_fill_53178 6 = .ok (.iload_n 3, 1) := by decide +kernel
theorem dJ7_fill_53178_7 : decode cJ7_fill_53178 7 = .ok (.if_icmp .ge 13, 3) := by decide +kernel
theorem dJ7_fill_53178_10 : decode cJ7_fill_53178 10 = .ok (.aload_n 0, 1) := by decide +kernel
theorem dJ7_fill_53178_11 : decode cJ7_fill_53178 11 = .ok (.iload_n 2, 1) := by decide +kernel
theorem dJ7_fill_53178_12 : decode cJ7_fill_53178 12 = .ok (.iload_n 1, 1) := by decide +kernel
theorem dJ7_fill_53178_13 : decode cJ7_fill_53178 13 = .ok (.iastore, 1) := by decide +kernel
theorem dJ7_fill_53178_14 : decode cJ7_fill_53178 14 = .ok (.iinc 2 1, 3) := by decide +kernel
theorem dJ7_fill_53178_17 : decode cJ7_fill_53178 17 = .ok (.goto (-12), 3) := by decide +kernel
theorem dJ7_fill_53178_20 : decode cJ7_fill_53178 20 = .ok (.return_, 1) := by decide +kernel
theorem dJ9_max_7cf53_0 : decode cJ9_max_7cf53 0 = .ok (.iload_n 0, 1) := by decide +kernel
theorem dJ9_max_7cf53_1 : decode cJ9_max_7cf53 1 = .ok (.iload_n 1, 1) := by decide +kernel
theorem dJ9_max_7cf53_2 : decode cJ9_max_7cf53 2 = .ok (.if_icmp .lt 7, 3) := by decide +kernel
theorem dJ9_max_7cf53_5 : decode cJ9_max_7cf53 5 = .ok (.iload_n 0, 1) := by decide +kernel
theorem dJ9_max_7cf53_6 : decode cJ9_max_7cf53 6 = .ok (.goto 4, 3) := by decide +kernel
theorem dJ9_max_7cf53_9 : decode cJ9_max_7cf53 9 = .ok (.iload_n 1, 1) := by decide +kernel
theorem dJ9_max_7cf53_10 : decode cJ9_max_7cf53 10 = .ok (.ireturn, 1) := by decide +kernel
theorem dJ9_min_7cf53_0 : decode cJ9_min_7cf53 0 = .ok (.iload_n 0, 1) := by decide +kernel
theorem dJ9_min_7cf53_1 : decode cJ9_min_7cf53 1 = .ok (.iload_n 1, 1) := by decide +kernel
theorem dJ9_min_7cf53_2 : decode cJ9_min_7cf53 2 = .ok (.if_icmp .gt 7, 3) := by decide +kernel
theorem dJ9_min_7cf53_5 : decode cJ9_min_7cf53 5 = .ok (.iload_n 0, 1) := by decide +kernel
theorem dJ9_min_7cf53_6 : decode cJ9_min_7cf53 6 = .ok (.goto 4, 3) := by decide +kernel
theorem dJ9_min_7cf53_9 : decode cJ9_min_7cf53 9 = .ok (.iload_n 1, 1) := by decide +kernel
theorem dJ9_min_7cf53_10 : decode cJ9_min_7cf53 10 = .ok (.ireturn, 1) := by decide +kernel
theorem dX4_init_0 : decode cX4_init 0 = .ok (.aload_n 0, 1) := by decide +kernel
theorem dX4_init_1 : decode cX4_init 1 = .ok (.invokespecial 1, 3) := by decide +kernel
theorem dX4_init_4 : decode cX4_init 4 = .ok (.aload_n 0, 1) := by decide +kernel
theorem dX4_init_5 : decode cX4_init 5 = .ok (.new 7, 3) := by decide +kernel
theorem dX4_init_8 : decode cX4_init 8 = .ok (.dup, 1) := by decide +kernel
theorem dX4_init_9 : decode cX4_init 9 = .ok (.invokespecial 9, 3) := by decide +kernel
theorem dX4_init_12 : decode cX4_init 12 = .ok (.putfield 10, 3) := by decide +kernel
theorem dX4_init_15 : decode cX4_init 15 = .ok (.aload_n 0, 1) := by decide +kernel
theorem dX4_init_16 : decode cX4_init 16 = .ok (.new 7, 3) := by decide +kernel
theorem dX4_init_19 : decode cX4_init 19 = .ok (.dup, 1) := by decide +kernel
theorem dX4_init_20 : decode cX4_init 20 = .ok (.invokespecial 9, 3) := by decide +kernel
theorem dX4_init_23 : decode cX4_init 23 = .ok (.putfield 16, 3) := by decide +kernel
theorem dX4_init_26 : decode cX4_init 26 = .ok (.aload_n 0, 1) := by decide +kernel
theorem dX4_init_27 : decode cX4_init 27 = .ok (.new 7, 3) := by decide +kernel
theorem dX4_init_30 : decode cX4_init 30 = .ok (.dup, 1) := by decide +kernel
theorem dX4_init_31 : decode cX4_init 31 = .ok (.invokespecial 9, 3) := by decide +kernel
theorem dX4_init_34 : decode cX4_init 34 = .ok (.putfield 19, 3) := by decide +kernel
theorem dX4_init_37 : decode cX4_init 37 = .ok (.aload_n 0, 1) := by decide +kernel
theorem dX4_init_38 : decode cX4_init 38 = .ok (.iconst 0, 1) := by decide +kernel
theorem dX4_init_39 : decode cX4_init 39 = .ok (.putfield 22, 3) := by decide +kernel
theorem dX4_init_42 : decode cX4_init 42 = .ok (.aload_n 0, 1) := by decide +kernel
theorem dX4_init_43 : decode cX4_init 43 = .ok (.new 26, 3) := by decide +kernel
theorem dX4_init_46 : decode cX4_init 46 = .ok (.dup, 1) := by decide +kernel
theorem dX4_init_47 : decode cX4_init 47 = .ok (.invokespecial 28, 3) := by decide +kernel
theorem dX4_init_50 : decode cX4_init 50 = .ok (.putfield 29, 3) := by decide +kernel
theorem dX4_init_53 : decode cX4_init 53 = .ok (.aload_n 0, 1) := by decide +kernel
theorem dX4_init_54 : decode cX4_init 54 = .ok (.iconst 4, 1) := by decide +kernel
theorem dX4_init_55 : decode cX4_init 55 = .ok (.anewarray 33, 3) := by decide +kernel
theorem dX4_init_58 : decode cX4_init 58 = .ok (.putfield 35, 3) := by decide +kernel
theorem dX4_init_61 : decode cX4_init 61 = .ok (.aload_n 0, 1) := by decide +kernel
theorem dX4_init_62 : decode cX4_init 62 = .ok (.bipush 7, 2) := by decide +kernel
theorem dX4_init_64 : decode cX4_init 64 = .ok (.newarray .int, 2) := by decide +kernel
theorem dX4_init_66 : decode cX4_init 66 = .ok (.putfield 39, 3) := by decide +kernel
theorem dX4_init_69 : decode cX4_init 69 = .ok (.iconst 0, 1) := by decide +kernel
theorem dX4_init_70 : decode cX4_init 70 = .ok (.istore_n 1, 1) := by decide +kernel
theorem dX4_init_71 : decode cX4_init 71 = .ok (.iload_n 1, 1) := by decide +kernel
theorem dX4_init_72 : decode cX4_init 72 = .ok (.iconst 4, 1) := by decide +kernel
theorem dX4_init_73 : decode cX4_init 73 = .ok (.if_icmp .ge 22, 3) := by decide +kernel
theorem dX4_init_76 : decode cX4_init 76 = .ok (.aload_n 0, 1) := by decide +kernel
theorem dX4_init_77 : decode cX4_init 77 = .ok (.getfield 35, 3) := by decide +kernel
theorem dX4_init_80 : decode cX4_init 80 = .ok (.iload_n 1, 1) := by decide +kernel
theorem dX4_init_81 : decode cX4_init 81 = .ok (.new 33, 3) := by decide +kernel
theorem dX4_init_84 : decode cX4_init 84 = .ok (.dup, 1) := by decide +kernel
theorem dX4_init_85 : decode cX4_init 85 = .ok (.invokespecial 43, 3) := by decide +kernel
theorem dX4_init_88 : decode cX4_init 88 = .ok (.aastore, 1) := by decide +kernel
theorem dX4_init_89 : decode cX4_init 89 = .ok (.iinc 1 1, 3) := by decide +kernel
theorem dX4_init_92 : decode cX4_init 92 = .ok (.goto (-21), 3) := by decide +kernel
theorem dX4_init_95 : decode cX4_init 95 = .ok (.return_, 1) := by decide +kernel
theorem dX4_seat_0 : decode cX4_seat 0 = .ok (.iload_n 1, 1) := by decide +kernel
theorem dX4_seat_1 : decode cX4_seat 1 = .ok (.iconst 0, 1) := by decide +kernel
theorem dX4_seat_2 : decode cX4_seat 2 = .ok (.bipush 11, 2) := by decide +kernel
theorem dX4_seat_4 : decode cX4_seat 4 = .ok (.invokestatic 44, 3) := by decide +kernel
theorem dX4_seat_7 : decode cX4_seat 7 = .ok (.ifCond .ne 10, 3) := by decide +kernel
theorem dX4_seat_10 : decode cX4_seat 10 = .ok (.aload_n 0, 1) := by decide +kernel
theorem dX4_seat_11 : decode cX4_seat 11 = .ok (.ldc 48, 2) := by decide +kernel
theorem dX4_seat_13 : decode cX4_seat 13 = .ok (.invokevirtual 49, 3) := by decide +kernel
theorem dX4_seat_16 : decode cX4_seat 16 = .ok (.ireturn, 1) := by decide +kernel
theorem dX4_seat_17 : decode cX4_seat 17 = .ok (.aload_n 0, 1) := by decide +kernel
theorem dX4_seat_18 : decode cX4_seat 18 = .ok (.getfield 10, 3) := by decide +kernel
theorem dX4_seat_21 : decode cX4_seat 21 = .ok (.iload_n 1, 1) := by decide +kernel
theorem dX4_seat_22 : decode cX4_seat 22 = .ok (.invokevirtual 53, 3) := by decide +kernel
theorem dX4_seat_25 : decode cX4_seat 25 = .ok (.ireturn, 1) := by decide +kernel
theorem dX4_now_0 : decode cX4_now 0 = .ok (.iload_n 1, 1) := by decide +kernel
theorem dX4_now_1 : decode cX4_now 1 = .ok (.tableswitch 94 0 5 #[39, 47, 55, 63, 71, 79], 39) := by decide +kernel
theorem dX4_now_40 : decode cX4_now 40 = .ok (.aload_n 0, 1) := by decide +kernel
theorem dX4_now_41 : decode cX4_now 41 = .ok (.getfield 10, 3) := by decide +kernel
theorem dX4_now_44 : decode cX4_now 44 = .ok (.getfield 56, 3) := by decide +kernel
theorem dX4_now_47 : decode cX4_now 47 = .ok (.ireturn, 1) := by decide +kernel
theorem dX4_now_48 : decode cX4_now 48 = .ok (.aload_n 0, 1) := by decide +kernel
theorem dX4_now_49 : decode cX4_now 49 = .ok (.getfield 10, 3) := by decide +kernel
theorem dX4_now_52 : decode cX4_now 52 = .ok (.invokevirtual 60, 3) := by decide +kernel
theorem dX4_now_55 : decode cX4_now 55 = .ok (.ireturn, 1) := by decide +kernel
theorem dX4_now_56 : decode cX4_now 56 = .ok (.aload_n 0, 1) := by decide +kernel
theorem dX4_now_57 : decode cX4_now 57 = .ok (.getfield 10, 3) := by decide +kernel
theorem dX4_now_60 : decode cX4_now 60 = .ok (.invokevirtual 64, 3) := by decide +kernel
theorem dX4_now_63 : decode cX4_now 63 = .ok (.ireturn, 1) := by decide +kernel
theorem dX4_now_64 : decode cX4_now 64 = .ok (.aload_n 0, 1) := by decide +kernel
theorem dX4_now_65 : decode cX4_now 65 = .ok (.getfield 10, 3) := by decide +kernel
theorem dX4_now_68 : decode cX4_now 68 = .ok (.invokevirtual 67, 3) := by decide +kernel
theorem dX4_now_71 : decode cX4_now 71 = .ok (.ireturn, 1) := by decide +kernel
theorem dX4_now_72 : decode cX4_now 72 = .ok (.aload_n 0, 1) := by decide +kernel
theorem dX4_now_73 : decode cX4_now 73 = .ok (.getfield 10, 3) := by decide +kernel
theorem dX4_now_76 : decode cX4_now 76 = .ok (.invokevirtual 70, 3) := by decide +kernel
theorem dX4_now_79 : decode cX4_now 79 = .ok (.ireturn, 1) := by decide +kernel
theorem dX4_now_80 : decode cX4_now 80 = .ok (.aload_n 0, 1) := by decide +kernel
theorem dX4_now_81 : decode cX4_now 81 = .ok (.getfield 10, 3) := by decide +kernel
theorem dX4_now_84 : decode cX4_now 84 = .ok (.aload_n 0, 1) := by decide +kernel
theorem dX4_now_85 : decode cX4_now 85 = .ok (.getfield 10, 3) := by decide +kernel
theorem dX4_now_88 : decode cX4_now 88 = .ok (.getfield 73, 3) := by decide +kernel
theorem dX4_now_91 : decode cX4_now 91 = .ok (.invokevirtual 76, 3) := by decide +kernel
theorem dX4_now_94 : decode cX4_now 94 = .ok (.ireturn, 1) := by decide +kernel
theorem dX4_now_95 : decode cX4_now 95 = .ok (.aload_n 0, 1) := by decide +kernel
theorem dX4_now_96 : decode cX4_now 96 = .ok (.ldc 48, 2) := by decide +kernel
theorem dX4_now_98 : decode cX4_now 98 = .ok (.invokevirtual 49, 3) := by decide +kernel
theorem dX4_now_101 : decode cX4_now 101 = .ok (.ireturn, 1) := by decide +kernel
theorem dX4_verse_0 : decode cX4_verse 0 = .ok (.iload_n 1, 1) := by decide +kernel
theorem dX4_verse_1 : decode cX4_verse 1 = .ok (.ifCond .ge 10, 3) := by decide +kernel
theorem dX4_verse_4 : decode cX4_verse 4 = .ok (.aload_n 0, 1) := by decide +kernel
theorem dX4_verse_5 : decode cX4_verse 5 = .ok (.ldc 48, 2) := by decide +kernel
theorem dX4_verse_7 : decode cX4_verse 7 = .ok (.invokevirtual 49, 3) := by decide +kernel
theorem dX4_verse_10 : decode cX4_verse 10 = .ok (.ireturn, 1) := by decide +kernel
theorem dX4_verse_11 : decode cX4_verse 11 = .ok (.aload_n 0, 1) := by decide +kernel
theorem dX4_verse_12 : decode cX4_verse 12 = .ok (.getfield 10, 3) := by decide +kernel
theorem dX4_verse_15 : decode cX4_verse 15 = .ok (.iload_n 1, 1) := by decide +kernel
theorem dX4_verse_16 : decode cX4_verse 16 = .ok (.invokevirtual 80, 3) := by decide +kernel
theorem dX4_verse_19 : decode cX4_verse 19 = .ok (.istore_n 2, 1) := by decide +kernel
theorem dX4_verse_20 : decode cX4_verse 20 = .ok (.iload_n 2, 1) := by decide +kernel
theorem dX4_verse_21 : decode cX4_verse 21 = .ok (.iconst (-1), 1) := by decide +kernel
theorem dX4_verse_22 : decode cX4_verse 22 = .ok (.if_icmp .ne 12, 3) := by decide +kernel
theorem dX4_verse_25 : decode cX4_verse 25 = .ok (.aload_n 0, 1) := by decide +kernel
theorem dX4_verse_26 : decode cX4_verse 26 = .ok (.ldc 83, 2) := by decide +kernel
theorem dX4_verse_28 : decode cX4_verse 28 = .ok (.invokevirtual 49, 3) := by decide +kernel
theorem dX4_verse_31 : decode cX4_verse 31 = .ok (.goto 12, 3) := by decide +kernel
theorem dX4_verse_34 : decode cX4_verse 34 = .ok (.aload_n 0, 1) := by decide +kernel
theorem dX4_verse_35 : decode cX4_verse 35 = .ok (.getfield 10, 3) := by decide +kernel
theorem dX4_verse_38 : decode cX4_verse 38 = .ok (.getfield 84, 3) := by decide +kernel
theorem dX4_verse_41 : decode cX4_verse 41 = .ok (.iload_n 2, 1) := by decide +kernel
theorem dX4_verse_42 : decode cX4_verse 42 = .ok (.iaload, 1) := by decide +kernel
theorem dX4_verse_43 : decode cX4_verse 43 = .ok (.ireturn, 1) := by decide +kernel
theorem dX4_member_0 : decode cX4_member 0 = .ok (.iload_n 1, 1) := by decide +kernel
theorem dX4_member_1 : decode cX4_member 1 = .ok (.invokestatic 87, 3) := by decide +kernel
theorem dX4_member_4 : decode cX4_member 4 = .ok (.ifCond .eq 23, 3) := by decide +kernel
theorem dX4_member_7 : decode cX4_member 7 = .ok (.iload_n 2, 1) := by decide +kernel
theorem dX4_member_8 : decode cX4_member 8 = .ok (.iconst 0, 1) := by decide +kernel
theorem dX4_member_9 : decode cX4_member 9 = .ok (.bipush 11, 2) := by decide +kernel
theorem dX4_member_11 : decode cX4_member 11 = .ok (.invokestatic 44, 3) := by decide +kernel
theorem dX4_member_14 : decode cX4_member 14 = .ok (.ifCond .eq 13, 3) := by decide +kernel
theorem dX4_member_17 : decode cX4_member 17 = .ok (.iload_n 3, 1) := by decide +kernel
theorem dX4_member_18 : decode cX4_member 18 = .ok (.iconst 0, 1) := by decide +kernel
theorem dX4_member_19 : decode cX4_member 19 = .ok (.bipush 9, 2) := by decide +kernel
theorem dX4_member_21 : decode cX4_member 21 = .ok (.invokestatic 44, 3) := by decide +kernel
theorem dX4_member_24 : decode cX4_member 24 = .ok (.ifCond .ne 10, 3) := by decide +kernel
theorem dX4_member_27 : decode cX4_member 27 = .ok (.aload_n 0, 1) := by decide +kernel
theorem dX4_member_28 : decode cX4_member 28 = .ok (.ldc 48, 2) := by decide +kernel
theorem dX4_member_30 : decode cX4_member 30 = .ok (.invokevirtual 49, 3) := by decide +kernel
theorem dX4_member_33 : decode cX4_member 33 = .ok (.ireturn, 1) := by decide +kernel
theorem dX4_member_34 : decode cX4_member 34 = .ok (.aload_n 0, 1) := by decide +kernel
theorem dX4_member_35 : decode cX4_member 35 = .ok (.getfield 10, 3) := by decide +kernel
theorem dX4_member_38 : decode cX4_member 38 = .ok (.invokevirtual 93, 3) := by decide +kernel
theorem dX4_member_41 : decode cX4_member 41 = .ok (.ifCond .eq 10, 3) := by decide +kernel
theorem dX4_member_44 : decode cX4_member 44 = .ok (.aload_n 0, 1) := by decide +kernel
theorem dX4_member_45 : decode cX4_member 45 = .ok (.ldc 97, 2) := by decide +kernel
theorem dX4_member_47 : decode cX4_member 47 = .ok (.invokevirtual 49, 3) := by decide +kernel
theorem dX4_member_50 : decode cX4_member 50 = .ok (.ireturn, 1) := by decide +kernel
theorem dX4_member_51 : decode cX4_member 51 = .ok (.aload_n 0, 1) := by decide +kernel
theorem dX4_member_52 : decode cX4_member 52 = .ok (.getfield 10, 3) := by decide +kernel
theorem dX4_member_55 : decode cX4_member 55 = .ok (.iload_n 2, 1) := by decide +kernel
theorem dX4_member_56 : decode cX4_member 56 = .ok (.invokevirtual 53, 3) := by decide +kernel
theorem dX4_member_59 : decode cX4_member 59 = .ok (.iconst (-1), 1) := by decide +kernel
theorem dX4_member_60 : decode cX4_member 60 = .ok (.if_icmp .eq 10, 3) := by decide +kernel
theorem dX4_member_63 : decode cX4_member 63 = .ok (.aload_n 0, 1) := by decide +kernel
theorem dX4_member_64 : decode cX4_member 64 = .ok (.ldc 98, 2) := by decide +kernel
theorem dX4_member_66 : decode cX4_member 66 = .ok (.invokevirtual 49, 3) := by decide +kernel
theorem dX4_member_69 : decode cX4_member 69 = .ok (.ireturn, 1) := by decide +kernel
theorem dX4_member_70 : decode cX4_member 70 = .ok (.aload_n 0, 1) := by decide +kernel
theorem dX4_member_71 : decode cX4_member 71 = .ok (.getfield 10, 3) := by decide +kernel
theorem dX4_member_74 : decode cX4_member 74 = .ok (.iload_n 1, 1) := by decide +kernel
theorem dX4_member_75 : decode cX4_member 75 = .ok (.iload_n 2, 1) := by decide +kernel
theorem dX4_member_76 : decode cX4_member 76 = .ok (.iload_n 3, 1) := by decide +kernel
theorem dX4_member_77 : decode cX4_member 77 = .ok (.iconst 5, 1) := by decide +kernel
theorem dX4_member_78 : decode cX4_member 78 = .ok (.invokevirtual 99, 3) := by decide +kernel
theorem dX4_member_81 : decode cX4_member 81 = .ok (.ireturn, 1) := by decide +kernel
theorem dX4_of_0 : decode cX4_of 0 = .ok (.aload_n 0, 1) := by decide +kernel
theorem dX4_of_1 : decode cX4_of 1 = .ok (.getfield 10, 3) := by decide +kernel
theorem dX4_of_4 : decode cX4_of 4 = .ok (.iload_n 1, 1) := by decide +kernel
theorem dX4_of_5 : decode cX4_of 5 = .ok (.invokevirtual 103, 3) := by decide +kernel
theorem dX4_of_8 : decode cX4_of 8 = .ok (.ifCond .ne 10, 3) := by decide +kernel
theorem dX4_of_11 : decode cX4_of 11 = .ok (.aload_n 0, 1) := by decide +kernel
theorem dX4_of_12 : decode cX4_of 12 = .ok (.ldc 48, 2) := by decide +kernel
theorem dX4_of_14 : decode cX4_of 14 = .ok (.invokevirtual 49, 3) := by decide +kernel
theorem dX4_of_17 : decode cX4_of 17 = .ok (.ireturn, 1) := by decide +kernel
theorem dX4_of_18 : decode cX4_of 18 = .ok (.iload_n 2, 1) := by decide +kernel
theorem dX4_of_19 : decode cX4_of 19 = .ok (.tableswitch 178 0 9 #[53, 63, 73, 83, 93, 103, 113, 135, 144, 169], 53) := by decide +kernel
theorem dX4_of_72 : decode cX4_of 72 = .ok (.aload_n 0, 1) := by decide +kernel
theorem dX4_of_73 : decode cX4_of 73 = .ok (.getfield 10, 3) := by decide +kernel
theorem dX4_of_76 : decode cX4_of 76 = .ok (.getfield 106, 3) := by decide +kernel
theorem dX4_of_79 : decode cX4_of 79 = .ok (.iload_n 1, 1) := by decide +kernel
theorem dX4_of_80 : decode cX4_of 80 = .ok (.iaload, 1) := by decide +kernel
theorem dX4_of_81 : decode cX4_of 81 = .ok (.ireturn, 1) := by decide +kernel
theorem dX4_of_82 : decode cX4_of 82 = .ok (.aload_n 0, 1) := by decide +kernel
theorem dX4_of_83 : decode cX4_of 83 = .ok (.getfield 10, 3) := by decide +kernel
theorem dX4_of_86 : decode cX4_of 86 = .ok (.getfield 109, 3) := by decide +kernel
theorem dX4_of_89 : decode cX4_of 89 = .ok (.iload_n 1, 1) := by decide +kernel
theorem dX4_of_90 : decode cX4_of 90 = .ok (.iaload, 1) := by decide +kernel
theorem dX4_of_91 : decode cX4_of 91 = .ok (.ireturn, 1) := by decide +kernel
theorem dX4_of_92 : decode cX4_of 92 = .ok (.aload_n 0, 1) := by decide +kernel
theorem dX4_of_93 : decode cX4_of 93 = .ok (.getfield 10, 3) := by decide +kernel
theorem dX4_of_96 : decode cX4_of 96 = .ok (.getfield 84, 3) := by decide +kernel
theorem dX4_of_99 : decode cX4_of 99 = .ok (.iload_n 1, 1) := by decide +kernel
theorem dX4_of_100 : decode cX4_of 100 = .ok (.iaload, 1) := by decide +kernel
theorem dX4_of_101 : decode cX4_of 101 = .ok (.ireturn, 1) := by decide +kernel
theorem dX4_of_102 : decode cX4_of 102 = .ok (.aload_n 0, 1) := by decide +kernel
theorem dX4_of_103 : decode cX4_of 103 = .ok (.getfield 10, 3) := by decide +kernel
theorem dX4_of_106 : decode cX4_of 106 = .ok (.getfield 112, 3) := by decide +kernel
theorem dX4_of_109 : decode cX4_of 109 = .ok (.iload_n 1, 1) := by decide +kernel
theorem dX4_of_110 : decode cX4_of 110 = .ok (.iaload, 1) := by decide +kernel
theorem dX4_of_111 : decode cX4_of 111 = .ok (.ireturn, 1) := by decide +kernel
theorem dX4_of_112 : decode cX4_of 112 = .ok (.aload_n 0, 1) := by decide +kernel
theorem dX4_of_113 : decode cX4_of 113 = .ok (.getfield 10, 3) := by decide +kernel
theorem dX4_of_116 : decode cX4_of 116 = .ok (.getfield 115, 3) := by decide +kernel
theorem dX4_of_119 : decode cX4_of 119 = .ok (.iload_n 1, 1) := by decide +kernel
theorem dX4_of_120 : decode cX4_of 120 = .ok (.iaload, 1) := by decide +kernel
theorem dX4_of_121 : decode cX4_of 121 = .ok (.ireturn, 1) := by decide +kernel
theorem dX4_of_122 : decode cX4_of 122 = .ok (.aload_n 0, 1) := by decide +kernel
theorem dX4_of_123 : decode cX4_of 123 = .ok (.getfield 10, 3) := by decide +kernel
theorem dX4_of_126 : decode cX4_of 126 = .ok (.getfield 73, 3) := by decide +kernel
theorem dX4_of_129 : decode cX4_of 129 = .ok (.iload_n 1, 1) := by decide +kernel
theorem dX4_of_130 : decode cX4_of 130 = .ok (.iaload, 1) := by decide +kernel
theorem dX4_of_131 : decode cX4_of 131 = .ok (.ireturn, 1) := by decide +kernel
theorem dX4_of_132 : decode cX4_of 132 = .ok (.aload_n 0, 1) := by decide +kernel
theorem dX4_of_133 : decode cX4_of 133 = .ok (.getfield 10, 3) := by decide +kernel
theorem dX4_of_136 : decode cX4_of 136 = .ok (.getfield 106, 3) := by decide +kernel
theorem dX4_of_139 : decode cX4_of 139 = .ok (.iload_n 1, 1) := by decide +kernel
theorem dX4_of_140 : decode cX4_of 140 = .ok (.iaload, 1) := by decide +kernel
theorem dX4_of_141 : decode cX4_of 141 = .ok (.aload_n 0, 1) := by decide +kernel
theorem dX4_of_142 : decode cX4_of 142 = .ok (.getfield 10, 3) := by decide +kernel
theorem dX4_of_145 : decode cX4_of 145 = .ok (.getfield 73, 3) := by decide +kernel
theorem dX4_of_148 : decode cX4_of 148 = .ok (.iload_n 1, 1) := by decide +kernel
theorem dX4_of_149 : decode cX4_of 149 = .ok (.iaload, 1) := by decide +kernel
theorem dX4_of_150 : decode cX4_of 150 = .ok (.invokestatic 118, 3) := by decide +kernel
theorem dX4_of_153 : decode cX4_of 153 = .ok (.ireturn, 1) := by decide +kernel
theorem dX4_of_154 : decode cX4_of 154 = .ok (.aload_n 0, 1) := by decide +kernel
theorem dX4_of_155 : decode cX4_of 155 = .ok (.getfield 10, 3) := by decide +kernel
theorem dX4_of_158 : decode cX4_of 158 = .ok (.iload_n 1, 1) := by decide +kernel
theorem dX4_of_159 : decode cX4_of 159 = .ok (.invokevirtual 122, 3) := by decide +kernel
theorem dX4_of_162 : decode cX4_of 162 = .ok (.ireturn, 1) := by decide +kernel
theorem dX4_of_163 : decode cX4_of 163 = .ok (.aload_n 0, 1) := by decide +kernel
theorem dX4_of_164 : decode cX4_of 164 = .ok (.getfield 10, 3) := by decide +kernel
theorem dX4_of_167 : decode cX4_of 167 = .ok (.iload_n 1, 1) := by decide +kernel
theorem dX4_of_168 : decode cX4_of 168 = .ok (.aload_n 0, 1) := by decide +kernel
theorem dX4_of_169 : decode cX4_of 169 = .ok (.getfield 10, 3) := by decide +kernel
theorem dX4_of_172 : decode cX4_of 172 = .ok (.iload_n 1, 1) := by decide +kernel
theorem dX4_of_173 : decode cX4_of 173 = .ok (.invokevirtual 122, 3) := by decide +kernel
theorem dX4_of_176 : decode cX4_of 176 = .ok (.invokevirtual 125, 3) := by decide +kernel
theorem dX4_of_179 : decode cX4_of 179 = .ok (.ifCond .eq 7, 3) := by decide +kernel
theorem dX4_of_182 : decode cX4_of 182 = .ok (.iconst 1, 1) := by decide +kernel
theorem dX4_of_183 : decode cX4_of 183 = .ok (.goto 4, 3) := by decide +kernel
theorem dX4_of_186 : decode cX4_of 186 = .ok (.iconst 0, 1) := by decide +kernel
theorem dX4_of_187 : decode cX4_of 187 = .ok (.ireturn, 1) := by decide +kernel
theorem dX4_of_188 : decode cX4_of 188 = .ok (.aload_n 0, 1) := by decide +kernel
theorem dX4_of_189 : decode cX4_of 189 = .ok (.getfield 10, 3) := by decide +kernel
theorem dX4_of_192 : decode cX4_of 192 = .ok (.iload_n 1, 1) := by decide +kernel
theorem dX4_of_193 : decode cX4_of 193 = .ok (.invokevirtual 129, 3) := by decide +kernel
theorem dX4_of_196 : decode cX4_of 196 = .ok (.ireturn, 1) := by decide +kernel
theorem dX4_of_197 : decode cX4_of 197 = .ok (.aload_n 0, 1) := by decide +kernel
theorem dX4_of_198 : decode cX4_of 198 = .ok (.ldc 48, 2) := by decide +kernel
theorem dX4_of_200 : decode cX4_of 200 = .ok (.invokevirtual 49, 3) := by decide +kernel
theorem dX4_of_203 : decode cX4_of 203 = .ok (.ireturn, 1) := by decide +kernel
theorem dX4_set_0 : decode cX4_set 0 = .ok (.aload_n 0, 1) := by decide +kernel
theorem dX4_set_1 : decode cX4_set 1 = .ok (.getfield 10, 3) := by decide +kernel
theorem dX4_set_4 : decode cX4_set 4 = .ok (.iload_n 1, 1) := by decide +kernel
theorem dX4_set_5 : decode cX4_set 5 = .ok (.invokevirtual 103, 3) := by decide +kernel
theorem dX4_set_8 : decode cX4_set 8 = .ok (.ifCond .eq 11, 3) := by decide +kernel
theorem dX4_set_11 : decode cX4_set 11 = .ok (.iload_n 2, 1) := by decide +kernel
theorem dX4_set_12 : decode cX4_set 12 = .ok (.iload_n 3, 1) := by decide +kernel
theorem dX4_set_13 : decode cX4_set 13 = .ok (.invokestatic 132, 3) := by decide +kernel
theorem dX4_set_16 : decode cX4_set 16 = .ok (.ifCond .ne 10, 3) := by decide +kernel
theorem dX4_set_19 : decode cX4_set 19 = .ok (.aload_n 0, 1) := by decide +kernel
theorem dX4_set_20 : decode cX4_set 20 = .ok (.ldc 48, 2) := by decide +kernel
theorem dX4_set_22 : decode cX4_set 22 = .ok (.invokevirtual 49, 3) := by decide +kernel
theorem dX4_set_25 : decode cX4_set 25 = .ok (.ireturn, 1) := by decide +kernel
theorem dX4_set_26 : decode cX4_set 26 = .ok (.aload_n 0, 1) := by decide +kernel
theorem dX4_set_27 : decode cX4_set 27 = .ok (.iload_n 2, 1) := by decide +kernel
theorem dX4_set_28 : decode cX4_set 28 = .ok (.invokevirtual 135, 3) := by decide +kernel
theorem dX4_set_31 : decode cX4_set 31 = .ok (.astore 4, 2) := by decide +kernel
theorem dX4_set_33 : decode cX4_set 33 = .ok (.aload 4, 2) := by decide +kernel
theorem dX4_set_35 : decode cX4_set 35 = .ok (.iload_n 1, 1) := by decide +kernel
theorem dX4_set_36 : decode cX4_set 36 = .ok (.iaload, 1) := by decide +kernel
theorem dX4_set_37 : decode cX4_set 37 = .ok (.istore 5, 2) := by decide +kernel
theorem dX4_set_39 : decode cX4_set 39 = .ok (.aload 4, 2) := by decide +kernel
theorem dX4_set_41 : decode cX4_set 41 = .ok (.iload_n 1, 1) := by decide +kernel
theorem dX4_set_42 : decode cX4_set 42 = .ok (.iload_n 3, 1) := by decide +kernel
theorem dX4_set_43 : decode cX4_set 43 = .ok (.iastore, 1) := by decide +kernel
theorem dX4_set_44 : decode cX4_set 44 = .ok (.iload 5, 2) := by decide +kernel
theorem dX4_set_46 : decode cX4_set 46 = .ok (.ireturn, 1) := by decide +kernel
theorem dX4_maySet_0 : decode cX4_maySet 0 = .ok (.iload_n 0, 1) := by decide +kernel
theorem dX4_maySet_1 : decode cX4_maySet 1 = .ok (.tableswitch 64 2 5 #[31, 39, 47, 56], 31) := by decide +kernel
theorem dX4_maySet_32 : decode cX4_maySet 32 = .ok (.iload_n 1, 1) := by decide +kernel
theorem dX4_maySet_33 : decode cX4_maySet 33 = .ok (.iconst 0, 1) := by decide +kernel
theorem dX4_maySet_34 : decode cX4_maySet 34 = .ok (.bipush 9, 2) := by decide +kernel
theorem dX4_maySet_36 : decode cX4_maySet 36 = .ok (.invokestatic 44, 3) := by decide +kernel
theorem dX4_maySet_39 : decode cX4_maySet 39 = .ok (.ireturn, 1) := by decide +kernel
theorem dX4_maySet_40 : decode cX4_maySet 40 = .ok (.iload_n 1, 1) := by decide +kernel
theorem dX4_maySet_41 : decode cX4_maySet 41 = .ok (.iconst 1, 1) := by decide +kernel
theorem dX4_maySet_42 : decode cX4_maySet 42 = .ok (.bipush 9, 2) := by decide +kernel
theorem dX4_maySet_44 : decode cX4_maySet 44 = .ok (.invokestatic 44, 3) := by decide +kernel
theorem dX4_maySet_47 : decode cX4_maySet 47 = .ok (.ireturn, 1) := by decide +kernel
theorem dX4_maySet_48 : decode cX4_maySet 48 = .ok (.iload_n 1, 1) := by decide +kernel
theorem dX4_maySet_49 : decode cX4_maySet 49 = .ok (.iconst 0, 1) := by decide +kernel
theorem dX4_maySet_50 : decode cX4_maySet 50 = .ok (.sipush 1023, 3) := by decide +kernel
theorem dX4_maySet_53 : decode cX4_maySet 53 = .ok (.invokestatic 44, 3) := by decide +kernel
theorem dX4_maySet_56 : decode cX4_maySet 56 = .ok (.ireturn, 1) := by decide +kernel
theorem dX4_maySet_57 : decode cX4_maySet 57 = .ok (.iload_n 1, 1) := by decide +kernel
theorem dX4_maySet_58 : decode cX4_maySet 58 = .ok (.iconst 0, 1) := by decide +kernel
theorem dX4_maySet_59 : decode cX4_maySet 59 = .ok (.bipush 99, 2) := by decide +kernel
theorem dX4_maySet_61 : decode cX4_maySet 61 = .ok (.invokestatic 44, 3) := by decide +kernel
theorem dX4_maySet_64 : decode cX4_maySet 64 = .ok (.ireturn, 1) := by decide +kernel
theorem dX4_maySet_65 : decode cX4_maySet 65 = .ok (.iconst 0, 1) := by decide +kernel
theorem dX4_maySet_66 : decode cX4_maySet 66 = .ok (.ireturn, 1) := by decide +kernel
theorem dX4_rowOf_0 : decode cX4_rowOf 0 = .ok (.iload_n 1, 1) := by decide +kernel
theorem dX4_rowOf_1 : decode cX4_rowOf 1 = .ok (.tableswitch 51 2 4 #[27, 35, 43], 27) := by decide +kernel
theorem dX4_rowOf_28 : decode cX4_rowOf 28 = .ok (.aload_n 0, 1) := by decide +kernel
theorem dX4_rowOf_29 : decode cX4_rowOf 29 = .ok (.getfield 10, 3) := by decide +kernel
theorem dX4_rowOf_32 : decode cX4_rowOf 32 = .ok (.getfield 84, 3) := by decide +kernel
theorem dX4_rowOf_35 : decode cX4_rowOf 35 = .ok (.areturn, 1) := by decide +kernel
theorem dX4_rowOf_36 : decode cX4_rowOf 36 = .ok (.aload_n 0, 1) := by decide +kernel
theorem dX4_rowOf_37 : decode cX4_rowOf 37 = .ok (.getfield 10, 3) := by decide +kernel
theorem dX4_rowOf_40 : decode cX4_rowOf 40 = .ok (.getfield 112, 3) := by decide +kernel
theorem dX4_rowOf_43 : decode cX4_rowOf 43 = .ok (.areturn, 1) := by decide +kernel
theorem dX4_rowOf_44 : decode cX4_rowOf 44 = .ok (.aload_n 0, 1) := by decide +kernel
theorem dX4_rowOf_45 : decode cX4_rowOf 45 = .ok (.getfield 10, 3) := by decide +kernel
theorem dX4_rowOf_48 : decode cX4_rowOf 48 = .ok (.getfield 115, 3) := by decide +kernel
theorem dX4_rowOf_51 : decode cX4_rowOf 51 = .ok (.areturn, 1) := by decide +kernel
theorem dX4_rowOf_52 : decode cX4_rowOf 52 = .ok (.aload_n 0, 1) := by decide +kernel
theorem dX4_rowOf_53 : decode cX4_rowOf 53 = .ok (.getfield 10, 3) := by decide +kernel
theorem dX4_rowOf_56 : decode cX4_rowOf 56 = .ok (.getfield 73, 3) := by decide +kernel
theorem dX4_rowOf_59 : decode cX4_rowOf 59 = .ok (.areturn, 1) := by decide +kernel
theorem dX4_move_0 : decode cX4_move 0 = .ok (.aload_n 0, 1) := by decide +kernel
theorem dX4_move_1 : decode cX4_move 1 = .ok (.getfield 10, 3) := by decide +kernel
theorem dX4_move_4 : decode cX4_move 4 = .ok (.iload_n 1, 1) := by decide +kernel
theorem dX4_move_5 : decode cX4_move 5 = .ok (.invokevirtual 103, 3) := by decide +kernel
theorem dX4_move_8 : decode cX4_move 8 = .ok (.ifCond .eq 13, 3) := by decide +kernel
theorem dX4_move_11 : decode cX4_move 11 = .ok (.iload_n 2, 1) := by decide +kernel
theorem dX4_move_12 : decode cX4_move 12 = .ok (.iconst 0, 1) := by decide +kernel
theorem dX4_move_13 : decode cX4_move 13 = .ok (.bipush 11, 2) := by decide +kernel
theorem dX4_move_15 : decode cX4_move 15 = .ok (.invokestatic 44, 3) := by decide +kernel
theorem dX4_move_18 : decode cX4_move 18 = .ok (.ifCond .ne 10, 3) := by decide +kernel
theorem dX4_move_21 : decode cX4_move 21 = .ok (.aload_n 0, 1) := by decide +kernel
theorem dX4_move_22 : decode cX4_move 22 = .ok (.ldc 48, 2) := by decide +kernel
theorem dX4_move_24 : decode cX4_move 24 = .ok (.invokevirtual 49, 3) := by decide +kernel
theorem dX4_move_27 : decode cX4_move 27 = .ok (.ireturn, 1) := by decide +kernel
theorem dX4_move_28 : decode cX4_move 28 = .ok (.aload_n 0, 1) := by decide +kernel
theorem dX4_move_29 : decode cX4_move 29 = .ok (.getfield 10, 3) := by decide +kernel
theorem dX4_move_32 : decode cX4_move 32 = .ok (.iload_n 1, 1) := by decide +kernel
theorem dX4_move_33 : decode cX4_move 33 = .ok (.iload_n 2, 1) := by decide +kernel
theorem dX4_move_34 : decode cX4_move 34 = .ok (.invokevirtual 139, 3) := by decide +kernel
theorem dX4_move_37 : decode cX4_move 37 = .ok (.ifCond .ne 10, 3) := by decide +kernel
theorem dX4_move_40 : decode cX4_move 40 = .ok (.aload_n 0, 1) := by decide +kernel
theorem dX4_move_41 : decode cX4_move 41 = .ok (.ldc 98, 2) := by decide +kernel
theorem dX4_move_43 : decode cX4_move 43 = .ok (.invokevirtual 49, 3) := by decide +kernel
theorem dX4_move_46 : decode cX4_move 46 = .ok (.ireturn, 1) := by decide +kernel
theorem dX4_move_47 : decode cX4_move 47 = .ok (.aload_n 0, 1) := by decide +kernel
theorem dX4_move_48 : decode cX4_move 48 = .ok (.getfield 10, 3) := by decide +kernel
theorem dX4_move_51 : decode cX4_move 51 = .ok (.getfield 109, 3) := by decide +kernel
theorem dX4_move_54 : decode cX4_move 54 = .ok (.iload_n 1, 1) := by decide +kernel
theorem dX4_move_55 : decode cX4_move 55 = .ok (.iaload, 1) := by decide +kernel
theorem dX4_move_56 : decode cX4_move 56 = .ok (.istore_n 3, 1) := by decide +kernel
theorem dX4_move_57 : decode cX4_move 57 = .ok (.aload_n 0, 1) := by decide +kernel
theorem dX4_move_58 : decode cX4_move 58 = .ok (.getfield 10, 3) := by decide +kernel
theorem dX4_move_61 : decode cX4_move 61 = .ok (.iload_n 1, 1) := by decide +kernel
theorem dX4_move_62 : decode cX4_move 62 = .ok (.iload_n 2, 1) := by decide +kernel
theorem dX4_move_63 : decode cX4_move 63 = .ok (.invokevirtual 142, 3) := by decide +kernel
theorem dX4_move_66 : decode cX4_move 66 = .ok (.iload_n 3, 1) := by decide +kernel
theorem dX4_move_67 : decode cX4_move 67 = .ok (.ireturn, 1) := by decide +kernel
theorem dX4_turn_0 : decode cX4_turn 0 = .ok (.aload_n 0, 1) := by decide +kernel
theorem dX4_turn_1 : decode cX4_turn 1 = .ok (.getfield 10, 3) := by decide +kernel
theorem dX4_turn_4 : decode cX4_turn 4 = .ok (.iload_n 1, 1) := by decide +kernel
theorem dX4_turn_5 : decode cX4_turn 5 = .ok (.invokevirtual 103, 3) := by decide +kernel
theorem dX4_turn_8 : decode cX4_turn 8 = .ok (.ifCond .eq 10, 3) := by decide +kernel
theorem dX4_turn_11 : decode cX4_turn 11 = .ok (.iload_n 2, 1) := by decide +kernel
theorem dX4_turn_12 : decode cX4_turn 12 = .ok (.invokestatic 87, 3) := by decide +kernel
theorem dX4_turn_15 : decode cX4_turn 15 = .ok (.ifCond .ne 10, 3) := by decide +kernel
theorem dX4_turn_18 : decode cX4_turn 18 = .ok (.aload_n 0, 1) := by decide +kernel
theorem dX4_turn_19 : decode cX4_turn 19 = .ok (.ldc 48, 2) := by decide +kernel
theorem dX4_turn_21 : decode cX4_turn 21 = .ok (.invokevirtual 49, 3) := by decide +kernel
theorem dX4_turn_24 : decode cX4_turn 24 = .ok (.ireturn, 1) := by decide +kernel
theorem dX4_turn_25 : decode cX4_turn 25 = .ok (.aload_n 0, 1) := by decide +kernel
theorem dX4_turn_26 : decode cX4_turn 26 = .ok (.getfield 10, 3) := by decide +kernel
theorem dX4_turn_29 : decode cX4_turn 29 = .ok (.getfield 106, 3) := by decide +kernel
theorem dX4_turn_32 : decode cX4_turn 32 = .ok (.iload_n 1, 1) := by decide +kernel
theorem dX4_turn_33 : decode cX4_turn 33 = .ok (.iaload, 1) := by decide +kernel
theorem dX4_turn_34 : decode cX4_turn 34 = .ok (.istore_n 3, 1) := by decide +kernel
theorem dX4_turn_35 : decode cX4_turn 35 = .ok (.aload_n 0, 1) := by decide +kernel
theorem dX4_turn_36 : decode cX4_turn 36 = .ok (.getfield 10, 3) := by decide +kernel
theorem dX4_turn_39 : decode cX4_turn 39 = .ok (.getfield 106, 3) := by decide +kernel
theorem dX4_turn_42 : decode cX4_turn 42 = .ok (.iload_n 1, 1) := by decide +kernel
theorem dX4_turn_43 : decode cX4_turn 43 = .ok (.iload_n 2, 1) := by decide +kernel
theorem dX4_turn_44 : decode cX4_turn 44 = .ok (.iastore, 1) := by decide +kernel
theorem dX4_turn_45 : decode cX4_turn 45 = .ok (.iload_n 3, 1) := by decide +kernel
theorem dX4_turn_46 : decode cX4_turn 46 = .ok (.ireturn, 1) := by decide +kernel
theorem dX4_as_0 : decode cX4_as 0 = .ok (.aload_n 0, 1) := by decide +kernel
theorem dX4_as_1 : decode cX4_as 1 = .ok (.getfield 10, 3) := by decide +kernel
theorem dX4_as_4 : decode cX4_as 4 = .ok (.iload_n 1, 1) := by decide +kernel
theorem dX4_as_5 : decode cX4_as 5 = .ok (.invokevirtual 103, 3) := by decide +kernel
theorem dX4_as_8 : decode cX4_as 8 = .ok (.ifCond .eq 10, 3) := by decide +kernel
theorem dX4_as_11 : decode cX4_as 11 = .ok (.iload_n 2, 1) := by decide +kernel
theorem dX4_as_12 : decode cX4_as 12 = .ok (.invokestatic 87, 3) := by decide +kernel
theorem dX4_as_15 : decode cX4_as 15 = .ok (.ifCond .ne 10, 3) := by decide +kernel
theorem dX4_as_18 : decode cX4_as 18 = .ok (.aload_n 0, 1) := by decide +kernel
theorem dX4_as_19 : decode cX4_as 19 = .ok (.ldc 48, 2) := by decide +kernel
theorem dX4_as_21 : decode cX4_as 21 = .ok (.invokevirtual 49, 3) := by decide +kernel
theorem dX4_as_24 : decode cX4_as 24 = .ok (.ireturn, 1) := by decide +kernel
theorem dX4_as_25 : decode cX4_as 25 = .ok (.aload_n 0, 1) := by decide +kernel
theorem dX4_as_26 : decode cX4_as 26 = .ok (.getfield 10, 3) := by decide +kernel
theorem dX4_as_29 : decode cX4_as 29 = .ok (.getfield 106, 3) := by decide +kernel
theorem dX4_as_32 : decode cX4_as 32 = .ok (.iload_n 1, 1) := by decide +kernel
theorem dX4_as_33 : decode cX4_as 33 = .ok (.iaload, 1) := by decide +kernel
theorem dX4_as_34 : decode cX4_as 34 = .ok (.iload_n 2, 1) := by decide +kernel
theorem dX4_as_35 : decode cX4_as 35 = .ok (.invokestatic 146, 3) := by decide +kernel
theorem dX4_as_38 : decode cX4_as 38 = .ok (.ifCond .ne 10, 3) := by decide +kernel
theorem dX4_as_41 : decode cX4_as 41 = .ok (.aload_n 0, 1) := by decide +kernel
theorem dX4_as_42 : decode cX4_as 42 = .ok (.ldc 149, 2) := by decide +kernel
theorem dX4_as_44 : decode cX4_as 44 = .ok (.invokevirtual 49, 3) := by decide +kernel
theorem dX4_as_47 : decode cX4_as 47 = .ok (.ireturn, 1) := by decide +kernel
theorem dX4_as_48 : decode cX4_as 48 = .ok (.aload_n 0, 1) := by decide +kernel
theorem dX4_as_49 : decode cX4_as 49 = .ok (.getfield 10, 3) := by decide +kernel
theorem dX4_as_52 : decode cX4_as 52 = .ok (.getfield 115, 3) := by decide +kernel
theorem dX4_as_55 : decode cX4_as 55 = .ok (.iload_n 1, 1) := by decide +kernel
theorem dX4_as_56 : decode cX4_as 56 = .ok (.iaload, 1) := by decide +kernel
theorem dX4_as_57 : decode cX4_as 57 = .ok (.ireturn, 1) := by decide +kernel
theorem dX4_nights_0 : decode cX4_nights 0 = .ok (.iload_n 1, 1) := by decide +kernel
theorem dX4_nights_1 : decode cX4_nights 1 = .ok (.iconst 1, 1) := by decide +kernel
theorem dX4_nights_2 : decode cX4_nights 2 = .ok (.bipush 60, 2) := by decide +kernel
theorem dX4_nights_4 : decode cX4_nights 4 = .ok (.invokestatic 44, 3) := by decide +kernel
theorem dX4_nights_7 : decode cX4_nights 7 = .ok (.ifCond .ne 10, 3) := by decide +kernel
theorem dX4_nights_10 : decode cX4_nights 10 = .ok (.aload_n 0, 1) := by decide +kernel
theorem dX4_nights_11 : decode cX4_nights 11 = .ok (.ldc 48, 2) := by decide +kernel
theorem dX4_nights_13 : decode cX4_nights 13 = .ok (.invokevirtual 49, 3) := by decide +kernel
theorem dX4_nights_16 : decode cX4_nights 16 = .ok (.ireturn, 1) := by decide +kernel
theorem dX4_nights_17 : decode cX4_nights 17 = .ok (.aload_n 0, 1) := by decide +kernel
theorem dX4_nights_18 : decode cX4_nights 18 = .ok (.getfield 10, 3) := by decide +kernel
theorem dX4_nights_21 : decode cX4_nights 21 = .ok (.getfield 56, 3) := by decide +kernel
theorem dX4_nights_24 : decode cX4_nights 24 = .ok (.ldc 150, 2) := by decide +kernel
theorem dX4_nights_26 : decode cX4_nights 26 = .ok (.iload_n 1, 1) := by decide +kernel
theorem dX4_nights_27 : decode cX4_nights 27 = .ok (.isub, 1) := by decide +kernel
theorem dX4_nights_28 : decode cX4_nights 28 = .ok (.if_icmp .le 10, 3) := by decide +kernel
theorem dX4_nights_31 : decode cX4_nights 31 = .ok (.aload_n 0, 1) := by decide +kernel
theorem dX4_nights_32 : decode cX4_nights 32 = .ok (.ldc 98, 2) := by decide +kernel
theorem dX4_nights_34 : decode cX4_nights 34 = .ok (.invokevirtual 49, 3) := by decide +kernel
theorem dX4_nights_37 : decode cX4_nights 37 = .ok (.ireturn, 1) := by decide +kernel
theorem dX4_nights_38 : decode cX4_nights 38 = .ok (.aload_n 0, 1) := by decide +kernel
theorem dX4_nights_39 : decode cX4_nights 39 = .ok (.getfield 10, 3) := by decide +kernel
theorem dX4_nights_42 : decode cX4_nights 42 = .ok (.iload_n 1, 1) := by decide +kernel
theorem dX4_nights_43 : decode cX4_nights 43 = .ok (.invokevirtual 151, 3) := by decide +kernel
theorem dX4_nights_46 : decode cX4_nights 46 = .ok (.aload_n 0, 1) := by decide +kernel
theorem dX4_nights_47 : decode cX4_nights 47 = .ok (.getfield 10, 3) := by decide +kernel
theorem dX4_nights_50 : decode cX4_nights 50 = .ok (.invokevirtual 67, 3) := by decide +kernel
theorem dX4_nights_53 : decode cX4_nights 53 = .ok (.ireturn, 1) := by decide +kernel
theorem dX4_on_0 : decode cX4_on 0 = .ok (.aload_n 0, 1) := by decide +kernel
theorem dX4_on_1 : decode cX4_on 1 = .ok (.getfield 10, 3) := by decide +kernel
theorem dX4_on_4 : decode cX4_on 4 = .ok (.iload_n 1, 1) := by decide +kernel
theorem dX4_on_5 : decode cX4_on 5 = .ok (.invokevirtual 103, 3) := by decide +kernel
theorem dX4_on_8 : decode cX4_on 8 = .ok (.ifCond .eq 22, 3) := by decide +kernel
theorem dX4_on_11 : decode cX4_on 11 = .ok (.iload_n 2, 1) := by decide +kernel
theorem dX4_on_12 : decode cX4_on 12 = .ok (.iconst 0, 1) := by decide +kernel
theorem dX4_on_13 : decode cX4_on 13 = .ok (.bipush 100, 2) := by decide +kernel
theorem dX4_on_15 : decode cX4_on 15 = .ok (.invokestatic 44, 3) := by decide +kernel
theorem dX4_on_18 : decode cX4_on 18 = .ok (.ifCond .eq 12, 3) := by decide +kernel
theorem dX4_on_21 : decode cX4_on 21 = .ok (.iload_n 3, 1) := by decide +kernel
theorem dX4_on_22 : decode cX4_on 22 = .ok (.iconst 0, 1) := by decide +kernel
theorem dX4_on_23 : decode cX4_on 23 = .ok (.iconst 1, 1) := by decide +kernel
theorem dX4_on_24 : decode cX4_on 24 = .ok (.invokestatic 44, 3) := by decide +kernel
theorem dX4_on_27 : decode cX4_on 27 = .ok (.ifCond .ne 10, 3) := by decide +kernel
theorem dX4_on_30 : decode cX4_on 30 = .ok (.aload_n 0, 1) := by decide +kernel
theorem dX4_on_31 : decode cX4_on 31 = .ok (.ldc 48, 2) := by decide +kernel
theorem dX4_on_33 : decode cX4_on 33 = .ok (.invokevirtual 49, 3) := by decide +kernel
theorem dX4_on_36 : decode cX4_on 36 = .ok (.ireturn, 1) := by decide +kernel
theorem dX4_on_37 : decode cX4_on 37 = .ok (.aload_n 0, 1) := by decide +kernel
theorem dX4_on_38 : decode cX4_on 38 = .ok (.getfield 16, 3) := by decide +kernel
theorem dX4_on_41 : decode cX4_on 41 = .ok (.aload_n 0, 1) := by decide +kernel
theorem dX4_on_42 : decode cX4_on 42 = .ok (.getfield 10, 3) := by decide +kernel
theorem dX4_on_45 : decode cX4_on 45 = .ok (.invokevirtual 155, 3) := by decide +kernel
theorem dX4_on_48 : decode cX4_on 48 = .ok (.aload_n 0, 1) := by decide +kernel
theorem dX4_on_49 : decode cX4_on 49 = .ok (.getfield 16, 3) := by decide +kernel
theorem dX4_on_52 : decode cX4_on 52 = .ok (.iload_n 2, 1) := by decide +kernel
theorem dX4_on_53 : decode cX4_on 53 = .ok (.invokevirtual 151, 3) := by decide +kernel
theorem dX4_on_56 : decode cX4_on 56 = .ok (.iload_n 3, 1) := by decide +kernel
theorem dX4_on_57 : decode cX4_on 57 = .ok (.ifCond .ne 15, 3) := by decide +kernel
theorem dX4_on_60 : decode cX4_on 60 = .ok (.aload_n 0, 1) := by decide +kernel
theorem dX4_on_61 : decode cX4_on 61 = .ok (.getfield 16, 3) := by decide +kernel
theorem dX4_on_64 : decode cX4_on 64 = .ok (.getfield 115, 3) := by decide +kernel
theorem dX4_on_67 : decode cX4_on 67 = .ok (.iload_n 1, 1) := by decide +kernel
theorem dX4_on_68 : decode cX4_on 68 = .ok (.iaload, 1) := by decide +kernel
theorem dX4_on_69 : decode cX4_on 69 = .ok (.goto 12, 3) := by decide +kernel
theorem dX4_on_72 : decode cX4_on 72 = .ok (.aload_n 0, 1) := by decide +kernel
theorem dX4_on_73 : decode cX4_on 73 = .ok (.getfield 16, 3) := by decide +kernel
theorem dX4_on_76 : decode cX4_on 76 = .ok (.getfield 73, 3) := by decide +kernel
theorem dX4_on_79 : decode cX4_on 79 = .ok (.iload_n 1, 1) := by decide +kernel
theorem dX4_on_80 : decode cX4_on 80 = .ok (.iaload, 1) := by decide +kernel
theorem dX4_on_81 : decode cX4_on 81 = .ok (.ireturn, 1) := by decide +kernel
theorem dX4_learns_0 : decode cX4_learns 0 = .ok (.aload_n 0, 1) := by decide +kernel
theorem dX4_learns_1 : decode cX4_learns 1 = .ok (.getfield 10, 3) := by decide +kernel
theorem dX4_learns_4 : decode cX4_learns 4 = .ok (.iload_n 1, 1) := by decide +kernel
theorem dX4_learns_5 : decode cX4_learns 5 = .ok (.invokevirtual 103, 3) := by decide +kernel
theorem dX4_learns_8 : decode cX4_learns 8 = .ok (.ifCond .eq 13, 3) := by decide +kernel
theorem dX4_learns_11 : decode cX4_learns 11 = .ok (.iload_n 2, 1) := by decide +kernel
theorem dX4_learns_12 : decode cX4_learns 12 = .ok (.iconst 0, 1) := by decide +kernel
theorem dX4_learns_13 : decode cX4_learns 13 = .ok (.bipush 9, 2) := by decide +kernel
theorem dX4_learns_15 : decode cX4_learns 15 = .ok (.invokestatic 44, 3) := by decide +kernel
theorem dX4_learns_18 : decode cX4_learns 18 = .ok (.ifCond .ne 10, 3) := by decide +kernel
theorem dX4_learns_21 : decode cX4_learns 21 = .ok (.aload_n 0, 1) := by decide +kernel
theorem dX4_learns_22 : decode cX4_learns 22 = .ok (.ldc 48, 2) := by decide +kernel
theorem dX4_learns_24 : decode cX4_learns 24 = .ok (.invokevirtual 49, 3) := by decide +kernel
theorem dX4_learns_27 : decode cX4_learns 27 = .ok (.ireturn, 1) := by decide +kernel
theorem dX4_learns_28 : decode cX4_learns 28 = .ok (.aload_n 0, 1) := by decide +kernel
theorem dX4_learns_29 : decode cX4_learns 29 = .ok (.getfield 16, 3) := by decide +kernel
theorem dX4_learns_32 : decode cX4_learns 32 = .ok (.aload_n 0, 1) := by decide +kernel
theorem dX4_learns_33 : decode cX4_learns 33 = .ok (.getfield 10, 3) := by decide +kernel
theorem dX4_learns_36 : decode cX4_learns 36 = .ok (.invokevirtual 155, 3) := by decide +kernel
theorem dX4_learns_39 : decode cX4_learns 39 = .ok (.iconst 0, 1) := by decide +kernel
theorem dX4_learns_40 : decode cX4_learns 40 = .ok (.istore_n 3, 1) := by decide +kernel
theorem dX4_learns_41 : decode cX4_learns 41 = .ok (.iload_n 3, 1) := by decide +kernel
theorem dX4_learns_42 : decode cX4_learns 42 = .ok (.bipush 100, 2) := by decide +kernel
theorem dX4_learns_44 : decode cX4_learns 44 = .ok (.if_icmp .gt 30, 3) := by decide +kernel
theorem dX4_learns_47 : decode cX4_learns 47 = .ok (.aload_n 0, 1) := by decide +kernel
theorem dX4_learns_48 : decode cX4_learns 48 = .ok (.getfield 16, 3) := by decide +kernel
theorem dX4_learns_51 : decode cX4_learns 51 = .ok (.iload_n 1, 1) := by decide +kernel
theorem dX4_learns_52 : decode cX4_learns 52 = .ok (.iload_n 2, 1) := by decide +kernel
theorem dX4_learns_53 : decode cX4_learns 53 = .ok (.invokevirtual 159, 3) := by decide +kernel
theorem dX4_learns_56 : decode cX4_learns 56 = .ok (.ifCond .eq 5, 3) := by decide +kernel
theorem dX4_learns_59 : decode cX4_learns 59 = .ok (.iload_n 3, 1) := by decide +kernel
theorem dX4_learns_60 : decode cX4_learns 60 = .ok (.ireturn, 1) := by decide +kernel
theorem dX4_learns_61 : decode cX4_learns 61 = .ok (.aload_n 0, 1) := by decide +kernel
theorem dX4_learns_62 : decode cX4_learns 62 = .ok (.getfield 16, 3) := by decide +kernel
theorem dX4_learns_65 : decode cX4_learns 65 = .ok (.invokevirtual 162, 3) := by decide +kernel
theorem dX4_learns_68 : decode cX4_learns 68 = .ok (.iinc 3 1, 3) := by decide +kernel
theorem dX4_learns_71 : decode cX4_learns 71 = .ok (.goto (-30), 3) := by decide +kernel
theorem dX4_learns_74 : decode cX4_learns 74 = .ok (.aload_n 0, 1) := by decide +kernel
theorem dX4_learns_75 : decode cX4_learns 75 = .ok (.ldc 83, 2) := by decide +kernel
theorem dX4_learns_77 : decode cX4_learns 77 = .ok (.invokevirtual 49, 3) := by decide +kernel
theorem dX4_learns_80 : decode cX4_learns 80 = .ok (.ireturn, 1) := by decide +kernel
theorem dX4_spreads_0 : decode cX4_spreads 0 = .ok (.iload_n 1, 1) := by decide +kernel
theorem dX4_spreads_1 : decode cX4_spreads 1 = .ok (.iconst 0, 1) := by decide +kernel
theorem dX4_spreads_2 : decode cX4_spreads 2 = .ok (.bipush 9, 2) := by decide +kernel
theorem dX4_spreads_4 : decode cX4_spreads 4 = .ok (.invokestatic 44, 3) := by decide +kernel
theorem dX4_spreads_7 : decode cX4_spreads 7 = .ok (.ifCond .ne 10, 3) := by decide +kernel
theorem dX4_spreads_10 : decode cX4_spreads 10 = .ok (.aload_n 0, 1) := by decide +kernel
theorem dX4_spreads_11 : decode cX4_spreads 11 = .ok (.ldc 48, 2) := by decide +kernel
theorem dX4_spreads_13 : decode cX4_spreads 13 = .ok (.invokevirtual 49, 3) := by decide +kernel
theorem dX4_spreads_16 : decode cX4_spreads 16 = .ok (.ireturn, 1) := by decide +kernel
theorem dX4_spreads_17 : decode cX4_spreads 17 = .ok (.aload_n 0, 1) := by decide +kernel
theorem dX4_spreads_18 : decode cX4_spreads 18 = .ok (.getfield 16, 3) := by decide +kernel
theorem dX4_spreads_21 : decode cX4_spreads 21 = .ok (.aload_n 0, 1) := by decide +kernel
theorem dX4_spreads_22 : decode cX4_spreads 22 = .ok (.getfield 10, 3) := by decide +kernel
theorem dX4_spreads_25 : decode cX4_spreads 25 = .ok (.invokevirtual 155, 3) := by decide +kernel
theorem dX4_spreads_28 : decode cX4_spreads 28 = .ok (.iconst 0, 1) := by decide +kernel
theorem dX4_spreads_29 : decode cX4_spreads 29 = .ok (.istore_n 2, 1) := by decide +kernel
theorem dX4_spreads_30 : decode cX4_spreads 30 = .ok (.iload_n 2, 1) := by decide +kernel
theorem dX4_spreads_31 : decode cX4_spreads 31 = .ok (.bipush 100, 2) := by decide +kernel
theorem dX4_spreads_33 : decode cX4_spreads 33 = .ok (.if_icmp .gt 29, 3) := by decide +kernel
theorem dX4_spreads_36 : decode cX4_spreads 36 = .ok (.aload_n 0, 1) := by decide +kernel
theorem dX4_spreads_37 : decode cX4_spreads 37 = .ok (.getfield 16, 3) := by decide +kernel
theorem dX4_spreads_40 : decode cX4_spreads 40 = .ok (.iload_n 1, 1) := by decide +kernel
theorem dX4_spreads_41 : decode cX4_spreads 41 = .ok (.invokevirtual 165, 3) := by decide +kernel
theorem dX4_spreads_44 : decode cX4_spreads 44 = .ok (.ifCond .eq 5, 3) := by decide +kernel
theorem dX4_spreads_47 : decode cX4_spreads 47 = .ok (.iload_n 2, 1) := by decide +kernel
theorem dX4_spreads_48 : decode cX4_spreads 48 = .ok (.ireturn, 1) := by decide +kernel
theorem dX4_spreads_49 : decode cX4_spreads 49 = .ok (.aload_n 0, 1) := by decide +kernel
theorem dX4_spreads_50 : decode cX4_spreads 50 = .ok (.getfield 16, 3) := by decide +kernel
theorem dX4_spreads_53 : decode cX4_spreads 53 = .ok (.invokevirtual 162, 3) := by decide +kernel
theorem dX4_spreads_56 : decode cX4_spreads 56 = .ok (.iinc 2 1, 3) := by decide +kernel
theorem dX4_spreads_59 : decode cX4_spreads 59 = .ok (.goto (-29), 3) := by decide +kernel
theorem dX4_spreads_62 : decode cX4_spreads 62 = .ok (.aload_n 0, 1) := by decide +kernel
theorem dX4_spreads_63 : decode cX4_spreads 63 = .ok (.ldc 83, 2) := by decide +kernel
theorem dX4_spreads_65 : decode cX4_spreads 65 = .ok (.invokevirtual 49, 3) := by decide +kernel
theorem dX4_spreads_68 : decode cX4_spreads 68 = .ok (.ireturn, 1) := by decide +kernel
theorem dX4_heresy_0 : decode cX4_heresy 0 = .ok (.aload_n 0, 1) := by decide +kernel
theorem dX4_heresy_1 : decode cX4_heresy 1 = .ok (.getfield 16, 3) := by decide +kernel
theorem dX4_heresy_4 : decode cX4_heresy 4 = .ok (.aload_n 0, 1) := by decide +kernel
theorem dX4_heresy_5 : decode cX4_heresy 5 = .ok (.getfield 10, 3) := by decide +kernel
theorem dX4_heresy_8 : decode cX4_heresy 8 = .ok (.invokevirtual 155, 3) := by decide +kernel
theorem dX4_heresy_11 : decode cX4_heresy 11 = .ok (.iconst 0, 1) := by decide +kernel
theorem dX4_heresy_12 : decode cX4_heresy 12 = .ok (.istore_n 1, 1) := by decide +kernel
theorem dX4_heresy_13 : decode cX4_heresy 13 = .ok (.iload_n 1, 1) := by decide +kernel
theorem dX4_heresy_14 : decode cX4_heresy 14 = .ok (.bipush 100, 2) := by decide +kernel
theorem dX4_heresy_16 : decode cX4_heresy 16 = .ok (.if_icmp .gt 28, 3) := by decide +kernel
theorem dX4_heresy_19 : decode cX4_heresy 19 = .ok (.aload_n 0, 1) := by decide +kernel
theorem dX4_heresy_20 : decode cX4_heresy 20 = .ok (.getfield 16, 3) := by decide +kernel
theorem dX4_heresy_23 : decode cX4_heresy 23 = .ok (.invokevirtual 168, 3) := by decide +kernel
theorem dX4_heresy_26 : decode cX4_heresy 26 = .ok (.ifCond .eq 5, 3) := by decide +kernel
theorem dX4_heresy_29 : decode cX4_heresy 29 = .ok (.iload_n 1, 1) := by decide +kernel
theorem dX4_heresy_30 : decode cX4_heresy 30 = .ok (.ireturn, 1) := by decide +kernel
theorem dX4_heresy_31 : decode cX4_heresy 31 = .ok (.aload_n 0, 1) := by decide +kernel
theorem dX4_heresy_32 : decode cX4_heresy 32 = .ok (.getfield 16, 3) := by decide +kernel
theorem dX4_heresy_35 : decode cX4_heresy 35 = .ok (.invokevirtual 162, 3) := by decide +kernel
theorem dX4_heresy_38 : decode cX4_heresy 38 = .ok (.iinc 1 1, 3) := by decide +kernel
theorem dX4_heresy_41 : decode cX4_heresy 41 = .ok (.goto (-28), 3) := by decide +kernel
theorem dX4_heresy_44 : decode cX4_heresy 44 = .ok (.aload_n 0, 1) := by decide +kernel
theorem dX4_heresy_45 : decode cX4_heresy 45 = .ok (.ldc 83, 2) := by decide +kernel
theorem dX4_heresy_47 : decode cX4_heresy 47 = .ok (.invokevirtual 49, 3) := by decide +kernel
theorem dX4_heresy_50 : decode cX4_heresy 50 = .ok (.ireturn, 1) := by decide +kernel
theorem dX4_best_0 : decode cX4_best 0 = .ok (.aload_n 0, 1) := by decide +kernel
theorem dX4_best_1 : decode cX4_best 1 = .ok (.getfield 10, 3) := by decide +kernel
theorem dX4_best_4 : decode cX4_best 4 = .ok (.iload_n 1, 1) := by decide +kernel
theorem dX4_best_5 : decode cX4_best 5 = .ok (.invokevirtual 103, 3) := by decide +kernel
theorem dX4_best_8 : decode cX4_best 8 = .ok (.ifCond .eq 13, 3) := by decide +kernel
theorem dX4_best_11 : decode cX4_best 11 = .ok (.iload_n 2, 1) := by decide +kernel
theorem dX4_best_12 : decode cX4_best 12 = .ok (.iconst 1, 1) := by decide +kernel
theorem dX4_best_13 : decode cX4_best 13 = .ok (.bipush 40, 2) := by decide +kernel
theorem dX4_best_15 : decode cX4_best 15 = .ok (.invokestatic 44, 3) := by decide +kernel
theorem dX4_best_18 : decode cX4_best 18 = .ok (.ifCond .ne 10, 3) := by decide +kernel
end
section
theorem dX4_best_21 : decode cX4_best 21 = .ok (.aload_n 0, 1) := by decide +kernel
theorem dX4_best_22 : decode cX4_best 22 = .ok (.ldc 48, 2) := by decide +kernel
theorem dX4_best_24 : decode cX4_best 24 = .ok (.invokevirtual 49, 3) := by decide +kernel
theorem dX4_best_27 : decode cX4_best 27 = .ok (.ireturn, 1) := by decide +kernel
theorem dX4_best_28 : decode cX4_best 28 = .ok (.aload_n 0, 1) := by decide +kernel
theorem dX4_best_29 : decode cX4_best 29 = .ok (.getfield 10, 3) := by decide +kernel
theorem dX4_best_32 : decode cX4_best 32 = .ok (.getfield 109, 3) := by decide +kernel
theorem dX4_best_35 : decode cX4_best 35 = .ok (.iload_n 1, 1) := by decide +kernel
theorem dX4_best_36 : decode cX4_best 36 = .ok (.iaload, 1) := by decide +kernel
theorem dX4_best_37 : decode cX4_best 37 = .ok (.istore_n 3, 1) := by decide +kernel
theorem dX4_best_38 : decode cX4_best 38 = .ok (.iconst (-1), 1) := by decide +kernel
theorem dX4_best_39 : decode cX4_best 39 = .ok (.istore 4, 2) := by decide +kernel
theorem dX4_best_41 : decode cX4_best 41 = .ok (.iconst 0, 1) := by decide +kernel
theorem dX4_best_42 : decode cX4_best 42 = .ok (.istore 5, 2) := by decide +kernel
theorem dX4_best_44 : decode cX4_best 44 = .ok (.iload 5, 2) := by decide +kernel
theorem dX4_best_46 : decode cX4_best 46 = .ok (.bipush 12, 2) := by decide +kernel
theorem dX4_best_48 : decode cX4_best 48 = .ok (.if_icmp .ge 75, 3) := by decide +kernel
theorem dX4_best_51 : decode cX4_best 51 = .ok (.aload_n 0, 1) := by decide +kernel
theorem dX4_best_52 : decode cX4_best 52 = .ok (.getfield 10, 3) := by decide +kernel
theorem dX4_best_55 : decode cX4_best 55 = .ok (.iload_n 1, 1) := by decide +kernel
theorem dX4_best_56 : decode cX4_best 56 = .ok (.iload 5, 2) := by decide +kernel
theorem dX4_best_58 : decode cX4_best 58 = .ok (.invokevirtual 139, 3) := by decide +kernel
theorem dX4_best_61 : decode cX4_best 61 = .ok (.ifCond .eq 56, 3) := by decide +kernel
theorem dX4_best_64 : decode cX4_best 64 = .ok (.aload_n 0, 1) := by decide +kernel
theorem dX4_best_65 : decode cX4_best 65 = .ok (.getfield 16, 3) := by decide +kernel
theorem dX4_best_68 : decode cX4_best 68 = .ok (.aload_n 0, 1) := by decide +kernel
theorem dX4_best_69 : decode cX4_best 69 = .ok (.getfield 10, 3) := by decide +kernel
theorem dX4_best_72 : decode cX4_best 72 = .ok (.invokevirtual 155, 3) := by decide +kernel
theorem dX4_best_75 : decode cX4_best 75 = .ok (.aload_n 0, 1) := by decide +kernel
theorem dX4_best_76 : decode cX4_best 76 = .ok (.getfield 16, 3) := by decide +kernel
theorem dX4_best_79 : decode cX4_best 79 = .ok (.iload_n 1, 1) := by decide +kernel
theorem dX4_best_80 : decode cX4_best 80 = .ok (.iload 5, 2) := by decide +kernel
theorem dX4_best_82 : decode cX4_best 82 = .ok (.invokevirtual 142, 3) := by decide +kernel
theorem dX4_best_85 : decode cX4_best 85 = .ok (.aload_n 0, 1) := by decide +kernel
theorem dX4_best_86 : decode cX4_best 86 = .ok (.getfield 16, 3) := by decide +kernel
theorem dX4_best_89 : decode cX4_best 89 = .ok (.iload_n 2, 1) := by decide +kernel
theorem dX4_best_90 : decode cX4_best 90 = .ok (.invokevirtual 151, 3) := by decide +kernel
theorem dX4_best_93 : decode cX4_best 93 = .ok (.aload_n 0, 1) := by decide +kernel
theorem dX4_best_94 : decode cX4_best 94 = .ok (.getfield 16, 3) := by decide +kernel
theorem dX4_best_97 : decode cX4_best 97 = .ok (.iload_n 1, 1) := by decide +kernel
theorem dX4_best_98 : decode cX4_best 98 = .ok (.invokevirtual 171, 3) := by decide +kernel
theorem dX4_best_101 : decode cX4_best 101 = .ok (.istore 6, 2) := by decide +kernel
theorem dX4_best_103 : decode cX4_best 103 = .ok (.iload 6, 2) := by decide +kernel
theorem dX4_best_105 : decode cX4_best 105 = .ok (.iload 4, 2) := by decide +kernel
theorem dX4_best_107 : decode cX4_best 107 = .ok (.if_icmp .le 10, 3) := by decide +kernel
theorem dX4_best_110 : decode cX4_best 110 = .ok (.iload 6, 2) := by decide +kernel
theorem dX4_best_112 : decode cX4_best 112 = .ok (.istore 4, 2) := by decide +kernel
theorem dX4_best_114 : decode cX4_best 114 = .ok (.iload 5, 2) := by decide +kernel
theorem dX4_best_116 : decode cX4_best 116 = .ok (.istore_n 3, 1) := by decide +kernel
theorem dX4_best_117 : decode cX4_best 117 = .ok (.iinc 5 1, 3) := by decide +kernel
theorem dX4_best_120 : decode cX4_best 120 = .ok (.goto (-76), 3) := by decide +kernel
theorem dX4_best_123 : decode cX4_best 123 = .ok (.iload_n 3, 1) := by decide +kernel
theorem dX4_best_124 : decode cX4_best 124 = .ok (.ireturn, 1) := by decide +kernel
theorem dX4_kind_0 : decode cX4_kind 0 = .ok (.aload_n 0, 1) := by decide +kernel
theorem dX4_kind_1 : decode cX4_kind 1 = .ok (.getfield 10, 3) := by decide +kernel
theorem dX4_kind_4 : decode cX4_kind 4 = .ok (.iload_n 1, 1) := by decide +kernel
theorem dX4_kind_5 : decode cX4_kind 5 = .ok (.invokevirtual 103, 3) := by decide +kernel
theorem dX4_kind_8 : decode cX4_kind 8 = .ok (.ifCond .eq 13, 3) := by decide +kernel
theorem dX4_kind_11 : decode cX4_kind 11 = .ok (.iload_n 2, 1) := by decide +kernel
theorem dX4_kind_12 : decode cX4_kind 12 = .ok (.iconst 1, 1) := by decide +kernel
theorem dX4_kind_13 : decode cX4_kind 13 = .ok (.bipush 40, 2) := by decide +kernel
theorem dX4_kind_15 : decode cX4_kind 15 = .ok (.invokestatic 44, 3) := by decide +kernel
theorem dX4_kind_18 : decode cX4_kind 18 = .ok (.ifCond .ne 10, 3) := by decide +kernel
theorem dX4_kind_21 : decode cX4_kind 21 = .ok (.aload_n 0, 1) := by decide +kernel
theorem dX4_kind_22 : decode cX4_kind 22 = .ok (.ldc 48, 2) := by decide +kernel
theorem dX4_kind_24 : decode cX4_kind 24 = .ok (.invokevirtual 49, 3) := by decide +kernel
theorem dX4_kind_27 : decode cX4_kind 27 = .ok (.ireturn, 1) := by decide +kernel
theorem dX4_kind_28 : decode cX4_kind 28 = .ok (.iconst 0, 1) := by decide +kernel
theorem dX4_kind_29 : decode cX4_kind 29 = .ok (.istore_n 3, 1) := by decide +kernel
theorem dX4_kind_30 : decode cX4_kind 30 = .ok (.iconst (-1), 1) := by decide +kernel
theorem dX4_kind_31 : decode cX4_kind 31 = .ok (.istore 4, 2) := by decide +kernel
theorem dX4_kind_33 : decode cX4_kind 33 = .ok (.iconst 0, 1) := by decide +kernel
theorem dX4_kind_34 : decode cX4_kind 34 = .ok (.istore 5, 2) := by decide +kernel
theorem dX4_kind_36 : decode cX4_kind 36 = .ok (.iload 5, 2) := by decide +kernel
theorem dX4_kind_38 : decode cX4_kind 38 = .ok (.bipush 6, 2) := by decide +kernel
theorem dX4_kind_40 : decode cX4_kind 40 = .ok (.if_icmp .ge 63, 3) := by decide +kernel
theorem dX4_kind_43 : decode cX4_kind 43 = .ok (.aload_n 0, 1) := by decide +kernel
theorem dX4_kind_44 : decode cX4_kind 44 = .ok (.getfield 16, 3) := by decide +kernel
theorem dX4_kind_47 : decode cX4_kind 47 = .ok (.aload_n 0, 1) := by decide +kernel
theorem dX4_kind_48 : decode cX4_kind 48 = .ok (.getfield 10, 3) := by decide +kernel
theorem dX4_kind_51 : decode cX4_kind 51 = .ok (.invokevirtual 155, 3) := by decide +kernel
theorem dX4_kind_54 : decode cX4_kind 54 = .ok (.aload_n 0, 1) := by decide +kernel
theorem dX4_kind_55 : decode cX4_kind 55 = .ok (.getfield 16, 3) := by decide +kernel
theorem dX4_kind_58 : decode cX4_kind 58 = .ok (.getfield 106, 3) := by decide +kernel
theorem dX4_kind_61 : decode cX4_kind 61 = .ok (.iload_n 1, 1) := by decide +kernel
theorem dX4_kind_62 : decode cX4_kind 62 = .ok (.iload 5, 2) := by decide +kernel
theorem dX4_kind_64 : decode cX4_kind 64 = .ok (.iastore, 1) := by decide +kernel
theorem dX4_kind_65 : decode cX4_kind 65 = .ok (.aload_n 0, 1) := by decide +kernel
theorem dX4_kind_66 : decode cX4_kind 66 = .ok (.getfield 16, 3) := by decide +kernel
theorem dX4_kind_69 : decode cX4_kind 69 = .ok (.iload_n 2, 1) := by decide +kernel
theorem dX4_kind_70 : decode cX4_kind 70 = .ok (.invokevirtual 151, 3) := by decide +kernel
theorem dX4_kind_73 : decode cX4_kind 73 = .ok (.aload_n 0, 1) := by decide +kernel
theorem dX4_kind_74 : decode cX4_kind 74 = .ok (.getfield 16, 3) := by decide +kernel
theorem dX4_kind_77 : decode cX4_kind 77 = .ok (.iload_n 1, 1) := by decide +kernel
theorem dX4_kind_78 : decode cX4_kind 78 = .ok (.invokevirtual 171, 3) := by decide +kernel
theorem dX4_kind_81 : decode cX4_kind 81 = .ok (.istore 6, 2) := by decide +kernel
theorem dX4_kind_83 : decode cX4_kind 83 = .ok (.iload 6, 2) := by decide +kernel
theorem dX4_kind_85 : decode cX4_kind 85 = .ok (.iload 4, 2) := by decide +kernel
theorem dX4_kind_87 : decode cX4_kind 87 = .ok (.if_icmp .le 10, 3) := by decide +kernel
theorem dX4_kind_90 : decode cX4_kind 90 = .ok (.iload 6, 2) := by decide +kernel
theorem dX4_kind_92 : decode cX4_kind 92 = .ok (.istore 4, 2) := by decide +kernel
theorem dX4_kind_94 : decode cX4_kind 94 = .ok (.iload 5, 2) := by decide +kernel
theorem dX4_kind_96 : decode cX4_kind 96 = .ok (.istore_n 3, 1) := by decide +kernel
theorem dX4_kind_97 : decode cX4_kind 97 = .ok (.iinc 5 1, 3) := by decide +kernel
theorem dX4_kind_100 : decode cX4_kind 100 = .ok (.goto (-64), 3) := by decide +kernel
theorem dX4_kind_103 : decode cX4_kind 103 = .ok (.iload_n 3, 1) := by decide +kernel
theorem dX4_kind_104 : decode cX4_kind 104 = .ok (.ireturn, 1) := by decide +kernel
theorem dX4_deep_0 : decode cX4_deep 0 = .ok (.aload_n 0, 1) := by decide +kernel
theorem dX4_deep_1 : decode cX4_deep 1 = .ok (.getfield 10, 3) := by decide +kernel
theorem dX4_deep_4 : decode cX4_deep 4 = .ok (.iload_n 1, 1) := by decide +kernel
theorem dX4_deep_5 : decode cX4_deep 5 = .ok (.invokevirtual 103, 3) := by decide +kernel
theorem dX4_deep_8 : decode cX4_deep 8 = .ok (.ifCond .eq 29, 3) := by decide +kernel
theorem dX4_deep_11 : decode cX4_deep 11 = .ok (.aload_n 0, 1) := by decide +kernel
theorem dX4_deep_12 : decode cX4_deep 12 = .ok (.getfield 10, 3) := by decide +kernel
theorem dX4_deep_15 : decode cX4_deep 15 = .ok (.iload_n 2, 1) := by decide +kernel
theorem dX4_deep_16 : decode cX4_deep 16 = .ok (.invokevirtual 103, 3) := by decide +kernel
theorem dX4_deep_19 : decode cX4_deep 19 = .ok (.ifCond .eq 18, 3) := by decide +kernel
theorem dX4_deep_22 : decode cX4_deep 22 = .ok (.iload_n 1, 1) := by decide +kernel
theorem dX4_deep_23 : decode cX4_deep 23 = .ok (.iload_n 2, 1) := by decide +kernel
theorem dX4_deep_24 : decode cX4_deep 24 = .ok (.if_icmp .eq 13, 3) := by decide +kernel
theorem dX4_deep_27 : decode cX4_deep 27 = .ok (.iload_n 3, 1) := by decide +kernel
theorem dX4_deep_28 : decode cX4_deep 28 = .ok (.iconst 0, 1) := by decide +kernel
theorem dX4_deep_29 : decode cX4_deep 29 = .ok (.bipush 40, 2) := by decide +kernel
theorem dX4_deep_31 : decode cX4_deep 31 = .ok (.invokestatic 44, 3) := by decide +kernel
theorem dX4_deep_34 : decode cX4_deep 34 = .ok (.ifCond .ne 10, 3) := by decide +kernel
theorem dX4_deep_37 : decode cX4_deep 37 = .ok (.aload_n 0, 1) := by decide +kernel
theorem dX4_deep_38 : decode cX4_deep 38 = .ok (.ldc 48, 2) := by decide +kernel
theorem dX4_deep_40 : decode cX4_deep 40 = .ok (.invokevirtual 49, 3) := by decide +kernel
theorem dX4_deep_43 : decode cX4_deep 43 = .ok (.ireturn, 1) := by decide +kernel
theorem dX4_deep_44 : decode cX4_deep 44 = .ok (.iconst 1, 1) := by decide +kernel
theorem dX4_deep_45 : decode cX4_deep 45 = .ok (.istore 4, 2) := by decide +kernel
theorem dX4_deep_47 : decode cX4_deep 47 = .ok (.iload 4, 2) := by decide +kernel
theorem dX4_deep_49 : decode cX4_deep 49 = .ok (.bipush 9, 2) := by decide +kernel
theorem dX4_deep_51 : decode cX4_deep 51 = .ok (.if_icmp .gt 62, 3) := by decide +kernel
theorem dX4_deep_54 : decode cX4_deep 54 = .ok (.aload_n 0, 1) := by decide +kernel
theorem dX4_deep_55 : decode cX4_deep 55 = .ok (.getfield 16, 3) := by decide +kernel
theorem dX4_deep_58 : decode cX4_deep 58 = .ok (.aload_n 0, 1) := by decide +kernel
theorem dX4_deep_59 : decode cX4_deep 59 = .ok (.getfield 10, 3) := by decide +kernel
theorem dX4_deep_62 : decode cX4_deep 62 = .ok (.invokevirtual 155, 3) := by decide +kernel
theorem dX4_deep_65 : decode cX4_deep 65 = .ok (.aload_n 0, 1) := by decide +kernel
theorem dX4_deep_66 : decode cX4_deep 66 = .ok (.getfield 16, 3) := by decide +kernel
theorem dX4_deep_69 : decode cX4_deep 69 = .ok (.getfield 112, 3) := by decide +kernel
theorem dX4_deep_72 : decode cX4_deep 72 = .ok (.iload_n 1, 1) := by decide +kernel
theorem dX4_deep_73 : decode cX4_deep 73 = .ok (.iload 4, 2) := by decide +kernel
theorem dX4_deep_75 : decode cX4_deep 75 = .ok (.iastore, 1) := by decide +kernel
theorem dX4_deep_76 : decode cX4_deep 76 = .ok (.aload_n 0, 1) := by decide +kernel
theorem dX4_deep_77 : decode cX4_deep 77 = .ok (.getfield 16, 3) := by decide +kernel
theorem dX4_deep_80 : decode cX4_deep 80 = .ok (.iload_n 3, 1) := by decide +kernel
theorem dX4_deep_81 : decode cX4_deep 81 = .ok (.invokevirtual 151, 3) := by decide +kernel
theorem dX4_deep_84 : decode cX4_deep 84 = .ok (.aload_n 0, 1) := by decide +kernel
theorem dX4_deep_85 : decode cX4_deep 85 = .ok (.getfield 16, 3) := by decide +kernel
theorem dX4_deep_88 : decode cX4_deep 88 = .ok (.iload_n 2, 1) := by decide +kernel
theorem dX4_deep_89 : decode cX4_deep 89 = .ok (.aload_n 0, 1) := by decide +kernel
theorem dX4_deep_90 : decode cX4_deep 90 = .ok (.getfield 16, 3) := by decide +kernel
theorem dX4_deep_93 : decode cX4_deep 93 = .ok (.getfield 84, 3) := by decide +kernel
theorem dX4_deep_96 : decode cX4_deep 96 = .ok (.iload_n 1, 1) := by decide +kernel
theorem dX4_deep_97 : decode cX4_deep 97 = .ok (.iaload, 1) := by decide +kernel
theorem dX4_deep_98 : decode cX4_deep 98 = .ok (.invokevirtual 159, 3) := by decide +kernel
theorem dX4_deep_101 : decode cX4_deep 101 = .ok (.ifCond .eq 6, 3) := by decide +kernel
theorem dX4_deep_104 : decode cX4_deep 104 = .ok (.iload 4, 2) := by decide +kernel
theorem dX4_deep_106 : decode cX4_deep 106 = .ok (.ireturn, 1) := by decide +kernel
theorem dX4_deep_107 : decode cX4_deep 107 = .ok (.iinc 4 1, 3) := by decide +kernel
theorem dX4_deep_110 : decode cX4_deep 110 = .ok (.goto (-63), 3) := by decide +kernel
theorem dX4_deep_113 : decode cX4_deep 113 = .ok (.aload_n 0, 1) := by decide +kernel
theorem dX4_deep_114 : decode cX4_deep 114 = .ok (.ldc 83, 2) := by decide +kernel
theorem dX4_deep_116 : decode cX4_deep 116 = .ok (.invokevirtual 49, 3) := by decide +kernel
theorem dX4_deep_119 : decode cX4_deep 119 = .ok (.ireturn, 1) := by decide +kernel
theorem dX4_shift_0 : decode cX4_shift 0 = .ok (.iload_n 1, 1) := by decide +kernel
theorem dX4_shift_1 : decode cX4_shift 1 = .ok (.iconst 1, 1) := by decide +kernel
theorem dX4_shift_2 : decode cX4_shift 2 = .ok (.bipush 40, 2) := by decide +kernel
theorem dX4_shift_4 : decode cX4_shift 4 = .ok (.invokestatic 44, 3) := by decide +kernel
theorem dX4_shift_7 : decode cX4_shift 7 = .ok (.ifCond .ne 10, 3) := by decide +kernel
theorem dX4_shift_10 : decode cX4_shift 10 = .ok (.aload_n 0, 1) := by decide +kernel
theorem dX4_shift_11 : decode cX4_shift 11 = .ok (.ldc 48, 2) := by decide +kernel
theorem dX4_shift_13 : decode cX4_shift 13 = .ok (.invokevirtual 49, 3) := by decide +kernel
theorem dX4_shift_16 : decode cX4_shift 16 = .ok (.ireturn, 1) := by decide +kernel
theorem dX4_shift_17 : decode cX4_shift 17 = .ok (.aload_n 0, 1) := by decide +kernel
theorem dX4_shift_18 : decode cX4_shift 18 = .ok (.getfield 10, 3) := by decide +kernel
theorem dX4_shift_21 : decode cX4_shift 21 = .ok (.invokevirtual 174, 3) := by decide +kernel
theorem dX4_shift_24 : decode cX4_shift 24 = .ok (.istore_n 2, 1) := by decide +kernel
theorem dX4_shift_25 : decode cX4_shift 25 = .ok (.aload_n 0, 1) := by decide +kernel
theorem dX4_shift_26 : decode cX4_shift 26 = .ok (.getfield 10, 3) := by decide +kernel
theorem dX4_shift_29 : decode cX4_shift 29 = .ok (.getfield 177, 3) := by decide +kernel
theorem dX4_shift_32 : decode cX4_shift 32 = .ok (.ifCond .eq 9, 3) := by decide +kernel
theorem dX4_shift_35 : decode cX4_shift 35 = .ok (.iload_n 2, 1) := by decide +kernel
theorem dX4_shift_36 : decode cX4_shift 36 = .ok (.bipush 12, 2) := by decide +kernel
theorem dX4_shift_38 : decode cX4_shift 38 = .ok (.if_icmp .ne 10, 3) := by decide +kernel
theorem dX4_shift_41 : decode cX4_shift 41 = .ok (.aload_n 0, 1) := by decide +kernel
theorem dX4_shift_42 : decode cX4_shift 42 = .ok (.ldc 83, 2) := by decide +kernel
theorem dX4_shift_44 : decode cX4_shift 44 = .ok (.invokevirtual 49, 3) := by decide +kernel
theorem dX4_shift_47 : decode cX4_shift 47 = .ok (.ireturn, 1) := by decide +kernel
theorem dX4_shift_48 : decode cX4_shift 48 = .ok (.iconst 0, 1) := by decide +kernel
theorem dX4_shift_49 : decode cX4_shift 49 = .ok (.istore_n 3, 1) := by decide +kernel
theorem dX4_shift_50 : decode cX4_shift 50 = .ok (.iconst (-1), 1) := by decide +kernel
theorem dX4_shift_51 : decode cX4_shift 51 = .ok (.istore 4, 2) := by decide +kernel
theorem dX4_shift_53 : decode cX4_shift 53 = .ok (.iconst 0, 1) := by decide +kernel
theorem dX4_shift_54 : decode cX4_shift 54 = .ok (.istore 5, 2) := by decide +kernel
theorem dX4_shift_56 : decode cX4_shift 56 = .ok (.iload 5, 2) := by decide +kernel
theorem dX4_shift_58 : decode cX4_shift 58 = .ok (.aload_n 0, 1) := by decide +kernel
theorem dX4_shift_59 : decode cX4_shift 59 = .ok (.getfield 10, 3) := by decide +kernel
theorem dX4_shift_62 : decode cX4_shift 62 = .ok (.getfield 177, 3) := by decide +kernel
theorem dX4_shift_65 : decode cX4_shift 65 = .ok (.if_icmp .ge 61, 3) := by decide +kernel
theorem dX4_shift_68 : decode cX4_shift 68 = .ok (.aload_n 0, 1) := by decide +kernel
theorem dX4_shift_69 : decode cX4_shift 69 = .ok (.getfield 16, 3) := by decide +kernel
theorem dX4_shift_72 : decode cX4_shift 72 = .ok (.aload_n 0, 1) := by decide +kernel
theorem dX4_shift_73 : decode cX4_shift 73 = .ok (.getfield 10, 3) := by decide +kernel
theorem dX4_shift_76 : decode cX4_shift 76 = .ok (.invokevirtual 155, 3) := by decide +kernel
theorem dX4_shift_79 : decode cX4_shift 79 = .ok (.aload_n 0, 1) := by decide +kernel
theorem dX4_shift_80 : decode cX4_shift 80 = .ok (.getfield 16, 3) := by decide +kernel
theorem dX4_shift_83 : decode cX4_shift 83 = .ok (.iload 5, 2) := by decide +kernel
theorem dX4_shift_85 : decode cX4_shift 85 = .ok (.iload_n 2, 1) := by decide +kernel
theorem dX4_shift_86 : decode cX4_shift 86 = .ok (.invokevirtual 142, 3) := by decide +kernel
theorem dX4_shift_89 : decode cX4_shift 89 = .ok (.aload_n 0, 1) := by decide +kernel
theorem dX4_shift_90 : decode cX4_shift 90 = .ok (.getfield 16, 3) := by decide +kernel
theorem dX4_shift_93 : decode cX4_shift 93 = .ok (.iload_n 1, 1) := by decide +kernel
theorem dX4_shift_94 : decode cX4_shift 94 = .ok (.invokevirtual 151, 3) := by decide +kernel
theorem dX4_shift_97 : decode cX4_shift 97 = .ok (.aload_n 0, 1) := by decide +kernel
theorem dX4_shift_98 : decode cX4_shift 98 = .ok (.getfield 16, 3) := by decide +kernel
theorem dX4_shift_101 : decode cX4_shift 101 = .ok (.invokevirtual 70, 3) := by decide +kernel
theorem dX4_shift_104 : decode cX4_shift 104 = .ok (.istore 6, 2) := by decide +kernel
theorem dX4_shift_106 : decode cX4_shift 106 = .ok (.iload 6, 2) := by decide +kernel
theorem dX4_shift_108 : decode cX4_shift 108 = .ok (.iload 4, 2) := by decide +kernel
theorem dX4_shift_110 : decode cX4_shift 110 = .ok (.if_icmp .le 10, 3) := by decide +kernel
theorem dX4_shift_113 : decode cX4_shift 113 = .ok (.iload 6, 2) := by decide +kernel
theorem dX4_shift_115 : decode cX4_shift 115 = .ok (.istore 4, 2) := by decide +kernel
theorem dX4_shift_117 : decode cX4_shift 117 = .ok (.iload 5, 2) := by decide +kernel
theorem dX4_shift_119 : decode cX4_shift 119 = .ok (.istore_n 3, 1) := by decide +kernel
theorem dX4_shift_120 : decode cX4_shift 120 = .ok (.iinc 5 1, 3) := by decide +kernel
theorem dX4_shift_123 : decode cX4_shift 123 = .ok (.goto (-67), 3) := by decide +kernel
theorem dX4_shift_126 : decode cX4_shift 126 = .ok (.iload_n 3, 1) := by decide +kernel
theorem dX4_shift_127 : decode cX4_shift 127 = .ok (.ireturn, 1) := by decide +kernel
theorem dX4_bears_0 : decode cX4_bears 0 = .ok (.aload_n 0, 1) := by decide +kernel
theorem dX4_bears_1 : decode cX4_bears 1 = .ok (.getfield 10, 3) := by decide +kernel
theorem dX4_bears_4 : decode cX4_bears 4 = .ok (.iload_n 1, 1) := by decide +kernel
theorem dX4_bears_5 : decode cX4_bears 5 = .ok (.invokevirtual 103, 3) := by decide +kernel
theorem dX4_bears_8 : decode cX4_bears 8 = .ok (.ifCond .eq 23, 3) := by decide +kernel
theorem dX4_bears_11 : decode cX4_bears 11 = .ok (.iload_n 2, 1) := by decide +kernel
theorem dX4_bears_12 : decode cX4_bears 12 = .ok (.iconst 0, 1) := by decide +kernel
theorem dX4_bears_13 : decode cX4_bears 13 = .ok (.bipush 40, 2) := by decide +kernel
theorem dX4_bears_15 : decode cX4_bears 15 = .ok (.invokestatic 44, 3) := by decide +kernel
theorem dX4_bears_18 : decode cX4_bears 18 = .ok (.ifCond .eq 13, 3) := by decide +kernel
theorem dX4_bears_21 : decode cX4_bears 21 = .ok (.iload_n 3, 1) := by decide +kernel
theorem dX4_bears_22 : decode cX4_bears 22 = .ok (.iconst 0, 1) := by decide +kernel
theorem dX4_bears_23 : decode cX4_bears 23 = .ok (.bipush 10, 2) := by decide +kernel
theorem dX4_bears_25 : decode cX4_bears 25 = .ok (.invokestatic 44, 3) := by decide +kernel
theorem dX4_bears_28 : decode cX4_bears 28 = .ok (.ifCond .ne 10, 3) := by decide +kernel
theorem dX4_bears_31 : decode cX4_bears 31 = .ok (.aload_n 0, 1) := by decide +kernel
theorem dX4_bears_32 : decode cX4_bears 32 = .ok (.ldc 48, 2) := by decide +kernel
theorem dX4_bears_34 : decode cX4_bears 34 = .ok (.invokevirtual 49, 3) := by decide +kernel
theorem dX4_bears_37 : decode cX4_bears 37 = .ok (.ireturn, 1) := by decide +kernel
theorem dX4_bears_38 : decode cX4_bears 38 = .ok (.bipush 99, 2) := by decide +kernel
theorem dX4_bears_40 : decode cX4_bears 40 = .ok (.istore 4, 2) := by decide +kernel
theorem dX4_bears_42 : decode cX4_bears 42 = .ok (.iload 4, 2) := by decide +kernel
theorem dX4_bears_44 : decode cX4_bears 44 = .ok (.ifCond .lt 54, 3) := by decide +kernel
theorem dX4_bears_47 : decode cX4_bears 47 = .ok (.aload_n 0, 1) := by decide +kernel
theorem dX4_bears_48 : decode cX4_bears 48 = .ok (.getfield 16, 3) := by decide +kernel
theorem dX4_bears_51 : decode cX4_bears 51 = .ok (.aload_n 0, 1) := by decide +kernel
theorem dX4_bears_52 : decode cX4_bears 52 = .ok (.getfield 10, 3) := by decide +kernel
theorem dX4_bears_55 : decode cX4_bears 55 = .ok (.invokevirtual 155, 3) := by decide +kernel
theorem dX4_bears_58 : decode cX4_bears 58 = .ok (.aload_n 0, 1) := by decide +kernel
theorem dX4_bears_59 : decode cX4_bears 59 = .ok (.getfield 16, 3) := by decide +kernel
theorem dX4_bears_62 : decode cX4_bears 62 = .ok (.getfield 73, 3) := by decide +kernel
theorem dX4_bears_65 : decode cX4_bears 65 = .ok (.iload_n 1, 1) := by decide +kernel
theorem dX4_bears_66 : decode cX4_bears 66 = .ok (.iload 4, 2) := by decide +kernel
theorem dX4_bears_68 : decode cX4_bears 68 = .ok (.iastore, 1) := by decide +kernel
theorem dX4_bears_69 : decode cX4_bears 69 = .ok (.aload_n 0, 1) := by decide +kernel
theorem dX4_bears_70 : decode cX4_bears 70 = .ok (.getfield 16, 3) := by decide +kernel
theorem dX4_bears_73 : decode cX4_bears 73 = .ok (.iload_n 2, 1) := by decide +kernel
theorem dX4_bears_74 : decode cX4_bears 74 = .ok (.invokevirtual 151, 3) := by decide +kernel
theorem dX4_bears_77 : decode cX4_bears 77 = .ok (.aload_n 0, 1) := by decide +kernel
theorem dX4_bears_78 : decode cX4_bears 78 = .ok (.getfield 16, 3) := by decide +kernel
theorem dX4_bears_81 : decode cX4_bears 81 = .ok (.iload_n 1, 1) := by decide +kernel
theorem dX4_bears_82 : decode cX4_bears 82 = .ok (.invokevirtual 171, 3) := by decide +kernel
theorem dX4_bears_85 : decode cX4_bears 85 = .ok (.iload_n 3, 1) := by decide +kernel
theorem dX4_bears_86 : decode cX4_bears 86 = .ok (.if_icmp .lt 6, 3) := by decide +kernel
theorem dX4_bears_89 : decode cX4_bears 89 = .ok (.iload 4, 2) := by decide +kernel
theorem dX4_bears_91 : decode cX4_bears 91 = .ok (.ireturn, 1) := by decide +kernel
theorem dX4_bears_92 : decode cX4_bears 92 = .ok (.iinc 4 (-1), 3) := by decide +kernel
theorem dX4_bears_95 : decode cX4_bears 95 = .ok (.goto (-53), 3) := by decide +kernel
theorem dX4_bears_98 : decode cX4_bears 98 = .ok (.aload_n 0, 1) := by decide +kernel
theorem dX4_bears_99 : decode cX4_bears 99 = .ok (.ldc 83, 2) := by decide +kernel
theorem dX4_bears_101 : decode cX4_bears 101 = .ok (.invokevirtual 49, 3) := by decide +kernel
theorem dX4_bears_104 : decode cX4_bears 104 = .ok (.ireturn, 1) := by decide +kernel
theorem dX4_wisest_0 : decode cX4_wisest 0 = .ok (.iload_n 1, 1) := by decide +kernel
theorem dX4_wisest_1 : decode cX4_wisest 1 = .ok (.iconst 0, 1) := by decide +kernel
theorem dX4_wisest_2 : decode cX4_wisest 2 = .ok (.bipush 100, 2) := by decide +kernel
theorem dX4_wisest_4 : decode cX4_wisest 4 = .ok (.invokestatic 44, 3) := by decide +kernel
theorem dX4_wisest_7 : decode cX4_wisest 7 = .ok (.ifCond .ne 10, 3) := by decide +kernel
theorem dX4_wisest_10 : decode cX4_wisest 10 = .ok (.aload_n 0, 1) := by decide +kernel
theorem dX4_wisest_11 : decode cX4_wisest 11 = .ok (.ldc 48, 2) := by decide +kernel
theorem dX4_wisest_13 : decode cX4_wisest 13 = .ok (.invokevirtual 49, 3) := by decide +kernel
theorem dX4_wisest_16 : decode cX4_wisest 16 = .ok (.ireturn, 1) := by decide +kernel
theorem dX4_wisest_17 : decode cX4_wisest 17 = .ok (.aload_n 0, 1) := by decide +kernel
theorem dX4_wisest_18 : decode cX4_wisest 18 = .ok (.getfield 10, 3) := by decide +kernel
theorem dX4_wisest_21 : decode cX4_wisest 21 = .ok (.getfield 177, 3) := by decide +kernel
theorem dX4_wisest_24 : decode cX4_wisest 24 = .ok (.ifCond .ne 10, 3) := by decide +kernel
theorem dX4_wisest_27 : decode cX4_wisest 27 = .ok (.aload_n 0, 1) := by decide +kernel
theorem dX4_wisest_28 : decode cX4_wisest 28 = .ok (.ldc 83, 2) := by decide +kernel
theorem dX4_wisest_30 : decode cX4_wisest 30 = .ok (.invokevirtual 49, 3) := by decide +kernel
theorem dX4_wisest_33 : decode cX4_wisest 33 = .ok (.ireturn, 1) := by decide +kernel
theorem dX4_wisest_34 : decode cX4_wisest 34 = .ok (.aload_n 0, 1) := by decide +kernel
theorem dX4_wisest_35 : decode cX4_wisest 35 = .ok (.getfield 16, 3) := by decide +kernel
theorem dX4_wisest_38 : decode cX4_wisest 38 = .ok (.aload_n 0, 1) := by decide +kernel
theorem dX4_wisest_39 : decode cX4_wisest 39 = .ok (.getfield 10, 3) := by decide +kernel
theorem dX4_wisest_42 : decode cX4_wisest 42 = .ok (.invokevirtual 155, 3) := by decide +kernel
theorem dX4_wisest_45 : decode cX4_wisest 45 = .ok (.aload_n 0, 1) := by decide +kernel
theorem dX4_wisest_46 : decode cX4_wisest 46 = .ok (.getfield 16, 3) := by decide +kernel
theorem dX4_wisest_49 : decode cX4_wisest 49 = .ok (.iload_n 1, 1) := by decide +kernel
theorem dX4_wisest_50 : decode cX4_wisest 50 = .ok (.invokevirtual 151, 3) := by decide +kernel
theorem dX4_wisest_53 : decode cX4_wisest 53 = .ok (.iconst 0, 1) := by decide +kernel
theorem dX4_wisest_54 : decode cX4_wisest 54 = .ok (.istore_n 2, 1) := by decide +kernel
theorem dX4_wisest_55 : decode cX4_wisest 55 = .ok (.iconst 1, 1) := by decide +kernel
theorem dX4_wisest_56 : decode cX4_wisest 56 = .ok (.istore_n 3, 1) := by decide +kernel
theorem dX4_wisest_57 : decode cX4_wisest 57 = .ok (.iload_n 3, 1) := by decide +kernel
theorem dX4_wisest_58 : decode cX4_wisest 58 = .ok (.aload_n 0, 1) := by decide +kernel
theorem dX4_wisest_59 : decode cX4_wisest 59 = .ok (.getfield 16, 3) := by decide +kernel
theorem dX4_wisest_62 : decode cX4_wisest 62 = .ok (.getfield 177, 3) := by decide +kernel
theorem dX4_wisest_65 : decode cX4_wisest 65 = .ok (.if_icmp .ge 30, 3) := by decide +kernel
theorem dX4_wisest_68 : decode cX4_wisest 68 = .ok (.aload_n 0, 1) := by decide +kernel
theorem dX4_wisest_69 : decode cX4_wisest 69 = .ok (.getfield 16, 3) := by decide +kernel
theorem dX4_wisest_72 : decode cX4_wisest 72 = .ok (.iload_n 3, 1) := by decide +kernel
theorem dX4_wisest_73 : decode cX4_wisest 73 = .ok (.invokevirtual 171, 3) := by decide +kernel
theorem dX4_wisest_76 : decode cX4_wisest 76 = .ok (.aload_n 0, 1) := by decide +kernel
theorem dX4_wisest_77 : decode cX4_wisest 77 = .ok (.getfield 16, 3) := by decide +kernel
theorem dX4_wisest_80 : decode cX4_wisest 80 = .ok (.iload_n 2, 1) := by decide +kernel
theorem dX4_wisest_81 : decode cX4_wisest 81 = .ok (.invokevirtual 171, 3) := by decide +kernel
theorem dX4_wisest_84 : decode cX4_wisest 84 = .ok (.if_icmp .le 5, 3) := by decide +kernel
theorem dX4_wisest_87 : decode cX4_wisest 87 = .ok (.iload_n 3, 1) := by decide +kernel
theorem dX4_wisest_88 : decode cX4_wisest 88 = .ok (.istore_n 2, 1) := by decide +kernel
theorem dX4_wisest_89 : decode cX4_wisest 89 = .ok (.iinc 3 1, 3) := by decide +kernel
theorem dX4_wisest_92 : decode cX4_wisest 92 = .ok (.goto (-35), 3) := by decide +kernel
theorem dX4_wisest_95 : decode cX4_wisest 95 = .ok (.iload_n 2, 1) := by decide +kernel
theorem dX4_wisest_96 : decode cX4_wisest 96 = .ok (.ireturn, 1) := by decide +kernel
theorem dX4_feed_0 : decode cX4_feed 0 = .ok (.iload_n 2, 1) := by decide +kernel
theorem dX4_feed_1 : decode cX4_feed 1 = .ok (.iconst 1, 1) := by decide +kernel
theorem dX4_feed_2 : decode cX4_feed 2 = .ok (.iconst 4, 1) := by decide +kernel
theorem dX4_feed_3 : decode cX4_feed 3 = .ok (.invokestatic 44, 3) := by decide +kernel
theorem dX4_feed_6 : decode cX4_feed 6 = .ok (.ifCond .ne 10, 3) := by decide +kernel
theorem dX4_feed_9 : decode cX4_feed 9 = .ok (.aload_n 0, 1) := by decide +kernel
theorem dX4_feed_10 : decode cX4_feed 10 = .ok (.ldc 48, 2) := by decide +kernel
theorem dX4_feed_12 : decode cX4_feed 12 = .ok (.invokevirtual 49, 3) := by decide +kernel
theorem dX4_feed_15 : decode cX4_feed 15 = .ok (.ireturn, 1) := by decide +kernel
theorem dX4_feed_16 : decode cX4_feed 16 = .ok (.aload_n 0, 1) := by decide +kernel
theorem dX4_feed_17 : decode cX4_feed 17 = .ok (.getfield 29, 3) := by decide +kernel
theorem dX4_feed_20 : decode cX4_feed 20 = .ok (.getfield 180, 3) := by decide +kernel
theorem dX4_feed_23 : decode cX4_feed 23 = .ok (.iload_n 2, 1) := by decide +kernel
theorem dX4_feed_24 : decode cX4_feed 24 = .ok (.iadd, 1) := by decide +kernel
theorem dX4_feed_25 : decode cX4_feed 25 = .ok (.bipush 120, 2) := by decide +kernel
theorem dX4_feed_27 : decode cX4_feed 27 = .ok (.if_icmp .le 10, 3) := by decide +kernel
theorem dX4_feed_30 : decode cX4_feed 30 = .ok (.aload_n 0, 1) := by decide +kernel
theorem dX4_feed_31 : decode cX4_feed 31 = .ok (.ldc 97, 2) := by decide +kernel
theorem dX4_feed_33 : decode cX4_feed 33 = .ok (.invokevirtual 49, 3) := by decide +kernel
theorem dX4_feed_36 : decode cX4_feed 36 = .ok (.ireturn, 1) := by decide +kernel
theorem dX4_feed_37 : decode cX4_feed 37 = .ok (.iload_n 2, 1) := by decide +kernel
theorem dX4_feed_38 : decode cX4_feed 38 = .ok (.iconst 1, 1) := by decide +kernel
theorem dX4_feed_39 : decode cX4_feed 39 = .ok (.isub, 1) := by decide +kernel
theorem dX4_feed_40 : decode cX4_feed 40 = .ok (.istore_n 3, 1) := by decide +kernel
theorem dX4_feed_41 : decode cX4_feed 41 = .ok (.iload_n 3, 1) := by decide +kernel
theorem dX4_feed_42 : decode cX4_feed 42 = .ok (.ifCond .lt 26, 3) := by decide +kernel
theorem dX4_feed_45 : decode cX4_feed 45 = .ok (.aload_n 0, 1) := by decide +kernel
theorem dX4_feed_46 : decode cX4_feed 46 = .ok (.getfield 29, 3) := by decide +kernel
theorem dX4_feed_49 : decode cX4_feed 49 = .ok (.iload_n 1, 1) := by decide +kernel
theorem dX4_feed_50 : decode cX4_feed 50 = .ok (.bipush 8, 2) := by decide +kernel
theorem dX4_feed_52 : decode cX4_feed 52 = .ok (.iload_n 3, 1) := by decide +kernel
theorem dX4_feed_53 : decode cX4_feed 53 = .ok (.imul, 1) := by decide +kernel
theorem dX4_feed_54 : decode cX4_feed 54 = .ok (.iushr, 1) := by decide +kernel
theorem dX4_feed_55 : decode cX4_feed 55 = .ok (.sipush 255, 3) := by decide +kernel
theorem dX4_feed_58 : decode cX4_feed 58 = .ok (.iand, 1) := by decide +kernel
theorem dX4_feed_59 : decode cX4_feed 59 = .ok (.invokevirtual 183, 3) := by decide +kernel
theorem dX4_feed_62 : decode cX4_feed 62 = .ok (.iinc 3 (-1), 3) := by decide +kernel
theorem dX4_feed_65 : decode cX4_feed 65 = .ok (.goto (-24), 3) := by decide +kernel
theorem dX4_feed_68 : decode cX4_feed 68 = .ok (.aload_n 0, 1) := by decide +kernel
theorem dX4_feed_69 : decode cX4_feed 69 = .ok (.getfield 29, 3) := by decide +kernel
theorem dX4_feed_72 : decode cX4_feed 72 = .ok (.getfield 180, 3) := by decide +kernel
theorem dX4_feed_75 : decode cX4_feed 75 = .ok (.ireturn, 1) := by decide +kernel
theorem dX4_wipe_0 : decode cX4_wipe 0 = .ok (.aload_n 0, 1) := by decide +kernel
theorem dX4_wipe_1 : decode cX4_wipe 1 = .ok (.getfield 29, 3) := by decide +kernel
theorem dX4_wipe_4 : decode cX4_wipe 4 = .ok (.getfield 180, 3) := by decide +kernel
theorem dX4_wipe_7 : decode cX4_wipe 7 = .ok (.istore_n 1, 1) := by decide +kernel
theorem dX4_wipe_8 : decode cX4_wipe 8 = .ok (.aload_n 0, 1) := by decide +kernel
theorem dX4_wipe_9 : decode cX4_wipe 9 = .ok (.getfield 29, 3) := by decide +kernel
theorem dX4_wipe_12 : decode cX4_wipe 12 = .ok (.iconst 0, 1) := by decide +kernel
theorem dX4_wipe_13 : decode cX4_wipe 13 = .ok (.putfield 180, 3) := by decide +kernel
theorem dX4_wipe_16 : decode cX4_wipe 16 = .ok (.iload_n 1, 1) := by decide +kernel
theorem dX4_wipe_17 : decode cX4_wipe 17 = .ok (.ireturn, 1) := by decide +kernel
theorem dX4_chapel_0 : decode cX4_chapel 0 = .ok (.aload_n 0, 1) := by decide +kernel
theorem dX4_chapel_1 : decode cX4_chapel 1 = .ok (.getfield 16, 3) := by decide +kernel
theorem dX4_chapel_4 : decode cX4_chapel 4 = .ok (.aload_n 0, 1) := by decide +kernel
theorem dX4_chapel_5 : decode cX4_chapel 5 = .ok (.getfield 10, 3) := by decide +kernel
theorem dX4_chapel_8 : decode cX4_chapel 8 = .ok (.invokevirtual 155, 3) := by decide +kernel
theorem dX4_chapel_11 : decode cX4_chapel 11 = .ok (.aload_n 0, 1) := by decide +kernel
theorem dX4_chapel_12 : decode cX4_chapel 12 = .ok (.getfield 29, 3) := by decide +kernel
theorem dX4_chapel_15 : decode cX4_chapel 15 = .ok (.aload_n 0, 1) := by decide +kernel
theorem dX4_chapel_16 : decode cX4_chapel 16 = .ok (.getfield 16, 3) := by decide +kernel
theorem dX4_chapel_19 : decode cX4_chapel 19 = .ok (.invokevirtual 186, 3) := by decide +kernel
theorem dX4_chapel_22 : decode cX4_chapel 22 = .ok (.istore_n 1, 1) := by decide +kernel
theorem dX4_chapel_23 : decode cX4_chapel 23 = .ok (.aload_n 0, 1) := by decide +kernel
theorem dX4_chapel_24 : decode cX4_chapel 24 = .ok (.getfield 29, 3) := by decide +kernel
theorem dX4_chapel_27 : decode cX4_chapel 27 = .ok (.iconst 0, 1) := by decide +kernel
theorem dX4_chapel_28 : decode cX4_chapel 28 = .ok (.putfield 180, 3) := by decide +kernel
theorem dX4_chapel_31 : decode cX4_chapel 31 = .ok (.iload_n 1, 1) := by decide +kernel
theorem dX4_chapel_32 : decode cX4_chapel 32 = .ok (.ifCond .lt 14, 3) := by decide +kernel
theorem dX4_chapel_35 : decode cX4_chapel 35 = .ok (.aload_n 0, 1) := by decide +kernel
theorem dX4_chapel_36 : decode cX4_chapel 36 = .ok (.getfield 10, 3) := by decide +kernel
theorem dX4_chapel_39 : decode cX4_chapel 39 = .ok (.aload_n 0, 1) := by decide +kernel
theorem dX4_chapel_40 : decode cX4_chapel 40 = .ok (.getfield 16, 3) := by decide +kernel
theorem dX4_chapel_43 : decode cX4_chapel 43 = .ok (.invokevirtual 155, 3) := by decide +kernel
theorem dX4_chapel_46 : decode cX4_chapel 46 = .ok (.iload_n 1, 1) := by decide +kernel
theorem dX4_chapel_47 : decode cX4_chapel 47 = .ok (.ireturn, 1) := by decide +kernel
theorem dX4_sheet_0 : decode cX4_sheet 0 = .ok (.iload_n 1, 1) := by decide +kernel
theorem dX4_sheet_1 : decode cX4_sheet 1 = .ok (.invokestatic 190, 3) := by decide +kernel
theorem dX4_sheet_4 : decode cX4_sheet 4 = .ok (.ifCond .eq 25, 3) := by decide +kernel
theorem dX4_sheet_7 : decode cX4_sheet 7 = .ok (.iload_n 2, 1) := by decide +kernel
theorem dX4_sheet_8 : decode cX4_sheet 8 = .ok (.ifCond .eq 28, 3) := by decide +kernel
theorem dX4_sheet_11 : decode cX4_sheet 11 = .ok (.iload_n 2, 1) := by decide +kernel
theorem dX4_sheet_12 : decode cX4_sheet 12 = .ok (.bipush 8, 2) := by decide +kernel
theorem dX4_sheet_14 : decode cX4_sheet 14 = .ok (.if_icmp .eq 22, 3) := by decide +kernel
theorem dX4_sheet_17 : decode cX4_sheet 17 = .ok (.iload_n 2, 1) := by decide +kernel
theorem dX4_sheet_18 : decode cX4_sheet 18 = .ok (.bipush 16, 2) := by decide +kernel
theorem dX4_sheet_20 : decode cX4_sheet 20 = .ok (.if_icmp .eq 16, 3) := by decide +kernel
theorem dX4_sheet_23 : decode cX4_sheet 23 = .ok (.iload_n 2, 1) := by decide +kernel
theorem dX4_sheet_24 : decode cX4_sheet 24 = .ok (.bipush 64, 2) := by decide +kernel
theorem dX4_sheet_26 : decode cX4_sheet 26 = .ok (.if_icmp .eq 10, 3) := by decide +kernel
theorem dX4_sheet_29 : decode cX4_sheet 29 = .ok (.aload_n 0, 1) := by decide +kernel
theorem dX4_sheet_30 : decode cX4_sheet 30 = .ok (.ldc 48, 2) := by decide +kernel
theorem dX4_sheet_32 : decode cX4_sheet 32 = .ok (.invokevirtual 49, 3) := by decide +kernel
theorem dX4_sheet_35 : decode cX4_sheet 35 = .ok (.ireturn, 1) := by decide +kernel
theorem dX4_sheet_36 : decode cX4_sheet 36 = .ok (.iload_n 3, 1) := by decide +kernel
theorem dX4_sheet_37 : decode cX4_sheet 37 = .ok (.ifCond .ge 10, 3) := by decide +kernel
theorem dX4_sheet_40 : decode cX4_sheet 40 = .ok (.aload_n 0, 1) := by decide +kernel
theorem dX4_sheet_41 : decode cX4_sheet 41 = .ok (.ldc 193, 2) := by decide +kernel
theorem dX4_sheet_43 : decode cX4_sheet 43 = .ok (.invokevirtual 49, 3) := by decide +kernel
theorem dX4_sheet_46 : decode cX4_sheet 46 = .ok (.ireturn, 1) := by decide +kernel
theorem dX4_sheet_47 : decode cX4_sheet 47 = .ok (.iload_n 3, 1) := by decide +kernel
theorem dX4_sheet_48 : decode cX4_sheet 48 = .ok (.bipush 40, 2) := by decide +kernel
theorem dX4_sheet_50 : decode cX4_sheet 50 = .ok (.if_icmp .le 10, 3) := by decide +kernel
theorem dX4_sheet_53 : decode cX4_sheet 53 = .ok (.aload_n 0, 1) := by decide +kernel
theorem dX4_sheet_54 : decode cX4_sheet 54 = .ok (.ldc 48, 2) := by decide +kernel
theorem dX4_sheet_56 : decode cX4_sheet 56 = .ok (.invokevirtual 49, 3) := by decide +kernel
theorem dX4_sheet_59 : decode cX4_sheet 59 = .ok (.ireturn, 1) := by decide +kernel
theorem dX4_sheet_60 : decode cX4_sheet 60 = .ok (.aload_n 0, 1) := by decide +kernel
theorem dX4_sheet_61 : decode cX4_sheet 61 = .ok (.getfield 35, 3) := by decide +kernel
theorem dX4_sheet_64 : decode cX4_sheet 64 = .ok (.iload_n 1, 1) := by decide +kernel
theorem dX4_sheet_65 : decode cX4_sheet 65 = .ok (.aaload, 1) := by decide +kernel
theorem dX4_sheet_66 : decode cX4_sheet 66 = .ok (.iload_n 2, 1) := by decide +kernel
theorem dX4_sheet_67 : decode cX4_sheet 67 = .ok (.iload_n 3, 1) := by decide +kernel
theorem dX4_sheet_68 : decode cX4_sheet 68 = .ok (.invokevirtual 194, 3) := by decide +kernel
theorem dX4_sheet_71 : decode cX4_sheet 71 = .ok (.aload_n 0, 1) := by decide +kernel
theorem dX4_sheet_72 : decode cX4_sheet 72 = .ok (.getfield 35, 3) := by decide +kernel
theorem dX4_sheet_75 : decode cX4_sheet 75 = .ok (.iload_n 1, 1) := by decide +kernel
theorem dX4_sheet_76 : decode cX4_sheet 76 = .ok (.aaload, 1) := by decide +kernel
theorem dX4_sheet_77 : decode cX4_sheet 77 = .ok (.getfield 197, 3) := by decide +kernel
theorem dX4_sheet_80 : decode cX4_sheet 80 = .ok (.ireturn, 1) := by decide +kernel
theorem dX4_write_0 : decode cX4_write 0 = .ok (.iload_n 1, 1) := by decide +kernel
theorem dX4_write_1 : decode cX4_write 1 = .ok (.invokestatic 190, 3) := by decide +kernel
theorem dX4_write_4 : decode cX4_write 4 = .ok (.ifCond .ne 11, 3) := by decide +kernel
theorem dX4_write_7 : decode cX4_write 7 = .ok (.aload_n 0, 1) := by decide +kernel
theorem dX4_write_8 : decode cX4_write 8 = .ok (.ldc 48, 2) := by decide +kernel
theorem dX4_write_10 : decode cX4_write 10 = .ok (.invokevirtual 49, 3) := by decide +kernel
theorem dX4_write_13 : decode cX4_write 13 = .ok (.i2l, 1) := by decide +kernel
theorem dX4_write_14 : decode cX4_write 14 = .ok (.lreturn, 1) := by decide +kernel
theorem dX4_write_15 : decode cX4_write 15 = .ok (.aload_n 0, 1) := by decide +kernel
theorem dX4_write_16 : decode cX4_write 16 = .ok (.getfield 35, 3) := by decide +kernel
theorem dX4_write_19 : decode cX4_write 19 = .ok (.iload_n 1, 1) := by decide +kernel
theorem dX4_write_20 : decode cX4_write 20 = .ok (.aaload, 1) := by decide +kernel
theorem dX4_write_21 : decode cX4_write 21 = .ok (.astore 5, 2) := by decide +kernel
theorem dX4_write_23 : decode cX4_write 23 = .ok (.aload 5, 2) := by decide +kernel
theorem dX4_write_25 : decode cX4_write 25 = .ok (.invokevirtual 198, 3) := by decide +kernel
theorem dX4_write_28 : decode cX4_write 28 = .ok (.ifCond .eq 11, 3) := by decide +kernel
theorem dX4_write_31 : decode cX4_write 31 = .ok (.aload_n 0, 1) := by decide +kernel
theorem dX4_write_32 : decode cX4_write 32 = .ok (.ldc 201, 2) := by decide +kernel
theorem dX4_write_34 : decode cX4_write 34 = .ok (.invokevirtual 49, 3) := by decide +kernel
theorem dX4_write_37 : decode cX4_write 37 = .ok (.i2l, 1) := by decide +kernel
theorem dX4_write_38 : decode cX4_write 38 = .ok (.lreturn, 1) := by decide +kernel
theorem dX4_write_39 : decode cX4_write 39 = .ok (.iload_n 2, 1) := by decide +kernel
theorem dX4_write_40 : decode cX4_write 40 = .ok (.iconst 0, 1) := by decide +kernel
theorem dX4_write_41 : decode cX4_write 41 = .ok (.aload 5, 2) := by decide +kernel
theorem dX4_write_43 : decode cX4_write 43 = .ok (.getfield 197, 3) := by decide +kernel
theorem dX4_write_46 : decode cX4_write 46 = .ok (.iconst 1, 1) := by decide +kernel
theorem dX4_write_47 : decode cX4_write 47 = .ok (.isub, 1) := by decide +kernel
theorem dX4_write_48 : decode cX4_write 48 = .ok (.invokestatic 44, 3) := by decide +kernel
theorem dX4_write_51 : decode cX4_write 51 = .ok (.ifCond .ne 11, 3) := by decide +kernel
theorem dX4_write_54 : decode cX4_write 54 = .ok (.aload_n 0, 1) := by decide +kernel
theorem dX4_write_55 : decode cX4_write 55 = .ok (.ldc 48, 2) := by decide +kernel
theorem dX4_write_57 : decode cX4_write 57 = .ok (.invokevirtual 49, 3) := by decide +kernel
theorem dX4_write_60 : decode cX4_write 60 = .ok (.i2l, 1) := by decide +kernel
theorem dX4_write_61 : decode cX4_write 61 = .ok (.lreturn, 1) := by decide +kernel
theorem dX4_write_62 : decode cX4_write 62 = .ok (.aload 5, 2) := by decide +kernel
theorem dX4_write_64 : decode cX4_write 64 = .ok (.getfield 202, 3) := by decide +kernel
theorem dX4_write_67 : decode cX4_write 67 = .ok (.iload_n 2, 1) := by decide +kernel
theorem dX4_write_68 : decode cX4_write 68 = .ok (.laload, 1) := by decide +kernel
theorem dX4_write_69 : decode cX4_write 69 = .ok (.lstore 6, 2) := by decide +kernel
theorem dX4_write_71 : decode cX4_write 71 = .ok (.aload 5, 2) := by decide +kernel
theorem dX4_write_73 : decode cX4_write 73 = .ok (.iload_n 2, 1) := by decide +kernel
theorem dX4_write_74 : decode cX4_write 74 = .ok (.lload_n 3, 1) := by decide +kernel
theorem dX4_write_75 : decode cX4_write 75 = .ok (.invokevirtual 206, 3) := by decide +kernel
theorem dX4_write_78 : decode cX4_write 78 = .ok (.lload 6, 2) := by decide +kernel
theorem dX4_write_80 : decode cX4_write 80 = .ok (.lreturn, 1) := by decide +kernel
theorem dX4_copy_0 : decode cX4_copy 0 = .ok (.iload_n 1, 1) := by decide +kernel
theorem dX4_copy_1 : decode cX4_copy 1 = .ok (.invokestatic 190, 3) := by decide +kernel
theorem dX4_copy_4 : decode cX4_copy 4 = .ok (.ifCond .eq 10, 3) := by decide +kernel
theorem dX4_copy_7 : decode cX4_copy 7 = .ok (.iload_n 3, 1) := by decide +kernel
theorem dX4_copy_8 : decode cX4_copy 8 = .ok (.invokestatic 190, 3) := by decide +kernel
theorem dX4_copy_11 : decode cX4_copy 11 = .ok (.ifCond .ne 10, 3) := by decide +kernel
theorem dX4_copy_14 : decode cX4_copy 14 = .ok (.aload_n 0, 1) := by decide +kernel
theorem dX4_copy_15 : decode cX4_copy 15 = .ok (.ldc 48, 2) := by decide +kernel
theorem dX4_copy_17 : decode cX4_copy 17 = .ok (.invokevirtual 49, 3) := by decide +kernel
theorem dX4_copy_20 : decode cX4_copy 20 = .ok (.ireturn, 1) := by decide +kernel
theorem dX4_copy_21 : decode cX4_copy 21 = .ok (.aload_n 0, 1) := by decide +kernel
theorem dX4_copy_22 : decode cX4_copy 22 = .ok (.getfield 35, 3) := by decide +kernel
theorem dX4_copy_25 : decode cX4_copy 25 = .ok (.iload_n 1, 1) := by decide +kernel
theorem dX4_copy_26 : decode cX4_copy 26 = .ok (.aaload, 1) := by decide +kernel
theorem dX4_copy_27 : decode cX4_copy 27 = .ok (.astore 6, 2) := by decide +kernel
theorem dX4_copy_29 : decode cX4_copy 29 = .ok (.aload_n 0, 1) := by decide +kernel
theorem dX4_copy_30 : decode cX4_copy 30 = .ok (.getfield 35, 3) := by decide +kernel
theorem dX4_copy_33 : decode cX4_copy 33 = .ok (.iload_n 3, 1) := by decide +kernel
theorem dX4_copy_34 : decode cX4_copy 34 = .ok (.aaload, 1) := by decide +kernel
theorem dX4_copy_35 : decode cX4_copy 35 = .ok (.astore 7, 2) := by decide +kernel
theorem dX4_copy_37 : decode cX4_copy 37 = .ok (.aload 6, 2) := by decide +kernel
theorem dX4_copy_39 : decode cX4_copy 39 = .ok (.invokevirtual 198, 3) := by decide +kernel
theorem dX4_copy_42 : decode cX4_copy 42 = .ok (.ifCond .ne 11, 3) := by decide +kernel
theorem dX4_copy_45 : decode cX4_copy 45 = .ok (.aload 7, 2) := by decide +kernel
theorem dX4_copy_47 : decode cX4_copy 47 = .ok (.invokevirtual 198, 3) := by decide +kernel
theorem dX4_copy_50 : decode cX4_copy 50 = .ok (.ifCond .eq 10, 3) := by decide +kernel
theorem dX4_copy_53 : decode cX4_copy 53 = .ok (.aload_n 0, 1) := by decide +kernel
theorem dX4_copy_54 : decode cX4_copy 54 = .ok (.ldc 201, 2) := by decide +kernel
theorem dX4_copy_56 : decode cX4_copy 56 = .ok (.invokevirtual 49, 3) := by decide +kernel
theorem dX4_copy_59 : decode cX4_copy 59 = .ok (.ireturn, 1) := by decide +kernel
theorem dX4_copy_60 : decode cX4_copy 60 = .ok (.aload 6, 2) := by decide +kernel
theorem dX4_copy_62 : decode cX4_copy 62 = .ok (.getfield 210, 3) := by decide +kernel
theorem dX4_copy_65 : decode cX4_copy 65 = .ok (.aload 7, 2) := by decide +kernel
theorem dX4_copy_67 : decode cX4_copy 67 = .ok (.getfield 210, 3) := by decide +kernel
theorem dX4_copy_70 : decode cX4_copy 70 = .ok (.if_icmp .eq 10, 3) := by decide +kernel
theorem dX4_copy_73 : decode cX4_copy 73 = .ok (.aload_n 0, 1) := by decide +kernel
theorem dX4_copy_74 : decode cX4_copy 74 = .ok (.ldc 149, 2) := by decide +kernel
theorem dX4_copy_76 : decode cX4_copy 76 = .ok (.invokevirtual 49, 3) := by decide +kernel
theorem dX4_copy_79 : decode cX4_copy 79 = .ok (.ireturn, 1) := by decide +kernel
theorem dX4_copy_80 : decode cX4_copy 80 = .ok (.aload 6, 2) := by decide +kernel
theorem dX4_copy_82 : decode cX4_copy 82 = .ok (.iload_n 2, 1) := by decide +kernel
theorem dX4_copy_83 : decode cX4_copy 83 = .ok (.iload 5, 2) := by decide +kernel
theorem dX4_copy_85 : decode cX4_copy 85 = .ok (.invokevirtual 213, 3) := by decide +kernel
theorem dX4_copy_88 : decode cX4_copy 88 = .ok (.ifCond .eq 15, 3) := by decide +kernel
theorem dX4_copy_91 : decode cX4_copy 91 = .ok (.aload 7, 2) := by decide +kernel
theorem dX4_copy_93 : decode cX4_copy 93 = .ok (.iload 4, 2) := by decide +kernel
theorem dX4_copy_95 : decode cX4_copy 95 = .ok (.iload 5, 2) := by decide +kernel
theorem dX4_copy_97 : decode cX4_copy 97 = .ok (.invokevirtual 213, 3) := by decide +kernel
theorem dX4_copy_100 : decode cX4_copy 100 = .ok (.ifCond .ne 10, 3) := by decide +kernel
theorem dX4_copy_103 : decode cX4_copy 103 = .ok (.aload_n 0, 1) := by decide +kernel
theorem dX4_copy_104 : decode cX4_copy 104 = .ok (.ldc 48, 2) := by decide +kernel
theorem dX4_copy_106 : decode cX4_copy 106 = .ok (.invokevirtual 49, 3) := by decide +kernel
theorem dX4_copy_109 : decode cX4_copy 109 = .ok (.ireturn, 1) := by decide +kernel
theorem dX4_copy_110 : decode cX4_copy 110 = .ok (.aload 6, 2) := by decide +kernel
theorem dX4_copy_112 : decode cX4_copy 112 = .ok (.getfield 202, 3) := by decide +kernel
theorem dX4_copy_115 : decode cX4_copy 115 = .ok (.iload_n 2, 1) := by decide +kernel
theorem dX4_copy_116 : decode cX4_copy 116 = .ok (.aload 7, 2) := by decide +kernel
theorem dX4_copy_118 : decode cX4_copy 118 = .ok (.getfield 202, 3) := by decide +kernel
theorem dX4_copy_121 : decode cX4_copy 121 = .ok (.iload 4, 2) := by decide +kernel
theorem dX4_copy_123 : decode cX4_copy 123 = .ok (.iload 5, 2) := by decide +kernel
theorem dX4_copy_125 : decode cX4_copy 125 = .ok (.invokestatic 216, 3) := by decide +kernel
theorem dX4_copy_128 : decode cX4_copy 128 = .ok (.iload 5, 2) := by decide +kernel
theorem dX4_copy_130 : decode cX4_copy 130 = .ok (.ireturn, 1) := by decide +kernel
theorem dX4_lays_0 : decode cX4_lays 0 = .ok (.iload_n 1, 1) := by decide +kernel
theorem dX4_lays_1 : decode cX4_lays 1 = .ok (.invokestatic 190, 3) := by decide +kernel
theorem dX4_lays_4 : decode cX4_lays 4 = .ok (.ifCond .ne 10, 3) := by decide +kernel
theorem dX4_lays_7 : decode cX4_lays 7 = .ok (.aload_n 0, 1) := by decide +kernel
theorem dX4_lays_8 : decode cX4_lays 8 = .ok (.ldc 48, 2) := by decide +kernel
theorem dX4_lays_10 : decode cX4_lays 10 = .ok (.invokevirtual 49, 3) := by decide +kernel
theorem dX4_lays_13 : decode cX4_lays 13 = .ok (.ireturn, 1) := by decide +kernel
theorem dX4_lays_14 : decode cX4_lays 14 = .ok (.aload_n 0, 1) := by decide +kernel
theorem dX4_lays_15 : decode cX4_lays 15 = .ok (.getfield 35, 3) := by decide +kernel
theorem dX4_lays_18 : decode cX4_lays 18 = .ok (.iload_n 1, 1) := by decide +kernel
theorem dX4_lays_19 : decode cX4_lays 19 = .ok (.aaload, 1) := by decide +kernel
theorem dX4_lays_20 : decode cX4_lays 20 = .ok (.astore_n 2, 1) := by decide +kernel
theorem dX4_lays_21 : decode cX4_lays 21 = .ok (.aload_n 2, 1) := by decide +kernel
theorem dX4_lays_22 : decode cX4_lays 22 = .ok (.invokevirtual 198, 3) := by decide +kernel
theorem dX4_lays_25 : decode cX4_lays 25 = .ok (.ifCond .eq 10, 3) := by decide +kernel
theorem dX4_lays_28 : decode cX4_lays 28 = .ok (.aload_n 0, 1) := by decide +kernel
theorem dX4_lays_29 : decode cX4_lays 29 = .ok (.ldc 201, 2) := by decide +kernel
theorem dX4_lays_31 : decode cX4_lays 31 = .ok (.invokevirtual 49, 3) := by decide +kernel
theorem dX4_lays_34 : decode cX4_lays 34 = .ok (.ireturn, 1) := by decide +kernel
theorem dX4_lays_35 : decode cX4_lays 35 = .ok (.iconst 0, 1) := by decide +kernel
theorem dX4_lays_36 : decode cX4_lays 36 = .ok (.istore_n 3, 1) := by decide +kernel
theorem dX4_lays_37 : decode cX4_lays 37 = .ok (.iconst 0, 1) := by decide +kernel
theorem dX4_lays_38 : decode cX4_lays 38 = .ok (.istore 4, 2) := by decide +kernel
theorem dX4_lays_40 : decode cX4_lays 40 = .ok (.iload 4, 2) := by decide +kernel
theorem dX4_lays_42 : decode cX4_lays 42 = .ok (.aload_n 0, 1) := by decide +kernel
theorem dX4_lays_43 : decode cX4_lays 43 = .ok (.getfield 10, 3) := by decide +kernel
theorem dX4_lays_46 : decode cX4_lays 46 = .ok (.getfield 177, 3) := by decide +kernel
theorem dX4_lays_49 : decode cX4_lays 49 = .ok (.if_icmp .ge 59, 3) := by decide +kernel
theorem dX4_lays_52 : decode cX4_lays 52 = .ok (.iload 4, 2) := by decide +kernel
theorem dX4_lays_54 : decode cX4_lays 54 = .ok (.aload_n 2, 1) := by decide +kernel
theorem dX4_lays_55 : decode cX4_lays 55 = .ok (.getfield 197, 3) := by decide +kernel
theorem dX4_lays_58 : decode cX4_lays 58 = .ok (.if_icmp .ge 50, 3) := by decide +kernel
theorem dX4_lays_61 : decode cX4_lays 61 = .ok (.aload_n 2, 1) := by decide +kernel
theorem dX4_lays_62 : decode cX4_lays 62 = .ok (.getfield 202, 3) := by decide +kernel
theorem dX4_lays_65 : decode cX4_lays 65 = .ok (.iload 4, 2) := by decide +kernel
theorem dX4_lays_67 : decode cX4_lays 67 = .ok (.laload, 1) := by decide +kernel
theorem dX4_lays_68 : decode cX4_lays 68 = .ok (.lstore 5, 2) := by decide +kernel
theorem dX4_lays_70 : decode cX4_lays 70 = .ok (.lload 5, 2) := by decide +kernel
theorem dX4_lays_72 : decode cX4_lays 72 = .ok (.lconst 0, 1) := by decide +kernel
theorem dX4_lays_73 : decode cX4_lays 73 = .ok (.lcmp, 1) := by decide +kernel
theorem dX4_lays_74 : decode cX4_lays 74 = .ok (.ifCond .lt 28, 3) := by decide +kernel
theorem dX4_lays_77 : decode cX4_lays 77 = .ok (.lload 5, 2) := by decide +kernel
theorem dX4_lays_79 : decode cX4_lays 79 = .ok (.ldc2_w 222, 3) := by decide +kernel
theorem dX4_lays_82 : decode cX4_lays 82 = .ok (.lcmp, 1) := by decide +kernel
theorem dX4_lays_83 : decode cX4_lays 83 = .ok (.ifCond .gt 19, 3) := by decide +kernel
theorem dX4_lays_86 : decode cX4_lays 86 = .ok (.aload_n 0, 1) := by decide +kernel
theorem dX4_lays_87 : decode cX4_lays 87 = .ok (.getfield 10, 3) := by decide +kernel
theorem dX4_lays_90 : decode cX4_lays 90 = .ok (.getfield 115, 3) := by decide +kernel
theorem dX4_lays_93 : decode cX4_lays 93 = .ok (.iload 4, 2) := by decide +kernel
theorem dX4_lays_95 : decode cX4_lays 95 = .ok (.lload 5, 2) := by decide +kernel
theorem dX4_lays_97 : decode cX4_lays 97 = .ok (.l2i, 1) := by decide +kernel
theorem dX4_lays_98 : decode cX4_lays 98 = .ok (.iastore, 1) := by decide +kernel
theorem dX4_lays_99 : decode cX4_lays 99 = .ok (.iinc 3 1, 3) := by decide +kernel
theorem dX4_lays_102 : decode cX4_lays 102 = .ok (.iinc 4 1, 3) := by decide +kernel
theorem dX4_lays_105 : decode cX4_lays 105 = .ok (.goto (-65), 3) := by decide +kernel
theorem dX4_lays_108 : decode cX4_lays 108 = .ok (.iload_n 3, 1) := by decide +kernel
theorem dX4_lays_109 : decode cX4_lays 109 = .ok (.ireturn, 1) := by decide +kernel
theorem dX4_book_0 : decode cX4_book 0 = .ok (.iload_n 1, 1) := by decide +kernel
theorem dX4_book_1 : decode cX4_book 1 = .ok (.invokestatic 190, 3) := by decide +kernel
theorem dX4_book_4 : decode cX4_book 4 = .ok (.ifCond .ne 10, 3) := by decide +kernel
theorem dX4_book_7 : decode cX4_book 7 = .ok (.aload_n 0, 1) := by decide +kernel
theorem dX4_book_8 : decode cX4_book 8 = .ok (.ldc 48, 2) := by decide +kernel
theorem dX4_book_10 : decode cX4_book 10 = .ok (.invokevirtual 49, 3) := by decide +kernel
theorem dX4_book_13 : decode cX4_book 13 = .ok (.ireturn, 1) := by decide +kernel
theorem dX4_book_14 : decode cX4_book 14 = .ok (.aload_n 0, 1) := by decide +kernel
theorem dX4_book_15 : decode cX4_book 15 = .ok (.getfield 35, 3) := by decide +kernel
theorem dX4_book_18 : decode cX4_book 18 = .ok (.iload_n 1, 1) := by decide +kernel
theorem dX4_book_19 : decode cX4_book 19 = .ok (.aaload, 1) := by decide +kernel
theorem dX4_book_20 : decode cX4_book 20 = .ok (.astore_n 3, 1) := by decide +kernel
theorem dX4_book_21 : decode cX4_book 21 = .ok (.aload_n 3, 1) := by decide +kernel
theorem dX4_book_22 : decode cX4_book 22 = .ok (.invokevirtual 198, 3) := by decide +kernel
theorem dX4_book_25 : decode cX4_book 25 = .ok (.ifCond .eq 10, 3) := by decide +kernel
theorem dX4_book_28 : decode cX4_book 28 = .ok (.aload_n 0, 1) := by decide +kernel
theorem dX4_book_29 : decode cX4_book 29 = .ok (.ldc 201, 2) := by decide +kernel
theorem dX4_book_31 : decode cX4_book 31 = .ok (.invokevirtual 49, 3) := by decide +kernel
theorem dX4_book_34 : decode cX4_book 34 = .ok (.ireturn, 1) := by decide +kernel
theorem dX4_book_35 : decode cX4_book 35 = .ok (.aload_n 0, 1) := by decide +kernel
theorem dX4_book_36 : decode cX4_book 36 = .ok (.getfield 10, 3) := by decide +kernel
theorem dX4_book_39 : decode cX4_book 39 = .ok (.iload_n 2, 1) := by decide +kernel
theorem dX4_book_40 : decode cX4_book 40 = .ok (.invokevirtual 103, 3) := by decide +kernel
theorem dX4_book_43 : decode cX4_book 43 = .ok (.ifCond .ne 10, 3) := by decide +kernel
theorem dX4_book_46 : decode cX4_book 46 = .ok (.aload_n 0, 1) := by decide +kernel
theorem dX4_book_47 : decode cX4_book 47 = .ok (.ldc 48, 2) := by decide +kernel
theorem dX4_book_49 : decode cX4_book 49 = .ok (.invokevirtual 49, 3) := by decide +kernel
theorem dX4_book_52 : decode cX4_book 52 = .ok (.ireturn, 1) := by decide +kernel
theorem dX4_book_53 : decode cX4_book 53 = .ok (.aload_n 0, 1) := by decide +kernel
theorem dX4_book_54 : decode cX4_book 54 = .ok (.getfield 16, 3) := by decide +kernel
theorem dX4_book_57 : decode cX4_book 57 = .ok (.aload_n 0, 1) := by decide +kernel
theorem dX4_book_58 : decode cX4_book 58 = .ok (.getfield 10, 3) := by decide +kernel
theorem dX4_book_61 : decode cX4_book 61 = .ok (.invokevirtual 155, 3) := by decide +kernel
theorem dX4_book_64 : decode cX4_book 64 = .ok (.iconst 0, 1) := by decide +kernel
theorem dX4_book_65 : decode cX4_book 65 = .ok (.istore 4, 2) := by decide +kernel
theorem dX4_book_67 : decode cX4_book 67 = .ok (.iload 4, 2) := by decide +kernel
theorem dX4_book_69 : decode cX4_book 69 = .ok (.aload_n 3, 1) := by decide +kernel
theorem dX4_book_70 : decode cX4_book 70 = .ok (.getfield 197, 3) := by decide +kernel
theorem dX4_book_73 : decode cX4_book 73 = .ok (.if_icmp .ge 32, 3) := by decide +kernel
theorem dX4_book_76 : decode cX4_book 76 = .ok (.aload_n 3, 1) := by decide +kernel
theorem dX4_book_77 : decode cX4_book 77 = .ok (.iload 4, 2) := by decide +kernel
theorem dX4_book_79 : decode cX4_book 79 = .ok (.aload_n 0, 1) := by decide +kernel
theorem dX4_book_80 : decode cX4_book 80 = .ok (.getfield 16, 3) := by decide +kernel
theorem dX4_book_83 : decode cX4_book 83 = .ok (.getfield 115, 3) := by decide +kernel
theorem dX4_book_86 : decode cX4_book 86 = .ok (.iload_n 2, 1) := by decide +kernel
theorem dX4_book_87 : decode cX4_book 87 = .ok (.iaload, 1) := by decide +kernel
theorem dX4_book_88 : decode cX4_book 88 = .ok (.i2l, 1) := by decide +kernel
theorem dX4_book_89 : decode cX4_book 89 = .ok (.invokevirtual 206, 3) := by decide +kernel
theorem dX4_book_92 : decode cX4_book 92 = .ok (.aload_n 0, 1) := by decide +kernel
theorem dX4_book_93 : decode cX4_book 93 = .ok (.getfield 16, 3) := by decide +kernel
theorem dX4_book_96 : decode cX4_book 96 = .ok (.invokevirtual 162, 3) := by decide +kernel
theorem dX4_book_99 : decode cX4_book 99 = .ok (.iinc 4 1, 3) := by decide +kernel
theorem dX4_book_102 : decode cX4_book 102 = .ok (.goto (-35), 3) := by decide +kernel
theorem dX4_book_105 : decode cX4_book 105 = .ok (.aload_n 3, 1) := by decide +kernel
theorem dX4_book_106 : decode cX4_book 106 = .ok (.getfield 197, 3) := by decide +kernel
theorem dX4_book_109 : decode cX4_book 109 = .ok (.ireturn, 1) := by decide +kernel
theorem dX4_read_0 : decode cX4_read 0 = .ok (.iload_n 1, 1) := by decide +kernel
theorem dX4_read_1 : decode cX4_read 1 = .ok (.invokestatic 190, 3) := by decide +kernel
theorem dX4_read_4 : decode cX4_read 4 = .ok (.ifCond .ne 10, 3) := by decide +kernel
theorem dX4_read_7 : decode cX4_read 7 = .ok (.aload_n 0, 1) := by decide +kernel
theorem dX4_read_8 : decode cX4_read 8 = .ok (.ldc 48, 2) := by decide +kernel
theorem dX4_read_10 : decode cX4_read 10 = .ok (.invokevirtual 49, 3) := by decide +kernel
theorem dX4_read_13 : decode cX4_read 13 = .ok (.ireturn, 1) := by decide +kernel
theorem dX4_read_14 : decode cX4_read 14 = .ok (.aload_n 0, 1) := by decide +kernel
theorem dX4_read_15 : decode cX4_read 15 = .ok (.getfield 35, 3) := by decide +kernel
theorem dX4_read_18 : decode cX4_read 18 = .ok (.iload_n 1, 1) := by decide +kernel
theorem dX4_read_19 : decode cX4_read 19 = .ok (.aaload, 1) := by decide +kernel
theorem dX4_read_20 : decode cX4_read 20 = .ok (.astore 4, 2) := by decide +kernel
theorem dX4_read_22 : decode cX4_read 22 = .ok (.aload 4, 2) := by decide +kernel
theorem dX4_read_24 : decode cX4_read 24 = .ok (.invokevirtual 198, 3) := by decide +kernel
theorem dX4_read_27 : decode cX4_read 27 = .ok (.ifCond .eq 10, 3) := by decide +kernel
theorem dX4_read_30 : decode cX4_read 30 = .ok (.aload_n 0, 1) := by decide +kernel
theorem dX4_read_31 : decode cX4_read 31 = .ok (.ldc 201, 2) := by decide +kernel
theorem dX4_read_33 : decode cX4_read 33 = .ok (.invokevirtual 49, 3) := by decide +kernel
theorem dX4_read_36 : decode cX4_read 36 = .ok (.ireturn, 1) := by decide +kernel
theorem dX4_read_37 : decode cX4_read 37 = .ok (.aload_n 0, 1) := by decide +kernel
theorem dX4_read_38 : decode cX4_read 38 = .ok (.getfield 10, 3) := by decide +kernel
theorem dX4_read_41 : decode cX4_read 41 = .ok (.iload_n 2, 1) := by decide +kernel
theorem dX4_read_42 : decode cX4_read 42 = .ok (.invokevirtual 103, 3) := by decide +kernel
theorem dX4_read_45 : decode cX4_read 45 = .ok (.ifCond .eq 19, 3) := by decide +kernel
theorem dX4_read_48 : decode cX4_read 48 = .ok (.aload_n 0, 1) := by decide +kernel
theorem dX4_read_49 : decode cX4_read 49 = .ok (.getfield 10, 3) := by decide +kernel
theorem dX4_read_52 : decode cX4_read 52 = .ok (.iload_n 3, 1) := by decide +kernel
theorem dX4_read_53 : decode cX4_read 53 = .ok (.invokevirtual 103, 3) := by decide +kernel
theorem dX4_read_56 : decode cX4_read 56 = .ok (.ifCond .eq 8, 3) := by decide +kernel
theorem dX4_read_59 : decode cX4_read 59 = .ok (.iload_n 2, 1) := by decide +kernel
theorem dX4_read_60 : decode cX4_read 60 = .ok (.iload_n 3, 1) := by decide +kernel
theorem dX4_read_61 : decode cX4_read 61 = .ok (.if_icmp .ne 10, 3) := by decide +kernel
theorem dX4_read_64 : decode cX4_read 64 = .ok (.aload_n 0, 1) := by decide +kernel
theorem dX4_read_65 : decode cX4_read 65 = .ok (.ldc 48, 2) := by decide +kernel
theorem dX4_read_67 : decode cX4_read 67 = .ok (.invokevirtual 49, 3) := by decide +kernel
theorem dX4_read_70 : decode cX4_read 70 = .ok (.ireturn, 1) := by decide +kernel
theorem dX4_read_71 : decode cX4_read 71 = .ok (.iconst 0, 1) := by decide +kernel
theorem dX4_read_72 : decode cX4_read 72 = .ok (.istore 5, 2) := by decide +kernel
theorem dX4_read_74 : decode cX4_read 74 = .ok (.iconst 0, 1) := by decide +kernel
theorem dX4_read_75 : decode cX4_read 75 = .ok (.istore 6, 2) := by decide +kernel
theorem dX4_read_77 : decode cX4_read 77 = .ok (.iload 6, 2) := by decide +kernel
theorem dX4_read_79 : decode cX4_read 79 = .ok (.bipush 6, 2) := by decide +kernel
theorem dX4_read_81 : decode cX4_read 81 = .ok (.if_icmp .ge 71, 3) := by decide +kernel
theorem dX4_read_84 : decode cX4_read 84 = .ok (.iconst 0, 1) := by decide +kernel
theorem dX4_read_85 : decode cX4_read 85 = .ok (.istore 7, 2) := by decide +kernel
theorem dX4_read_87 : decode cX4_read 87 = .ok (.iload 7, 2) := by decide +kernel
theorem dX4_read_89 : decode cX4_read 89 = .ok (.bipush 6, 2) := by decide +kernel
theorem dX4_read_91 : decode cX4_read 91 = .ok (.if_icmp .ge 55, 3) := by decide +kernel
theorem dX4_read_94 : decode cX4_read 94 = .ok (.aload_n 0, 1) := by decide +kernel
theorem dX4_read_95 : decode cX4_read 95 = .ok (.getfield 16, 3) := by decide +kernel
theorem dX4_read_98 : decode cX4_read 98 = .ok (.aload_n 0, 1) := by decide +kernel
theorem dX4_read_99 : decode cX4_read 99 = .ok (.getfield 10, 3) := by decide +kernel
theorem dX4_read_102 : decode cX4_read 102 = .ok (.invokevirtual 155, 3) := by decide +kernel
theorem dX4_read_105 : decode cX4_read 105 = .ok (.aload_n 0, 1) := by decide +kernel
theorem dX4_read_106 : decode cX4_read 106 = .ok (.getfield 16, 3) := by decide +kernel
theorem dX4_read_109 : decode cX4_read 109 = .ok (.getfield 106, 3) := by decide +kernel
theorem dX4_read_112 : decode cX4_read 112 = .ok (.iload_n 2, 1) := by decide +kernel
theorem dX4_read_113 : decode cX4_read 113 = .ok (.iload 6, 2) := by decide +kernel
theorem dX4_read_115 : decode cX4_read 115 = .ok (.iastore, 1) := by decide +kernel
theorem dX4_read_116 : decode cX4_read 116 = .ok (.aload_n 0, 1) := by decide +kernel
theorem dX4_read_117 : decode cX4_read 117 = .ok (.getfield 16, 3) := by decide +kernel
theorem dX4_read_120 : decode cX4_read 120 = .ok (.getfield 106, 3) := by decide +kernel
theorem dX4_read_123 : decode cX4_read 123 = .ok (.iload_n 3, 1) := by decide +kernel
theorem dX4_read_124 : decode cX4_read 124 = .ok (.iload 7, 2) := by decide +kernel
theorem dX4_read_126 : decode cX4_read 126 = .ok (.iastore, 1) := by decide +kernel
theorem dX4_read_127 : decode cX4_read 127 = .ok (.aload_n 0, 1) := by decide +kernel
theorem dX4_read_128 : decode cX4_read 128 = .ok (.aload 4, 2) := by decide +kernel
theorem dX4_read_130 : decode cX4_read 130 = .ok (.iload_n 2, 1) := by decide +kernel
theorem dX4_read_131 : decode cX4_read 131 = .ok (.invokevirtual 224, 3) := by decide +kernel
theorem dX4_read_134 : decode cX4_read 134 = .ok (.ifCond .eq 6, 3) := by decide +kernel
theorem dX4_read_137 : decode cX4_read 137 = .ok (.iinc 5 1, 3) := by decide +kernel
theorem dX4_read_140 : decode cX4_read 140 = .ok (.iinc 7 1, 3) := by decide +kernel
theorem dX4_read_143 : decode cX4_read 143 = .ok (.goto (-56), 3) := by decide +kernel
theorem dX4_read_146 : decode cX4_read 146 = .ok (.iinc 6 1, 3) := by decide +kernel
theorem dX4_read_149 : decode cX4_read 149 = .ok (.goto (-72), 3) := by decide +kernel
theorem dX4_read_152 : decode cX4_read 152 = .ok (.iload 5, 2) := by decide +kernel
theorem dX4_read_154 : decode cX4_read 154 = .ok (.ireturn, 1) := by decide +kernel
theorem dX4_trialGoesAs_0 : decode cX4_trialGoesAs 0 = .ok (.iconst 0, 1) := by decide +kernel
theorem dX4_trialGoesAs_1 : decode cX4_trialGoesAs 1 = .ok (.istore_n 3, 1) := by decide +kernel
theorem dX4_trialGoesAs_2 : decode cX4_trialGoesAs 2 = .ok (.iload_n 3, 1) := by decide +kernel
theorem dX4_trialGoesAs_3 : decode cX4_trialGoesAs 3 = .ok (.aload_n 1, 1) := by decide +kernel
theorem dX4_trialGoesAs_4 : decode cX4_trialGoesAs 4 = .ok (.getfield 197, 3) := by decide +kernel
theorem dX4_trialGoesAs_7 : decode cX4_trialGoesAs 7 = .ok (.if_icmp .ge 38, 3) := by decide +kernel
theorem dX4_trialGoesAs_10 : decode cX4_trialGoesAs 10 = .ok (.aload_n 1, 1) := by decide +kernel
theorem dX4_trialGoesAs_11 : decode cX4_trialGoesAs 11 = .ok (.getfield 202, 3) := by decide +kernel
theorem dX4_trialGoesAs_14 : decode cX4_trialGoesAs 14 = .ok (.iload_n 3, 1) := by decide +kernel
theorem dX4_trialGoesAs_15 : decode cX4_trialGoesAs 15 = .ok (.laload, 1) := by decide +kernel
theorem dX4_trialGoesAs_16 : decode cX4_trialGoesAs 16 = .ok (.aload_n 0, 1) := by decide +kernel
theorem dX4_trialGoesAs_17 : decode cX4_trialGoesAs 17 = .ok (.getfield 16, 3) := by decide +kernel
theorem dX4_trialGoesAs_20 : decode cX4_trialGoesAs 20 = .ok (.getfield 115, 3) := by decide +kernel
theorem dX4_trialGoesAs_23 : decode cX4_trialGoesAs 23 = .ok (.iload_n 2, 1) := by decide +kernel
theorem dX4_trialGoesAs_24 : decode cX4_trialGoesAs 24 = .ok (.iaload, 1) := by decide +kernel
theorem dX4_trialGoesAs_25 : decode cX4_trialGoesAs 25 = .ok (.i2l, 1) := by decide +kernel
theorem dX4_trialGoesAs_26 : decode cX4_trialGoesAs 26 = .ok (.lcmp, 1) := by decide +kernel
theorem dX4_trialGoesAs_27 : decode cX4_trialGoesAs 27 = .ok (.ifCond .eq 5, 3) := by decide +kernel
theorem dX4_trialGoesAs_30 : decode cX4_trialGoesAs 30 = .ok (.iconst 0, 1) := by decide +kernel
theorem dX4_trialGoesAs_31 : decode cX4_trialGoesAs 31 = .ok (.ireturn, 1) := by decide +kernel
theorem dX4_trialGoesAs_32 : decode cX4_trialGoesAs 32 = .ok (.aload_n 0, 1) := by decide +kernel
theorem dX4_trialGoesAs_33 : decode cX4_trialGoesAs 33 = .ok (.getfield 16, 3) := by decide +kernel
theorem dX4_trialGoesAs_36 : decode cX4_trialGoesAs 36 = .ok (.invokevirtual 162, 3) := by decide +kernel
theorem dX4_trialGoesAs_39 : decode cX4_trialGoesAs 39 = .ok (.iinc 3 1, 3) := by decide +kernel
theorem dX4_trialGoesAs_42 : decode cX4_trialGoesAs 42 = .ok (.goto (-40), 3) := by decide +kernel
theorem dX4_trialGoesAs_45 : decode cX4_trialGoesAs 45 = .ok (.iconst 1, 1) := by decide +kernel
theorem dX4_trialGoesAs_46 : decode cX4_trialGoesAs 46 = .ok (.ireturn, 1) := by decide +kernel
theorem dX4_image_0 : decode cX4_image 0 = .ok (.aload_n 0, 1) := by decide +kernel
theorem dX4_image_1 : decode cX4_image 1 = .ok (.getfield 19, 3) := by decide +kernel
theorem dX4_image_4 : decode cX4_image 4 = .ok (.aload_n 0, 1) := by decide +kernel
theorem dX4_image_5 : decode cX4_image 5 = .ok (.getfield 10, 3) := by decide +kernel
theorem dX4_image_8 : decode cX4_image 8 = .ok (.invokevirtual 155, 3) := by decide +kernel
theorem dX4_image_11 : decode cX4_image 11 = .ok (.aload_n 0, 1) := by decide +kernel
theorem dX4_image_12 : decode cX4_image 12 = .ok (.iconst 1, 1) := by decide +kernel
theorem dX4_image_13 : decode cX4_image 13 = .ok (.putfield 22, 3) := by decide +kernel
theorem dX4_image_16 : decode cX4_image 16 = .ok (.iconst 1, 1) := by decide +kernel
theorem dX4_image_17 : decode cX4_image 17 = .ok (.ireturn, 1) := by decide +kernel
theorem dX4_undo_0 : decode cX4_undo 0 = .ok (.aload_n 0, 1) := by decide +kernel
theorem dX4_undo_1 : decode cX4_undo 1 = .ok (.getfield 22, 3) := by decide +kernel
theorem dX4_undo_4 : decode cX4_undo 4 = .ok (.ifCond .ne 10, 3) := by decide +kernel
theorem dX4_undo_7 : decode cX4_undo 7 = .ok (.aload_n 0, 1) := by decide +kernel
theorem dX4_undo_8 : decode cX4_undo 8 = .ok (.ldc 83, 2) := by decide +kernel
theorem dX4_undo_10 : decode cX4_undo 10 = .ok (.invokevirtual 49, 3) := by decide +kernel
theorem dX4_undo_13 : decode cX4_undo 13 = .ok (.ireturn, 1) := by decide +kernel
theorem dX4_undo_14 : decode cX4_undo 14 = .ok (.aload_n 0, 1) := by decide +kernel
theorem dX4_undo_15 : decode cX4_undo 15 = .ok (.getfield 10, 3) := by decide +kernel
theorem dX4_undo_18 : decode cX4_undo 18 = .ok (.aload_n 0, 1) := by decide +kernel
theorem dX4_undo_19 : decode cX4_undo 19 = .ok (.getfield 19, 3) := by decide +kernel
theorem dX4_undo_22 : decode cX4_undo 22 = .ok (.invokevirtual 155, 3) := by decide +kernel
theorem dX4_undo_25 : decode cX4_undo 25 = .ok (.aload_n 0, 1) := by decide +kernel
theorem dX4_undo_26 : decode cX4_undo 26 = .ok (.getfield 10, 3) := by decide +kernel
theorem dX4_undo_29 : decode cX4_undo 29 = .ok (.getfield 177, 3) := by decide +kernel
theorem dX4_undo_32 : decode cX4_undo 32 = .ok (.ireturn, 1) := by decide +kernel
theorem dX4_tear_0 : decode cX4_tear 0 = .ok (.aload_n 0, 1) := by decide +kernel
theorem dX4_tear_1 : decode cX4_tear 1 = .ok (.getfield 22, 3) := by decide +kernel
theorem dX4_tear_4 : decode cX4_tear 4 = .ok (.ifCond .eq 7, 3) := by decide +kernel
theorem dX4_tear_7 : decode cX4_tear 7 = .ok (.iconst 1, 1) := by decide +kernel
theorem dX4_tear_8 : decode cX4_tear 8 = .ok (.goto 4, 3) := by decide +kernel
theorem dX4_tear_11 : decode cX4_tear 11 = .ok (.iconst 0, 1) := by decide +kernel
theorem dX4_tear_12 : decode cX4_tear 12 = .ok (.istore_n 1, 1) := by decide +kernel
theorem dX4_tear_13 : decode cX4_tear 13 = .ok (.aload_n 0, 1) := by decide +kernel
theorem dX4_tear_14 : decode cX4_tear 14 = .ok (.iconst 0, 1) := by decide +kernel
theorem dX4_tear_15 : decode cX4_tear 15 = .ok (.putfield 22, 3) := by decide +kernel
theorem dX4_tear_18 : decode cX4_tear 18 = .ok (.iload_n 1, 1) := by decide +kernel
theorem dX4_tear_19 : decode cX4_tear 19 = .ok (.ireturn, 1) := by decide +kernel
theorem dX4_count_0 : decode cX4_count 0 = .ok (.iload_n 1, 1) := by decide +kernel
theorem dX4_count_1 : decode cX4_count 1 = .ok (.tableswitch 73 0 3 #[31, 39, 47, 62], 31) := by decide +kernel
theorem dX4_count_32 : decode cX4_count 32 = .ok (.aload_n 0, 1) := by decide +kernel
theorem dX4_count_33 : decode cX4_count 33 = .ok (.getfield 10, 3) := by decide +kernel
theorem dX4_count_36 : decode cX4_count 36 = .ok (.getfield 177, 3) := by decide +kernel
theorem dX4_count_39 : decode cX4_count 39 = .ok (.ireturn, 1) := by decide +kernel
theorem dX4_count_40 : decode cX4_count 40 = .ok (.aload_n 0, 1) := by decide +kernel
theorem dX4_count_41 : decode cX4_count 41 = .ok (.getfield 29, 3) := by decide +kernel
theorem dX4_count_44 : decode cX4_count 44 = .ok (.getfield 180, 3) := by decide +kernel
theorem dX4_count_47 : decode cX4_count 47 = .ok (.ireturn, 1) := by decide +kernel
theorem dX4_count_48 : decode cX4_count 48 = .ok (.aload_n 0, 1) := by decide +kernel
theorem dX4_count_49 : decode cX4_count 49 = .ok (.getfield 10, 3) := by decide +kernel
theorem dX4_count_52 : decode cX4_count 52 = .ok (.aload_n 0, 1) := by decide +kernel
theorem dX4_count_53 : decode cX4_count 53 = .ok (.getfield 10, 3) := by decide +kernel
theorem dX4_count_56 : decode cX4_count 56 = .ok (.getfield 112, 3) := by decide +kernel
theorem dX4_count_59 : decode cX4_count 59 = .ok (.invokevirtual 76, 3) := by decide +kernel
theorem dX4_count_62 : decode cX4_count 62 = .ok (.ireturn, 1) := by decide +kernel
theorem dX4_count_63 : decode cX4_count 63 = .ok (.bipush 12, 2) := by decide +kernel
theorem dX4_count_65 : decode cX4_count 65 = .ok (.aload_n 0, 1) := by decide +kernel
theorem dX4_count_66 : decode cX4_count 66 = .ok (.getfield 10, 3) := by decide +kernel
theorem dX4_count_69 : decode cX4_count 69 = .ok (.getfield 177, 3) := by decide +kernel
theorem dX4_count_72 : decode cX4_count 72 = .ok (.isub, 1) := by decide +kernel
theorem dX4_count_73 : decode cX4_count 73 = .ok (.ireturn, 1) := by decide +kernel
theorem dX4_count_74 : decode cX4_count 74 = .ok (.aload_n 0, 1) := by decide +kernel
theorem dX4_count_75 : decode cX4_count 75 = .ok (.ldc 48, 2) := by decide +kernel
theorem dX4_count_77 : decode cX4_count 77 = .ok (.invokevirtual 49, 3) := by decide +kernel
theorem dX4_count_80 : decode cX4_count 80 = .ok (.ireturn, 1) := by decide +kernel
theorem dX4_status_0 : decode cX4_status 0 = .ok (.iload_n 1, 1) := by decide +kernel
theorem dX4_status_1 : decode cX4_status 1 = .ok (.iconst (-1), 1) := by decide +kernel
theorem dX4_status_2 : decode cX4_status 2 = .ok (.if_icmp .ne 30, 3) := by decide +kernel
theorem dX4_status_5 : decode cX4_status 5 = .ok (.iconst 0, 1) := by decide +kernel
theorem dX4_status_6 : decode cX4_status 6 = .ok (.istore_n 2, 1) := by decide +kernel
theorem dX4_status_7 : decode cX4_status 7 = .ok (.iconst 0, 1) := by decide +kernel
theorem dX4_status_8 : decode cX4_status 8 = .ok (.istore_n 3, 1) := by decide +kernel
theorem dX4_status_9 : decode cX4_status 9 = .ok (.iload_n 3, 1) := by decide +kernel
theorem dX4_status_10 : decode cX4_status 10 = .ok (.bipush 7, 2) := by decide +kernel
theorem dX4_status_12 : decode cX4_status 12 = .ok (.if_icmp .ge 18, 3) := by decide +kernel
theorem dX4_status_15 : decode cX4_status 15 = .ok (.iload_n 2, 1) := by decide +kernel
theorem dX4_status_16 : decode cX4_status 16 = .ok (.aload_n 0, 1) := by decide +kernel
theorem dX4_status_17 : decode cX4_status 17 = .ok (.getfield 39, 3) := by decide +kernel
theorem dX4_status_20 : decode cX4_status 20 = .ok (.iload_n 3, 1) := by decide +kernel
theorem dX4_status_21 : decode cX4_status 21 = .ok (.iaload, 1) := by decide +kernel
theorem dX4_status_22 : decode cX4_status 22 = .ok (.iadd, 1) := by decide +kernel
theorem dX4_status_23 : decode cX4_status 23 = .ok (.istore_n 2, 1) := by decide +kernel
theorem dX4_status_24 : decode cX4_status 24 = .ok (.iinc 3 1, 3) := by decide +kernel
theorem dX4_status_27 : decode cX4_status 27 = .ok (.goto (-18), 3) := by decide +kernel
theorem dX4_status_30 : decode cX4_status 30 = .ok (.iload_n 2, 1) := by decide +kernel
theorem dX4_status_31 : decode cX4_status 31 = .ok (.ireturn, 1) := by decide +kernel
theorem dX4_status_32 : decode cX4_status 32 = .ok (.iload_n 1, 1) := by decide +kernel
theorem dX4_status_33 : decode cX4_status 33 = .ok (.iconst 0, 1) := by decide +kernel
theorem dX4_status_34 : decode cX4_status 34 = .ok (.bipush 6, 2) := by decide +kernel
theorem dX4_status_36 : decode cX4_status 36 = .ok (.invokestatic 44, 3) := by decide +kernel
theorem dX4_status_39 : decode cX4_status 39 = .ok (.ifCond .eq 12, 3) := by decide +kernel
theorem dX4_status_42 : decode cX4_status 42 = .ok (.aload_n 0, 1) := by decide +kernel
theorem dX4_status_43 : decode cX4_status 43 = .ok (.getfield 39, 3) := by decide +kernel
theorem dX4_status_46 : decode cX4_status 46 = .ok (.iload_n 1, 1) := by decide +kernel
theorem dX4_status_47 : decode cX4_status 47 = .ok (.iaload, 1) := by decide +kernel
theorem dX4_status_48 : decode cX4_status 48 = .ok (.goto 9, 3) := by decide +kernel
theorem dX4_status_51 : decode cX4_status 51 = .ok (.aload_n 0, 1) := by decide +kernel
theorem dX4_status_52 : decode cX4_status 52 = .ok (.ldc 48, 2) := by decide +kernel
theorem dX4_status_54 : decode cX4_status 54 = .ok (.invokevirtual 49, 3) := by decide +kernel
theorem dX4_status_57 : decode cX4_status 57 = .ok (.ireturn, 1) := by decide +kernel
theorem dX4_found_0 : decode cX4_found 0 = .ok (.ldc 48, 2) := by decide +kernel
theorem dX4_found_2 : decode cX4_found 2 = .ok (.iload_n 1, 1) := by decide +kernel
theorem dX4_found_3 : decode cX4_found 3 = .ok (.isub, 1) := by decide +kernel
theorem dX4_found_4 : decode cX4_found 4 = .ok (.istore_n 2, 1) := by decide +kernel
theorem dX4_found_5 : decode cX4_found 5 = .ok (.iload_n 2, 1) := by decide +kernel
theorem dX4_found_6 : decode cX4_found 6 = .ok (.iconst 0, 1) := by decide +kernel
theorem dX4_found_7 : decode cX4_found 7 = .ok (.bipush 6, 2) := by decide +kernel
theorem dX4_found_9 : decode cX4_found 9 = .ok (.invokestatic 44, 3) := by decide +kernel
theorem dX4_found_12 : decode cX4_found 12 = .ok (.ifCond .eq 13, 3) := by decide +kernel
theorem dX4_found_15 : decode cX4_found 15 = .ok (.aload_n 0, 1) := by decide +kernel
theorem dX4_found_16 : decode cX4_found 16 = .ok (.getfield 39, 3) := by decide +kernel
theorem dX4_found_19 : decode cX4_found 19 = .ok (.iload_n 2, 1) := by decide +kernel
theorem dX4_found_20 : decode cX4_found 20 = .ok (.dup2, 1) := by decide +kernel
theorem dX4_found_21 : decode cX4_found 21 = .ok (.iaload, 1) := by decide +kernel
theorem dX4_found_22 : decode cX4_found 22 = .ok (.iconst 1, 1) := by decide +kernel
theorem dX4_found_23 : decode cX4_found 23 = .ok (.iadd, 1) := by decide +kernel
theorem dX4_found_24 : decode cX4_found 24 = .ok (.iastore, 1) := by decide +kernel
theorem dX4_found_25 : decode cX4_found 25 = .ok (.iload_n 1, 1) := by decide +kernel
theorem dX4_found_26 : decode cX4_found 26 = .ok (.ireturn, 1) := by decide +kernel
theorem dX4_isSheet_0 : decode cX4_isSheet 0 = .ok (.iload_n 0, 1) := by decide +kernel
theorem dX4_isSheet_1 : decode cX4_isSheet 1 = .ok (.iconst 0, 1) := by decide +kernel
theorem dX4_isSheet_2 : decode cX4_isSheet 2 = .ok (.iconst 3, 1) := by decide +kernel
theorem dX4_isSheet_3 : decode cX4_isSheet 3 = .ok (.invokestatic 44, 3) := by decide +kernel
theorem dX4_isSheet_6 : decode cX4_isSheet 6 = .ok (.ireturn, 1) := by decide +kernel
theorem dX4_within_0 : decode cX4_within 0 = .ok (.iload_n 0, 1) := by decide +kernel
theorem dX4_within_1 : decode cX4_within 1 = .ok (.iload_n 1, 1) := by decide +kernel
theorem dX4_within_2 : decode cX4_within 2 = .ok (.if_icmp .lt 12, 3) := by decide +kernel
theorem dX4_within_5 : decode cX4_within 5 = .ok (.iload_n 0, 1) := by decide +kernel
theorem dX4_within_6 : decode cX4_within 6 = .ok (.iload_n 2, 1) := by decide +kernel
theorem dX4_within_7 : decode cX4_within 7 = .ok (.if_icmp .gt 7, 3) := by decide +kernel
theorem dX4_within_10 : decode cX4_within 10 = .ok (.iconst 1, 1) := by decide +kernel
theorem dX4_within_11 : decode cX4_within 11 = .ok (.goto 4, 3) := by decide +kernel
theorem dX4_within_14 : decode cX4_within 14 = .ok (.iconst 0, 1) := by decide +kernel
theorem dX4_within_15 : decode cX4_within 15 = .ok (.ireturn, 1) := by decide +kernel
theorem dX5_init_0 : decode cX5_init 0 = .ok (.aload_n 0, 1) := by decide +kernel
theorem dX5_init_1 : decode cX5_init 1 = .ok (.invokespecial 1, 3) := by decide +kernel
theorem dX5_init_4 : decode cX5_init 4 = .ok (.aload_n 0, 1) := by decide +kernel
theorem dX5_init_5 : decode cX5_init 5 = .ok (.bipush 62, 2) := by decide +kernel
theorem dX5_init_7 : decode cX5_init 7 = .ok (.newarray .int, 2) := by decide +kernel
theorem dX5_init_9 : decode cX5_init 9 = .ok (.putfield 7, 3) := by decide +kernel
theorem dX5_init_12 : decode cX5_init 12 = .ok (.aload_n 0, 1) := by decide +kernel
theorem dX5_init_13 : decode cX5_init 13 = .ok (.bipush 7, 2) := by decide +kernel
theorem dX5_init_15 : decode cX5_init 15 = .ok (.newarray .int, 2) := by decide +kernel
theorem dX5_init_17 : decode cX5_init 17 = .ok (.putfield 13, 3) := by decide +kernel
theorem dX5_init_20 : decode cX5_init 20 = .ok (.aload_n 0, 1) := by decide +kernel
theorem dX5_init_21 : decode cX5_init 21 = .ok (.bipush 10, 2) := by decide +kernel
theorem dX5_init_23 : decode cX5_init 23 = .ok (.newarray .int, 2) := by decide +kernel
theorem dX5_init_25 : decode cX5_init 25 = .ok (.putfield 16, 3) := by decide +kernel
theorem dX5_init_28 : decode cX5_init 28 = .ok (.aload_n 0, 1) := by decide +kernel
theorem dX5_init_29 : decode cX5_init 29 = .ok (.bipush 10, 2) := by decide +kernel
theorem dX5_init_31 : decode cX5_init 31 = .ok (.newarray .int, 2) := by decide +kernel
theorem dX5_init_33 : decode cX5_init 33 = .ok (.putfield 19, 3) := by decide +kernel
theorem dX5_init_36 : decode cX5_init 36 = .ok (.aload_n 0, 1) := by decide +kernel
theorem dX5_init_37 : decode cX5_init 37 = .ok (.bipush 62, 2) := by decide +kernel
theorem dX5_init_39 : decode cX5_init 39 = .ok (.newarray .int, 2) := by decide +kernel
theorem dX5_init_41 : decode cX5_init 41 = .ok (.putfield 22, 3) := by decide +kernel
theorem dX5_init_44 : decode cX5_init 44 = .ok (.aload_n 0, 1) := by decide +kernel
theorem dX5_init_45 : decode cX5_init 45 = .ok (.bipush 62, 2) := by decide +kernel
theorem dX5_init_47 : decode cX5_init 47 = .ok (.newarray .int, 2) := by decide +kernel
theorem dX5_init_49 : decode cX5_init 49 = .ok (.putfield 25, 3) := by decide +kernel
theorem dX5_init_52 : decode cX5_init 52 = .ok (.aload_n 0, 1) := by decide +kernel
theorem dX5_init_53 : decode cX5_init 53 = .ok (.bipush 120, 2) := by decide +kernel
theorem dX5_init_55 : decode cX5_init 55 = .ok (.newarray .int, 2) := by decide +kernel
theorem dX5_init_57 : decode cX5_init 57 = .ok (.putfield 28, 3) := by decide +kernel
theorem dX5_init_60 : decode cX5_init 60 = .ok (.aload_n 0, 1) := by decide +kernel
theorem dX5_init_61 : decode cX5_init 61 = .ok (.iconst 4, 1) := by decide +kernel
theorem dX5_init_62 : decode cX5_init 62 = .ok (.newarray .int, 2) := by decide +kernel
theorem dX5_init_64 : decode cX5_init 64 = .ok (.putfield 31, 3) := by decide +kernel
theorem dX5_init_67 : decode cX5_init 67 = .ok (.aload_n 0, 1) := by decide +kernel
theorem dX5_init_68 : decode cX5_init 68 = .ok (.iconst 4, 1) := by decide +kernel
theorem dX5_init_69 : decode cX5_init 69 = .ok (.newarray .int, 2) := by decide +kernel
theorem dX5_init_71 : decode cX5_init 71 = .ok (.putfield 34, 3) := by decide +kernel
theorem dX5_init_74 : decode cX5_init 74 = .ok (.aload_n 0, 1) := by decide +kernel
theorem dX5_init_75 : decode cX5_init 75 = .ok (.sipush 160, 3) := by decide +kernel
theorem dX5_init_78 : decode cX5_init 78 = .ok (.newarray .long, 2) := by decide +kernel
theorem dX5_init_80 : decode cX5_init 80 = .ok (.putfield 37, 3) := by decide +kernel
theorem dX5_init_83 : decode cX5_init 83 = .ok (.aload_n 0, 1) := by decide +kernel
theorem dX5_init_84 : decode cX5_init 84 = .ok (.bipush 40, 2) := by decide +kernel
theorem dX5_init_86 : decode cX5_init 86 = .ok (.newarray .long, 2) := by decide +kernel
theorem dX5_init_88 : decode cX5_init 88 = .ok (.putfield 41, 3) := by decide +kernel
theorem dX5_init_91 : decode cX5_init 91 = .ok (.aload_n 0, 1) := by decide +kernel
theorem dX5_init_92 : decode cX5_init 92 = .ok (.bipush 62, 2) := by decide +kernel
theorem dX5_init_94 : decode cX5_init 94 = .ok (.newarray .int, 2) := by decide +kernel
theorem dX5_init_96 : decode cX5_init 96 = .ok (.putfield 44, 3) := by decide +kernel
theorem dX5_init_99 : decode cX5_init 99 = .ok (.aload_n 0, 1) := by decide +kernel
theorem dX5_init_100 : decode cX5_init 100 = .ok (.bipush 62, 2) := by decide +kernel
theorem dX5_init_102 : decode cX5_init 102 = .ok (.newarray .int, 2) := by decide +kernel
theorem dX5_init_104 : decode cX5_init 104 = .ok (.putfield 47, 3) := by decide +kernel
theorem dX5_init_107 : decode cX5_init 107 = .ok (.aload_n 0, 1) := by decide +kernel
theorem dX5_init_108 : decode cX5_init 108 = .ok (.getfield 7, 3) := by decide +kernel
theorem dX5_init_111 : decode cX5_init 111 = .ok (.iconst 0, 1) := by decide +kernel
theorem dX5_init_112 : decode cX5_init 112 = .ok (.iconst 0, 1) := by decide +kernel
theorem dX5_init_113 : decode cX5_init 113 = .ok (.iastore, 1) := by decide +kernel
theorem dX5_init_114 : decode cX5_init 114 = .ok (.return_, 1) := by decide +kernel
theorem dX5_in_0 : decode cX5_in 0 = .ok (.iload_n 0, 1) := by decide +kernel
theorem dX5_in_1 : decode cX5_in 1 = .ok (.iload_n 1, 1) := by decide +kernel
theorem dX5_in_2 : decode cX5_in 2 = .ok (.if_icmp .lt 12, 3) := by decide +kernel
theorem dX5_in_5 : decode cX5_in 5 = .ok (.iload_n 0, 1) := by decide +kernel
theorem dX5_in_6 : decode cX5_in 6 = .ok (.iload_n 2, 1) := by decide +kernel
theorem dX5_in_7 : decode cX5_in 7 = .ok (.if_icmp .gt 7, 3) := by decide +kernel
theorem dX5_in_10 : decode cX5_in 10 = .ok (.iconst 1, 1) := by decide +kernel
theorem dX5_in_11 : decode cX5_in 11 = .ok (.goto 4, 3) := by decide +kernel
theorem dX5_in_14 : decode cX5_in 14 = .ok (.iconst 0, 1) := by decide +kernel
theorem dX5_in_15 : decode cX5_in 15 = .ok (.ireturn, 1) := by decide +kernel
theorem dX5_finds_0 : decode cX5_finds 0 = .ok (.aload_n 0, 1) := by decide +kernel
theorem dX5_finds_1 : decode cX5_finds 1 = .ok (.getfield 13, 3) := by decide +kernel
theorem dX5_finds_4 : decode cX5_finds 4 = .ok (.ldc 50, 2) := by decide +kernel
theorem dX5_finds_6 : decode cX5_finds 6 = .ok (.iload_n 1, 1) := by decide +kernel
theorem dX5_finds_7 : decode cX5_finds 7 = .ok (.isub, 1) := by decide +kernel
theorem dX5_finds_8 : decode cX5_finds 8 = .ok (.dup2, 1) := by decide +kernel
theorem dX5_finds_9 : decode cX5_finds 9 = .ok (.iaload, 1) := by decide +kernel
theorem dX5_finds_10 : decode cX5_finds 10 = .ok (.iconst 1, 1) := by decide +kernel
theorem dX5_finds_11 : decode cX5_finds 11 = .ok (.iadd, 1) := by decide +kernel
theorem dX5_finds_12 : decode cX5_finds 12 = .ok (.iastore, 1) := by decide +kernel
theorem dX5_finds_13 : decode cX5_finds 13 = .ok (.iload_n 1, 1) := by decide +kernel
theorem dX5_finds_14 : decode cX5_finds 14 = .ok (.ireturn, 1) := by decide +kernel
theorem dX5_held_0 : decode cX5_held 0 = .ok (.iload_n 0, 1) := by decide +kernel
theorem dX5_held_1 : decode cX5_held 1 = .ok (.iload_n 1, 1) := by decide +kernel
theorem dX5_held_2 : decode cX5_held 2 = .ok (.if_icmp .ge 7, 3) := by decide +kernel
theorem dX5_held_5 : decode cX5_held 5 = .ok (.iload_n 1, 1) := by decide +kernel
theorem dX5_held_6 : decode cX5_held 6 = .ok (.goto 13, 3) := by decide +kernel
theorem dX5_held_9 : decode cX5_held 9 = .ok (.iload_n 0, 1) := by decide +kernel
theorem dX5_held_10 : decode cX5_held 10 = .ok (.iload_n 2, 1) := by decide +kernel
theorem dX5_held_11 : decode cX5_held 11 = .ok (.if_icmp .le 7, 3) := by decide +kernel
theorem dX5_held_14 : decode cX5_held 14 = .ok (.iload_n 2, 1) := by decide +kernel
theorem dX5_held_15 : decode cX5_held 15 = .ok (.goto 4, 3) := by decide +kernel
theorem dX5_held_18 : decode cX5_held 18 = .ok (.iload_n 0, 1) := by decide +kernel
theorem dX5_held_19 : decode cX5_held 19 = .ok (.ireturn, 1) := by decide +kernel
theorem dX5_its_0 : decode cX5_its 0 = .ok (.aload_n 0, 1) := by decide +kernel
theorem dX5_its_1 : decode cX5_its 1 = .ok (.getfield 7, 3) := by decide +kernel
theorem dX5_its_4 : decode cX5_its 4 = .ok (.iconst 2, 1) := by decide +kernel
theorem dX5_its_5 : decode cX5_its 5 = .ok (.bipush 6, 2) := by decide +kernel
theorem dX5_its_7 : decode cX5_its 7 = .ok (.iload_n 1, 1) := by decide +kernel
theorem dX5_its_8 : decode cX5_its 8 = .ok (.imul, 1) := by decide +kernel
theorem dX5_its_9 : decode cX5_its 9 = .ok (.iadd, 1) := by decide +kernel
theorem dX5_its_10 : decode cX5_its 10 = .ok (.iload_n 2, 1) := by decide +kernel
theorem dX5_its_11 : decode cX5_its 11 = .ok (.iadd, 1) := by decide +kernel
theorem dX5_its_12 : decode cX5_its 12 = .ok (.iaload, 1) := by decide +kernel
theorem dX5_its_13 : decode cX5_its 13 = .ok (.ireturn, 1) := by decide +kernel
theorem dX5_puts_0 : decode cX5_puts 0 = .ok (.aload_n 0, 1) := by decide +kernel
theorem dX5_puts_1 : decode cX5_puts 1 = .ok (.getfield 7, 3) := by decide +kernel
theorem dX5_puts_4 : decode cX5_puts 4 = .ok (.iconst 2, 1) := by decide +kernel
theorem dX5_puts_5 : decode cX5_puts 5 = .ok (.bipush 6, 2) := by decide +kernel
theorem dX5_puts_7 : decode cX5_puts 7 = .ok (.iload_n 1, 1) := by decide +kernel
theorem dX5_puts_8 : decode cX5_puts 8 = .ok (.imul, 1) := by decide +kernel
theorem dX5_puts_9 : decode cX5_puts 9 = .ok (.iadd, 1) := by decide +kernel
theorem dX5_puts_10 : decode cX5_puts 10 = .ok (.iload_n 2, 1) := by decide +kernel
theorem dX5_puts_11 : decode cX5_puts 11 = .ok (.iadd, 1) := by decide +kernel
theorem dX5_puts_12 : decode cX5_puts 12 = .ok (.iload_n 3, 1) := by decide +kernel
theorem dX5_puts_13 : decode cX5_puts 13 = .ok (.iastore, 1) := by decide +kernel
theorem dX5_puts_14 : decode cX5_puts 14 = .ok (.return_, 1) := by decide +kernel
theorem dX5_becomes_0 : decode cX5_becomes 0 = .ok (.aload_n 0, 1) := by decide +kernel
theorem dX5_becomes_1 : decode cX5_becomes 1 = .ok (.getfield 7, 3) := by decide +kernel
theorem dX5_becomes_4 : decode cX5_becomes 4 = .ok (.iload_n 1, 1) := by decide +kernel
theorem dX5_becomes_5 : decode cX5_becomes 5 = .ok (.iaload, 1) := by decide +kernel
theorem dX5_becomes_6 : decode cX5_becomes 6 = .ok (.istore_n 3, 1) := by decide +kernel
theorem dX5_becomes_7 : decode cX5_becomes 7 = .ok (.aload_n 0, 1) := by decide +kernel
theorem dX5_becomes_8 : decode cX5_becomes 8 = .ok (.getfield 7, 3) := by decide +kernel
theorem dX5_becomes_11 : decode cX5_becomes 11 = .ok (.iload_n 1, 1) := by decide +kernel
theorem dX5_becomes_12 : decode cX5_becomes 12 = .ok (.iload_n 2, 1) := by decide +kernel
theorem dX5_becomes_13 : decode cX5_becomes 13 = .ok (.iastore, 1) := by decide +kernel
theorem dX5_becomes_14 : decode cX5_becomes 14 = .ok (.iload_n 3, 1) := by decide +kernel
theorem dX5_becomes_15 : decode cX5_becomes 15 = .ok (.ireturn, 1) := by decide +kernel
theorem dX5_isOne_0 : decode cX5_isOne 0 = .ok (.iload_n 1, 1) := by decide +kernel
theorem dX5_isOne_1 : decode cX5_isOne 1 = .ok (.iconst 0, 1) := by decide +kernel
theorem dX5_isOne_2 : decode cX5_isOne 2 = .ok (.aload_n 0, 1) := by decide +kernel
theorem dX5_isOne_3 : decode cX5_isOne 3 = .ok (.getfield 7, 3) := by decide +kernel
theorem dX5_isOne_6 : decode cX5_isOne 6 = .ok (.iconst 1, 1) := by decide +kernel
theorem dX5_isOne_7 : decode cX5_isOne 7 = .ok (.iaload, 1) := by decide +kernel
theorem dX5_isOne_8 : decode cX5_isOne 8 = .ok (.iconst 1, 1) := by decide +kernel
theorem dX5_isOne_9 : decode cX5_isOne 9 = .ok (.isub, 1) := by decide +kernel
theorem dX5_isOne_10 : decode cX5_isOne 10 = .ok (.invokestatic 51, 3) := by decide +kernel
theorem dX5_isOne_13 : decode cX5_isOne 13 = .ok (.ireturn, 1) := by decide +kernel
theorem dX5_isKind_0 : decode cX5_isKind 0 = .ok (.iload_n 0, 1) := by decide +kernel
theorem dX5_isKind_1 : decode cX5_isKind 1 = .ok (.iconst 0, 1) := by decide +kernel
theorem dX5_isKind_2 : decode cX5_isKind 2 = .ok (.iconst 5, 1) := by decide +kernel
theorem dX5_isKind_3 : decode cX5_isKind 3 = .ok (.invokestatic 51, 3) := by decide +kernel
theorem dX5_isKind_6 : decode cX5_isKind 6 = .ok (.ireturn, 1) := by decide +kernel
theorem dX5_isSeat_0 : decode cX5_isSeat 0 = .ok (.iload_n 0, 1) := by decide +kernel
theorem dX5_isSeat_1 : decode cX5_isSeat 1 = .ok (.iconst 0, 1) := by decide +kernel
theorem dX5_isSeat_2 : decode cX5_isSeat 2 = .ok (.bipush 11, 2) := by decide +kernel
theorem dX5_isSeat_4 : decode cX5_isSeat 4 = .ok (.invokestatic 51, 3) := by decide +kernel
theorem dX5_isSeat_7 : decode cX5_isSeat 7 = .ok (.ireturn, 1) := by decide +kernel
theorem dX5_isVerse_0 : decode cX5_isVerse 0 = .ok (.iload_n 0, 1) := by decide +kernel
theorem dX5_isVerse_1 : decode cX5_isVerse 1 = .ok (.iconst 0, 1) := by decide +kernel
theorem dX5_isVerse_2 : decode cX5_isVerse 2 = .ok (.bipush 9, 2) := by decide +kernel
theorem dX5_isVerse_4 : decode cX5_isVerse 4 = .ok (.invokestatic 51, 3) := by decide +kernel
theorem dX5_isVerse_7 : decode cX5_isVerse 7 = .ok (.ireturn, 1) := by decide +kernel
theorem dX5_bits_0 : decode cX5_bits 0 = .ok (.iconst 0, 1) := by decide +kernel
theorem dX5_bits_1 : decode cX5_bits 1 = .ok (.istore_n 1, 1) := by decide +kernel
theorem dX5_bits_2 : decode cX5_bits 2 = .ok (.iload_n 0, 1) := by decide +kernel
theorem dX5_bits_3 : decode cX5_bits 3 = .ok (.istore_n 2, 1) := by decide +kernel
theorem dX5_bits_4 : decode cX5_bits 4 = .ok (.iload_n 2, 1) := by decide +kernel
theorem dX5_bits_5 : decode cX5_bits 5 = .ok (.ifCond .eq 15, 3) := by decide +kernel
theorem dX5_bits_8 : decode cX5_bits 8 = .ok (.iinc 1 1, 3) := by decide +kernel
theorem dX5_bits_11 : decode cX5_bits 11 = .ok (.iload_n 2, 1) := by decide +kernel
theorem dX5_bits_12 : decode cX5_bits 12 = .ok (.iload_n 2, 1) := by decide +kernel
theorem dX5_bits_13 : decode cX5_bits 13 = .ok (.iconst 1, 1) := by decide +kernel
theorem dX5_bits_14 : decode cX5_bits 14 = .ok (.isub, 1) := by decide +kernel
theorem dX5_bits_15 : decode cX5_bits 15 = .ok (.iand, 1) := by decide +kernel
theorem dX5_bits_16 : decode cX5_bits 16 = .ok (.istore_n 2, 1) := by decide +kernel
theorem dX5_bits_17 : decode cX5_bits 17 = .ok (.goto (-13), 3) := by decide +kernel
theorem dX5_bits_20 : decode cX5_bits 20 = .ok (.iload_n 1, 1) := by decide +kernel
theorem dX5_bits_21 : decode cX5_bits 21 = .ok (.ireturn, 1) := by decide +kernel
theorem dX5_leastOf_0 : decode cX5_leastOf 0 = .ok (.iload_n 0, 1) := by decide +kernel
theorem dX5_leastOf_1 : decode cX5_leastOf 1 = .ok (.iload_n 0, 1) := by decide +kernel
theorem dX5_leastOf_2 : decode cX5_leastOf 2 = .ok (.ineg, 1) := by decide +kernel
theorem dX5_leastOf_3 : decode cX5_leastOf 3 = .ok (.iand, 1) := by decide +kernel
theorem dX5_leastOf_4 : decode cX5_leastOf 4 = .ok (.ireturn, 1) := by decide +kernel
theorem dX5_greatestOf_0 : decode cX5_greatestOf 0 = .ok (.iload_n 0, 1) := by decide +kernel
theorem dX5_greatestOf_1 : decode cX5_greatestOf 1 = .ok (.istore_n 1, 1) := by decide +kernel
theorem dX5_greatestOf_2 : decode cX5_greatestOf 2 = .ok (.iload_n 1, 1) := by decide +kernel
theorem dX5_greatestOf_3 : decode cX5_greatestOf 3 = .ok (.iload_n 1, 1) := by decide +kernel
theorem dX5_greatestOf_4 : decode cX5_greatestOf 4 = .ok (.iconst 1, 1) := by decide +kernel
theorem dX5_greatestOf_5 : decode cX5_greatestOf 5 = .ok (.isub, 1) := by decide +kernel
theorem dX5_greatestOf_6 : decode cX5_greatestOf 6 = .ok (.iand, 1) := by decide +kernel
theorem dX5_greatestOf_7 : decode cX5_greatestOf 7 = .ok (.ifCond .eq 12, 3) := by decide +kernel
theorem dX5_greatestOf_10 : decode cX5_greatestOf 10 = .ok (.iload_n 1, 1) := by decide +kernel
theorem dX5_greatestOf_11 : decode cX5_greatestOf 11 = .ok (.iload_n 1, 1) := by decide +kernel
theorem dX5_greatestOf_12 : decode cX5_greatestOf 12 = .ok (.iconst 1, 1) := by decide +kernel
theorem dX5_greatestOf_13 : decode cX5_greatestOf 13 = .ok (.isub, 1) := by decide +kernel
theorem dX5_greatestOf_14 : decode cX5_greatestOf 14 = .ok (.iand, 1) := by decide +kernel
end
section
theorem dX5_greatestOf_15 : decode cX5_greatestOf 15 = .ok (.istore_n 1, 1) := by decide +kernel
theorem dX5_greatestOf_16 : decode cX5_greatestOf 16 = .ok (.goto (-14), 3) := by decide +kernel
theorem dX5_greatestOf_19 : decode cX5_greatestOf 19 = .ok (.iload_n 1, 1) := by decide +kernel
theorem dX5_greatestOf_20 : decode cX5_greatestOf 20 = .ok (.ireturn, 1) := by decide +kernel
theorem dX5_whoIn_0 : decode cX5_whoIn 0 = .ok (.iconst (-1), 1) := by decide +kernel
theorem dX5_whoIn_1 : decode cX5_whoIn 1 = .ok (.istore_n 2, 1) := by decide +kernel
theorem dX5_whoIn_2 : decode cX5_whoIn 2 = .ok (.iconst 0, 1) := by decide +kernel
theorem dX5_whoIn_3 : decode cX5_whoIn 3 = .ok (.istore_n 3, 1) := by decide +kernel
theorem dX5_whoIn_4 : decode cX5_whoIn 4 = .ok (.iload_n 3, 1) := by decide +kernel
theorem dX5_whoIn_5 : decode cX5_whoIn 5 = .ok (.aload_n 0, 1) := by decide +kernel
theorem dX5_whoIn_6 : decode cX5_whoIn 6 = .ok (.getfield 7, 3) := by decide +kernel
theorem dX5_whoIn_9 : decode cX5_whoIn 9 = .ok (.iconst 1, 1) := by decide +kernel
theorem dX5_whoIn_10 : decode cX5_whoIn 10 = .ok (.iaload, 1) := by decide +kernel
theorem dX5_whoIn_11 : decode cX5_whoIn 11 = .ok (.if_icmp .ge 25, 3) := by decide +kernel
theorem dX5_whoIn_14 : decode cX5_whoIn 14 = .ok (.aload_n 0, 1) := by decide +kernel
theorem dX5_whoIn_15 : decode cX5_whoIn 15 = .ok (.iload_n 3, 1) := by decide +kernel
theorem dX5_whoIn_16 : decode cX5_whoIn 16 = .ok (.iconst 1, 1) := by decide +kernel
theorem dX5_whoIn_17 : decode cX5_whoIn 17 = .ok (.invokevirtual 55, 3) := by decide +kernel
theorem dX5_whoIn_20 : decode cX5_whoIn 20 = .ok (.iload_n 1, 1) := by decide +kernel
theorem dX5_whoIn_21 : decode cX5_whoIn 21 = .ok (.if_icmp .ne 7, 3) := by decide +kernel
theorem dX5_whoIn_24 : decode cX5_whoIn 24 = .ok (.iload_n 3, 1) := by decide +kernel
theorem dX5_whoIn_25 : decode cX5_whoIn 25 = .ok (.goto 4, 3) := by decide +kernel
theorem dX5_whoIn_28 : decode cX5_whoIn 28 = .ok (.iload_n 2, 1) := by decide +kernel
theorem dX5_whoIn_29 : decode cX5_whoIn 29 = .ok (.istore_n 2, 1) := by decide +kernel
theorem dX5_whoIn_30 : decode cX5_whoIn 30 = .ok (.iinc 3 1, 3) := by decide +kernel
theorem dX5_whoIn_33 : decode cX5_whoIn 33 = .ok (.goto (-29), 3) := by decide +kernel
theorem dX5_whoIn_36 : decode cX5_whoIn 36 = .ok (.iload_n 2, 1) := by decide +kernel
theorem dX5_whoIn_37 : decode cX5_whoIn 37 = .ok (.ireturn, 1) := by decide +kernel
theorem dX5_seat_0 : decode cX5_seat 0 = .ok (.iload_n 1, 1) := by decide +kernel
theorem dX5_seat_1 : decode cX5_seat 1 = .ok (.invokestatic 59, 3) := by decide +kernel
theorem dX5_seat_4 : decode cX5_seat 4 = .ok (.ifCond .eq 11, 3) := by decide +kernel
theorem dX5_seat_7 : decode cX5_seat 7 = .ok (.aload_n 0, 1) := by decide +kernel
theorem dX5_seat_8 : decode cX5_seat 8 = .ok (.iload_n 1, 1) := by decide +kernel
theorem dX5_seat_9 : decode cX5_seat 9 = .ok (.invokevirtual 63, 3) := by decide +kernel
theorem dX5_seat_12 : decode cX5_seat 12 = .ok (.goto 9, 3) := by decide +kernel
theorem dX5_seat_15 : decode cX5_seat 15 = .ok (.aload_n 0, 1) := by decide +kernel
theorem dX5_seat_16 : decode cX5_seat 16 = .ok (.ldc 50, 2) := by decide +kernel
theorem dX5_seat_18 : decode cX5_seat 18 = .ok (.invokevirtual 67, 3) := by decide +kernel
theorem dX5_seat_21 : decode cX5_seat 21 = .ok (.ireturn, 1) := by decide +kernel
theorem dX5_seatsTaken_0 : decode cX5_seatsTaken 0 = .ok (.iconst 0, 1) := by decide +kernel
theorem dX5_seatsTaken_1 : decode cX5_seatsTaken 1 = .ok (.istore_n 1, 1) := by decide +kernel
theorem dX5_seatsTaken_2 : decode cX5_seatsTaken 2 = .ok (.iconst 0, 1) := by decide +kernel
theorem dX5_seatsTaken_3 : decode cX5_seatsTaken 3 = .ok (.istore_n 2, 1) := by decide +kernel
theorem dX5_seatsTaken_4 : decode cX5_seatsTaken 4 = .ok (.iload_n 2, 1) := by decide +kernel
theorem dX5_seatsTaken_5 : decode cX5_seatsTaken 5 = .ok (.aload_n 0, 1) := by decide +kernel
theorem dX5_seatsTaken_6 : decode cX5_seatsTaken 6 = .ok (.getfield 7, 3) := by decide +kernel
theorem dX5_seatsTaken_9 : decode cX5_seatsTaken 9 = .ok (.iconst 1, 1) := by decide +kernel
theorem dX5_seatsTaken_10 : decode cX5_seatsTaken 10 = .ok (.iaload, 1) := by decide +kernel
theorem dX5_seatsTaken_11 : decode cX5_seatsTaken 11 = .ok (.if_icmp .ge 20, 3) := by decide +kernel
theorem dX5_seatsTaken_14 : decode cX5_seatsTaken 14 = .ok (.iload_n 1, 1) := by decide +kernel
theorem dX5_seatsTaken_15 : decode cX5_seatsTaken 15 = .ok (.iconst 1, 1) := by decide +kernel
theorem dX5_seatsTaken_16 : decode cX5_seatsTaken 16 = .ok (.aload_n 0, 1) := by decide +kernel
theorem dX5_seatsTaken_17 : decode cX5_seatsTaken 17 = .ok (.iload_n 2, 1) := by decide +kernel
theorem dX5_seatsTaken_18 : decode cX5_seatsTaken 18 = .ok (.iconst 1, 1) := by decide +kernel
theorem dX5_seatsTaken_19 : decode cX5_seatsTaken 19 = .ok (.invokevirtual 55, 3) := by decide +kernel
theorem dX5_seatsTaken_22 : decode cX5_seatsTaken 22 = .ok (.ishl, 1) := by decide +kernel
theorem dX5_seatsTaken_23 : decode cX5_seatsTaken 23 = .ok (.ior, 1) := by decide +kernel
theorem dX5_seatsTaken_24 : decode cX5_seatsTaken 24 = .ok (.istore_n 1, 1) := by decide +kernel
theorem dX5_seatsTaken_25 : decode cX5_seatsTaken 25 = .ok (.iinc 2 1, 3) := by decide +kernel
theorem dX5_seatsTaken_28 : decode cX5_seatsTaken 28 = .ok (.goto (-24), 3) := by decide +kernel
theorem dX5_seatsTaken_31 : decode cX5_seatsTaken 31 = .ok (.iload_n 1, 1) := by decide +kernel
theorem dX5_seatsTaken_32 : decode cX5_seatsTaken 32 = .ok (.ireturn, 1) := by decide +kernel
theorem dX5_gaps_0 : decode cX5_gaps 0 = .ok (.aload_n 0, 1) := by decide +kernel
theorem dX5_gaps_1 : decode cX5_gaps 1 = .ok (.invokevirtual 70, 3) := by decide +kernel
theorem dX5_gaps_4 : decode cX5_gaps 4 = .ok (.istore_n 1, 1) := by decide +kernel
theorem dX5_gaps_5 : decode cX5_gaps 5 = .ok (.iconst 0, 1) := by decide +kernel
theorem dX5_gaps_6 : decode cX5_gaps 6 = .ok (.istore_n 2, 1) := by decide +kernel
theorem dX5_gaps_7 : decode cX5_gaps 7 = .ok (.iconst 0, 1) := by decide +kernel
theorem dX5_gaps_8 : decode cX5_gaps 8 = .ok (.istore_n 3, 1) := by decide +kernel
theorem dX5_gaps_9 : decode cX5_gaps 9 = .ok (.iload_n 3, 1) := by decide +kernel
theorem dX5_gaps_10 : decode cX5_gaps 10 = .ok (.bipush 12, 2) := by decide +kernel
theorem dX5_gaps_12 : decode cX5_gaps 12 = .ok (.if_icmp .ge 69, 3) := by decide +kernel
theorem dX5_gaps_15 : decode cX5_gaps 15 = .ok (.iload_n 1, 1) := by decide +kernel
theorem dX5_gaps_16 : decode cX5_gaps 16 = .ok (.iconst 1, 1) := by decide +kernel
theorem dX5_gaps_17 : decode cX5_gaps 17 = .ok (.iload_n 3, 1) := by decide +kernel
theorem dX5_gaps_18 : decode cX5_gaps 18 = .ok (.ishl, 1) := by decide +kernel
theorem dX5_gaps_19 : decode cX5_gaps 19 = .ok (.iconst 1, 1) := by decide +kernel
theorem dX5_gaps_20 : decode cX5_gaps 20 = .ok (.isub, 1) := by decide +kernel
theorem dX5_gaps_21 : decode cX5_gaps 21 = .ok (.iand, 1) := by decide +kernel
theorem dX5_gaps_22 : decode cX5_gaps 22 = .ok (.ifCond .eq 7, 3) := by decide +kernel
theorem dX5_gaps_25 : decode cX5_gaps 25 = .ok (.iconst 1, 1) := by decide +kernel
theorem dX5_gaps_26 : decode cX5_gaps 26 = .ok (.goto 4, 3) := by decide +kernel
theorem dX5_gaps_29 : decode cX5_gaps 29 = .ok (.iconst 0, 1) := by decide +kernel
theorem dX5_gaps_30 : decode cX5_gaps 30 = .ok (.istore 4, 2) := by decide +kernel
theorem dX5_gaps_32 : decode cX5_gaps 32 = .ok (.iload_n 1, 1) := by decide +kernel
theorem dX5_gaps_33 : decode cX5_gaps 33 = .ok (.iload_n 3, 1) := by decide +kernel
theorem dX5_gaps_34 : decode cX5_gaps 34 = .ok (.iconst 1, 1) := by decide +kernel
theorem dX5_gaps_35 : decode cX5_gaps 35 = .ok (.iadd, 1) := by decide +kernel
theorem dX5_gaps_36 : decode cX5_gaps 36 = .ok (.ishr, 1) := by decide +kernel
theorem dX5_gaps_37 : decode cX5_gaps 37 = .ok (.ifCond .eq 7, 3) := by decide +kernel
theorem dX5_gaps_40 : decode cX5_gaps 40 = .ok (.iconst 1, 1) := by decide +kernel
theorem dX5_gaps_41 : decode cX5_gaps 41 = .ok (.goto 4, 3) := by decide +kernel
theorem dX5_gaps_44 : decode cX5_gaps 44 = .ok (.iconst 0, 1) := by decide +kernel
theorem dX5_gaps_45 : decode cX5_gaps 45 = .ok (.istore 5, 2) := by decide +kernel
theorem dX5_gaps_47 : decode cX5_gaps 47 = .ok (.iload_n 2, 1) := by decide +kernel
theorem dX5_gaps_48 : decode cX5_gaps 48 = .ok (.iload_n 1, 1) := by decide +kernel
theorem dX5_gaps_49 : decode cX5_gaps 49 = .ok (.iload_n 3, 1) := by decide +kernel
theorem dX5_gaps_50 : decode cX5_gaps 50 = .ok (.ishr, 1) := by decide +kernel
theorem dX5_gaps_51 : decode cX5_gaps 51 = .ok (.iconst 1, 1) := by decide +kernel
theorem dX5_gaps_52 : decode cX5_gaps 52 = .ok (.iand, 1) := by decide +kernel
theorem dX5_gaps_53 : decode cX5_gaps 53 = .ok (.ifCond .ne 19, 3) := by decide +kernel
theorem dX5_gaps_56 : decode cX5_gaps 56 = .ok (.iload 4, 2) := by decide +kernel
theorem dX5_gaps_58 : decode cX5_gaps 58 = .ok (.ifCond .eq 14, 3) := by decide +kernel
theorem dX5_gaps_61 : decode cX5_gaps 61 = .ok (.iload 5, 2) := by decide +kernel
theorem dX5_gaps_63 : decode cX5_gaps 63 = .ok (.ifCond .eq 9, 3) := by decide +kernel
theorem dX5_gaps_66 : decode cX5_gaps 66 = .ok (.iconst 1, 1) := by decide +kernel
theorem dX5_gaps_67 : decode cX5_gaps 67 = .ok (.iload_n 3, 1) := by decide +kernel
theorem dX5_gaps_68 : decode cX5_gaps 68 = .ok (.ishl, 1) := by decide +kernel
theorem dX5_gaps_69 : decode cX5_gaps 69 = .ok (.goto 4, 3) := by decide +kernel
theorem dX5_gaps_72 : decode cX5_gaps 72 = .ok (.iconst 0, 1) := by decide +kernel
theorem dX5_gaps_73 : decode cX5_gaps 73 = .ok (.ior, 1) := by decide +kernel
theorem dX5_gaps_74 : decode cX5_gaps 74 = .ok (.istore_n 2, 1) := by decide +kernel
theorem dX5_gaps_75 : decode cX5_gaps 75 = .ok (.iinc 3 1, 3) := by decide +kernel
theorem dX5_gaps_78 : decode cX5_gaps 78 = .ok (.goto (-69), 3) := by decide +kernel
theorem dX5_gaps_81 : decode cX5_gaps 81 = .ok (.iload_n 2, 1) := by decide +kernel
theorem dX5_gaps_82 : decode cX5_gaps 82 = .ok (.ireturn, 1) := by decide +kernel
theorem dX5_standing_0 : decode cX5_standing 0 = .ok (.iconst 0, 1) := by decide +kernel
theorem dX5_standing_1 : decode cX5_standing 1 = .ok (.istore_n 1, 1) := by decide +kernel
theorem dX5_standing_2 : decode cX5_standing 2 = .ok (.iconst 0, 1) := by decide +kernel
theorem dX5_standing_3 : decode cX5_standing 3 = .ok (.istore_n 2, 1) := by decide +kernel
theorem dX5_standing_4 : decode cX5_standing 4 = .ok (.iload_n 2, 1) := by decide +kernel
theorem dX5_standing_5 : decode cX5_standing 5 = .ok (.aload_n 0, 1) := by decide +kernel
theorem dX5_standing_6 : decode cX5_standing 6 = .ok (.getfield 7, 3) := by decide +kernel
theorem dX5_standing_9 : decode cX5_standing 9 = .ok (.iconst 1, 1) := by decide +kernel
theorem dX5_standing_10 : decode cX5_standing 10 = .ok (.iaload, 1) := by decide +kernel
theorem dX5_standing_11 : decode cX5_standing 11 = .ok (.if_icmp .ge 20, 3) := by decide +kernel
theorem dX5_standing_14 : decode cX5_standing 14 = .ok (.iload_n 1, 1) := by decide +kernel
theorem dX5_standing_15 : decode cX5_standing 15 = .ok (.iconst 1, 1) := by decide +kernel
theorem dX5_standing_16 : decode cX5_standing 16 = .ok (.aload_n 0, 1) := by decide +kernel
theorem dX5_standing_17 : decode cX5_standing 17 = .ok (.iload_n 2, 1) := by decide +kernel
theorem dX5_standing_18 : decode cX5_standing 18 = .ok (.iconst 2, 1) := by decide +kernel
theorem dX5_standing_19 : decode cX5_standing 19 = .ok (.invokevirtual 55, 3) := by decide +kernel
theorem dX5_standing_22 : decode cX5_standing 22 = .ok (.ishl, 1) := by decide +kernel
theorem dX5_standing_23 : decode cX5_standing 23 = .ok (.ior, 1) := by decide +kernel
theorem dX5_standing_24 : decode cX5_standing 24 = .ok (.istore_n 1, 1) := by decide +kernel
theorem dX5_standing_25 : decode cX5_standing 25 = .ok (.iinc 2 1, 3) := by decide +kernel
theorem dX5_standing_28 : decode cX5_standing 28 = .ok (.goto (-24), 3) := by decide +kernel
theorem dX5_standing_31 : decode cX5_standing 31 = .ok (.iload_n 1, 1) := by decide +kernel
theorem dX5_standing_32 : decode cX5_standing 32 = .ok (.ireturn, 1) := by decide +kernel
theorem dX5_known_0 : decode cX5_known 0 = .ok (.iconst 0, 1) := by decide +kernel
theorem dX5_known_1 : decode cX5_known 1 = .ok (.istore_n 1, 1) := by decide +kernel
theorem dX5_known_2 : decode cX5_known 2 = .ok (.iconst 0, 1) := by decide +kernel
theorem dX5_known_3 : decode cX5_known 3 = .ok (.istore_n 2, 1) := by decide +kernel
theorem dX5_known_4 : decode cX5_known 4 = .ok (.iload_n 2, 1) := by decide +kernel
theorem dX5_known_5 : decode cX5_known 5 = .ok (.aload_n 0, 1) := by decide +kernel
theorem dX5_known_6 : decode cX5_known 6 = .ok (.getfield 7, 3) := by decide +kernel
theorem dX5_known_9 : decode cX5_known 9 = .ok (.iconst 1, 1) := by decide +kernel
theorem dX5_known_10 : decode cX5_known 10 = .ok (.iaload, 1) := by decide +kernel
theorem dX5_known_11 : decode cX5_known 11 = .ok (.if_icmp .ge 18, 3) := by decide +kernel
theorem dX5_known_14 : decode cX5_known 14 = .ok (.iload_n 1, 1) := by decide +kernel
theorem dX5_known_15 : decode cX5_known 15 = .ok (.aload_n 0, 1) := by decide +kernel
theorem dX5_known_16 : decode cX5_known 16 = .ok (.iload_n 2, 1) := by decide +kernel
theorem dX5_known_17 : decode cX5_known 17 = .ok (.iconst 4, 1) := by decide +kernel
theorem dX5_known_18 : decode cX5_known 18 = .ok (.invokevirtual 55, 3) := by decide +kernel
theorem dX5_known_21 : decode cX5_known 21 = .ok (.ior, 1) := by decide +kernel
theorem dX5_known_22 : decode cX5_known 22 = .ok (.istore_n 1, 1) := by decide +kernel
theorem dX5_known_23 : decode cX5_known 23 = .ok (.iinc 2 1, 3) := by decide +kernel
theorem dX5_known_26 : decode cX5_known 26 = .ok (.goto (-22), 3) := by decide +kernel
theorem dX5_known_29 : decode cX5_known 29 = .ok (.iload_n 1, 1) := by decide +kernel
theorem dX5_known_30 : decode cX5_known 30 = .ok (.ireturn, 1) := by decide +kernel
theorem dX5_knownOfAll_0 : decode cX5_knownOfAll 0 = .ok (.iconst 0, 1) := by decide +kernel
theorem dX5_knownOfAll_1 : decode cX5_knownOfAll 1 = .ok (.istore_n 1, 1) := by decide +kernel
theorem dX5_knownOfAll_2 : decode cX5_knownOfAll 2 = .ok (.iconst 0, 1) := by decide +kernel
theorem dX5_knownOfAll_3 : decode cX5_knownOfAll 3 = .ok (.istore_n 2, 1) := by decide +kernel
theorem dX5_knownOfAll_4 : decode cX5_knownOfAll 4 = .ok (.iload_n 2, 1) := by decide +kernel
theorem dX5_knownOfAll_5 : decode cX5_knownOfAll 5 = .ok (.aload_n 0, 1) := by decide +kernel
theorem dX5_knownOfAll_6 : decode cX5_knownOfAll 6 = .ok (.getfield 7, 3) := by decide +kernel
theorem dX5_knownOfAll_9 : decode cX5_knownOfAll 9 = .ok (.iconst 1, 1) := by decide +kernel
theorem dX5_knownOfAll_10 : decode cX5_knownOfAll 10 = .ok (.iaload, 1) := by decide +kernel
theorem dX5_knownOfAll_11 : decode cX5_knownOfAll 11 = .ok (.if_icmp .ge 21, 3) := by decide +kernel
theorem dX5_knownOfAll_14 : decode cX5_knownOfAll 14 = .ok (.iload_n 1, 1) := by decide +kernel
theorem dX5_knownOfAll_15 : decode cX5_knownOfAll 15 = .ok (.aload_n 0, 1) := by decide +kernel
theorem dX5_knownOfAll_16 : decode cX5_knownOfAll 16 = .ok (.iload_n 2, 1) := by decide +kernel
theorem dX5_knownOfAll_17 : decode cX5_knownOfAll 17 = .ok (.iconst 4, 1) := by decide +kernel
theorem dX5_knownOfAll_18 : decode cX5_knownOfAll 18 = .ok (.invokevirtual 55, 3) := by decide +kernel
theorem dX5_knownOfAll_21 : decode cX5_knownOfAll 21 = .ok (.invokestatic 74, 3) := by decide +kernel
theorem dX5_knownOfAll_24 : decode cX5_knownOfAll 24 = .ok (.iadd, 1) := by decide +kernel
theorem dX5_knownOfAll_25 : decode cX5_knownOfAll 25 = .ok (.istore_n 1, 1) := by decide +kernel
theorem dX5_knownOfAll_26 : decode cX5_knownOfAll 26 = .ok (.iinc 2 1, 3) := by decide +kernel
theorem dX5_knownOfAll_29 : decode cX5_knownOfAll 29 = .ok (.goto (-25), 3) := by decide +kernel
theorem dX5_knownOfAll_32 : decode cX5_knownOfAll 32 = .ok (.iload_n 1, 1) := by decide +kernel
theorem dX5_knownOfAll_33 : decode cX5_knownOfAll 33 = .ok (.ireturn, 1) := by decide +kernel
theorem dX5_sumOf_0 : decode cX5_sumOf 0 = .ok (.iconst 0, 1) := by decide +kernel
theorem dX5_sumOf_1 : decode cX5_sumOf 1 = .ok (.istore_n 2, 1) := by decide +kernel
theorem dX5_sumOf_2 : decode cX5_sumOf 2 = .ok (.iconst 0, 1) := by decide +kernel
theorem dX5_sumOf_3 : decode cX5_sumOf 3 = .ok (.istore_n 3, 1) := by decide +kernel
theorem dX5_sumOf_4 : decode cX5_sumOf 4 = .ok (.iload_n 3, 1) := by decide +kernel
theorem dX5_sumOf_5 : decode cX5_sumOf 5 = .ok (.aload_n 0, 1) := by decide +kernel
theorem dX5_sumOf_6 : decode cX5_sumOf 6 = .ok (.getfield 7, 3) := by decide +kernel
theorem dX5_sumOf_9 : decode cX5_sumOf 9 = .ok (.iconst 1, 1) := by decide +kernel
theorem dX5_sumOf_10 : decode cX5_sumOf 10 = .ok (.iaload, 1) := by decide +kernel
theorem dX5_sumOf_11 : decode cX5_sumOf 11 = .ok (.if_icmp .ge 18, 3) := by decide +kernel
theorem dX5_sumOf_14 : decode cX5_sumOf 14 = .ok (.iload_n 2, 1) := by decide +kernel
theorem dX5_sumOf_15 : decode cX5_sumOf 15 = .ok (.aload_n 0, 1) := by decide +kernel
theorem dX5_sumOf_16 : decode cX5_sumOf 16 = .ok (.iload_n 3, 1) := by decide +kernel
theorem dX5_sumOf_17 : decode cX5_sumOf 17 = .ok (.iload_n 1, 1) := by decide +kernel
theorem dX5_sumOf_18 : decode cX5_sumOf 18 = .ok (.invokevirtual 55, 3) := by decide +kernel
theorem dX5_sumOf_21 : decode cX5_sumOf 21 = .ok (.iadd, 1) := by decide +kernel
theorem dX5_sumOf_22 : decode cX5_sumOf 22 = .ok (.istore_n 2, 1) := by decide +kernel
theorem dX5_sumOf_23 : decode cX5_sumOf 23 = .ok (.iinc 3 1, 3) := by decide +kernel
theorem dX5_sumOf_26 : decode cX5_sumOf 26 = .ok (.goto (-22), 3) := by decide +kernel
theorem dX5_sumOf_29 : decode cX5_sumOf 29 = .ok (.iload_n 2, 1) := by decide +kernel
theorem dX5_sumOf_30 : decode cX5_sumOf 30 = .ok (.ireturn, 1) := by decide +kernel
theorem dX5_now_0 : decode cX5_now 0 = .ok (.iload_n 1, 1) := by decide +kernel
theorem dX5_now_1 : decode cX5_now 1 = .ok (.tableswitch 72 0 5 #[39, 46, 51, 56, 61, 66], 39) := by decide +kernel
theorem dX5_now_40 : decode cX5_now 40 = .ok (.aload_n 0, 1) := by decide +kernel
theorem dX5_now_41 : decode cX5_now 41 = .ok (.getfield 7, 3) := by decide +kernel
theorem dX5_now_44 : decode cX5_now 44 = .ok (.iconst 0, 1) := by decide +kernel
theorem dX5_now_45 : decode cX5_now 45 = .ok (.iaload, 1) := by decide +kernel
theorem dX5_now_46 : decode cX5_now 46 = .ok (.ireturn, 1) := by decide +kernel
theorem dX5_now_47 : decode cX5_now 47 = .ok (.aload_n 0, 1) := by decide +kernel
theorem dX5_now_48 : decode cX5_now 48 = .ok (.invokevirtual 77, 3) := by decide +kernel
theorem dX5_now_51 : decode cX5_now 51 = .ok (.ireturn, 1) := by decide +kernel
theorem dX5_now_52 : decode cX5_now 52 = .ok (.aload_n 0, 1) := by decide +kernel
theorem dX5_now_53 : decode cX5_now 53 = .ok (.invokevirtual 80, 3) := by decide +kernel
theorem dX5_now_56 : decode cX5_now 56 = .ok (.ireturn, 1) := by decide +kernel
theorem dX5_now_57 : decode cX5_now 57 = .ok (.aload_n 0, 1) := by decide +kernel
theorem dX5_now_58 : decode cX5_now 58 = .ok (.invokevirtual 83, 3) := by decide +kernel
theorem dX5_now_61 : decode cX5_now 61 = .ok (.ireturn, 1) := by decide +kernel
theorem dX5_now_62 : decode cX5_now 62 = .ok (.aload_n 0, 1) := by decide +kernel
theorem dX5_now_63 : decode cX5_now 63 = .ok (.invokevirtual 86, 3) := by decide +kernel
theorem dX5_now_66 : decode cX5_now 66 = .ok (.ireturn, 1) := by decide +kernel
theorem dX5_now_67 : decode cX5_now 67 = .ok (.aload_n 0, 1) := by decide +kernel
theorem dX5_now_68 : decode cX5_now 68 = .ok (.iconst 5, 1) := by decide +kernel
theorem dX5_now_69 : decode cX5_now 69 = .ok (.invokevirtual 89, 3) := by decide +kernel
theorem dX5_now_72 : decode cX5_now 72 = .ok (.ireturn, 1) := by decide +kernel
theorem dX5_now_73 : decode cX5_now 73 = .ok (.aload_n 0, 1) := by decide +kernel
theorem dX5_now_74 : decode cX5_now 74 = .ok (.ldc 50, 2) := by decide +kernel
theorem dX5_now_76 : decode cX5_now 76 = .ok (.invokevirtual 67, 3) := by decide +kernel
theorem dX5_now_79 : decode cX5_now 79 = .ok (.ireturn, 1) := by decide +kernel
theorem dX5_verse_0 : decode cX5_verse 0 = .ok (.iload_n 1, 1) := by decide +kernel
theorem dX5_verse_1 : decode cX5_verse 1 = .ok (.ifCond .ge 10, 3) := by decide +kernel
theorem dX5_verse_4 : decode cX5_verse 4 = .ok (.aload_n 0, 1) := by decide +kernel
theorem dX5_verse_5 : decode cX5_verse 5 = .ok (.ldc 50, 2) := by decide +kernel
theorem dX5_verse_7 : decode cX5_verse 7 = .ok (.invokevirtual 67, 3) := by decide +kernel
theorem dX5_verse_10 : decode cX5_verse 10 = .ok (.ireturn, 1) := by decide +kernel
theorem dX5_verse_11 : decode cX5_verse 11 = .ok (.iload_n 1, 1) := by decide +kernel
theorem dX5_verse_12 : decode cX5_verse 12 = .ok (.aload_n 0, 1) := by decide +kernel
theorem dX5_verse_13 : decode cX5_verse 13 = .ok (.getfield 7, 3) := by decide +kernel
theorem dX5_verse_16 : decode cX5_verse 16 = .ok (.iconst 1, 1) := by decide +kernel
theorem dX5_verse_17 : decode cX5_verse 17 = .ok (.iaload, 1) := by decide +kernel
theorem dX5_verse_18 : decode cX5_verse 18 = .ok (.if_icmp .lt 10, 3) := by decide +kernel
theorem dX5_verse_21 : decode cX5_verse 21 = .ok (.aload_n 0, 1) := by decide +kernel
theorem dX5_verse_22 : decode cX5_verse 22 = .ok (.ldc 92, 2) := by decide +kernel
theorem dX5_verse_24 : decode cX5_verse 24 = .ok (.invokevirtual 67, 3) := by decide +kernel
theorem dX5_verse_27 : decode cX5_verse 27 = .ok (.ireturn, 1) := by decide +kernel
theorem dX5_verse_28 : decode cX5_verse 28 = .ok (.iload_n 1, 1) := by decide +kernel
theorem dX5_verse_29 : decode cX5_verse 29 = .ok (.istore_n 2, 1) := by decide +kernel
theorem dX5_verse_30 : decode cX5_verse 30 = .ok (.iconst 0, 1) := by decide +kernel
theorem dX5_verse_31 : decode cX5_verse 31 = .ok (.istore_n 3, 1) := by decide +kernel
theorem dX5_verse_32 : decode cX5_verse 32 = .ok (.aload_n 0, 1) := by decide +kernel
theorem dX5_verse_33 : decode cX5_verse 33 = .ok (.iload_n 3, 1) := by decide +kernel
theorem dX5_verse_34 : decode cX5_verse 34 = .ok (.invokevirtual 63, 3) := by decide +kernel
theorem dX5_verse_37 : decode cX5_verse 37 = .ok (.ifCond .lt 7, 3) := by decide +kernel
theorem dX5_verse_40 : decode cX5_verse 40 = .ok (.iload_n 2, 1) := by decide +kernel
theorem dX5_verse_41 : decode cX5_verse 41 = .ok (.ifCond .le 25, 3) := by decide +kernel
theorem dX5_verse_44 : decode cX5_verse 44 = .ok (.iload_n 2, 1) := by decide +kernel
theorem dX5_verse_45 : decode cX5_verse 45 = .ok (.aload_n 0, 1) := by decide +kernel
theorem dX5_verse_46 : decode cX5_verse 46 = .ok (.iload_n 3, 1) := by decide +kernel
theorem dX5_verse_47 : decode cX5_verse 47 = .ok (.invokevirtual 63, 3) := by decide +kernel
theorem dX5_verse_50 : decode cX5_verse 50 = .ok (.ifCond .ge 7, 3) := by decide +kernel
theorem dX5_verse_53 : decode cX5_verse 53 = .ok (.iconst 0, 1) := by decide +kernel
theorem dX5_verse_54 : decode cX5_verse 54 = .ok (.goto 4, 3) := by decide +kernel
theorem dX5_verse_57 : decode cX5_verse 57 = .ok (.iconst 1, 1) := by decide +kernel
theorem dX5_verse_58 : decode cX5_verse 58 = .ok (.isub, 1) := by decide +kernel
theorem dX5_verse_59 : decode cX5_verse 59 = .ok (.istore_n 2, 1) := by decide +kernel
theorem dX5_verse_60 : decode cX5_verse 60 = .ok (.iinc 3 1, 3) := by decide +kernel
theorem dX5_verse_63 : decode cX5_verse 63 = .ok (.goto (-31), 3) := by decide +kernel
theorem dX5_verse_66 : decode cX5_verse 66 = .ok (.aload_n 0, 1) := by decide +kernel
theorem dX5_verse_67 : decode cX5_verse 67 = .ok (.aload_n 0, 1) := by decide +kernel
theorem dX5_verse_68 : decode cX5_verse 68 = .ok (.iload_n 3, 1) := by decide +kernel
theorem dX5_verse_69 : decode cX5_verse 69 = .ok (.invokevirtual 63, 3) := by decide +kernel
theorem dX5_verse_72 : decode cX5_verse 72 = .ok (.iconst 2, 1) := by decide +kernel
theorem dX5_verse_73 : decode cX5_verse 73 = .ok (.invokevirtual 55, 3) := by decide +kernel
theorem dX5_verse_76 : decode cX5_verse 76 = .ok (.ireturn, 1) := by decide +kernel
theorem dX5_feels_0 : decode cX5_feels 0 = .ok (.aload_n 0, 1) := by decide +kernel
theorem dX5_feels_1 : decode cX5_feels 1 = .ok (.iload_n 1, 1) := by decide +kernel
theorem dX5_feels_2 : decode cX5_feels 2 = .ok (.iconst 0, 1) := by decide +kernel
theorem dX5_feels_3 : decode cX5_feels 3 = .ok (.invokevirtual 55, 3) := by decide +kernel
theorem dX5_feels_6 : decode cX5_feels 6 = .ok (.tableswitch 55 1 5 #[36, 55, 34, 36, 38], 34) := by decide +kernel
theorem dX5_feels_40 : decode cX5_feels 40 = .ok (.iconst 0, 1) := by decide +kernel
theorem dX5_feels_41 : decode cX5_feels 41 = .ok (.ireturn, 1) := by decide +kernel
theorem dX5_feels_42 : decode cX5_feels 42 = .ok (.iconst 2, 1) := by decide +kernel
theorem dX5_feels_43 : decode cX5_feels 43 = .ok (.ireturn, 1) := by decide +kernel
theorem dX5_feels_44 : decode cX5_feels 44 = .ok (.aload_n 0, 1) := by decide +kernel
theorem dX5_feels_45 : decode cX5_feels 45 = .ok (.iload_n 1, 1) := by decide +kernel
theorem dX5_feels_46 : decode cX5_feels 46 = .ok (.iconst 5, 1) := by decide +kernel
theorem dX5_feels_47 : decode cX5_feels 47 = .ok (.invokevirtual 55, 3) := by decide +kernel
theorem dX5_feels_50 : decode cX5_feels 50 = .ok (.bipush 10, 2) := by decide +kernel
theorem dX5_feels_52 : decode cX5_feels 52 = .ok (.if_icmp .ge 7, 3) := by decide +kernel
theorem dX5_feels_55 : decode cX5_feels 55 = .ok (.iconst 2, 1) := by decide +kernel
theorem dX5_feels_56 : decode cX5_feels 56 = .ok (.goto 4, 3) := by decide +kernel
theorem dX5_feels_59 : decode cX5_feels 59 = .ok (.iconst 1, 1) := by decide +kernel
theorem dX5_feels_60 : decode cX5_feels 60 = .ok (.ireturn, 1) := by decide +kernel
theorem dX5_feels_61 : decode cX5_feels 61 = .ok (.iconst 1, 1) := by decide +kernel
theorem dX5_feels_62 : decode cX5_feels 62 = .ok (.ireturn, 1) := by decide +kernel
theorem dX5_felt_0 : decode cX5_felt 0 = .ok (.iconst (-1), 1) := by decide +kernel
theorem dX5_felt_1 : decode cX5_felt 1 = .ok (.istore_n 2, 1) := by decide +kernel
theorem dX5_felt_2 : decode cX5_felt 2 = .ok (.aload_n 0, 1) := by decide +kernel
theorem dX5_felt_3 : decode cX5_felt 3 = .ok (.iload_n 1, 1) := by decide +kernel
theorem dX5_felt_4 : decode cX5_felt 4 = .ok (.invokevirtual 93, 3) := by decide +kernel
theorem dX5_felt_7 : decode cX5_felt 7 = .ok (.istore_n 3, 1) := by decide +kernel
theorem dX5_felt_8 : decode cX5_felt 8 = .ok (.iload_n 3, 1) := by decide +kernel
theorem dX5_felt_9 : decode cX5_felt 9 = .ok (.ifCond .le 35, 3) := by decide +kernel
theorem dX5_felt_12 : decode cX5_felt 12 = .ok (.aload_n 0, 1) := by decide +kernel
theorem dX5_felt_13 : decode cX5_felt 13 = .ok (.aload_n 0, 1) := by decide +kernel
theorem dX5_felt_14 : decode cX5_felt 14 = .ok (.iload_n 1, 1) := by decide +kernel
theorem dX5_felt_15 : decode cX5_felt 15 = .ok (.iconst 1, 1) := by decide +kernel
theorem dX5_felt_16 : decode cX5_felt 16 = .ok (.invokevirtual 55, 3) := by decide +kernel
theorem dX5_felt_19 : decode cX5_felt 19 = .ok (.iload_n 3, 1) := by decide +kernel
theorem dX5_felt_20 : decode cX5_felt 20 = .ok (.iadd, 1) := by decide +kernel
theorem dX5_felt_21 : decode cX5_felt 21 = .ok (.invokevirtual 63, 3) := by decide +kernel
theorem dX5_felt_24 : decode cX5_felt 24 = .ok (.istore 4, 2) := by decide +kernel
theorem dX5_felt_26 : decode cX5_felt 26 = .ok (.iload 4, 2) := by decide +kernel
theorem dX5_felt_28 : decode cX5_felt 28 = .ok (.ifCond .ge 7, 3) := by decide +kernel
theorem dX5_felt_31 : decode cX5_felt 31 = .ok (.iload_n 2, 1) := by decide +kernel
theorem dX5_felt_32 : decode cX5_felt 32 = .ok (.goto 5, 3) := by decide +kernel
theorem dX5_felt_35 : decode cX5_felt 35 = .ok (.iload 4, 2) := by decide +kernel
theorem dX5_felt_37 : decode cX5_felt 37 = .ok (.istore_n 2, 1) := by decide +kernel
theorem dX5_felt_38 : decode cX5_felt 38 = .ok (.iinc 3 (-1), 3) := by decide +kernel
theorem dX5_felt_41 : decode cX5_felt 41 = .ok (.goto (-33), 3) := by decide +kernel
theorem dX5_felt_44 : decode cX5_felt 44 = .ok (.iload_n 2, 1) := by decide +kernel
theorem dX5_felt_45 : decode cX5_felt 45 = .ok (.ireturn, 1) := by decide +kernel
theorem dX5_isReading_0 : decode cX5_isReading 0 = .ok (.aload_n 0, 1) := by decide +kernel
theorem dX5_isReading_1 : decode cX5_isReading 1 = .ok (.iload_n 1, 1) := by decide +kernel
theorem dX5_isReading_2 : decode cX5_isReading 2 = .ok (.invokevirtual 96, 3) := by decide +kernel
theorem dX5_isReading_5 : decode cX5_isReading 5 = .ok (.istore_n 2, 1) := by decide +kernel
theorem dX5_isReading_6 : decode cX5_isReading 6 = .ok (.iload_n 2, 1) := by decide +kernel
theorem dX5_isReading_7 : decode cX5_isReading 7 = .ok (.ifCond .lt 14, 3) := by decide +kernel
theorem dX5_isReading_10 : decode cX5_isReading 10 = .ok (.aload_n 0, 1) := by decide +kernel
theorem dX5_isReading_11 : decode cX5_isReading 11 = .ok (.iload_n 1, 1) := by decide +kernel
theorem dX5_isReading_12 : decode cX5_isReading 12 = .ok (.iconst 5, 1) := by decide +kernel
theorem dX5_isReading_13 : decode cX5_isReading 13 = .ok (.invokevirtual 55, 3) := by decide +kernel
theorem dX5_isReading_16 : decode cX5_isReading 16 = .ok (.bipush 60, 2) := by decide +kernel
theorem dX5_isReading_18 : decode cX5_isReading 18 = .ok (.if_icmp .lt 5, 3) := by decide +kernel
theorem dX5_isReading_21 : decode cX5_isReading 21 = .ok (.iconst 0, 1) := by decide +kernel
theorem dX5_isReading_22 : decode cX5_isReading 22 = .ok (.ireturn, 1) := by decide +kernel
theorem dX5_isReading_23 : decode cX5_isReading 23 = .ok (.aload_n 0, 1) := by decide +kernel
theorem dX5_isReading_24 : decode cX5_isReading 24 = .ok (.iload_n 2, 1) := by decide +kernel
theorem dX5_isReading_25 : decode cX5_isReading 25 = .ok (.iconst 3, 1) := by decide +kernel
theorem dX5_isReading_26 : decode cX5_isReading 26 = .ok (.invokevirtual 55, 3) := by decide +kernel
theorem dX5_isReading_29 : decode cX5_isReading 29 = .ok (.istore_n 3, 1) := by decide +kernel
theorem dX5_isReading_30 : decode cX5_isReading 30 = .ok (.iload_n 3, 1) := by decide +kernel
theorem dX5_isReading_31 : decode cX5_isReading 31 = .ok (.aload_n 0, 1) := by decide +kernel
theorem dX5_isReading_32 : decode cX5_isReading 32 = .ok (.getfield 7, 3) := by decide +kernel
theorem dX5_isReading_35 : decode cX5_isReading 35 = .ok (.iconst 0, 1) := by decide +kernel
theorem dX5_isReading_36 : decode cX5_isReading 36 = .ok (.iaload, 1) := by decide +kernel
theorem dX5_isReading_37 : decode cX5_isReading 37 = .ok (.iconst 4, 1) := by decide +kernel
theorem dX5_isReading_38 : decode cX5_isReading 38 = .ok (.irem, 1) := by decide +kernel
theorem dX5_isReading_39 : decode cX5_isReading 39 = .ok (.iadd, 1) := by decide +kernel
theorem dX5_isReading_40 : decode cX5_isReading 40 = .ok (.bipush 7, 2) := by decide +kernel
theorem dX5_isReading_42 : decode cX5_isReading 42 = .ok (.if_icmp .lt 7, 3) := by decide +kernel
theorem dX5_isReading_45 : decode cX5_isReading 45 = .ok (.iconst 1, 1) := by decide +kernel
theorem dX5_isReading_46 : decode cX5_isReading 46 = .ok (.goto 4, 3) := by decide +kernel
theorem dX5_isReading_49 : decode cX5_isReading 49 = .ok (.iconst 0, 1) := by decide +kernel
theorem dX5_isReading_50 : decode cX5_isReading 50 = .ok (.istore 4, 2) := by decide +kernel
theorem dX5_isReading_52 : decode cX5_isReading 52 = .ok (.aload_n 0, 1) := by decide +kernel
theorem dX5_isReading_53 : decode cX5_isReading 53 = .ok (.iload_n 1, 1) := by decide +kernel
theorem dX5_isReading_54 : decode cX5_isReading 54 = .ok (.iconst 0, 1) := by decide +kernel
theorem dX5_isReading_55 : decode cX5_isReading 55 = .ok (.invokevirtual 55, 3) := by decide +kernel
theorem dX5_isReading_58 : decode cX5_isReading 58 = .ok (.tableswitch 65 1 5 #[34, 45, 65, 34, 48], 34) := by decide +kernel
theorem dX5_isReading_92 : decode cX5_isReading 92 = .ok (.iload_n 3, 1) := by decide +kernel
theorem dX5_isReading_93 : decode cX5_isReading 93 = .ok (.iconst 3, 1) := by decide +kernel
theorem dX5_isReading_94 : decode cX5_isReading 94 = .ok (.if_icmp .lt 7, 3) := by decide +kernel
theorem dX5_isReading_97 : decode cX5_isReading 97 = .ok (.iconst 1, 1) := by decide +kernel
theorem dX5_isReading_98 : decode cX5_isReading 98 = .ok (.goto 4, 3) := by decide +kernel
theorem dX5_isReading_101 : decode cX5_isReading 101 = .ok (.iconst 0, 1) := by decide +kernel
theorem dX5_isReading_102 : decode cX5_isReading 102 = .ok (.ireturn, 1) := by decide +kernel
theorem dX5_isReading_103 : decode cX5_isReading 103 = .ok (.iload 4, 2) := by decide +kernel
theorem dX5_isReading_105 : decode cX5_isReading 105 = .ok (.ireturn, 1) := by decide +kernel
theorem dX5_isReading_106 : decode cX5_isReading 106 = .ok (.iload 4, 2) := by decide +kernel
theorem dX5_isReading_108 : decode cX5_isReading 108 = .ok (.ifCond .ne 9, 3) := by decide +kernel
theorem dX5_isReading_111 : decode cX5_isReading 111 = .ok (.iload_n 3, 1) := by decide +kernel
theorem dX5_isReading_112 : decode cX5_isReading 112 = .ok (.bipush 9, 2) := by decide +kernel
theorem dX5_isReading_114 : decode cX5_isReading 114 = .ok (.if_icmp .ne 7, 3) := by decide +kernel
theorem dX5_isReading_117 : decode cX5_isReading 117 = .ok (.iconst 1, 1) := by decide +kernel
theorem dX5_isReading_118 : decode cX5_isReading 118 = .ok (.goto 4, 3) := by decide +kernel
theorem dX5_isReading_121 : decode cX5_isReading 121 = .ok (.iconst 0, 1) := by decide +kernel
theorem dX5_isReading_122 : decode cX5_isReading 122 = .ok (.ireturn, 1) := by decide +kernel
theorem dX5_isReading_123 : decode cX5_isReading 123 = .ok (.iload_n 3, 1) := by decide +kernel
theorem dX5_isReading_124 : decode cX5_isReading 124 = .ok (.iconst 5, 1) := by decide +kernel
theorem dX5_isReading_125 : decode cX5_isReading 125 = .ok (.if_icmp .lt 7, 3) := by decide +kernel
theorem dX5_isReading_128 : decode cX5_isReading 128 = .ok (.iconst 1, 1) := by decide +kernel
theorem dX5_isReading_129 : decode cX5_isReading 129 = .ok (.goto 4, 3) := by decide +kernel
theorem dX5_isReading_132 : decode cX5_isReading 132 = .ok (.iconst 0, 1) := by decide +kernel
theorem dX5_isReading_133 : decode cX5_isReading 133 = .ok (.ireturn, 1) := by decide +kernel
theorem dX5_tells_0 : decode cX5_tells 0 = .ok (.aload_n 0, 1) := by decide +kernel
theorem dX5_tells_1 : decode cX5_tells 1 = .ok (.iload_n 1, 1) := by decide +kernel
theorem dX5_tells_2 : decode cX5_tells 2 = .ok (.iconst 4, 1) := by decide +kernel
theorem dX5_tells_3 : decode cX5_tells 3 = .ok (.invokevirtual 55, 3) := by decide +kernel
theorem dX5_tells_6 : decode cX5_tells 6 = .ok (.istore_n 2, 1) := by decide +kernel
theorem dX5_tells_7 : decode cX5_tells 7 = .ok (.aload_n 0, 1) := by decide +kernel
theorem dX5_tells_8 : decode cX5_tells 8 = .ok (.iload_n 1, 1) := by decide +kernel
theorem dX5_tells_9 : decode cX5_tells 9 = .ok (.iconst 0, 1) := by decide +kernel
theorem dX5_tells_10 : decode cX5_tells 10 = .ok (.invokevirtual 55, 3) := by decide +kernel
theorem dX5_tells_13 : decode cX5_tells 13 = .ok (.tableswitch 71 1 5 #[35, 60, 69, 40, 60], 35) := by decide +kernel
theorem dX5_tells_48 : decode cX5_tells 48 = .ok (.iload_n 2, 1) := by decide +kernel
theorem dX5_tells_49 : decode cX5_tells 49 = .ok (.invokestatic 99, 3) := by decide +kernel
theorem dX5_tells_52 : decode cX5_tells 52 = .ok (.ireturn, 1) := by decide +kernel
theorem dX5_tells_53 : decode cX5_tells 53 = .ok (.iload_n 2, 1) := by decide +kernel
theorem dX5_tells_54 : decode cX5_tells 54 = .ok (.invokestatic 74, 3) := by decide +kernel
theorem dX5_tells_57 : decode cX5_tells 57 = .ok (.iconst 4, 1) := by decide +kernel
theorem dX5_tells_58 : decode cX5_tells 58 = .ok (.if_icmp .lt 10, 3) := by decide +kernel
theorem dX5_tells_61 : decode cX5_tells 61 = .ok (.iload_n 2, 1) := by decide +kernel
theorem dX5_tells_62 : decode cX5_tells 62 = .ok (.invokestatic 102, 3) := by decide +kernel
theorem dX5_tells_65 : decode cX5_tells 65 = .ok (.goto 7, 3) := by decide +kernel
theorem dX5_tells_68 : decode cX5_tells 68 = .ok (.iload_n 2, 1) := by decide +kernel
theorem dX5_tells_69 : decode cX5_tells 69 = .ok (.invokestatic 99, 3) := by decide +kernel
theorem dX5_tells_72 : decode cX5_tells 72 = .ok (.ireturn, 1) := by decide +kernel
theorem dX5_tells_73 : decode cX5_tells 73 = .ok (.iload_n 2, 1) := by decide +kernel
theorem dX5_tells_74 : decode cX5_tells 74 = .ok (.iload_n 2, 1) := by decide +kernel
theorem dX5_tells_75 : decode cX5_tells 75 = .ok (.invokestatic 102, 3) := by decide +kernel
theorem dX5_tells_78 : decode cX5_tells 78 = .ok (.iconst (-1), 1) := by decide +kernel
theorem dX5_tells_79 : decode cX5_tells 79 = .ok (.ixor, 1) := by decide +kernel
theorem dX5_tells_80 : decode cX5_tells 80 = .ok (.iand, 1) := by decide +kernel
theorem dX5_tells_81 : decode cX5_tells 81 = .ok (.ireturn, 1) := by decide +kernel
theorem dX5_tells_82 : decode cX5_tells 82 = .ok (.iload_n 2, 1) := by decide +kernel
theorem dX5_tells_83 : decode cX5_tells 83 = .ok (.ireturn, 1) := by decide +kernel
theorem dX5_tells_84 : decode cX5_tells 84 = .ok (.iconst 0, 1) := by decide +kernel
theorem dX5_tells_85 : decode cX5_tells 85 = .ok (.ireturn, 1) := by decide +kernel
theorem dX5_tires_0 : decode cX5_tires 0 = .ok (.aload_n 0, 1) := by decide +kernel
theorem dX5_tires_1 : decode cX5_tires 1 = .ok (.iload_n 1, 1) := by decide +kernel
theorem dX5_tires_2 : decode cX5_tires 2 = .ok (.invokevirtual 105, 3) := by decide +kernel
theorem dX5_tires_5 : decode cX5_tires 5 = .ok (.ifCond .eq 7, 3) := by decide +kernel
theorem dX5_tires_8 : decode cX5_tires 8 = .ok (.iconst 3, 1) := by decide +kernel
theorem dX5_tires_9 : decode cX5_tires 9 = .ok (.goto 5, 3) := by decide +kernel
theorem dX5_tires_12 : decode cX5_tires 12 = .ok (.bipush (-5), 2) := by decide +kernel
theorem dX5_tires_14 : decode cX5_tires 14 = .ok (.istore_n 2, 1) := by decide +kernel
theorem dX5_tires_15 : decode cX5_tires 15 = .ok (.aload_n 0, 1) := by decide +kernel
theorem dX5_tires_16 : decode cX5_tires 16 = .ok (.iload_n 1, 1) := by decide +kernel
theorem dX5_tires_17 : decode cX5_tires 17 = .ok (.iconst 0, 1) := by decide +kernel
theorem dX5_tires_18 : decode cX5_tires 18 = .ok (.invokevirtual 55, 3) := by decide +kernel
theorem dX5_tires_21 : decode cX5_tires 21 = .ok (.tableswitch 49 1 5 #[35, 43, 47, 39, 43], 35) := by decide +kernel
theorem dX5_tires_56 : decode cX5_tires 56 = .ok (.iload_n 2, 1) := by decide +kernel
theorem dX5_tires_57 : decode cX5_tires 57 = .ok (.iconst 2, 1) := by decide +kernel
theorem dX5_tires_58 : decode cX5_tires 58 = .ok (.iadd, 1) := by decide +kernel
theorem dX5_tires_59 : decode cX5_tires 59 = .ok (.ireturn, 1) := by decide +kernel
theorem dX5_tires_60 : decode cX5_tires 60 = .ok (.iload_n 2, 1) := by decide +kernel
theorem dX5_tires_61 : decode cX5_tires 61 = .ok (.iconst 5, 1) := by decide +kernel
theorem dX5_tires_62 : decode cX5_tires 62 = .ok (.iadd, 1) := by decide +kernel
theorem dX5_tires_63 : decode cX5_tires 63 = .ok (.ireturn, 1) := by decide +kernel
theorem dX5_tires_64 : decode cX5_tires 64 = .ok (.iconst 2, 1) := by decide +kernel
theorem dX5_tires_65 : decode cX5_tires 65 = .ok (.iload_n 2, 1) := by decide +kernel
theorem dX5_tires_66 : decode cX5_tires 66 = .ok (.imul, 1) := by decide +kernel
theorem dX5_tires_67 : decode cX5_tires 67 = .ok (.ireturn, 1) := by decide +kernel
theorem dX5_tires_68 : decode cX5_tires 68 = .ok (.iconst 0, 1) := by decide +kernel
theorem dX5_tires_69 : decode cX5_tires 69 = .ok (.ireturn, 1) := by decide +kernel
theorem dX5_tires_70 : decode cX5_tires 70 = .ok (.iload_n 2, 1) := by decide +kernel
theorem dX5_tires_71 : decode cX5_tires 71 = .ok (.ireturn, 1) := by decide +kernel
theorem dX5_adds_0 : decode cX5_adds 0 = .ok (.aload_n 0, 1) := by decide +kernel
theorem dX5_adds_1 : decode cX5_adds 1 = .ok (.getfield 7, 3) := by decide +kernel
theorem dX5_adds_4 : decode cX5_adds 4 = .ok (.iconst 1, 1) := by decide +kernel
theorem dX5_adds_5 : decode cX5_adds 5 = .ok (.iaload, 1) := by decide +kernel
theorem dX5_adds_6 : decode cX5_adds 6 = .ok (.istore 5, 2) := by decide +kernel
theorem dX5_adds_8 : decode cX5_adds 8 = .ok (.aload_n 0, 1) := by decide +kernel
theorem dX5_adds_9 : decode cX5_adds 9 = .ok (.iload 5, 2) := by decide +kernel
theorem dX5_adds_11 : decode cX5_adds 11 = .ok (.iconst 0, 1) := by decide +kernel
theorem dX5_adds_12 : decode cX5_adds 12 = .ok (.iload_n 1, 1) := by decide +kernel
theorem dX5_adds_13 : decode cX5_adds 13 = .ok (.invokevirtual 108, 3) := by decide +kernel
theorem dX5_adds_16 : decode cX5_adds 16 = .ok (.aload_n 0, 1) := by decide +kernel
theorem dX5_adds_17 : decode cX5_adds 17 = .ok (.iload 5, 2) := by decide +kernel
theorem dX5_adds_19 : decode cX5_adds 19 = .ok (.iconst 1, 1) := by decide +kernel
theorem dX5_adds_20 : decode cX5_adds 20 = .ok (.iload_n 2, 1) := by decide +kernel
theorem dX5_adds_21 : decode cX5_adds 21 = .ok (.invokevirtual 108, 3) := by decide +kernel
theorem dX5_adds_24 : decode cX5_adds 24 = .ok (.aload_n 0, 1) := by decide +kernel
theorem dX5_adds_25 : decode cX5_adds 25 = .ok (.iload 5, 2) := by decide +kernel
theorem dX5_adds_27 : decode cX5_adds 27 = .ok (.iconst 2, 1) := by decide +kernel
theorem dX5_adds_28 : decode cX5_adds 28 = .ok (.iload_n 3, 1) := by decide +kernel
theorem dX5_adds_29 : decode cX5_adds 29 = .ok (.invokevirtual 108, 3) := by decide +kernel
theorem dX5_adds_32 : decode cX5_adds 32 = .ok (.aload_n 0, 1) := by decide +kernel
theorem dX5_adds_33 : decode cX5_adds 33 = .ok (.iload 5, 2) := by decide +kernel
theorem dX5_adds_35 : decode cX5_adds 35 = .ok (.iconst 3, 1) := by decide +kernel
theorem dX5_adds_36 : decode cX5_adds 36 = .ok (.iload 4, 2) := by decide +kernel
theorem dX5_adds_38 : decode cX5_adds 38 = .ok (.invokevirtual 108, 3) := by decide +kernel
theorem dX5_adds_41 : decode cX5_adds 41 = .ok (.aload_n 0, 1) := by decide +kernel
theorem dX5_adds_42 : decode cX5_adds 42 = .ok (.iload 5, 2) := by decide +kernel
theorem dX5_adds_44 : decode cX5_adds 44 = .ok (.iconst 4, 1) := by decide +kernel
theorem dX5_adds_45 : decode cX5_adds 45 = .ok (.iconst 0, 1) := by decide +kernel
theorem dX5_adds_46 : decode cX5_adds 46 = .ok (.invokevirtual 108, 3) := by decide +kernel
theorem dX5_adds_49 : decode cX5_adds 49 = .ok (.aload_n 0, 1) := by decide +kernel
theorem dX5_adds_50 : decode cX5_adds 50 = .ok (.iload 5, 2) := by decide +kernel
theorem dX5_adds_52 : decode cX5_adds 52 = .ok (.iconst 5, 1) := by decide +kernel
theorem dX5_adds_53 : decode cX5_adds 53 = .ok (.iconst 0, 1) := by decide +kernel
theorem dX5_adds_54 : decode cX5_adds 54 = .ok (.invokevirtual 108, 3) := by decide +kernel
theorem dX5_adds_57 : decode cX5_adds 57 = .ok (.aload_n 0, 1) := by decide +kernel
theorem dX5_adds_58 : decode cX5_adds 58 = .ok (.getfield 7, 3) := by decide +kernel
theorem dX5_adds_61 : decode cX5_adds 61 = .ok (.iconst 1, 1) := by decide +kernel
theorem dX5_adds_62 : decode cX5_adds 62 = .ok (.dup2, 1) := by decide +kernel
theorem dX5_adds_63 : decode cX5_adds 63 = .ok (.iaload, 1) := by decide +kernel
theorem dX5_adds_64 : decode cX5_adds 64 = .ok (.iconst 1, 1) := by decide +kernel
theorem dX5_adds_65 : decode cX5_adds 65 = .ok (.iadd, 1) := by decide +kernel
theorem dX5_adds_66 : decode cX5_adds 66 = .ok (.iastore, 1) := by decide +kernel
theorem dX5_adds_67 : decode cX5_adds 67 = .ok (.return_, 1) := by decide +kernel
theorem dX5_member_0 : decode cX5_member 0 = .ok (.iload_n 1, 1) := by decide +kernel
theorem dX5_member_1 : decode cX5_member 1 = .ok (.invokestatic 112, 3) := by decide +kernel
theorem dX5_member_4 : decode cX5_member 4 = .ok (.ifCond .eq 17, 3) := by decide +kernel
theorem dX5_member_7 : decode cX5_member 7 = .ok (.iload_n 2, 1) := by decide +kernel
theorem dX5_member_8 : decode cX5_member 8 = .ok (.invokestatic 59, 3) := by decide +kernel
theorem dX5_member_11 : decode cX5_member 11 = .ok (.ifCond .eq 10, 3) := by decide +kernel
theorem dX5_member_14 : decode cX5_member 14 = .ok (.iload_n 3, 1) := by decide +kernel
theorem dX5_member_15 : decode cX5_member 15 = .ok (.invokestatic 115, 3) := by decide +kernel
theorem dX5_member_18 : decode cX5_member 18 = .ok (.ifCond .ne 10, 3) := by decide +kernel
theorem dX5_member_21 : decode cX5_member 21 = .ok (.aload_n 0, 1) := by decide +kernel
theorem dX5_member_22 : decode cX5_member 22 = .ok (.ldc 50, 2) := by decide +kernel
theorem dX5_member_24 : decode cX5_member 24 = .ok (.invokevirtual 67, 3) := by decide +kernel
theorem dX5_member_27 : decode cX5_member 27 = .ok (.ireturn, 1) := by decide +kernel
theorem dX5_member_28 : decode cX5_member 28 = .ok (.aload_n 0, 1) := by decide +kernel
theorem dX5_member_29 : decode cX5_member 29 = .ok (.getfield 7, 3) := by decide +kernel
theorem dX5_member_32 : decode cX5_member 32 = .ok (.iconst 1, 1) := by decide +kernel
theorem dX5_member_33 : decode cX5_member 33 = .ok (.iaload, 1) := by decide +kernel
theorem dX5_member_34 : decode cX5_member 34 = .ok (.bipush 10, 2) := by decide +kernel
theorem dX5_member_36 : decode cX5_member 36 = .ok (.if_icmp .ne 10, 3) := by decide +kernel
theorem dX5_member_39 : decode cX5_member 39 = .ok (.aload_n 0, 1) := by decide +kernel
theorem dX5_member_40 : decode cX5_member 40 = .ok (.ldc 118, 2) := by decide +kernel
theorem dX5_member_42 : decode cX5_member 42 = .ok (.invokevirtual 67, 3) := by decide +kernel
theorem dX5_member_45 : decode cX5_member 45 = .ok (.ireturn, 1) := by decide +kernel
theorem dX5_member_46 : decode cX5_member 46 = .ok (.aload_n 0, 1) := by decide +kernel
theorem dX5_member_47 : decode cX5_member 47 = .ok (.iload_n 2, 1) := by decide +kernel
theorem dX5_member_48 : decode cX5_member 48 = .ok (.invokevirtual 63, 3) := by decide +kernel
theorem dX5_member_51 : decode cX5_member 51 = .ok (.ifCond .lt 10, 3) := by decide +kernel
theorem dX5_member_54 : decode cX5_member 54 = .ok (.aload_n 0, 1) := by decide +kernel
theorem dX5_member_55 : decode cX5_member 55 = .ok (.ldc 119, 2) := by decide +kernel
theorem dX5_member_57 : decode cX5_member 57 = .ok (.invokevirtual 67, 3) := by decide +kernel
theorem dX5_member_60 : decode cX5_member 60 = .ok (.ireturn, 1) := by decide +kernel
theorem dX5_member_61 : decode cX5_member 61 = .ok (.aload_n 0, 1) := by decide +kernel
theorem dX5_member_62 : decode cX5_member 62 = .ok (.iload_n 1, 1) := by decide +kernel
theorem dX5_member_63 : decode cX5_member 63 = .ok (.iload_n 2, 1) := by decide +kernel
theorem dX5_member_64 : decode cX5_member 64 = .ok (.iload_n 3, 1) := by decide +kernel
theorem dX5_member_65 : decode cX5_member 65 = .ok (.iconst 5, 1) := by decide +kernel
theorem dX5_member_66 : decode cX5_member 66 = .ok (.invokevirtual 120, 3) := by decide +kernel
theorem dX5_member_69 : decode cX5_member 69 = .ok (.aload_n 0, 1) := by decide +kernel
theorem dX5_member_70 : decode cX5_member 70 = .ok (.getfield 7, 3) := by decide +kernel
theorem dX5_member_73 : decode cX5_member 73 = .ok (.iconst 1, 1) := by decide +kernel
theorem dX5_member_74 : decode cX5_member 74 = .ok (.iaload, 1) := by decide +kernel
theorem dX5_member_75 : decode cX5_member 75 = .ok (.iconst 1, 1) := by decide +kernel
theorem dX5_member_76 : decode cX5_member 76 = .ok (.isub, 1) := by decide +kernel
theorem dX5_member_77 : decode cX5_member 77 = .ok (.ireturn, 1) := by decide +kernel
theorem dX5_of_0 : decode cX5_of 0 = .ok (.aload_n 0, 1) := by decide +kernel
theorem dX5_of_1 : decode cX5_of 1 = .ok (.iload_n 1, 1) := by decide +kernel
theorem dX5_of_2 : decode cX5_of 2 = .ok (.invokevirtual 124, 3) := by decide +kernel
theorem dX5_of_5 : decode cX5_of 5 = .ok (.ifCond .eq 13, 3) := by decide +kernel
theorem dX5_of_8 : decode cX5_of 8 = .ok (.iload_n 2, 1) := by decide +kernel
theorem dX5_of_9 : decode cX5_of 9 = .ok (.iconst 0, 1) := by decide +kernel
theorem dX5_of_10 : decode cX5_of 10 = .ok (.bipush 9, 2) := by decide +kernel
theorem dX5_of_12 : decode cX5_of 12 = .ok (.invokestatic 51, 3) := by decide +kernel
theorem dX5_of_15 : decode cX5_of 15 = .ok (.ifCond .ne 10, 3) := by decide +kernel
theorem dX5_of_18 : decode cX5_of 18 = .ok (.aload_n 0, 1) := by decide +kernel
theorem dX5_of_19 : decode cX5_of 19 = .ok (.ldc 50, 2) := by decide +kernel
theorem dX5_of_21 : decode cX5_of 21 = .ok (.invokevirtual 67, 3) := by decide +kernel
theorem dX5_of_24 : decode cX5_of 24 = .ok (.ireturn, 1) := by decide +kernel
theorem dX5_of_25 : decode cX5_of 25 = .ok (.iload_n 2, 1) := by decide +kernel
theorem dX5_of_26 : decode cX5_of 26 = .ok (.tableswitch 62 6 9 #[30, 36, 42, 56], 30) := by decide +kernel
theorem dX5_of_56 : decode cX5_of 56 = .ok (.aload_n 0, 1) := by decide +kernel
theorem dX5_of_57 : decode cX5_of 57 = .ok (.iload_n 1, 1) := by decide +kernel
theorem dX5_of_58 : decode cX5_of 58 = .ok (.invokevirtual 93, 3) := by decide +kernel
theorem dX5_of_61 : decode cX5_of 61 = .ok (.ireturn, 1) := by decide +kernel
theorem dX5_of_62 : decode cX5_of 62 = .ok (.aload_n 0, 1) := by decide +kernel
theorem dX5_of_63 : decode cX5_of 63 = .ok (.iload_n 1, 1) := by decide +kernel
theorem dX5_of_64 : decode cX5_of 64 = .ok (.invokevirtual 96, 3) := by decide +kernel
theorem dX5_of_67 : decode cX5_of 67 = .ok (.ireturn, 1) := by decide +kernel
theorem dX5_of_68 : decode cX5_of 68 = .ok (.aload_n 0, 1) := by decide +kernel
theorem dX5_of_69 : decode cX5_of 69 = .ok (.iload_n 1, 1) := by decide +kernel
theorem dX5_of_70 : decode cX5_of 70 = .ok (.invokevirtual 105, 3) := by decide +kernel
theorem dX5_of_73 : decode cX5_of 73 = .ok (.ifCond .eq 7, 3) := by decide +kernel
theorem dX5_of_76 : decode cX5_of 76 = .ok (.iconst 1, 1) := by decide +kernel
theorem dX5_of_77 : decode cX5_of 77 = .ok (.goto 4, 3) := by decide +kernel
theorem dX5_of_80 : decode cX5_of 80 = .ok (.iconst 0, 1) := by decide +kernel
theorem dX5_of_81 : decode cX5_of 81 = .ok (.ireturn, 1) := by decide +kernel
theorem dX5_of_82 : decode cX5_of 82 = .ok (.aload_n 0, 1) := by decide +kernel
theorem dX5_of_83 : decode cX5_of 83 = .ok (.iload_n 1, 1) := by decide +kernel
theorem dX5_of_84 : decode cX5_of 84 = .ok (.invokevirtual 127, 3) := by decide +kernel
theorem dX5_of_87 : decode cX5_of 87 = .ok (.ireturn, 1) := by decide +kernel
theorem dX5_of_88 : decode cX5_of 88 = .ok (.aload_n 0, 1) := by decide +kernel
theorem dX5_of_89 : decode cX5_of 89 = .ok (.iload_n 1, 1) := by decide +kernel
theorem dX5_of_90 : decode cX5_of 90 = .ok (.iload_n 2, 1) := by decide +kernel
theorem dX5_of_91 : decode cX5_of 91 = .ok (.invokevirtual 55, 3) := by decide +kernel
theorem dX5_of_94 : decode cX5_of 94 = .ok (.ireturn, 1) := by decide +kernel
theorem dX5_isPart_0 : decode cX5_isPart 0 = .ok (.iload_n 0, 1) := by decide +kernel
theorem dX5_isPart_1 : decode cX5_isPart 1 = .ok (.tableswitch 49 2 4 #[27, 32, 40], 27) := by decide +kernel
theorem dX5_isPart_28 : decode cX5_isPart 28 = .ok (.iload_n 1, 1) := by decide +kernel
theorem dX5_isPart_29 : decode cX5_isPart 29 = .ok (.invokestatic 115, 3) := by decide +kernel
theorem dX5_isPart_32 : decode cX5_isPart 32 = .ok (.ireturn, 1) := by decide +kernel
theorem dX5_isPart_33 : decode cX5_isPart 33 = .ok (.iload_n 1, 1) := by decide +kernel
theorem dX5_isPart_34 : decode cX5_isPart 34 = .ok (.iconst 1, 1) := by decide +kernel
theorem dX5_isPart_35 : decode cX5_isPart 35 = .ok (.bipush 9, 2) := by decide +kernel
theorem dX5_isPart_37 : decode cX5_isPart 37 = .ok (.invokestatic 51, 3) := by decide +kernel
theorem dX5_isPart_40 : decode cX5_isPart 40 = .ok (.ireturn, 1) := by decide +kernel
theorem dX5_isPart_41 : decode cX5_isPart 41 = .ok (.iload_n 1, 1) := by decide +kernel
theorem dX5_isPart_42 : decode cX5_isPart 42 = .ok (.iconst 0, 1) := by decide +kernel
theorem dX5_isPart_43 : decode cX5_isPart 43 = .ok (.sipush 1023, 3) := by decide +kernel
theorem dX5_isPart_46 : decode cX5_isPart 46 = .ok (.invokestatic 51, 3) := by decide +kernel
theorem dX5_isPart_49 : decode cX5_isPart 49 = .ok (.ireturn, 1) := by decide +kernel
theorem dX5_isPart_50 : decode cX5_isPart 50 = .ok (.iload_n 0, 1) := by decide +kernel
theorem dX5_isPart_51 : decode cX5_isPart 51 = .ok (.iconst 5, 1) := by decide +kernel
theorem dX5_isPart_52 : decode cX5_isPart 52 = .ok (.if_icmp .ne 17, 3) := by decide +kernel
theorem dX5_isPart_55 : decode cX5_isPart 55 = .ok (.iload_n 1, 1) := by decide +kernel
theorem dX5_isPart_56 : decode cX5_isPart 56 = .ok (.iconst 0, 1) := by decide +kernel
theorem dX5_isPart_57 : decode cX5_isPart 57 = .ok (.bipush 99, 2) := by decide +kernel
theorem dX5_isPart_59 : decode cX5_isPart 59 = .ok (.invokestatic 51, 3) := by decide +kernel
theorem dX5_isPart_62 : decode cX5_isPart 62 = .ok (.ifCond .eq 7, 3) := by decide +kernel
theorem dX5_isPart_65 : decode cX5_isPart 65 = .ok (.iconst 1, 1) := by decide +kernel
theorem dX5_isPart_66 : decode cX5_isPart 66 = .ok (.goto 4, 3) := by decide +kernel
theorem dX5_isPart_69 : decode cX5_isPart 69 = .ok (.iconst 0, 1) := by decide +kernel
theorem dX5_isPart_70 : decode cX5_isPart 70 = .ok (.ireturn, 1) := by decide +kernel
theorem dX5_set_0 : decode cX5_set 0 = .ok (.aload_n 0, 1) := by decide +kernel
theorem dX5_set_1 : decode cX5_set 1 = .ok (.iload_n 1, 1) := by decide +kernel
theorem dX5_set_2 : decode cX5_set 2 = .ok (.invokevirtual 124, 3) := by decide +kernel
theorem dX5_set_5 : decode cX5_set 5 = .ok (.ifCond .eq 27, 3) := by decide +kernel
theorem dX5_set_8 : decode cX5_set 8 = .ok (.iload_n 2, 1) := by decide +kernel
theorem dX5_set_9 : decode cX5_set 9 = .ok (.iload_n 3, 1) := by decide +kernel
theorem dX5_set_10 : decode cX5_set 10 = .ok (.invokestatic 130, 3) := by decide +kernel
theorem dX5_set_13 : decode cX5_set 13 = .ok (.ifCond .eq 19, 3) := by decide +kernel
theorem dX5_set_16 : decode cX5_set 16 = .ok (.aload_n 0, 1) := by decide +kernel
theorem dX5_set_17 : decode cX5_set 17 = .ok (.iconst 2, 1) := by decide +kernel
theorem dX5_set_18 : decode cX5_set 18 = .ok (.bipush 6, 2) := by decide +kernel
theorem dX5_set_20 : decode cX5_set 20 = .ok (.iload_n 1, 1) := by decide +kernel
theorem dX5_set_21 : decode cX5_set 21 = .ok (.imul, 1) := by decide +kernel
theorem dX5_set_22 : decode cX5_set 22 = .ok (.iadd, 1) := by decide +kernel
theorem dX5_set_23 : decode cX5_set 23 = .ok (.iload_n 2, 1) := by decide +kernel
theorem dX5_set_24 : decode cX5_set 24 = .ok (.iadd, 1) := by decide +kernel
theorem dX5_set_25 : decode cX5_set 25 = .ok (.iload_n 3, 1) := by decide +kernel
theorem dX5_set_26 : decode cX5_set 26 = .ok (.invokevirtual 134, 3) := by decide +kernel
theorem dX5_set_29 : decode cX5_set 29 = .ok (.goto 9, 3) := by decide +kernel
theorem dX5_set_32 : decode cX5_set 32 = .ok (.aload_n 0, 1) := by decide +kernel
theorem dX5_set_33 : decode cX5_set 33 = .ok (.ldc 50, 2) := by decide +kernel
theorem dX5_set_35 : decode cX5_set 35 = .ok (.invokevirtual 67, 3) := by decide +kernel
theorem dX5_set_38 : decode cX5_set 38 = .ok (.ireturn, 1) := by decide +kernel
theorem dX5_move_0 : decode cX5_move 0 = .ok (.aload_n 0, 1) := by decide +kernel
theorem dX5_move_1 : decode cX5_move 1 = .ok (.iload_n 1, 1) := by decide +kernel
theorem dX5_move_2 : decode cX5_move 2 = .ok (.invokevirtual 124, 3) := by decide +kernel
theorem dX5_move_5 : decode cX5_move 5 = .ok (.ifCond .eq 10, 3) := by decide +kernel
theorem dX5_move_8 : decode cX5_move 8 = .ok (.iload_n 2, 1) := by decide +kernel
theorem dX5_move_9 : decode cX5_move 9 = .ok (.invokestatic 59, 3) := by decide +kernel
theorem dX5_move_12 : decode cX5_move 12 = .ok (.ifCond .ne 10, 3) := by decide +kernel
theorem dX5_move_15 : decode cX5_move 15 = .ok (.aload_n 0, 1) := by decide +kernel
theorem dX5_move_16 : decode cX5_move 16 = .ok (.ldc 50, 2) := by decide +kernel
theorem dX5_move_18 : decode cX5_move 18 = .ok (.invokevirtual 67, 3) := by decide +kernel
theorem dX5_move_21 : decode cX5_move 21 = .ok (.ireturn, 1) := by decide +kernel
theorem dX5_move_22 : decode cX5_move 22 = .ok (.aload_n 0, 1) := by decide +kernel
theorem dX5_move_23 : decode cX5_move 23 = .ok (.iload_n 2, 1) := by decide +kernel
theorem dX5_move_24 : decode cX5_move 24 = .ok (.invokevirtual 63, 3) := by decide +kernel
theorem dX5_move_27 : decode cX5_move 27 = .ok (.istore_n 3, 1) := by decide +kernel
theorem dX5_move_28 : decode cX5_move 28 = .ok (.iload_n 3, 1) := by decide +kernel
theorem dX5_move_29 : decode cX5_move 29 = .ok (.ifCond .lt 17, 3) := by decide +kernel
theorem dX5_move_32 : decode cX5_move 32 = .ok (.iload_n 3, 1) := by decide +kernel
theorem dX5_move_33 : decode cX5_move 33 = .ok (.iload_n 1, 1) := by decide +kernel
theorem dX5_move_34 : decode cX5_move 34 = .ok (.if_icmp .eq 12, 3) := by decide +kernel
theorem dX5_move_37 : decode cX5_move 37 = .ok (.aload_n 0, 1) := by decide +kernel
theorem dX5_move_38 : decode cX5_move 38 = .ok (.ldc 119, 2) := by decide +kernel
theorem dX5_move_40 : decode cX5_move 40 = .ok (.invokevirtual 67, 3) := by decide +kernel
theorem dX5_move_43 : decode cX5_move 43 = .ok (.goto 16, 3) := by decide +kernel
theorem dX5_move_46 : decode cX5_move 46 = .ok (.aload_n 0, 1) := by decide +kernel
theorem dX5_move_47 : decode cX5_move 47 = .ok (.iconst 2, 1) := by decide +kernel
theorem dX5_move_48 : decode cX5_move 48 = .ok (.bipush 6, 2) := by decide +kernel
theorem dX5_move_50 : decode cX5_move 50 = .ok (.iload_n 1, 1) := by decide +kernel
theorem dX5_move_51 : decode cX5_move 51 = .ok (.imul, 1) := by decide +kernel
theorem dX5_move_52 : decode cX5_move 52 = .ok (.iadd, 1) := by decide +kernel
theorem dX5_move_53 : decode cX5_move 53 = .ok (.iconst 1, 1) := by decide +kernel
theorem dX5_move_54 : decode cX5_move 54 = .ok (.iadd, 1) := by decide +kernel
theorem dX5_move_55 : decode cX5_move 55 = .ok (.iload_n 2, 1) := by decide +kernel
theorem dX5_move_56 : decode cX5_move 56 = .ok (.invokevirtual 134, 3) := by decide +kernel
theorem dX5_move_59 : decode cX5_move 59 = .ok (.ireturn, 1) := by decide +kernel
theorem dX5_turn_0 : decode cX5_turn 0 = .ok (.aload_n 0, 1) := by decide +kernel
theorem dX5_turn_1 : decode cX5_turn 1 = .ok (.iload_n 1, 1) := by decide +kernel
theorem dX5_turn_2 : decode cX5_turn 2 = .ok (.invokevirtual 124, 3) := by decide +kernel
theorem dX5_turn_5 : decode cX5_turn 5 = .ok (.ifCond .eq 24, 3) := by decide +kernel
theorem dX5_turn_8 : decode cX5_turn 8 = .ok (.iload_n 2, 1) := by decide +kernel
theorem dX5_turn_9 : decode cX5_turn 9 = .ok (.invokestatic 112, 3) := by decide +kernel
theorem dX5_turn_12 : decode cX5_turn 12 = .ok (.ifCond .eq 17, 3) := by decide +kernel
theorem dX5_turn_15 : decode cX5_turn 15 = .ok (.aload_n 0, 1) := by decide +kernel
theorem dX5_turn_16 : decode cX5_turn 16 = .ok (.iconst 2, 1) := by decide +kernel
theorem dX5_turn_17 : decode cX5_turn 17 = .ok (.bipush 6, 2) := by decide +kernel
theorem dX5_turn_19 : decode cX5_turn 19 = .ok (.iload_n 1, 1) := by decide +kernel
theorem dX5_turn_20 : decode cX5_turn 20 = .ok (.imul, 1) := by decide +kernel
theorem dX5_turn_21 : decode cX5_turn 21 = .ok (.iadd, 1) := by decide +kernel
theorem dX5_turn_22 : decode cX5_turn 22 = .ok (.iload_n 2, 1) := by decide +kernel
theorem dX5_turn_23 : decode cX5_turn 23 = .ok (.invokevirtual 134, 3) := by decide +kernel
theorem dX5_turn_26 : decode cX5_turn 26 = .ok (.goto 9, 3) := by decide +kernel
theorem dX5_turn_29 : decode cX5_turn 29 = .ok (.aload_n 0, 1) := by decide +kernel
theorem dX5_turn_30 : decode cX5_turn 30 = .ok (.ldc 50, 2) := by decide +kernel
theorem dX5_turn_32 : decode cX5_turn 32 = .ok (.invokevirtual 67, 3) := by decide +kernel
theorem dX5_turn_35 : decode cX5_turn 35 = .ok (.ireturn, 1) := by decide +kernel
theorem dX5_as_0 : decode cX5_as 0 = .ok (.aload_n 0, 1) := by decide +kernel
theorem dX5_as_1 : decode cX5_as 1 = .ok (.iload_n 1, 1) := by decide +kernel
theorem dX5_as_2 : decode cX5_as 2 = .ok (.invokevirtual 124, 3) := by decide +kernel
theorem dX5_as_5 : decode cX5_as 5 = .ok (.ifCond .eq 10, 3) := by decide +kernel
theorem dX5_as_8 : decode cX5_as 8 = .ok (.iload_n 2, 1) := by decide +kernel
theorem dX5_as_9 : decode cX5_as 9 = .ok (.invokestatic 112, 3) := by decide +kernel
theorem dX5_as_12 : decode cX5_as 12 = .ok (.ifCond .ne 10, 3) := by decide +kernel
theorem dX5_as_15 : decode cX5_as 15 = .ok (.aload_n 0, 1) := by decide +kernel
theorem dX5_as_16 : decode cX5_as 16 = .ok (.ldc 50, 2) := by decide +kernel
theorem dX5_as_18 : decode cX5_as 18 = .ok (.invokevirtual 67, 3) := by decide +kernel
theorem dX5_as_21 : decode cX5_as 21 = .ok (.ireturn, 1) := by decide +kernel
theorem dX5_as_22 : decode cX5_as 22 = .ok (.aload_n 0, 1) := by decide +kernel
theorem dX5_as_23 : decode cX5_as 23 = .ok (.iload_n 1, 1) := by decide +kernel
theorem dX5_as_24 : decode cX5_as 24 = .ok (.iconst 0, 1) := by decide +kernel
theorem dX5_as_25 : decode cX5_as 25 = .ok (.invokevirtual 55, 3) := by decide +kernel
theorem dX5_as_28 : decode cX5_as 28 = .ok (.istore_n 3, 1) := by decide +kernel
theorem dX5_as_29 : decode cX5_as 29 = .ok (.iload_n 2, 1) := by decide +kernel
theorem dX5_as_30 : decode cX5_as 30 = .ok (.ifCond .eq 28, 3) := by decide +kernel
theorem dX5_as_33 : decode cX5_as 33 = .ok (.iload_n 2, 1) := by decide +kernel
theorem dX5_as_34 : decode cX5_as 34 = .ok (.iload_n 3, 1) := by decide +kernel
theorem dX5_as_35 : decode cX5_as 35 = .ok (.if_icmp .eq 23, 3) := by decide +kernel
theorem dX5_as_38 : decode cX5_as 38 = .ok (.iload_n 2, 1) := by decide +kernel
theorem dX5_as_39 : decode cX5_as 39 = .ok (.iconst 1, 1) := by decide +kernel
theorem dX5_as_40 : decode cX5_as 40 = .ok (.if_icmp .ne 8, 3) := by decide +kernel
theorem dX5_as_43 : decode cX5_as 43 = .ok (.iload_n 3, 1) := by decide +kernel
theorem dX5_as_44 : decode cX5_as 44 = .ok (.iconst 4, 1) := by decide +kernel
theorem dX5_as_45 : decode cX5_as 45 = .ok (.if_icmp .eq 13, 3) := by decide +kernel
theorem dX5_as_48 : decode cX5_as 48 = .ok (.iload_n 2, 1) := by decide +kernel
theorem dX5_as_49 : decode cX5_as 49 = .ok (.iconst 2, 1) := by decide +kernel
theorem dX5_as_50 : decode cX5_as 50 = .ok (.if_icmp .ne 12, 3) := by decide +kernel
theorem dX5_as_53 : decode cX5_as 53 = .ok (.iload_n 3, 1) := by decide +kernel
theorem dX5_as_54 : decode cX5_as 54 = .ok (.iconst 5, 1) := by decide +kernel
theorem dX5_as_55 : decode cX5_as 55 = .ok (.if_icmp .ne 7, 3) := by decide +kernel
theorem dX5_as_58 : decode cX5_as 58 = .ok (.iconst 1, 1) := by decide +kernel
theorem dX5_as_59 : decode cX5_as 59 = .ok (.goto 4, 3) := by decide +kernel
theorem dX5_as_62 : decode cX5_as 62 = .ok (.iconst 0, 1) := by decide +kernel
theorem dX5_as_63 : decode cX5_as 63 = .ok (.istore 4, 2) := by decide +kernel
theorem dX5_as_65 : decode cX5_as 65 = .ok (.iload 4, 2) := by decide +kernel
theorem dX5_as_67 : decode cX5_as 67 = .ok (.ifCond .eq 12, 3) := by decide +kernel
theorem dX5_as_70 : decode cX5_as 70 = .ok (.aload_n 0, 1) := by decide +kernel
theorem dX5_as_71 : decode cX5_as 71 = .ok (.iload_n 1, 1) := by decide +kernel
theorem dX5_as_72 : decode cX5_as 72 = .ok (.iconst 4, 1) := by decide +kernel
theorem dX5_as_73 : decode cX5_as 73 = .ok (.invokevirtual 55, 3) := by decide +kernel
theorem dX5_as_76 : decode cX5_as 76 = .ok (.goto 9, 3) := by decide +kernel
theorem dX5_as_79 : decode cX5_as 79 = .ok (.aload_n 0, 1) := by decide +kernel
theorem dX5_as_80 : decode cX5_as 80 = .ok (.ldc 137, 2) := by decide +kernel
theorem dX5_as_82 : decode cX5_as 82 = .ok (.invokevirtual 67, 3) := by decide +kernel
theorem dX5_as_85 : decode cX5_as 85 = .ok (.ireturn, 1) := by decide +kernel
theorem dX5_got_0 : decode cX5_got 0 = .ok (.aload_n 0, 1) := by decide +kernel
theorem dX5_got_1 : decode cX5_got 1 = .ok (.iload_n 1, 1) := by decide +kernel
theorem dX5_got_2 : decode cX5_got 2 = .ok (.invokevirtual 105, 3) := by decide +kernel
theorem dX5_got_5 : decode cX5_got 5 = .ok (.ifCond .eq 18, 3) := by decide +kernel
theorem dX5_got_8 : decode cX5_got 8 = .ok (.iconst 1, 1) := by decide +kernel
theorem dX5_got_9 : decode cX5_got 9 = .ok (.aload_n 0, 1) := by decide +kernel
theorem dX5_got_10 : decode cX5_got 10 = .ok (.aload_n 0, 1) := by decide +kernel
theorem dX5_got_11 : decode cX5_got 11 = .ok (.iload_n 1, 1) := by decide +kernel
theorem dX5_got_12 : decode cX5_got 12 = .ok (.invokevirtual 96, 3) := by decide +kernel
theorem dX5_got_15 : decode cX5_got 15 = .ok (.iconst 2, 1) := by decide +kernel
theorem dX5_got_16 : decode cX5_got 16 = .ok (.invokevirtual 55, 3) := by decide +kernel
theorem dX5_got_19 : decode cX5_got 19 = .ok (.ishl, 1) := by decide +kernel
theorem dX5_got_20 : decode cX5_got 20 = .ok (.goto 4, 3) := by decide +kernel
theorem dX5_got_23 : decode cX5_got 23 = .ok (.iconst 0, 1) := by decide +kernel
theorem dX5_got_24 : decode cX5_got 24 = .ok (.istore_n 2, 1) := by decide +kernel
theorem dX5_got_25 : decode cX5_got 25 = .ok (.aload_n 0, 1) := by decide +kernel
theorem dX5_got_26 : decode cX5_got 26 = .ok (.aload_n 0, 1) := by decide +kernel
theorem dX5_got_27 : decode cX5_got 27 = .ok (.iload_n 1, 1) := by decide +kernel
theorem dX5_got_28 : decode cX5_got 28 = .ok (.iconst 1, 1) := by decide +kernel
theorem dX5_got_29 : decode cX5_got 29 = .ok (.invokevirtual 55, 3) := by decide +kernel
theorem dX5_got_32 : decode cX5_got 32 = .ok (.iconst 1, 1) := by decide +kernel
theorem dX5_got_33 : decode cX5_got 33 = .ok (.iadd, 1) := by decide +kernel
theorem dX5_got_34 : decode cX5_got 34 = .ok (.invokevirtual 63, 3) := by decide +kernel
theorem dX5_got_37 : decode cX5_got 37 = .ok (.istore_n 3, 1) := by decide +kernel
theorem dX5_got_38 : decode cX5_got 38 = .ok (.iload_n 2, 1) := by decide +kernel
theorem dX5_got_39 : decode cX5_got 39 = .ok (.iload_n 3, 1) := by decide +kernel
theorem dX5_got_40 : decode cX5_got 40 = .ok (.ifCond .ge 7, 3) := by decide +kernel
theorem dX5_got_43 : decode cX5_got 43 = .ok (.iconst 0, 1) := by decide +kernel
theorem dX5_got_44 : decode cX5_got 44 = .ok (.goto 8, 3) := by decide +kernel
theorem dX5_got_47 : decode cX5_got 47 = .ok (.aload_n 0, 1) := by decide +kernel
theorem dX5_got_48 : decode cX5_got 48 = .ok (.iload_n 3, 1) := by decide +kernel
theorem dX5_got_49 : decode cX5_got 49 = .ok (.invokevirtual 127, 3) := by decide +kernel
theorem dX5_got_52 : decode cX5_got 52 = .ok (.ior, 1) := by decide +kernel
theorem dX5_got_53 : decode cX5_got 53 = .ok (.istore_n 2, 1) := by decide +kernel
theorem dX5_got_54 : decode cX5_got 54 = .ok (.aload_n 0, 1) := by decide +kernel
theorem dX5_got_55 : decode cX5_got 55 = .ok (.iload_n 1, 1) := by decide +kernel
theorem dX5_got_56 : decode cX5_got 56 = .ok (.iconst 0, 1) := by decide +kernel
theorem dX5_got_57 : decode cX5_got 57 = .ok (.invokevirtual 55, 3) := by decide +kernel
theorem dX5_got_60 : decode cX5_got 60 = .ok (.iconst 4, 1) := by decide +kernel
theorem dX5_got_61 : decode cX5_got 61 = .ok (.if_icmp .ne 7, 3) := by decide +kernel
theorem dX5_got_64 : decode cX5_got 64 = .ok (.iload_n 2, 1) := by decide +kernel
theorem dX5_got_65 : decode cX5_got 65 = .ok (.goto 15, 3) := by decide +kernel
theorem dX5_got_68 : decode cX5_got 68 = .ok (.iload_n 2, 1) := by decide +kernel
theorem dX5_got_69 : decode cX5_got 69 = .ok (.iconst 1, 1) := by decide +kernel
theorem dX5_got_70 : decode cX5_got 70 = .ok (.aload_n 0, 1) := by decide +kernel
theorem dX5_got_71 : decode cX5_got 71 = .ok (.iload_n 1, 1) := by decide +kernel
theorem dX5_got_72 : decode cX5_got 72 = .ok (.iconst 2, 1) := by decide +kernel
theorem dX5_got_73 : decode cX5_got 73 = .ok (.invokevirtual 55, 3) := by decide +kernel
theorem dX5_got_76 : decode cX5_got 76 = .ok (.ishl, 1) := by decide +kernel
theorem dX5_got_77 : decode cX5_got 77 = .ok (.iconst (-1), 1) := by decide +kernel
theorem dX5_got_78 : decode cX5_got 78 = .ok (.ixor, 1) := by decide +kernel
theorem dX5_got_79 : decode cX5_got 79 = .ok (.iand, 1) := by decide +kernel
theorem dX5_got_80 : decode cX5_got 80 = .ok (.ireturn, 1) := by decide +kernel
theorem dX5_oneNight_0 : decode cX5_oneNight 0 = .ok (.iconst 0, 1) := by decide +kernel
theorem dX5_oneNight_1 : decode cX5_oneNight 1 = .ok (.istore_n 1, 1) := by decide +kernel
theorem dX5_oneNight_2 : decode cX5_oneNight 2 = .ok (.iload_n 1, 1) := by decide +kernel
theorem dX5_oneNight_3 : decode cX5_oneNight 3 = .ok (.aload_n 0, 1) := by decide +kernel
theorem dX5_oneNight_4 : decode cX5_oneNight 4 = .ok (.getfield 7, 3) := by decide +kernel
theorem dX5_oneNight_7 : decode cX5_oneNight 7 = .ok (.iconst 1, 1) := by decide +kernel
theorem dX5_oneNight_8 : decode cX5_oneNight 8 = .ok (.iaload, 1) := by decide +kernel
theorem dX5_oneNight_9 : decode cX5_oneNight 9 = .ok (.if_icmp .ge 31, 3) := by decide +kernel
theorem dX5_oneNight_12 : decode cX5_oneNight 12 = .ok (.aload_n 0, 1) := by decide +kernel
theorem dX5_oneNight_13 : decode cX5_oneNight 13 = .ok (.getfield 16, 3) := by decide +kernel
theorem dX5_oneNight_16 : decode cX5_oneNight 16 = .ok (.iload_n 1, 1) := by decide +kernel
theorem dX5_oneNight_17 : decode cX5_oneNight 17 = .ok (.aload_n 0, 1) := by decide +kernel
theorem dX5_oneNight_18 : decode cX5_oneNight 18 = .ok (.iload_n 1, 1) := by decide +kernel
theorem dX5_oneNight_19 : decode cX5_oneNight 19 = .ok (.invokevirtual 138, 3) := by decide +kernel
theorem dX5_oneNight_22 : decode cX5_oneNight 22 = .ok (.iastore, 1) := by decide +kernel
theorem dX5_oneNight_23 : decode cX5_oneNight 23 = .ok (.aload_n 0, 1) := by decide +kernel
theorem dX5_oneNight_24 : decode cX5_oneNight 24 = .ok (.getfield 19, 3) := by decide +kernel
theorem dX5_oneNight_27 : decode cX5_oneNight 27 = .ok (.iload_n 1, 1) := by decide +kernel
theorem dX5_oneNight_28 : decode cX5_oneNight 28 = .ok (.aload_n 0, 1) := by decide +kernel
theorem dX5_oneNight_29 : decode cX5_oneNight 29 = .ok (.iload_n 1, 1) := by decide +kernel
theorem dX5_oneNight_30 : decode cX5_oneNight 30 = .ok (.invokevirtual 141, 3) := by decide +kernel
theorem dX5_oneNight_33 : decode cX5_oneNight 33 = .ok (.iastore, 1) := by decide +kernel
theorem dX5_oneNight_34 : decode cX5_oneNight 34 = .ok (.iinc 1 1, 3) := by decide +kernel
theorem dX5_oneNight_37 : decode cX5_oneNight 37 = .ok (.goto (-35), 3) := by decide +kernel
theorem dX5_oneNight_40 : decode cX5_oneNight 40 = .ok (.iconst 0, 1) := by decide +kernel
theorem dX5_oneNight_41 : decode cX5_oneNight 41 = .ok (.istore_n 1, 1) := by decide +kernel
theorem dX5_oneNight_42 : decode cX5_oneNight 42 = .ok (.iload_n 1, 1) := by decide +kernel
theorem dX5_oneNight_43 : decode cX5_oneNight 43 = .ok (.aload_n 0, 1) := by decide +kernel
theorem dX5_oneNight_44 : decode cX5_oneNight 44 = .ok (.getfield 7, 3) := by decide +kernel
theorem dX5_oneNight_47 : decode cX5_oneNight 47 = .ok (.iconst 1, 1) := by decide +kernel
theorem dX5_oneNight_48 : decode cX5_oneNight 48 = .ok (.iaload, 1) := by decide +kernel
theorem dX5_oneNight_49 : decode cX5_oneNight 49 = .ok (.if_icmp .ge 53, 3) := by decide +kernel
theorem dX5_oneNight_52 : decode cX5_oneNight 52 = .ok (.aload_n 0, 1) := by decide +kernel
theorem dX5_oneNight_53 : decode cX5_oneNight 53 = .ok (.iload_n 1, 1) := by decide +kernel
theorem dX5_oneNight_54 : decode cX5_oneNight 54 = .ok (.iconst 4, 1) := by decide +kernel
theorem dX5_oneNight_55 : decode cX5_oneNight 55 = .ok (.aload_n 0, 1) := by decide +kernel
theorem dX5_oneNight_56 : decode cX5_oneNight 56 = .ok (.iload_n 1, 1) := by decide +kernel
theorem dX5_oneNight_57 : decode cX5_oneNight 57 = .ok (.iconst 4, 1) := by decide +kernel
theorem dX5_oneNight_58 : decode cX5_oneNight 58 = .ok (.invokevirtual 55, 3) := by decide +kernel
theorem dX5_oneNight_61 : decode cX5_oneNight 61 = .ok (.aload_n 0, 1) := by decide +kernel
theorem dX5_oneNight_62 : decode cX5_oneNight 62 = .ok (.getfield 16, 3) := by decide +kernel
theorem dX5_oneNight_65 : decode cX5_oneNight 65 = .ok (.iload_n 1, 1) := by decide +kernel
theorem dX5_oneNight_66 : decode cX5_oneNight 66 = .ok (.iaload, 1) := by decide +kernel
theorem dX5_oneNight_67 : decode cX5_oneNight 67 = .ok (.ior, 1) := by decide +kernel
theorem dX5_oneNight_68 : decode cX5_oneNight 68 = .ok (.invokevirtual 108, 3) := by decide +kernel
theorem dX5_oneNight_71 : decode cX5_oneNight 71 = .ok (.aload_n 0, 1) := by decide +kernel
theorem dX5_oneNight_72 : decode cX5_oneNight 72 = .ok (.iload_n 1, 1) := by decide +kernel
theorem dX5_oneNight_73 : decode cX5_oneNight 73 = .ok (.iconst 5, 1) := by decide +kernel
theorem dX5_oneNight_74 : decode cX5_oneNight 74 = .ok (.aload_n 0, 1) := by decide +kernel
theorem dX5_oneNight_75 : decode cX5_oneNight 75 = .ok (.iload_n 1, 1) := by decide +kernel
theorem dX5_oneNight_76 : decode cX5_oneNight 76 = .ok (.iconst 5, 1) := by decide +kernel
theorem dX5_oneNight_77 : decode cX5_oneNight 77 = .ok (.invokevirtual 55, 3) := by decide +kernel
theorem dX5_oneNight_80 : decode cX5_oneNight 80 = .ok (.aload_n 0, 1) := by decide +kernel
theorem dX5_oneNight_81 : decode cX5_oneNight 81 = .ok (.getfield 19, 3) := by decide +kernel
theorem dX5_oneNight_84 : decode cX5_oneNight 84 = .ok (.iload_n 1, 1) := by decide +kernel
theorem dX5_oneNight_85 : decode cX5_oneNight 85 = .ok (.iaload, 1) := by decide +kernel
theorem dX5_oneNight_86 : decode cX5_oneNight 86 = .ok (.iadd, 1) := by decide +kernel
theorem dX5_oneNight_87 : decode cX5_oneNight 87 = .ok (.iconst 0, 1) := by decide +kernel
theorem dX5_oneNight_88 : decode cX5_oneNight 88 = .ok (.bipush 99, 2) := by decide +kernel
theorem dX5_oneNight_90 : decode cX5_oneNight 90 = .ok (.invokestatic 144, 3) := by decide +kernel
theorem dX5_oneNight_93 : decode cX5_oneNight 93 = .ok (.invokevirtual 108, 3) := by decide +kernel
theorem dX5_oneNight_96 : decode cX5_oneNight 96 = .ok (.iinc 1 1, 3) := by decide +kernel
theorem dX5_oneNight_99 : decode cX5_oneNight 99 = .ok (.goto (-57), 3) := by decide +kernel
theorem dX5_oneNight_102 : decode cX5_oneNight 102 = .ok (.aload_n 0, 1) := by decide +kernel
theorem dX5_oneNight_103 : decode cX5_oneNight 103 = .ok (.getfield 7, 3) := by decide +kernel
theorem dX5_oneNight_106 : decode cX5_oneNight 106 = .ok (.iconst 0, 1) := by decide +kernel
theorem dX5_oneNight_107 : decode cX5_oneNight 107 = .ok (.dup2, 1) := by decide +kernel
theorem dX5_oneNight_108 : decode cX5_oneNight 108 = .ok (.iaload, 1) := by decide +kernel
theorem dX5_oneNight_109 : decode cX5_oneNight 109 = .ok (.iconst 1, 1) := by decide +kernel
theorem dX5_oneNight_110 : decode cX5_oneNight 110 = .ok (.iadd, 1) := by decide +kernel
theorem dX5_oneNight_111 : decode cX5_oneNight 111 = .ok (.iastore, 1) := by decide +kernel
theorem dX5_oneNight_112 : decode cX5_oneNight 112 = .ok (.return_, 1) := by decide +kernel
theorem dX5_passes_0 : decode cX5_passes 0 = .ok (.iconst 0, 1) := by decide +kernel
theorem dX5_passes_1 : decode cX5_passes 1 = .ok (.istore_n 2, 1) := by decide +kernel
theorem dX5_passes_2 : decode cX5_passes 2 = .ok (.iload_n 2, 1) := by decide +kernel
theorem dX5_passes_3 : decode cX5_passes 3 = .ok (.iload_n 1, 1) := by decide +kernel
theorem dX5_passes_4 : decode cX5_passes 4 = .ok (.if_icmp .ge 13, 3) := by decide +kernel
theorem dX5_passes_7 : decode cX5_passes 7 = .ok (.aload_n 0, 1) := by decide +kernel
theorem dX5_passes_8 : decode cX5_passes 8 = .ok (.invokevirtual 148, 3) := by decide +kernel
theorem dX5_passes_11 : decode cX5_passes 11 = .ok (.iinc 2 1, 3) := by decide +kernel
theorem dX5_passes_14 : decode cX5_passes 14 = .ok (.goto (-12), 3) := by decide +kernel
theorem dX5_passes_17 : decode cX5_passes 17 = .ok (.return_, 1) := by decide +kernel
theorem dX5_nights_0 : decode cX5_nights 0 = .ok (.iload_n 1, 1) := by decide +kernel
theorem dX5_nights_1 : decode cX5_nights 1 = .ok (.iconst 1, 1) := by decide +kernel
theorem dX5_nights_2 : decode cX5_nights 2 = .ok (.bipush 60, 2) := by decide +kernel
theorem dX5_nights_4 : decode cX5_nights 4 = .ok (.invokestatic 51, 3) := by decide +kernel
theorem dX5_nights_7 : decode cX5_nights 7 = .ok (.ifCond .ne 10, 3) := by decide +kernel
theorem dX5_nights_10 : decode cX5_nights 10 = .ok (.aload_n 0, 1) := by decide +kernel
theorem dX5_nights_11 : decode cX5_nights 11 = .ok (.ldc 50, 2) := by decide +kernel
theorem dX5_nights_13 : decode cX5_nights 13 = .ok (.invokevirtual 67, 3) := by decide +kernel
theorem dX5_nights_16 : decode cX5_nights 16 = .ok (.ireturn, 1) := by decide +kernel
theorem dX5_nights_17 : decode cX5_nights 17 = .ok (.aload_n 0, 1) := by decide +kernel
theorem dX5_nights_18 : decode cX5_nights 18 = .ok (.getfield 7, 3) := by decide +kernel
theorem dX5_nights_21 : decode cX5_nights 21 = .ok (.iconst 0, 1) := by decide +kernel
theorem dX5_nights_22 : decode cX5_nights 22 = .ok (.iaload, 1) := by decide +kernel
theorem dX5_nights_23 : decode cX5_nights 23 = .ok (.iload_n 1, 1) := by decide +kernel
theorem dX5_nights_24 : decode cX5_nights 24 = .ok (.iadd, 1) := by decide +kernel
theorem dX5_nights_25 : decode cX5_nights 25 = .ok (.ldc 151, 2) := by decide +kernel
theorem dX5_nights_27 : decode cX5_nights 27 = .ok (.if_icmp .le 10, 3) := by decide +kernel
theorem dX5_nights_30 : decode cX5_nights 30 = .ok (.aload_n 0, 1) := by decide +kernel
theorem dX5_nights_31 : decode cX5_nights 31 = .ok (.ldc 119, 2) := by decide +kernel
theorem dX5_nights_33 : decode cX5_nights 33 = .ok (.invokevirtual 67, 3) := by decide +kernel
theorem dX5_nights_36 : decode cX5_nights 36 = .ok (.ireturn, 1) := by decide +kernel
theorem dX5_nights_37 : decode cX5_nights 37 = .ok (.aload_n 0, 1) := by decide +kernel
theorem dX5_nights_38 : decode cX5_nights 38 = .ok (.iload_n 1, 1) := by decide +kernel
theorem dX5_nights_39 : decode cX5_nights 39 = .ok (.invokevirtual 152, 3) := by decide +kernel
theorem dX5_nights_42 : decode cX5_nights 42 = .ok (.aload_n 0, 1) := by decide +kernel
theorem dX5_nights_43 : decode cX5_nights 43 = .ok (.invokevirtual 83, 3) := by decide +kernel
theorem dX5_nights_46 : decode cX5_nights 46 = .ok (.ireturn, 1) := by decide +kernel
theorem dX5_on_0 : decode cX5_on 0 = .ok (.aload_n 0, 1) := by decide +kernel
theorem dX5_on_1 : decode cX5_on 1 = .ok (.iload_n 1, 1) := by decide +kernel
theorem dX5_on_2 : decode cX5_on 2 = .ok (.invokevirtual 124, 3) := by decide +kernel
theorem dX5_on_5 : decode cX5_on 5 = .ok (.ifCond .eq 22, 3) := by decide +kernel
theorem dX5_on_8 : decode cX5_on 8 = .ok (.iload_n 2, 1) := by decide +kernel
theorem dX5_on_9 : decode cX5_on 9 = .ok (.iconst 0, 1) := by decide +kernel
theorem dX5_on_10 : decode cX5_on 10 = .ok (.bipush 100, 2) := by decide +kernel
theorem dX5_on_12 : decode cX5_on 12 = .ok (.invokestatic 51, 3) := by decide +kernel
theorem dX5_on_15 : decode cX5_on 15 = .ok (.ifCond .eq 12, 3) := by decide +kernel
theorem dX5_on_18 : decode cX5_on 18 = .ok (.iload_n 3, 1) := by decide +kernel
theorem dX5_on_19 : decode cX5_on 19 = .ok (.iconst 0, 1) := by decide +kernel
theorem dX5_on_20 : decode cX5_on 20 = .ok (.iconst 1, 1) := by decide +kernel
theorem dX5_on_21 : decode cX5_on 21 = .ok (.invokestatic 51, 3) := by decide +kernel
theorem dX5_on_24 : decode cX5_on 24 = .ok (.ifCond .ne 10, 3) := by decide +kernel
theorem dX5_on_27 : decode cX5_on 27 = .ok (.aload_n 0, 1) := by decide +kernel
theorem dX5_on_28 : decode cX5_on 28 = .ok (.ldc 50, 2) := by decide +kernel
theorem dX5_on_30 : decode cX5_on 30 = .ok (.invokevirtual 67, 3) := by decide +kernel
theorem dX5_on_33 : decode cX5_on 33 = .ok (.ireturn, 1) := by decide +kernel
theorem dX5_on_34 : decode cX5_on 34 = .ok (.aload_n 0, 1) := by decide +kernel
theorem dX5_on_35 : decode cX5_on 35 = .ok (.iconst 1, 1) := by decide +kernel
theorem dX5_on_36 : decode cX5_on 36 = .ok (.aload_n 0, 1) := by decide +kernel
theorem dX5_on_37 : decode cX5_on 37 = .ok (.getfield 22, 3) := by decide +kernel
theorem dX5_on_40 : decode cX5_on 40 = .ok (.invokevirtual 156, 3) := by decide +kernel
theorem dX5_on_43 : decode cX5_on 43 = .ok (.aload_n 0, 1) := by decide +kernel
theorem dX5_on_44 : decode cX5_on 44 = .ok (.iload_n 2, 1) := by decide +kernel
theorem dX5_on_45 : decode cX5_on 45 = .ok (.invokevirtual 152, 3) := by decide +kernel
theorem dX5_on_48 : decode cX5_on 48 = .ok (.aload_n 0, 1) := by decide +kernel
theorem dX5_on_49 : decode cX5_on 49 = .ok (.iload_n 1, 1) := by decide +kernel
theorem dX5_on_50 : decode cX5_on 50 = .ok (.iconst 4, 1) := by decide +kernel
theorem dX5_on_51 : decode cX5_on 51 = .ok (.iload_n 3, 1) := by decide +kernel
theorem dX5_on_52 : decode cX5_on 52 = .ok (.iadd, 1) := by decide +kernel
theorem dX5_on_53 : decode cX5_on 53 = .ok (.invokevirtual 55, 3) := by decide +kernel
theorem dX5_on_56 : decode cX5_on 56 = .ok (.istore 4, 2) := by decide +kernel
theorem dX5_on_58 : decode cX5_on 58 = .ok (.aload_n 0, 1) := by decide +kernel
theorem dX5_on_59 : decode cX5_on 59 = .ok (.iconst 0, 1) := by decide +kernel
theorem dX5_on_60 : decode cX5_on 60 = .ok (.aload_n 0, 1) := by decide +kernel
theorem dX5_on_61 : decode cX5_on 61 = .ok (.getfield 22, 3) := by decide +kernel
theorem dX5_on_64 : decode cX5_on 64 = .ok (.invokevirtual 156, 3) := by decide +kernel
theorem dX5_on_67 : decode cX5_on 67 = .ok (.iload 4, 2) := by decide +kernel
theorem dX5_on_69 : decode cX5_on 69 = .ok (.ireturn, 1) := by decide +kernel
theorem dX5_isKnown_0 : decode cX5_isKnown 0 = .ok (.aload_n 0, 1) := by decide +kernel
theorem dX5_isKnown_1 : decode cX5_isKnown 1 = .ok (.iload_n 1, 1) := by decide +kernel
theorem dX5_isKnown_2 : decode cX5_isKnown 2 = .ok (.iconst 4, 1) := by decide +kernel
theorem dX5_isKnown_3 : decode cX5_isKnown 3 = .ok (.invokevirtual 55, 3) := by decide +kernel
theorem dX5_isKnown_6 : decode cX5_isKnown 6 = .ok (.iload_n 2, 1) := by decide +kernel
theorem dX5_isKnown_7 : decode cX5_isKnown 7 = .ok (.ishr, 1) := by decide +kernel
theorem dX5_isKnown_8 : decode cX5_isKnown 8 = .ok (.iconst 1, 1) := by decide +kernel
theorem dX5_isKnown_9 : decode cX5_isKnown 9 = .ok (.iand, 1) := by decide +kernel
theorem dX5_isKnown_10 : decode cX5_isKnown 10 = .ok (.iconst 1, 1) := by decide +kernel
theorem dX5_isKnown_11 : decode cX5_isKnown 11 = .ok (.if_icmp .ne 7, 3) := by decide +kernel
theorem dX5_isKnown_14 : decode cX5_isKnown 14 = .ok (.iconst 1, 1) := by decide +kernel
theorem dX5_isKnown_15 : decode cX5_isKnown 15 = .ok (.goto 4, 3) := by decide +kernel
theorem dX5_isKnown_18 : decode cX5_isKnown 18 = .ok (.iconst 0, 1) := by decide +kernel
theorem dX5_isKnown_19 : decode cX5_isKnown 19 = .ok (.ireturn, 1) := by decide +kernel
theorem dX5_learns_0 : decode cX5_learns 0 = .ok (.aload_n 0, 1) := by decide +kernel
theorem dX5_learns_1 : decode cX5_learns 1 = .ok (.iload_n 1, 1) := by decide +kernel
theorem dX5_learns_2 : decode cX5_learns 2 = .ok (.invokevirtual 124, 3) := by decide +kernel
theorem dX5_learns_5 : decode cX5_learns 5 = .ok (.ifCond .eq 10, 3) := by decide +kernel
theorem dX5_learns_8 : decode cX5_learns 8 = .ok (.iload_n 2, 1) := by decide +kernel
theorem dX5_learns_9 : decode cX5_learns 9 = .ok (.invokestatic 115, 3) := by decide +kernel
theorem dX5_learns_12 : decode cX5_learns 12 = .ok (.ifCond .ne 10, 3) := by decide +kernel
theorem dX5_learns_15 : decode cX5_learns 15 = .ok (.aload_n 0, 1) := by decide +kernel
theorem dX5_learns_16 : decode cX5_learns 16 = .ok (.ldc 50, 2) := by decide +kernel
theorem dX5_learns_18 : decode cX5_learns 18 = .ok (.invokevirtual 67, 3) := by decide +kernel
theorem dX5_learns_21 : decode cX5_learns 21 = .ok (.ireturn, 1) := by decide +kernel
theorem dX5_learns_22 : decode cX5_learns 22 = .ok (.aload_n 0, 1) := by decide +kernel
theorem dX5_learns_23 : decode cX5_learns 23 = .ok (.iconst 1, 1) := by decide +kernel
theorem dX5_learns_24 : decode cX5_learns 24 = .ok (.aload_n 0, 1) := by decide +kernel
theorem dX5_learns_25 : decode cX5_learns 25 = .ok (.getfield 22, 3) := by decide +kernel
theorem dX5_learns_28 : decode cX5_learns 28 = .ok (.invokevirtual 156, 3) := by decide +kernel
theorem dX5_learns_31 : decode cX5_learns 31 = .ok (.iconst 0, 1) := by decide +kernel
theorem dX5_learns_32 : decode cX5_learns 32 = .ok (.istore_n 3, 1) := by decide +kernel
theorem dX5_learns_33 : decode cX5_learns 33 = .ok (.iload_n 3, 1) := by decide +kernel
theorem dX5_learns_34 : decode cX5_learns 34 = .ok (.bipush 100, 2) := by decide +kernel
theorem dX5_learns_36 : decode cX5_learns 36 = .ok (.if_icmp .gt 22, 3) := by decide +kernel
theorem dX5_learns_39 : decode cX5_learns 39 = .ok (.aload_n 0, 1) := by decide +kernel
theorem dX5_learns_40 : decode cX5_learns 40 = .ok (.iload_n 1, 1) := by decide +kernel
theorem dX5_learns_41 : decode cX5_learns 41 = .ok (.iload_n 2, 1) := by decide +kernel
theorem dX5_learns_42 : decode cX5_learns 42 = .ok (.invokevirtual 160, 3) := by decide +kernel
theorem dX5_learns_45 : decode cX5_learns 45 = .ok (.ifCond .ne 13, 3) := by decide +kernel
theorem dX5_learns_48 : decode cX5_learns 48 = .ok (.aload_n 0, 1) := by decide +kernel
theorem dX5_learns_49 : decode cX5_learns 49 = .ok (.invokevirtual 148, 3) := by decide +kernel
theorem dX5_learns_52 : decode cX5_learns 52 = .ok (.iinc 3 1, 3) := by decide +kernel
theorem dX5_learns_55 : decode cX5_learns 55 = .ok (.goto (-22), 3) := by decide +kernel
theorem dX5_learns_58 : decode cX5_learns 58 = .ok (.aload_n 0, 1) := by decide +kernel
theorem dX5_learns_59 : decode cX5_learns 59 = .ok (.iconst 0, 1) := by decide +kernel
theorem dX5_learns_60 : decode cX5_learns 60 = .ok (.aload_n 0, 1) := by decide +kernel
theorem dX5_learns_61 : decode cX5_learns 61 = .ok (.getfield 22, 3) := by decide +kernel
theorem dX5_learns_64 : decode cX5_learns 64 = .ok (.invokevirtual 156, 3) := by decide +kernel
theorem dX5_learns_67 : decode cX5_learns 67 = .ok (.iload_n 3, 1) := by decide +kernel
theorem dX5_learns_68 : decode cX5_learns 68 = .ok (.bipush 100, 2) := by decide +kernel
theorem dX5_learns_70 : decode cX5_learns 70 = .ok (.if_icmp .le 12, 3) := by decide +kernel
theorem dX5_learns_73 : decode cX5_learns 73 = .ok (.aload_n 0, 1) := by decide +kernel
theorem dX5_learns_74 : decode cX5_learns 74 = .ok (.ldc 92, 2) := by decide +kernel
theorem dX5_learns_76 : decode cX5_learns 76 = .ok (.invokevirtual 67, 3) := by decide +kernel
theorem dX5_learns_79 : decode cX5_learns 79 = .ok (.goto 4, 3) := by decide +kernel
theorem dX5_learns_82 : decode cX5_learns 82 = .ok (.iload_n 3, 1) := by decide +kernel
theorem dX5_learns_83 : decode cX5_learns 83 = .ok (.ireturn, 1) := by decide +kernel
theorem dX5_isSpread_0 : decode cX5_isSpread 0 = .ok (.iconst 1, 1) := by decide +kernel
theorem dX5_isSpread_1 : decode cX5_isSpread 1 = .ok (.istore_n 2, 1) := by decide +kernel
theorem dX5_isSpread_2 : decode cX5_isSpread 2 = .ok (.iconst 0, 1) := by decide +kernel
theorem dX5_isSpread_3 : decode cX5_isSpread 3 = .ok (.istore_n 3, 1) := by decide +kernel
theorem dX5_isSpread_4 : decode cX5_isSpread 4 = .ok (.iload_n 3, 1) := by decide +kernel
theorem dX5_isSpread_5 : decode cX5_isSpread 5 = .ok (.aload_n 0, 1) := by decide +kernel
theorem dX5_isSpread_6 : decode cX5_isSpread 6 = .ok (.getfield 7, 3) := by decide +kernel
theorem dX5_isSpread_9 : decode cX5_isSpread 9 = .ok (.iconst 1, 1) := by decide +kernel
theorem dX5_isSpread_10 : decode cX5_isSpread 10 = .ok (.iaload, 1) := by decide +kernel
theorem dX5_isSpread_11 : decode cX5_isSpread 11 = .ok (.if_icmp .ge 48, 3) := by decide +kernel
theorem dX5_isSpread_14 : decode cX5_isSpread 14 = .ok (.iload_n 2, 1) := by decide +kernel
theorem dX5_isSpread_15 : decode cX5_isSpread 15 = .ok (.ifCond .eq 36, 3) := by decide +kernel
theorem dX5_isSpread_18 : decode cX5_isSpread 18 = .ok (.aload_n 0, 1) := by decide +kernel
theorem dX5_isSpread_19 : decode cX5_isSpread 19 = .ok (.iload_n 3, 1) := by decide +kernel
theorem dX5_isSpread_20 : decode cX5_isSpread 20 = .ok (.iconst 0, 1) := by decide +kernel
theorem dX5_isSpread_21 : decode cX5_isSpread 21 = .ok (.invokevirtual 55, 3) := by decide +kernel
theorem dX5_isSpread_24 : decode cX5_isSpread 24 = .ok (.iconst 3, 1) := by decide +kernel
theorem dX5_isSpread_25 : decode cX5_isSpread 25 = .ok (.if_icmp .eq 22, 3) := by decide +kernel
theorem dX5_isSpread_28 : decode cX5_isSpread 28 = .ok (.aload_n 0, 1) := by decide +kernel
theorem dX5_isSpread_29 : decode cX5_isSpread 29 = .ok (.iload_n 3, 1) := by decide +kernel
theorem dX5_isSpread_30 : decode cX5_isSpread 30 = .ok (.iconst 2, 1) := by decide +kernel
theorem dX5_isSpread_31 : decode cX5_isSpread 31 = .ok (.invokevirtual 55, 3) := by decide +kernel
theorem dX5_isSpread_34 : decode cX5_isSpread 34 = .ok (.iload_n 1, 1) := by decide +kernel
theorem dX5_isSpread_35 : decode cX5_isSpread 35 = .ok (.if_icmp .eq 12, 3) := by decide +kernel
theorem dX5_isSpread_38 : decode cX5_isSpread 38 = .ok (.aload_n 0, 1) := by decide +kernel
theorem dX5_isSpread_39 : decode cX5_isSpread 39 = .ok (.iload_n 3, 1) := by decide +kernel
theorem dX5_isSpread_40 : decode cX5_isSpread 40 = .ok (.iload_n 1, 1) := by decide +kernel
theorem dX5_isSpread_41 : decode cX5_isSpread 41 = .ok (.invokevirtual 160, 3) := by decide +kernel
theorem dX5_isSpread_44 : decode cX5_isSpread 44 = .ok (.ifCond .eq 7, 3) := by decide +kernel
theorem dX5_isSpread_47 : decode cX5_isSpread 47 = .ok (.iconst 1, 1) := by decide +kernel
theorem dX5_isSpread_48 : decode cX5_isSpread 48 = .ok (.goto 4, 3) := by decide +kernel
theorem dX5_isSpread_51 : decode cX5_isSpread 51 = .ok (.iconst 0, 1) := by decide +kernel
theorem dX5_isSpread_52 : decode cX5_isSpread 52 = .ok (.istore_n 2, 1) := by decide +kernel
theorem dX5_isSpread_53 : decode cX5_isSpread 53 = .ok (.iinc 3 1, 3) := by decide +kernel
theorem dX5_isSpread_56 : decode cX5_isSpread 56 = .ok (.goto (-52), 3) := by decide +kernel
theorem dX5_isSpread_59 : decode cX5_isSpread 59 = .ok (.iload_n 2, 1) := by decide +kernel
theorem dX5_isSpread_60 : decode cX5_isSpread 60 = .ok (.ireturn, 1) := by decide +kernel
theorem dX5_spreads_0 : decode cX5_spreads 0 = .ok (.iload_n 1, 1) := by decide +kernel
theorem dX5_spreads_1 : decode cX5_spreads 1 = .ok (.invokestatic 115, 3) := by decide +kernel
theorem dX5_spreads_4 : decode cX5_spreads 4 = .ok (.ifCond .ne 10, 3) := by decide +kernel
theorem dX5_spreads_7 : decode cX5_spreads 7 = .ok (.aload_n 0, 1) := by decide +kernel
theorem dX5_spreads_8 : decode cX5_spreads 8 = .ok (.ldc 50, 2) := by decide +kernel
theorem dX5_spreads_10 : decode cX5_spreads 10 = .ok (.invokevirtual 67, 3) := by decide +kernel
theorem dX5_spreads_13 : decode cX5_spreads 13 = .ok (.ireturn, 1) := by decide +kernel
theorem dX5_spreads_14 : decode cX5_spreads 14 = .ok (.aload_n 0, 1) := by decide +kernel
theorem dX5_spreads_15 : decode cX5_spreads 15 = .ok (.iconst 1, 1) := by decide +kernel
theorem dX5_spreads_16 : decode cX5_spreads 16 = .ok (.aload_n 0, 1) := by decide +kernel
theorem dX5_spreads_17 : decode cX5_spreads 17 = .ok (.getfield 22, 3) := by decide +kernel
theorem dX5_spreads_20 : decode cX5_spreads 20 = .ok (.invokevirtual 156, 3) := by decide +kernel
theorem dX5_spreads_23 : decode cX5_spreads 23 = .ok (.iconst 0, 1) := by decide +kernel
theorem dX5_spreads_24 : decode cX5_spreads 24 = .ok (.istore_n 2, 1) := by decide +kernel
theorem dX5_spreads_25 : decode cX5_spreads 25 = .ok (.iload_n 2, 1) := by decide +kernel
theorem dX5_spreads_26 : decode cX5_spreads 26 = .ok (.bipush 100, 2) := by decide +kernel
theorem dX5_spreads_28 : decode cX5_spreads 28 = .ok (.if_icmp .gt 21, 3) := by decide +kernel
theorem dX5_spreads_31 : decode cX5_spreads 31 = .ok (.aload_n 0, 1) := by decide +kernel
theorem dX5_spreads_32 : decode cX5_spreads 32 = .ok (.iload_n 1, 1) := by decide +kernel
theorem dX5_spreads_33 : decode cX5_spreads 33 = .ok (.invokevirtual 163, 3) := by decide +kernel
theorem dX5_spreads_36 : decode cX5_spreads 36 = .ok (.ifCond .ne 13, 3) := by decide +kernel
theorem dX5_spreads_39 : decode cX5_spreads 39 = .ok (.aload_n 0, 1) := by decide +kernel
theorem dX5_spreads_40 : decode cX5_spreads 40 = .ok (.invokevirtual 148, 3) := by decide +kernel
theorem dX5_spreads_43 : decode cX5_spreads 43 = .ok (.iinc 2 1, 3) := by decide +kernel
theorem dX5_spreads_46 : decode cX5_spreads 46 = .ok (.goto (-21), 3) := by decide +kernel
theorem dX5_spreads_49 : decode cX5_spreads 49 = .ok (.aload_n 0, 1) := by decide +kernel
theorem dX5_spreads_50 : decode cX5_spreads 50 = .ok (.iconst 0, 1) := by decide +kernel
theorem dX5_spreads_51 : decode cX5_spreads 51 = .ok (.aload_n 0, 1) := by decide +kernel
theorem dX5_spreads_52 : decode cX5_spreads 52 = .ok (.getfield 22, 3) := by decide +kernel
theorem dX5_spreads_55 : decode cX5_spreads 55 = .ok (.invokevirtual 156, 3) := by decide +kernel
theorem dX5_spreads_58 : decode cX5_spreads 58 = .ok (.iload_n 2, 1) := by decide +kernel
theorem dX5_spreads_59 : decode cX5_spreads 59 = .ok (.bipush 100, 2) := by decide +kernel
theorem dX5_spreads_61 : decode cX5_spreads 61 = .ok (.if_icmp .le 12, 3) := by decide +kernel
theorem dX5_spreads_64 : decode cX5_spreads 64 = .ok (.aload_n 0, 1) := by decide +kernel
theorem dX5_spreads_65 : decode cX5_spreads 65 = .ok (.ldc 92, 2) := by decide +kernel
theorem dX5_spreads_67 : decode cX5_spreads 67 = .ok (.invokevirtual 67, 3) := by decide +kernel
theorem dX5_spreads_70 : decode cX5_spreads 70 = .ok (.goto 4, 3) := by decide +kernel
theorem dX5_spreads_73 : decode cX5_spreads 73 = .ok (.iload_n 2, 1) := by decide +kernel
theorem dX5_spreads_74 : decode cX5_spreads 74 = .ok (.ireturn, 1) := by decide +kernel
theorem dX5_isHeresy_0 : decode cX5_isHeresy 0 = .ok (.iconst 0, 1) := by decide +kernel
theorem dX5_isHeresy_1 : decode cX5_isHeresy 1 = .ok (.istore_n 1, 1) := by decide +kernel
theorem dX5_isHeresy_2 : decode cX5_isHeresy 2 = .ok (.iconst 0, 1) := by decide +kernel
theorem dX5_isHeresy_3 : decode cX5_isHeresy 3 = .ok (.istore_n 2, 1) := by decide +kernel
theorem dX5_isHeresy_4 : decode cX5_isHeresy 4 = .ok (.iload_n 2, 1) := by decide +kernel
theorem dX5_isHeresy_5 : decode cX5_isHeresy 5 = .ok (.aload_n 0, 1) := by decide +kernel
theorem dX5_isHeresy_6 : decode cX5_isHeresy 6 = .ok (.getfield 7, 3) := by decide +kernel
theorem dX5_isHeresy_9 : decode cX5_isHeresy 9 = .ok (.iconst 1, 1) := by decide +kernel
theorem dX5_isHeresy_10 : decode cX5_isHeresy 10 = .ok (.iaload, 1) := by decide +kernel
theorem dX5_isHeresy_11 : decode cX5_isHeresy 11 = .ok (.if_icmp .ge 33, 3) := by decide +kernel
theorem dX5_isHeresy_14 : decode cX5_isHeresy 14 = .ok (.iload_n 1, 1) := by decide +kernel
theorem dX5_isHeresy_15 : decode cX5_isHeresy 15 = .ok (.ifCond .ne 17, 3) := by decide +kernel
theorem dX5_isHeresy_18 : decode cX5_isHeresy 18 = .ok (.aload_n 0, 1) := by decide +kernel
theorem dX5_isHeresy_19 : decode cX5_isHeresy 19 = .ok (.iload_n 2, 1) := by decide +kernel
theorem dX5_isHeresy_20 : decode cX5_isHeresy 20 = .ok (.aload_n 0, 1) := by decide +kernel
theorem dX5_isHeresy_21 : decode cX5_isHeresy 21 = .ok (.iload_n 2, 1) := by decide +kernel
theorem dX5_isHeresy_22 : decode cX5_isHeresy 22 = .ok (.iconst 2, 1) := by decide +kernel
theorem dX5_isHeresy_23 : decode cX5_isHeresy 23 = .ok (.invokevirtual 55, 3) := by decide +kernel
theorem dX5_isHeresy_26 : decode cX5_isHeresy 26 = .ok (.invokevirtual 160, 3) := by decide +kernel
theorem dX5_isHeresy_29 : decode cX5_isHeresy 29 = .ok (.ifCond .eq 7, 3) := by decide +kernel
theorem dX5_isHeresy_32 : decode cX5_isHeresy 32 = .ok (.iconst 1, 1) := by decide +kernel
theorem dX5_isHeresy_33 : decode cX5_isHeresy 33 = .ok (.goto 4, 3) := by decide +kernel
theorem dX5_isHeresy_36 : decode cX5_isHeresy 36 = .ok (.iconst 0, 1) := by decide +kernel
theorem dX5_isHeresy_37 : decode cX5_isHeresy 37 = .ok (.istore_n 1, 1) := by decide +kernel
theorem dX5_isHeresy_38 : decode cX5_isHeresy 38 = .ok (.iinc 2 1, 3) := by decide +kernel
theorem dX5_isHeresy_41 : decode cX5_isHeresy 41 = .ok (.goto (-37), 3) := by decide +kernel
theorem dX5_isHeresy_44 : decode cX5_isHeresy 44 = .ok (.iload_n 1, 1) := by decide +kernel
theorem dX5_isHeresy_45 : decode cX5_isHeresy 45 = .ok (.ireturn, 1) := by decide +kernel
theorem dX5_heresy_0 : decode cX5_heresy 0 = .ok (.aload_n 0, 1) := by decide +kernel
theorem dX5_heresy_1 : decode cX5_heresy 1 = .ok (.iconst 1, 1) := by decide +kernel
theorem dX5_heresy_2 : decode cX5_heresy 2 = .ok (.aload_n 0, 1) := by decide +kernel
theorem dX5_heresy_3 : decode cX5_heresy 3 = .ok (.getfield 22, 3) := by decide +kernel
theorem dX5_heresy_6 : decode cX5_heresy 6 = .ok (.invokevirtual 156, 3) := by decide +kernel
theorem dX5_heresy_9 : decode cX5_heresy 9 = .ok (.iconst 0, 1) := by decide +kernel
end
section
theorem dX5_heresy_10 : decode cX5_heresy 10 = .ok (.istore_n 1, 1) := by decide +kernel
theorem dX5_heresy_11 : decode cX5_heresy 11 = .ok (.iload_n 1, 1) := by decide +kernel
theorem dX5_heresy_12 : decode cX5_heresy 12 = .ok (.bipush 100, 2) := by decide +kernel
theorem dX5_heresy_14 : decode cX5_heresy 14 = .ok (.if_icmp .gt 20, 3) := by decide +kernel
theorem dX5_heresy_17 : decode cX5_heresy 17 = .ok (.aload_n 0, 1) := by decide +kernel
theorem dX5_heresy_18 : decode cX5_heresy 18 = .ok (.invokevirtual 166, 3) := by decide +kernel
theorem dX5_heresy_21 : decode cX5_heresy 21 = .ok (.ifCond .ne 13, 3) := by decide +kernel
theorem dX5_heresy_24 : decode cX5_heresy 24 = .ok (.aload_n 0, 1) := by decide +kernel
theorem dX5_heresy_25 : decode cX5_heresy 25 = .ok (.invokevirtual 148, 3) := by decide +kernel
theorem dX5_heresy_28 : decode cX5_heresy 28 = .ok (.iinc 1 1, 3) := by decide +kernel
theorem dX5_heresy_31 : decode cX5_heresy 31 = .ok (.goto (-20), 3) := by decide +kernel
theorem dX5_heresy_34 : decode cX5_heresy 34 = .ok (.aload_n 0, 1) := by decide +kernel
theorem dX5_heresy_35 : decode cX5_heresy 35 = .ok (.iconst 0, 1) := by decide +kernel
theorem dX5_heresy_36 : decode cX5_heresy 36 = .ok (.aload_n 0, 1) := by decide +kernel
theorem dX5_heresy_37 : decode cX5_heresy 37 = .ok (.getfield 22, 3) := by decide +kernel
theorem dX5_heresy_40 : decode cX5_heresy 40 = .ok (.invokevirtual 156, 3) := by decide +kernel
theorem dX5_heresy_43 : decode cX5_heresy 43 = .ok (.iload_n 1, 1) := by decide +kernel
theorem dX5_heresy_44 : decode cX5_heresy 44 = .ok (.bipush 100, 2) := by decide +kernel
theorem dX5_heresy_46 : decode cX5_heresy 46 = .ok (.if_icmp .le 12, 3) := by decide +kernel
theorem dX5_heresy_49 : decode cX5_heresy 49 = .ok (.aload_n 0, 1) := by decide +kernel
theorem dX5_heresy_50 : decode cX5_heresy 50 = .ok (.ldc 92, 2) := by decide +kernel
theorem dX5_heresy_52 : decode cX5_heresy 52 = .ok (.invokevirtual 67, 3) := by decide +kernel
theorem dX5_heresy_55 : decode cX5_heresy 55 = .ok (.goto 4, 3) := by decide +kernel
theorem dX5_heresy_58 : decode cX5_heresy 58 = .ok (.iload_n 1, 1) := by decide +kernel
theorem dX5_heresy_59 : decode cX5_heresy 59 = .ok (.ireturn, 1) := by decide +kernel
theorem dX5_knowsBehind_0 : decode cX5_knowsBehind 0 = .ok (.aload_n 0, 1) := by decide +kernel
theorem dX5_knowsBehind_1 : decode cX5_knowsBehind 1 = .ok (.iload_n 2, 1) := by decide +kernel
theorem dX5_knowsBehind_2 : decode cX5_knowsBehind 2 = .ok (.invokevirtual 152, 3) := by decide +kernel
theorem dX5_knowsBehind_5 : decode cX5_knowsBehind 5 = .ok (.aload_n 0, 1) := by decide +kernel
theorem dX5_knowsBehind_6 : decode cX5_knowsBehind 6 = .ok (.iload_n 1, 1) := by decide +kernel
theorem dX5_knowsBehind_7 : decode cX5_knowsBehind 7 = .ok (.iconst 4, 1) := by decide +kernel
theorem dX5_knowsBehind_8 : decode cX5_knowsBehind 8 = .ok (.invokevirtual 55, 3) := by decide +kernel
theorem dX5_knowsBehind_11 : decode cX5_knowsBehind 11 = .ok (.istore_n 3, 1) := by decide +kernel
theorem dX5_knowsBehind_12 : decode cX5_knowsBehind 12 = .ok (.aload_n 0, 1) := by decide +kernel
theorem dX5_knowsBehind_13 : decode cX5_knowsBehind 13 = .ok (.iconst 0, 1) := by decide +kernel
theorem dX5_knowsBehind_14 : decode cX5_knowsBehind 14 = .ok (.aload_n 0, 1) := by decide +kernel
theorem dX5_knowsBehind_15 : decode cX5_knowsBehind 15 = .ok (.getfield 22, 3) := by decide +kernel
theorem dX5_knowsBehind_18 : decode cX5_knowsBehind 18 = .ok (.invokevirtual 156, 3) := by decide +kernel
theorem dX5_knowsBehind_21 : decode cX5_knowsBehind 21 = .ok (.iload_n 3, 1) := by decide +kernel
theorem dX5_knowsBehind_22 : decode cX5_knowsBehind 22 = .ok (.ireturn, 1) := by decide +kernel
theorem dX5_best_0 : decode cX5_best 0 = .ok (.aload_n 0, 1) := by decide +kernel
theorem dX5_best_1 : decode cX5_best 1 = .ok (.iload_n 1, 1) := by decide +kernel
theorem dX5_best_2 : decode cX5_best 2 = .ok (.invokevirtual 124, 3) := by decide +kernel
theorem dX5_best_5 : decode cX5_best 5 = .ok (.ifCond .eq 13, 3) := by decide +kernel
theorem dX5_best_8 : decode cX5_best 8 = .ok (.iload_n 2, 1) := by decide +kernel
theorem dX5_best_9 : decode cX5_best 9 = .ok (.iconst 1, 1) := by decide +kernel
theorem dX5_best_10 : decode cX5_best 10 = .ok (.bipush 40, 2) := by decide +kernel
theorem dX5_best_12 : decode cX5_best 12 = .ok (.invokestatic 51, 3) := by decide +kernel
theorem dX5_best_15 : decode cX5_best 15 = .ok (.ifCond .ne 10, 3) := by decide +kernel
theorem dX5_best_18 : decode cX5_best 18 = .ok (.aload_n 0, 1) := by decide +kernel
theorem dX5_best_19 : decode cX5_best 19 = .ok (.ldc 50, 2) := by decide +kernel
theorem dX5_best_21 : decode cX5_best 21 = .ok (.invokevirtual 67, 3) := by decide +kernel
theorem dX5_best_24 : decode cX5_best 24 = .ok (.ireturn, 1) := by decide +kernel
theorem dX5_best_25 : decode cX5_best 25 = .ok (.aload_n 0, 1) := by decide +kernel
theorem dX5_best_26 : decode cX5_best 26 = .ok (.iconst 1, 1) := by decide +kernel
theorem dX5_best_27 : decode cX5_best 27 = .ok (.aload_n 0, 1) := by decide +kernel
theorem dX5_best_28 : decode cX5_best 28 = .ok (.getfield 22, 3) := by decide +kernel
theorem dX5_best_31 : decode cX5_best 31 = .ok (.invokevirtual 156, 3) := by decide +kernel
theorem dX5_best_34 : decode cX5_best 34 = .ok (.iconst 0, 1) := by decide +kernel
theorem dX5_best_35 : decode cX5_best 35 = .ok (.istore_n 3, 1) := by decide +kernel
theorem dX5_best_36 : decode cX5_best 36 = .ok (.iconst (-1), 1) := by decide +kernel
theorem dX5_best_37 : decode cX5_best 37 = .ok (.istore 4, 2) := by decide +kernel
theorem dX5_best_39 : decode cX5_best 39 = .ok (.iconst 0, 1) := by decide +kernel
theorem dX5_best_40 : decode cX5_best 40 = .ok (.istore 5, 2) := by decide +kernel
theorem dX5_best_42 : decode cX5_best 42 = .ok (.iload 5, 2) := by decide +kernel
theorem dX5_best_44 : decode cX5_best 44 = .ok (.bipush 12, 2) := by decide +kernel
theorem dX5_best_46 : decode cX5_best 46 = .ok (.if_icmp .ge 77, 3) := by decide +kernel
theorem dX5_best_49 : decode cX5_best 49 = .ok (.aload_n 0, 1) := by decide +kernel
theorem dX5_best_50 : decode cX5_best 50 = .ok (.iload 5, 2) := by decide +kernel
theorem dX5_best_52 : decode cX5_best 52 = .ok (.invokevirtual 63, 3) := by decide +kernel
theorem dX5_best_55 : decode cX5_best 55 = .ok (.istore 6, 2) := by decide +kernel
theorem dX5_best_57 : decode cX5_best 57 = .ok (.iload 6, 2) := by decide +kernel
theorem dX5_best_59 : decode cX5_best 59 = .ok (.ifCond .lt 9, 3) := by decide +kernel
theorem dX5_best_62 : decode cX5_best 62 = .ok (.iload 6, 2) := by decide +kernel
theorem dX5_best_64 : decode cX5_best 64 = .ok (.iload_n 1, 1) := by decide +kernel
theorem dX5_best_65 : decode cX5_best 65 = .ok (.if_icmp .ne 52, 3) := by decide +kernel
theorem dX5_best_68 : decode cX5_best 68 = .ok (.aload_n 0, 1) := by decide +kernel
theorem dX5_best_69 : decode cX5_best 69 = .ok (.iload_n 1, 1) := by decide +kernel
theorem dX5_best_70 : decode cX5_best 70 = .ok (.iconst 1, 1) := by decide +kernel
theorem dX5_best_71 : decode cX5_best 71 = .ok (.iload 5, 2) := by decide +kernel
theorem dX5_best_73 : decode cX5_best 73 = .ok (.invokevirtual 108, 3) := by decide +kernel
theorem dX5_best_76 : decode cX5_best 76 = .ok (.aload_n 0, 1) := by decide +kernel
theorem dX5_best_77 : decode cX5_best 77 = .ok (.iload_n 1, 1) := by decide +kernel
theorem dX5_best_78 : decode cX5_best 78 = .ok (.iload_n 2, 1) := by decide +kernel
theorem dX5_best_79 : decode cX5_best 79 = .ok (.invokevirtual 170, 3) := by decide +kernel
theorem dX5_best_82 : decode cX5_best 82 = .ok (.invokestatic 74, 3) := by decide +kernel
theorem dX5_best_85 : decode cX5_best 85 = .ok (.istore 7, 2) := by decide +kernel
theorem dX5_best_87 : decode cX5_best 87 = .ok (.iload 7, 2) := by decide +kernel
theorem dX5_best_89 : decode cX5_best 89 = .ok (.iload 4, 2) := by decide +kernel
theorem dX5_best_91 : decode cX5_best 91 = .ok (.if_icmp .le 8, 3) := by decide +kernel
theorem dX5_best_94 : decode cX5_best 94 = .ok (.iload 5, 2) := by decide +kernel
theorem dX5_best_96 : decode cX5_best 96 = .ok (.goto 4, 3) := by decide +kernel
theorem dX5_best_99 : decode cX5_best 99 = .ok (.iload_n 3, 1) := by decide +kernel
theorem dX5_best_100 : decode cX5_best 100 = .ok (.istore_n 3, 1) := by decide +kernel
theorem dX5_best_101 : decode cX5_best 101 = .ok (.iload 7, 2) := by decide +kernel
theorem dX5_best_103 : decode cX5_best 103 = .ok (.iload 4, 2) := by decide +kernel
theorem dX5_best_105 : decode cX5_best 105 = .ok (.if_icmp .le 8, 3) := by decide +kernel
theorem dX5_best_108 : decode cX5_best 108 = .ok (.iload 7, 2) := by decide +kernel
theorem dX5_best_110 : decode cX5_best 110 = .ok (.goto 5, 3) := by decide +kernel
theorem dX5_best_113 : decode cX5_best 113 = .ok (.iload 4, 2) := by decide +kernel
theorem dX5_best_115 : decode cX5_best 115 = .ok (.istore 4, 2) := by decide +kernel
theorem dX5_best_117 : decode cX5_best 117 = .ok (.iinc 5 1, 3) := by decide +kernel
theorem dX5_best_120 : decode cX5_best 120 = .ok (.goto (-78), 3) := by decide +kernel
theorem dX5_best_123 : decode cX5_best 123 = .ok (.iload_n 3, 1) := by decide +kernel
theorem dX5_best_124 : decode cX5_best 124 = .ok (.ireturn, 1) := by decide +kernel
theorem dX5_kind_0 : decode cX5_kind 0 = .ok (.aload_n 0, 1) := by decide +kernel
theorem dX5_kind_1 : decode cX5_kind 1 = .ok (.iload_n 1, 1) := by decide +kernel
theorem dX5_kind_2 : decode cX5_kind 2 = .ok (.invokevirtual 124, 3) := by decide +kernel
theorem dX5_kind_5 : decode cX5_kind 5 = .ok (.ifCond .eq 13, 3) := by decide +kernel
theorem dX5_kind_8 : decode cX5_kind 8 = .ok (.iload_n 2, 1) := by decide +kernel
theorem dX5_kind_9 : decode cX5_kind 9 = .ok (.iconst 1, 1) := by decide +kernel
theorem dX5_kind_10 : decode cX5_kind 10 = .ok (.bipush 40, 2) := by decide +kernel
theorem dX5_kind_12 : decode cX5_kind 12 = .ok (.invokestatic 51, 3) := by decide +kernel
theorem dX5_kind_15 : decode cX5_kind 15 = .ok (.ifCond .ne 10, 3) := by decide +kernel
theorem dX5_kind_18 : decode cX5_kind 18 = .ok (.aload_n 0, 1) := by decide +kernel
theorem dX5_kind_19 : decode cX5_kind 19 = .ok (.ldc 50, 2) := by decide +kernel
theorem dX5_kind_21 : decode cX5_kind 21 = .ok (.invokevirtual 67, 3) := by decide +kernel
theorem dX5_kind_24 : decode cX5_kind 24 = .ok (.ireturn, 1) := by decide +kernel
theorem dX5_kind_25 : decode cX5_kind 25 = .ok (.aload_n 0, 1) := by decide +kernel
theorem dX5_kind_26 : decode cX5_kind 26 = .ok (.iconst 1, 1) := by decide +kernel
theorem dX5_kind_27 : decode cX5_kind 27 = .ok (.aload_n 0, 1) := by decide +kernel
theorem dX5_kind_28 : decode cX5_kind 28 = .ok (.getfield 22, 3) := by decide +kernel
theorem dX5_kind_31 : decode cX5_kind 31 = .ok (.invokevirtual 156, 3) := by decide +kernel
theorem dX5_kind_34 : decode cX5_kind 34 = .ok (.iconst 0, 1) := by decide +kernel
theorem dX5_kind_35 : decode cX5_kind 35 = .ok (.istore_n 3, 1) := by decide +kernel
theorem dX5_kind_36 : decode cX5_kind 36 = .ok (.iconst (-1), 1) := by decide +kernel
theorem dX5_kind_37 : decode cX5_kind 37 = .ok (.istore 4, 2) := by decide +kernel
theorem dX5_kind_39 : decode cX5_kind 39 = .ok (.iconst 0, 1) := by decide +kernel
theorem dX5_kind_40 : decode cX5_kind 40 = .ok (.istore 5, 2) := by decide +kernel
theorem dX5_kind_42 : decode cX5_kind 42 = .ok (.iload 5, 2) := by decide +kernel
theorem dX5_kind_44 : decode cX5_kind 44 = .ok (.bipush 6, 2) := by decide +kernel
theorem dX5_kind_46 : decode cX5_kind 46 = .ok (.if_icmp .ge 58, 3) := by decide +kernel
theorem dX5_kind_49 : decode cX5_kind 49 = .ok (.aload_n 0, 1) := by decide +kernel
theorem dX5_kind_50 : decode cX5_kind 50 = .ok (.iload_n 1, 1) := by decide +kernel
theorem dX5_kind_51 : decode cX5_kind 51 = .ok (.iconst 0, 1) := by decide +kernel
theorem dX5_kind_52 : decode cX5_kind 52 = .ok (.iload 5, 2) := by decide +kernel
theorem dX5_kind_54 : decode cX5_kind 54 = .ok (.invokevirtual 108, 3) := by decide +kernel
theorem dX5_kind_57 : decode cX5_kind 57 = .ok (.aload_n 0, 1) := by decide +kernel
theorem dX5_kind_58 : decode cX5_kind 58 = .ok (.iload_n 1, 1) := by decide +kernel
theorem dX5_kind_59 : decode cX5_kind 59 = .ok (.iload_n 2, 1) := by decide +kernel
theorem dX5_kind_60 : decode cX5_kind 60 = .ok (.invokevirtual 170, 3) := by decide +kernel
theorem dX5_kind_63 : decode cX5_kind 63 = .ok (.invokestatic 74, 3) := by decide +kernel
theorem dX5_kind_66 : decode cX5_kind 66 = .ok (.istore 6, 2) := by decide +kernel
theorem dX5_kind_68 : decode cX5_kind 68 = .ok (.iload 6, 2) := by decide +kernel
theorem dX5_kind_70 : decode cX5_kind 70 = .ok (.iload 4, 2) := by decide +kernel
theorem dX5_kind_72 : decode cX5_kind 72 = .ok (.if_icmp .le 8, 3) := by decide +kernel
theorem dX5_kind_75 : decode cX5_kind 75 = .ok (.iload 5, 2) := by decide +kernel
theorem dX5_kind_77 : decode cX5_kind 77 = .ok (.goto 4, 3) := by decide +kernel
theorem dX5_kind_80 : decode cX5_kind 80 = .ok (.iload_n 3, 1) := by decide +kernel
theorem dX5_kind_81 : decode cX5_kind 81 = .ok (.istore_n 3, 1) := by decide +kernel
theorem dX5_kind_82 : decode cX5_kind 82 = .ok (.iload 6, 2) := by decide +kernel
theorem dX5_kind_84 : decode cX5_kind 84 = .ok (.iload 4, 2) := by decide +kernel
theorem dX5_kind_86 : decode cX5_kind 86 = .ok (.if_icmp .le 8, 3) := by decide +kernel
theorem dX5_kind_89 : decode cX5_kind 89 = .ok (.iload 6, 2) := by decide +kernel
theorem dX5_kind_91 : decode cX5_kind 91 = .ok (.goto 5, 3) := by decide +kernel
theorem dX5_kind_94 : decode cX5_kind 94 = .ok (.iload 4, 2) := by decide +kernel
theorem dX5_kind_96 : decode cX5_kind 96 = .ok (.istore 4, 2) := by decide +kernel
theorem dX5_kind_98 : decode cX5_kind 98 = .ok (.iinc 5 1, 3) := by decide +kernel
theorem dX5_kind_101 : decode cX5_kind 101 = .ok (.goto (-59), 3) := by decide +kernel
theorem dX5_kind_104 : decode cX5_kind 104 = .ok (.iload_n 3, 1) := by decide +kernel
theorem dX5_kind_105 : decode cX5_kind 105 = .ok (.ireturn, 1) := by decide +kernel
theorem dX5_deep_0 : decode cX5_deep 0 = .ok (.aload_n 0, 1) := by decide +kernel
theorem dX5_deep_1 : decode cX5_deep 1 = .ok (.iload_n 1, 1) := by decide +kernel
theorem dX5_deep_2 : decode cX5_deep 2 = .ok (.invokevirtual 124, 3) := by decide +kernel
theorem dX5_deep_5 : decode cX5_deep 5 = .ok (.ifCond .eq 26, 3) := by decide +kernel
theorem dX5_deep_8 : decode cX5_deep 8 = .ok (.aload_n 0, 1) := by decide +kernel
theorem dX5_deep_9 : decode cX5_deep 9 = .ok (.iload_n 2, 1) := by decide +kernel
theorem dX5_deep_10 : decode cX5_deep 10 = .ok (.invokevirtual 124, 3) := by decide +kernel
theorem dX5_deep_13 : decode cX5_deep 13 = .ok (.ifCond .eq 18, 3) := by decide +kernel
theorem dX5_deep_16 : decode cX5_deep 16 = .ok (.iload_n 1, 1) := by decide +kernel
theorem dX5_deep_17 : decode cX5_deep 17 = .ok (.iload_n 2, 1) := by decide +kernel
theorem dX5_deep_18 : decode cX5_deep 18 = .ok (.if_icmp .eq 13, 3) := by decide +kernel
theorem dX5_deep_21 : decode cX5_deep 21 = .ok (.iload_n 3, 1) := by decide +kernel
theorem dX5_deep_22 : decode cX5_deep 22 = .ok (.iconst 0, 1) := by decide +kernel
theorem dX5_deep_23 : decode cX5_deep 23 = .ok (.bipush 40, 2) := by decide +kernel
theorem dX5_deep_25 : decode cX5_deep 25 = .ok (.invokestatic 51, 3) := by decide +kernel
theorem dX5_deep_28 : decode cX5_deep 28 = .ok (.ifCond .ne 10, 3) := by decide +kernel
theorem dX5_deep_31 : decode cX5_deep 31 = .ok (.aload_n 0, 1) := by decide +kernel
theorem dX5_deep_32 : decode cX5_deep 32 = .ok (.ldc 50, 2) := by decide +kernel
theorem dX5_deep_34 : decode cX5_deep 34 = .ok (.invokevirtual 67, 3) := by decide +kernel
theorem dX5_deep_37 : decode cX5_deep 37 = .ok (.ireturn, 1) := by decide +kernel
theorem dX5_deep_38 : decode cX5_deep 38 = .ok (.aload_n 0, 1) := by decide +kernel
theorem dX5_deep_39 : decode cX5_deep 39 = .ok (.iconst 1, 1) := by decide +kernel
theorem dX5_deep_40 : decode cX5_deep 40 = .ok (.aload_n 0, 1) := by decide +kernel
theorem dX5_deep_41 : decode cX5_deep 41 = .ok (.getfield 22, 3) := by decide +kernel
theorem dX5_deep_44 : decode cX5_deep 44 = .ok (.invokevirtual 156, 3) := by decide +kernel
theorem dX5_deep_47 : decode cX5_deep 47 = .ok (.aload_n 0, 1) := by decide +kernel
theorem dX5_deep_48 : decode cX5_deep 48 = .ok (.iload_n 1, 1) := by decide +kernel
theorem dX5_deep_49 : decode cX5_deep 49 = .ok (.iconst 2, 1) := by decide +kernel
theorem dX5_deep_50 : decode cX5_deep 50 = .ok (.invokevirtual 55, 3) := by decide +kernel
theorem dX5_deep_53 : decode cX5_deep 53 = .ok (.istore 4, 2) := by decide +kernel
theorem dX5_deep_55 : decode cX5_deep 55 = .ok (.iconst 0, 1) := by decide +kernel
theorem dX5_deep_56 : decode cX5_deep 56 = .ok (.istore 5, 2) := by decide +kernel
theorem dX5_deep_58 : decode cX5_deep 58 = .ok (.iconst 0, 1) := by decide +kernel
theorem dX5_deep_59 : decode cX5_deep 59 = .ok (.istore 6, 2) := by decide +kernel
theorem dX5_deep_61 : decode cX5_deep 61 = .ok (.iload 5, 2) := by decide +kernel
theorem dX5_deep_63 : decode cX5_deep 63 = .ok (.bipush 9, 2) := by decide +kernel
theorem dX5_deep_65 : decode cX5_deep 65 = .ok (.if_icmp .ge 44, 3) := by decide +kernel
theorem dX5_deep_68 : decode cX5_deep 68 = .ok (.iload 6, 2) := by decide +kernel
theorem dX5_deep_70 : decode cX5_deep 70 = .ok (.ifCond .ne 39, 3) := by decide +kernel
theorem dX5_deep_73 : decode cX5_deep 73 = .ok (.iinc 5 1, 3) := by decide +kernel
theorem dX5_deep_76 : decode cX5_deep 76 = .ok (.aload_n 0, 1) := by decide +kernel
theorem dX5_deep_77 : decode cX5_deep 77 = .ok (.iload_n 1, 1) := by decide +kernel
theorem dX5_deep_78 : decode cX5_deep 78 = .ok (.iconst 3, 1) := by decide +kernel
theorem dX5_deep_79 : decode cX5_deep 79 = .ok (.iload 5, 2) := by decide +kernel
theorem dX5_deep_81 : decode cX5_deep 81 = .ok (.invokevirtual 108, 3) := by decide +kernel
theorem dX5_deep_84 : decode cX5_deep 84 = .ok (.aload_n 0, 1) := by decide +kernel
theorem dX5_deep_85 : decode cX5_deep 85 = .ok (.iload_n 2, 1) := by decide +kernel
theorem dX5_deep_86 : decode cX5_deep 86 = .ok (.iload_n 3, 1) := by decide +kernel
theorem dX5_deep_87 : decode cX5_deep 87 = .ok (.invokevirtual 170, 3) := by decide +kernel
theorem dX5_deep_90 : decode cX5_deep 90 = .ok (.iload 4, 2) := by decide +kernel
theorem dX5_deep_92 : decode cX5_deep 92 = .ok (.ishr, 1) := by decide +kernel
theorem dX5_deep_93 : decode cX5_deep 93 = .ok (.iconst 1, 1) := by decide +kernel
theorem dX5_deep_94 : decode cX5_deep 94 = .ok (.iand, 1) := by decide +kernel
theorem dX5_deep_95 : decode cX5_deep 95 = .ok (.iconst 1, 1) := by decide +kernel
theorem dX5_deep_96 : decode cX5_deep 96 = .ok (.if_icmp .ne 7, 3) := by decide +kernel
theorem dX5_deep_99 : decode cX5_deep 99 = .ok (.iconst 1, 1) := by decide +kernel
theorem dX5_deep_100 : decode cX5_deep 100 = .ok (.goto 4, 3) := by decide +kernel
theorem dX5_deep_103 : decode cX5_deep 103 = .ok (.iconst 0, 1) := by decide +kernel
theorem dX5_deep_104 : decode cX5_deep 104 = .ok (.istore 6, 2) := by decide +kernel
theorem dX5_deep_106 : decode cX5_deep 106 = .ok (.goto (-45), 3) := by decide +kernel
theorem dX5_deep_109 : decode cX5_deep 109 = .ok (.iload 6, 2) := by decide +kernel
theorem dX5_deep_111 : decode cX5_deep 111 = .ok (.ifCond .eq 8, 3) := by decide +kernel
theorem dX5_deep_114 : decode cX5_deep 114 = .ok (.iload 5, 2) := by decide +kernel
theorem dX5_deep_116 : decode cX5_deep 116 = .ok (.goto 9, 3) := by decide +kernel
theorem dX5_deep_119 : decode cX5_deep 119 = .ok (.aload_n 0, 1) := by decide +kernel
theorem dX5_deep_120 : decode cX5_deep 120 = .ok (.ldc 92, 2) := by decide +kernel
theorem dX5_deep_122 : decode cX5_deep 122 = .ok (.invokevirtual 67, 3) := by decide +kernel
theorem dX5_deep_125 : decode cX5_deep 125 = .ok (.ireturn, 1) := by decide +kernel
theorem dX5_shift_0 : decode cX5_shift 0 = .ok (.iload_n 1, 1) := by decide +kernel
theorem dX5_shift_1 : decode cX5_shift 1 = .ok (.iconst 1, 1) := by decide +kernel
theorem dX5_shift_2 : decode cX5_shift 2 = .ok (.bipush 40, 2) := by decide +kernel
theorem dX5_shift_4 : decode cX5_shift 4 = .ok (.invokestatic 51, 3) := by decide +kernel
theorem dX5_shift_7 : decode cX5_shift 7 = .ok (.ifCond .ne 10, 3) := by decide +kernel
theorem dX5_shift_10 : decode cX5_shift 10 = .ok (.aload_n 0, 1) := by decide +kernel
theorem dX5_shift_11 : decode cX5_shift 11 = .ok (.ldc 50, 2) := by decide +kernel
theorem dX5_shift_13 : decode cX5_shift 13 = .ok (.invokevirtual 67, 3) := by decide +kernel
theorem dX5_shift_16 : decode cX5_shift 16 = .ok (.ireturn, 1) := by decide +kernel
theorem dX5_shift_17 : decode cX5_shift 17 = .ok (.iconst 0, 1) := by decide +kernel
theorem dX5_shift_18 : decode cX5_shift 18 = .ok (.istore_n 2, 1) := by decide +kernel
theorem dX5_shift_19 : decode cX5_shift 19 = .ok (.aload_n 0, 1) := by decide +kernel
theorem dX5_shift_20 : decode cX5_shift 20 = .ok (.iload_n 2, 1) := by decide +kernel
theorem dX5_shift_21 : decode cX5_shift 21 = .ok (.invokevirtual 63, 3) := by decide +kernel
theorem dX5_shift_24 : decode cX5_shift 24 = .ok (.ifCond .lt 9, 3) := by decide +kernel
theorem dX5_shift_27 : decode cX5_shift 27 = .ok (.iinc 2 1, 3) := by decide +kernel
theorem dX5_shift_30 : decode cX5_shift 30 = .ok (.goto (-11), 3) := by decide +kernel
theorem dX5_shift_33 : decode cX5_shift 33 = .ok (.aload_n 0, 1) := by decide +kernel
theorem dX5_shift_34 : decode cX5_shift 34 = .ok (.iconst 1, 1) := by decide +kernel
theorem dX5_shift_35 : decode cX5_shift 35 = .ok (.aload_n 0, 1) := by decide +kernel
theorem dX5_shift_36 : decode cX5_shift 36 = .ok (.getfield 22, 3) := by decide +kernel
theorem dX5_shift_39 : decode cX5_shift 39 = .ok (.invokevirtual 156, 3) := by decide +kernel
theorem dX5_shift_42 : decode cX5_shift 42 = .ok (.iconst (-1), 1) := by decide +kernel
theorem dX5_shift_43 : decode cX5_shift 43 = .ok (.istore_n 3, 1) := by decide +kernel
theorem dX5_shift_44 : decode cX5_shift 44 = .ok (.iconst (-1), 1) := by decide +kernel
theorem dX5_shift_45 : decode cX5_shift 45 = .ok (.istore 4, 2) := by decide +kernel
theorem dX5_shift_47 : decode cX5_shift 47 = .ok (.iconst 0, 1) := by decide +kernel
theorem dX5_shift_48 : decode cX5_shift 48 = .ok (.istore 5, 2) := by decide +kernel
theorem dX5_shift_50 : decode cX5_shift 50 = .ok (.iload 5, 2) := by decide +kernel
theorem dX5_shift_52 : decode cX5_shift 52 = .ok (.aload_n 0, 1) := by decide +kernel
theorem dX5_shift_53 : decode cX5_shift 53 = .ok (.getfield 7, 3) := by decide +kernel
theorem dX5_shift_56 : decode cX5_shift 56 = .ok (.iconst 1, 1) := by decide +kernel
theorem dX5_shift_57 : decode cX5_shift 57 = .ok (.iaload, 1) := by decide +kernel
theorem dX5_shift_58 : decode cX5_shift 58 = .ok (.if_icmp .ge 67, 3) := by decide +kernel
theorem dX5_shift_61 : decode cX5_shift 61 = .ok (.aload_n 0, 1) := by decide +kernel
theorem dX5_shift_62 : decode cX5_shift 62 = .ok (.iload 5, 2) := by decide +kernel
theorem dX5_shift_64 : decode cX5_shift 64 = .ok (.iconst 1, 1) := by decide +kernel
theorem dX5_shift_65 : decode cX5_shift 65 = .ok (.iload_n 2, 1) := by decide +kernel
theorem dX5_shift_66 : decode cX5_shift 66 = .ok (.invokevirtual 108, 3) := by decide +kernel
theorem dX5_shift_69 : decode cX5_shift 69 = .ok (.aload_n 0, 1) := by decide +kernel
theorem dX5_shift_70 : decode cX5_shift 70 = .ok (.iload_n 1, 1) := by decide +kernel
theorem dX5_shift_71 : decode cX5_shift 71 = .ok (.invokevirtual 152, 3) := by decide +kernel
theorem dX5_shift_74 : decode cX5_shift 74 = .ok (.aload_n 0, 1) := by decide +kernel
theorem dX5_shift_75 : decode cX5_shift 75 = .ok (.invokevirtual 86, 3) := by decide +kernel
theorem dX5_shift_78 : decode cX5_shift 78 = .ok (.istore 6, 2) := by decide +kernel
theorem dX5_shift_80 : decode cX5_shift 80 = .ok (.aload_n 0, 1) := by decide +kernel
theorem dX5_shift_81 : decode cX5_shift 81 = .ok (.iconst 0, 1) := by decide +kernel
theorem dX5_shift_82 : decode cX5_shift 82 = .ok (.aload_n 0, 1) := by decide +kernel
theorem dX5_shift_83 : decode cX5_shift 83 = .ok (.getfield 22, 3) := by decide +kernel
theorem dX5_shift_86 : decode cX5_shift 86 = .ok (.invokevirtual 156, 3) := by decide +kernel
theorem dX5_shift_89 : decode cX5_shift 89 = .ok (.iload 6, 2) := by decide +kernel
theorem dX5_shift_91 : decode cX5_shift 91 = .ok (.iload 4, 2) := by decide +kernel
theorem dX5_shift_93 : decode cX5_shift 93 = .ok (.if_icmp .le 8, 3) := by decide +kernel
theorem dX5_shift_96 : decode cX5_shift 96 = .ok (.iload 5, 2) := by decide +kernel
theorem dX5_shift_98 : decode cX5_shift 98 = .ok (.goto 4, 3) := by decide +kernel
theorem dX5_shift_101 : decode cX5_shift 101 = .ok (.iload_n 3, 1) := by decide +kernel
theorem dX5_shift_102 : decode cX5_shift 102 = .ok (.istore_n 3, 1) := by decide +kernel
theorem dX5_shift_103 : decode cX5_shift 103 = .ok (.iload 6, 2) := by decide +kernel
theorem dX5_shift_105 : decode cX5_shift 105 = .ok (.iload 4, 2) := by decide +kernel
theorem dX5_shift_107 : decode cX5_shift 107 = .ok (.if_icmp .le 8, 3) := by decide +kernel
theorem dX5_shift_110 : decode cX5_shift 110 = .ok (.iload 6, 2) := by decide +kernel
theorem dX5_shift_112 : decode cX5_shift 112 = .ok (.goto 5, 3) := by decide +kernel
theorem dX5_shift_115 : decode cX5_shift 115 = .ok (.iload 4, 2) := by decide +kernel
theorem dX5_shift_117 : decode cX5_shift 117 = .ok (.istore 4, 2) := by decide +kernel
theorem dX5_shift_119 : decode cX5_shift 119 = .ok (.iinc 5 1, 3) := by decide +kernel
theorem dX5_shift_122 : decode cX5_shift 122 = .ok (.goto (-72), 3) := by decide +kernel
theorem dX5_shift_125 : decode cX5_shift 125 = .ok (.iload_n 3, 1) := by decide +kernel
theorem dX5_shift_126 : decode cX5_shift 126 = .ok (.ifCond .ge 12, 3) := by decide +kernel
theorem dX5_shift_129 : decode cX5_shift 129 = .ok (.aload_n 0, 1) := by decide +kernel
theorem dX5_shift_130 : decode cX5_shift 130 = .ok (.ldc 92, 2) := by decide +kernel
theorem dX5_shift_132 : decode cX5_shift 132 = .ok (.invokevirtual 67, 3) := by decide +kernel
theorem dX5_shift_135 : decode cX5_shift 135 = .ok (.goto 4, 3) := by decide +kernel
theorem dX5_shift_138 : decode cX5_shift 138 = .ok (.iload_n 3, 1) := by decide +kernel
theorem dX5_shift_139 : decode cX5_shift 139 = .ok (.ireturn, 1) := by decide +kernel
theorem dX5_bears_0 : decode cX5_bears 0 = .ok (.aload_n 0, 1) := by decide +kernel
theorem dX5_bears_1 : decode cX5_bears 1 = .ok (.iload_n 1, 1) := by decide +kernel
theorem dX5_bears_2 : decode cX5_bears 2 = .ok (.invokevirtual 124, 3) := by decide +kernel
theorem dX5_bears_5 : decode cX5_bears 5 = .ok (.ifCond .eq 23, 3) := by decide +kernel
theorem dX5_bears_8 : decode cX5_bears 8 = .ok (.iload_n 2, 1) := by decide +kernel
theorem dX5_bears_9 : decode cX5_bears 9 = .ok (.iconst 0, 1) := by decide +kernel
theorem dX5_bears_10 : decode cX5_bears 10 = .ok (.bipush 40, 2) := by decide +kernel
theorem dX5_bears_12 : decode cX5_bears 12 = .ok (.invokestatic 51, 3) := by decide +kernel
theorem dX5_bears_15 : decode cX5_bears 15 = .ok (.ifCond .eq 13, 3) := by decide +kernel
theorem dX5_bears_18 : decode cX5_bears 18 = .ok (.iload_n 3, 1) := by decide +kernel
theorem dX5_bears_19 : decode cX5_bears 19 = .ok (.iconst 0, 1) := by decide +kernel
theorem dX5_bears_20 : decode cX5_bears 20 = .ok (.bipush 10, 2) := by decide +kernel
theorem dX5_bears_22 : decode cX5_bears 22 = .ok (.invokestatic 51, 3) := by decide +kernel
theorem dX5_bears_25 : decode cX5_bears 25 = .ok (.ifCond .ne 10, 3) := by decide +kernel
theorem dX5_bears_28 : decode cX5_bears 28 = .ok (.aload_n 0, 1) := by decide +kernel
theorem dX5_bears_29 : decode cX5_bears 29 = .ok (.ldc 50, 2) := by decide +kernel
theorem dX5_bears_31 : decode cX5_bears 31 = .ok (.invokevirtual 67, 3) := by decide +kernel
theorem dX5_bears_34 : decode cX5_bears 34 = .ok (.ireturn, 1) := by decide +kernel
theorem dX5_bears_35 : decode cX5_bears 35 = .ok (.aload_n 0, 1) := by decide +kernel
theorem dX5_bears_36 : decode cX5_bears 36 = .ok (.iconst 1, 1) := by decide +kernel
theorem dX5_bears_37 : decode cX5_bears 37 = .ok (.aload_n 0, 1) := by decide +kernel
theorem dX5_bears_38 : decode cX5_bears 38 = .ok (.getfield 22, 3) := by decide +kernel
theorem dX5_bears_41 : decode cX5_bears 41 = .ok (.invokevirtual 156, 3) := by decide +kernel
theorem dX5_bears_44 : decode cX5_bears 44 = .ok (.bipush 100, 2) := by decide +kernel
theorem dX5_bears_46 : decode cX5_bears 46 = .ok (.istore 4, 2) := by decide +kernel
theorem dX5_bears_48 : decode cX5_bears 48 = .ok (.iconst 0, 1) := by decide +kernel
theorem dX5_bears_49 : decode cX5_bears 49 = .ok (.istore 5, 2) := by decide +kernel
theorem dX5_bears_51 : decode cX5_bears 51 = .ok (.iload 4, 2) := by decide +kernel
theorem dX5_bears_53 : decode cX5_bears 53 = .ok (.ifCond .le 42, 3) := by decide +kernel
theorem dX5_bears_56 : decode cX5_bears 56 = .ok (.iload 5, 2) := by decide +kernel
theorem dX5_bears_58 : decode cX5_bears 58 = .ok (.ifCond .ne 37, 3) := by decide +kernel
theorem dX5_bears_61 : decode cX5_bears 61 = .ok (.iinc 4 (-1), 3) := by decide +kernel
theorem dX5_bears_64 : decode cX5_bears 64 = .ok (.aload_n 0, 1) := by decide +kernel
theorem dX5_bears_65 : decode cX5_bears 65 = .ok (.iload_n 1, 1) := by decide +kernel
theorem dX5_bears_66 : decode cX5_bears 66 = .ok (.iconst 5, 1) := by decide +kernel
theorem dX5_bears_67 : decode cX5_bears 67 = .ok (.iload 4, 2) := by decide +kernel
theorem dX5_bears_69 : decode cX5_bears 69 = .ok (.invokevirtual 108, 3) := by decide +kernel
theorem dX5_bears_72 : decode cX5_bears 72 = .ok (.aload_n 0, 1) := by decide +kernel
theorem dX5_bears_73 : decode cX5_bears 73 = .ok (.iload_n 1, 1) := by decide +kernel
theorem dX5_bears_74 : decode cX5_bears 74 = .ok (.iload_n 2, 1) := by decide +kernel
theorem dX5_bears_75 : decode cX5_bears 75 = .ok (.invokevirtual 170, 3) := by decide +kernel
theorem dX5_bears_78 : decode cX5_bears 78 = .ok (.invokestatic 74, 3) := by decide +kernel
theorem dX5_bears_81 : decode cX5_bears 81 = .ok (.iload_n 3, 1) := by decide +kernel
theorem dX5_bears_82 : decode cX5_bears 82 = .ok (.if_icmp .lt 7, 3) := by decide +kernel
theorem dX5_bears_85 : decode cX5_bears 85 = .ok (.iconst 1, 1) := by decide +kernel
theorem dX5_bears_86 : decode cX5_bears 86 = .ok (.goto 4, 3) := by decide +kernel
theorem dX5_bears_89 : decode cX5_bears 89 = .ok (.iconst 0, 1) := by decide +kernel
theorem dX5_bears_90 : decode cX5_bears 90 = .ok (.istore 5, 2) := by decide +kernel
theorem dX5_bears_92 : decode cX5_bears 92 = .ok (.goto (-41), 3) := by decide +kernel
theorem dX5_bears_95 : decode cX5_bears 95 = .ok (.iload 5, 2) := by decide +kernel
theorem dX5_bears_97 : decode cX5_bears 97 = .ok (.ifCond .eq 8, 3) := by decide +kernel
theorem dX5_bears_100 : decode cX5_bears 100 = .ok (.iload 4, 2) := by decide +kernel
theorem dX5_bears_102 : decode cX5_bears 102 = .ok (.goto 9, 3) := by decide +kernel
theorem dX5_bears_105 : decode cX5_bears 105 = .ok (.aload_n 0, 1) := by decide +kernel
theorem dX5_bears_106 : decode cX5_bears 106 = .ok (.ldc 92, 2) := by decide +kernel
theorem dX5_bears_108 : decode cX5_bears 108 = .ok (.invokevirtual 67, 3) := by decide +kernel
theorem dX5_bears_111 : decode cX5_bears 111 = .ok (.ireturn, 1) := by decide +kernel
theorem dX5_wisest_0 : decode cX5_wisest 0 = .ok (.iload_n 1, 1) := by decide +kernel
theorem dX5_wisest_1 : decode cX5_wisest 1 = .ok (.iconst 0, 1) := by decide +kernel
theorem dX5_wisest_2 : decode cX5_wisest 2 = .ok (.bipush 100, 2) := by decide +kernel
theorem dX5_wisest_4 : decode cX5_wisest 4 = .ok (.invokestatic 51, 3) := by decide +kernel
theorem dX5_wisest_7 : decode cX5_wisest 7 = .ok (.ifCond .ne 10, 3) := by decide +kernel
theorem dX5_wisest_10 : decode cX5_wisest 10 = .ok (.aload_n 0, 1) := by decide +kernel
theorem dX5_wisest_11 : decode cX5_wisest 11 = .ok (.ldc 50, 2) := by decide +kernel
theorem dX5_wisest_13 : decode cX5_wisest 13 = .ok (.invokevirtual 67, 3) := by decide +kernel
theorem dX5_wisest_16 : decode cX5_wisest 16 = .ok (.ireturn, 1) := by decide +kernel
theorem dX5_wisest_17 : decode cX5_wisest 17 = .ok (.aload_n 0, 1) := by decide +kernel
theorem dX5_wisest_18 : decode cX5_wisest 18 = .ok (.iconst 1, 1) := by decide +kernel
theorem dX5_wisest_19 : decode cX5_wisest 19 = .ok (.aload_n 0, 1) := by decide +kernel
theorem dX5_wisest_20 : decode cX5_wisest 20 = .ok (.getfield 22, 3) := by decide +kernel
theorem dX5_wisest_23 : decode cX5_wisest 23 = .ok (.invokevirtual 156, 3) := by decide +kernel
theorem dX5_wisest_26 : decode cX5_wisest 26 = .ok (.aload_n 0, 1) := by decide +kernel
theorem dX5_wisest_27 : decode cX5_wisest 27 = .ok (.iload_n 1, 1) := by decide +kernel
theorem dX5_wisest_28 : decode cX5_wisest 28 = .ok (.invokevirtual 152, 3) := by decide +kernel
theorem dX5_wisest_31 : decode cX5_wisest 31 = .ok (.iconst (-1), 1) := by decide +kernel
theorem dX5_wisest_32 : decode cX5_wisest 32 = .ok (.istore_n 2, 1) := by decide +kernel
theorem dX5_wisest_33 : decode cX5_wisest 33 = .ok (.iconst 0, 1) := by decide +kernel
theorem dX5_wisest_34 : decode cX5_wisest 34 = .ok (.istore_n 3, 1) := by decide +kernel
theorem dX5_wisest_35 : decode cX5_wisest 35 = .ok (.iload_n 3, 1) := by decide +kernel
theorem dX5_wisest_36 : decode cX5_wisest 36 = .ok (.aload_n 0, 1) := by decide +kernel
theorem dX5_wisest_37 : decode cX5_wisest 37 = .ok (.getfield 7, 3) := by decide +kernel
theorem dX5_wisest_40 : decode cX5_wisest 40 = .ok (.iconst 1, 1) := by decide +kernel
theorem dX5_wisest_41 : decode cX5_wisest 41 = .ok (.iaload, 1) := by decide +kernel
theorem dX5_wisest_42 : decode cX5_wisest 42 = .ok (.if_icmp .ge 40, 3) := by decide +kernel
theorem dX5_wisest_45 : decode cX5_wisest 45 = .ok (.iload_n 2, 1) := by decide +kernel
theorem dX5_wisest_46 : decode cX5_wisest 46 = .ok (.ifCond .lt 24, 3) := by decide +kernel
theorem dX5_wisest_49 : decode cX5_wisest 49 = .ok (.aload_n 0, 1) := by decide +kernel
theorem dX5_wisest_50 : decode cX5_wisest 50 = .ok (.iload_n 3, 1) := by decide +kernel
theorem dX5_wisest_51 : decode cX5_wisest 51 = .ok (.iconst 4, 1) := by decide +kernel
theorem dX5_wisest_52 : decode cX5_wisest 52 = .ok (.invokevirtual 55, 3) := by decide +kernel
theorem dX5_wisest_55 : decode cX5_wisest 55 = .ok (.invokestatic 74, 3) := by decide +kernel
theorem dX5_wisest_58 : decode cX5_wisest 58 = .ok (.aload_n 0, 1) := by decide +kernel
theorem dX5_wisest_59 : decode cX5_wisest 59 = .ok (.iload_n 2, 1) := by decide +kernel
theorem dX5_wisest_60 : decode cX5_wisest 60 = .ok (.iconst 4, 1) := by decide +kernel
theorem dX5_wisest_61 : decode cX5_wisest 61 = .ok (.invokevirtual 55, 3) := by decide +kernel
theorem dX5_wisest_64 : decode cX5_wisest 64 = .ok (.invokestatic 74, 3) := by decide +kernel
theorem dX5_wisest_67 : decode cX5_wisest 67 = .ok (.if_icmp .le 7, 3) := by decide +kernel
theorem dX5_wisest_70 : decode cX5_wisest 70 = .ok (.iload_n 3, 1) := by decide +kernel
theorem dX5_wisest_71 : decode cX5_wisest 71 = .ok (.goto 4, 3) := by decide +kernel
theorem dX5_wisest_74 : decode cX5_wisest 74 = .ok (.iload_n 2, 1) := by decide +kernel
theorem dX5_wisest_75 : decode cX5_wisest 75 = .ok (.istore_n 2, 1) := by decide +kernel
theorem dX5_wisest_76 : decode cX5_wisest 76 = .ok (.iinc 3 1, 3) := by decide +kernel
theorem dX5_wisest_79 : decode cX5_wisest 79 = .ok (.goto (-44), 3) := by decide +kernel
theorem dX5_wisest_82 : decode cX5_wisest 82 = .ok (.aload_n 0, 1) := by decide +kernel
theorem dX5_wisest_83 : decode cX5_wisest 83 = .ok (.iconst 0, 1) := by decide +kernel
theorem dX5_wisest_84 : decode cX5_wisest 84 = .ok (.aload_n 0, 1) := by decide +kernel
theorem dX5_wisest_85 : decode cX5_wisest 85 = .ok (.getfield 22, 3) := by decide +kernel
theorem dX5_wisest_88 : decode cX5_wisest 88 = .ok (.invokevirtual 156, 3) := by decide +kernel
theorem dX5_wisest_91 : decode cX5_wisest 91 = .ok (.iload_n 2, 1) := by decide +kernel
theorem dX5_wisest_92 : decode cX5_wisest 92 = .ok (.ifCond .ge 12, 3) := by decide +kernel
theorem dX5_wisest_95 : decode cX5_wisest 95 = .ok (.aload_n 0, 1) := by decide +kernel
theorem dX5_wisest_96 : decode cX5_wisest 96 = .ok (.ldc 92, 2) := by decide +kernel
theorem dX5_wisest_98 : decode cX5_wisest 98 = .ok (.invokevirtual 67, 3) := by decide +kernel
theorem dX5_wisest_101 : decode cX5_wisest 101 = .ok (.goto 4, 3) := by decide +kernel
theorem dX5_wisest_104 : decode cX5_wisest 104 = .ok (.iload_n 2, 1) := by decide +kernel
theorem dX5_wisest_105 : decode cX5_wisest 105 = .ok (.ireturn, 1) := by decide +kernel
theorem dX5_feed_0 : decode cX5_feed 0 = .ok (.iload_n 2, 1) := by decide +kernel
theorem dX5_feed_1 : decode cX5_feed 1 = .ok (.iconst 1, 1) := by decide +kernel
theorem dX5_feed_2 : decode cX5_feed 2 = .ok (.iconst 4, 1) := by decide +kernel
theorem dX5_feed_3 : decode cX5_feed 3 = .ok (.invokestatic 51, 3) := by decide +kernel
theorem dX5_feed_6 : decode cX5_feed 6 = .ok (.ifCond .ne 10, 3) := by decide +kernel
theorem dX5_feed_9 : decode cX5_feed 9 = .ok (.aload_n 0, 1) := by decide +kernel
theorem dX5_feed_10 : decode cX5_feed 10 = .ok (.ldc 50, 2) := by decide +kernel
theorem dX5_feed_12 : decode cX5_feed 12 = .ok (.invokevirtual 67, 3) := by decide +kernel
theorem dX5_feed_15 : decode cX5_feed 15 = .ok (.ireturn, 1) := by decide +kernel
theorem dX5_feed_16 : decode cX5_feed 16 = .ok (.aload_n 0, 1) := by decide +kernel
theorem dX5_feed_17 : decode cX5_feed 17 = .ok (.getfield 173, 3) := by decide +kernel
theorem dX5_feed_20 : decode cX5_feed 20 = .ok (.iload_n 2, 1) := by decide +kernel
theorem dX5_feed_21 : decode cX5_feed 21 = .ok (.iadd, 1) := by decide +kernel
theorem dX5_feed_22 : decode cX5_feed 22 = .ok (.bipush 120, 2) := by decide +kernel
theorem dX5_feed_24 : decode cX5_feed 24 = .ok (.if_icmp .le 10, 3) := by decide +kernel
theorem dX5_feed_27 : decode cX5_feed 27 = .ok (.aload_n 0, 1) := by decide +kernel
theorem dX5_feed_28 : decode cX5_feed 28 = .ok (.ldc 118, 2) := by decide +kernel
theorem dX5_feed_30 : decode cX5_feed 30 = .ok (.invokevirtual 67, 3) := by decide +kernel
theorem dX5_feed_33 : decode cX5_feed 33 = .ok (.ireturn, 1) := by decide +kernel
theorem dX5_feed_34 : decode cX5_feed 34 = .ok (.iload_n 2, 1) := by decide +kernel
theorem dX5_feed_35 : decode cX5_feed 35 = .ok (.iconst 1, 1) := by decide +kernel
theorem dX5_feed_36 : decode cX5_feed 36 = .ok (.isub, 1) := by decide +kernel
theorem dX5_feed_37 : decode cX5_feed 37 = .ok (.istore_n 3, 1) := by decide +kernel
theorem dX5_feed_38 : decode cX5_feed 38 = .ok (.iload_n 3, 1) := by decide +kernel
theorem dX5_feed_39 : decode cX5_feed 39 = .ok (.ifCond .lt 38, 3) := by decide +kernel
theorem dX5_feed_42 : decode cX5_feed 42 = .ok (.aload_n 0, 1) := by decide +kernel
theorem dX5_feed_43 : decode cX5_feed 43 = .ok (.getfield 28, 3) := by decide +kernel
theorem dX5_feed_46 : decode cX5_feed 46 = .ok (.aload_n 0, 1) := by decide +kernel
theorem dX5_feed_47 : decode cX5_feed 47 = .ok (.getfield 173, 3) := by decide +kernel
theorem dX5_feed_50 : decode cX5_feed 50 = .ok (.iload_n 1, 1) := by decide +kernel
theorem dX5_feed_51 : decode cX5_feed 51 = .ok (.bipush 8, 2) := by decide +kernel
theorem dX5_feed_53 : decode cX5_feed 53 = .ok (.iload_n 3, 1) := by decide +kernel
theorem dX5_feed_54 : decode cX5_feed 54 = .ok (.imul, 1) := by decide +kernel
theorem dX5_feed_55 : decode cX5_feed 55 = .ok (.ishr, 1) := by decide +kernel
theorem dX5_feed_56 : decode cX5_feed 56 = .ok (.sipush 255, 3) := by decide +kernel
theorem dX5_feed_59 : decode cX5_feed 59 = .ok (.iand, 1) := by decide +kernel
theorem dX5_feed_60 : decode cX5_feed 60 = .ok (.iastore, 1) := by decide +kernel
theorem dX5_feed_61 : decode cX5_feed 61 = .ok (.aload_n 0, 1) := by decide +kernel
theorem dX5_feed_62 : decode cX5_feed 62 = .ok (.dup, 1) := by decide +kernel
theorem dX5_feed_63 : decode cX5_feed 63 = .ok (.getfield 173, 3) := by decide +kernel
theorem dX5_feed_66 : decode cX5_feed 66 = .ok (.iconst 1, 1) := by decide +kernel
theorem dX5_feed_67 : decode cX5_feed 67 = .ok (.iadd, 1) := by decide +kernel
theorem dX5_feed_68 : decode cX5_feed 68 = .ok (.putfield 173, 3) := by decide +kernel
theorem dX5_feed_71 : decode cX5_feed 71 = .ok (.iinc 3 (-1), 3) := by decide +kernel
theorem dX5_feed_74 : decode cX5_feed 74 = .ok (.goto (-36), 3) := by decide +kernel
theorem dX5_feed_77 : decode cX5_feed 77 = .ok (.aload_n 0, 1) := by decide +kernel
theorem dX5_feed_78 : decode cX5_feed 78 = .ok (.getfield 173, 3) := by decide +kernel
theorem dX5_feed_81 : decode cX5_feed 81 = .ok (.ireturn, 1) := by decide +kernel
theorem dX5_wipe_0 : decode cX5_wipe 0 = .ok (.aload_n 0, 1) := by decide +kernel
theorem dX5_wipe_1 : decode cX5_wipe 1 = .ok (.getfield 173, 3) := by decide +kernel
theorem dX5_wipe_4 : decode cX5_wipe 4 = .ok (.istore_n 1, 1) := by decide +kernel
theorem dX5_wipe_5 : decode cX5_wipe 5 = .ok (.aload_n 0, 1) := by decide +kernel
theorem dX5_wipe_6 : decode cX5_wipe 6 = .ok (.iconst 0, 1) := by decide +kernel
theorem dX5_wipe_7 : decode cX5_wipe 7 = .ok (.putfield 173, 3) := by decide +kernel
theorem dX5_wipe_10 : decode cX5_wipe 10 = .ok (.iload_n 1, 1) := by decide +kernel
theorem dX5_wipe_11 : decode cX5_wipe 11 = .ok (.ireturn, 1) := by decide +kernel
theorem dX5_byteAt_0 : decode cX5_byteAt 0 = .ok (.iload_n 1, 1) := by decide +kernel
theorem dX5_byteAt_1 : decode cX5_byteAt 1 = .ok (.aload_n 0, 1) := by decide +kernel
theorem dX5_byteAt_2 : decode cX5_byteAt 2 = .ok (.getfield 173, 3) := by decide +kernel
theorem dX5_byteAt_5 : decode cX5_byteAt 5 = .ok (.if_icmp .ge 12, 3) := by decide +kernel
theorem dX5_byteAt_8 : decode cX5_byteAt 8 = .ok (.aload_n 0, 1) := by decide +kernel
theorem dX5_byteAt_9 : decode cX5_byteAt 9 = .ok (.getfield 28, 3) := by decide +kernel
theorem dX5_byteAt_12 : decode cX5_byteAt 12 = .ok (.iload_n 1, 1) := by decide +kernel
theorem dX5_byteAt_13 : decode cX5_byteAt 13 = .ok (.iaload, 1) := by decide +kernel
theorem dX5_byteAt_14 : decode cX5_byteAt 14 = .ok (.goto 4, 3) := by decide +kernel
theorem dX5_byteAt_17 : decode cX5_byteAt 17 = .ok (.iconst (-1), 1) := by decide +kernel
theorem dX5_byteAt_18 : decode cX5_byteAt 18 = .ok (.ireturn, 1) := by decide +kernel
theorem dX5_isLetter_0 : decode cX5_isLetter 0 = .ok (.iload_n 0, 1) := by decide +kernel
theorem dX5_isLetter_1 : decode cX5_isLetter 1 = .ok (.bipush 97, 2) := by decide +kernel
theorem dX5_isLetter_3 : decode cX5_isLetter 3 = .ok (.bipush 122, 2) := by decide +kernel
theorem dX5_isLetter_5 : decode cX5_isLetter 5 = .ok (.invokestatic 51, 3) := by decide +kernel
theorem dX5_isLetter_8 : decode cX5_isLetter 8 = .ok (.ireturn, 1) := by decide +kernel
theorem dX5_isDigit_0 : decode cX5_isDigit 0 = .ok (.iload_n 0, 1) := by decide +kernel
theorem dX5_isDigit_1 : decode cX5_isDigit 1 = .ok (.bipush 48, 2) := by decide +kernel
theorem dX5_isDigit_3 : decode cX5_isDigit 3 = .ok (.bipush 57, 2) := by decide +kernel
theorem dX5_isDigit_5 : decode cX5_isDigit 5 = .ok (.invokestatic 51, 3) := by decide +kernel
theorem dX5_isDigit_8 : decode cX5_isDigit 8 = .ok (.ireturn, 1) := by decide +kernel
theorem dX5_advance_0 : decode cX5_advance 0 = .ok (.aload_n 0, 1) := by decide +kernel
theorem dX5_advance_1 : decode cX5_advance 1 = .ok (.aload_n 0, 1) := by decide +kernel
theorem dX5_advance_2 : decode cX5_advance 2 = .ok (.getfield 177, 3) := by decide +kernel
theorem dX5_advance_5 : decode cX5_advance 5 = .ok (.putfield 180, 3) := by decide +kernel
theorem dX5_advance_8 : decode cX5_advance 8 = .ok (.aload_n 0, 1) := by decide +kernel
theorem dX5_advance_9 : decode cX5_advance 9 = .ok (.aload_n 0, 1) := by decide +kernel
theorem dX5_advance_10 : decode cX5_advance 10 = .ok (.getfield 180, 3) := by decide +kernel
theorem dX5_advance_13 : decode cX5_advance 13 = .ok (.invokevirtual 183, 3) := by decide +kernel
theorem dX5_advance_16 : decode cX5_advance 16 = .ok (.bipush 32, 2) := by decide +kernel
theorem dX5_advance_18 : decode cX5_advance 18 = .ok (.if_icmp .ne 16, 3) := by decide +kernel
theorem dX5_advance_21 : decode cX5_advance 21 = .ok (.aload_n 0, 1) := by decide +kernel
theorem dX5_advance_22 : decode cX5_advance 22 = .ok (.dup, 1) := by decide +kernel
theorem dX5_advance_23 : decode cX5_advance 23 = .ok (.getfield 180, 3) := by decide +kernel
theorem dX5_advance_26 : decode cX5_advance 26 = .ok (.iconst 1, 1) := by decide +kernel
theorem dX5_advance_27 : decode cX5_advance 27 = .ok (.iadd, 1) := by decide +kernel
theorem dX5_advance_28 : decode cX5_advance 28 = .ok (.putfield 180, 3) := by decide +kernel
theorem dX5_advance_31 : decode cX5_advance 31 = .ok (.goto (-23), 3) := by decide +kernel
theorem dX5_advance_34 : decode cX5_advance 34 = .ok (.aload_n 0, 1) := by decide +kernel
theorem dX5_advance_35 : decode cX5_advance 35 = .ok (.aload_n 0, 1) := by decide +kernel
theorem dX5_advance_36 : decode cX5_advance 36 = .ok (.getfield 180, 3) := by decide +kernel
theorem dX5_advance_39 : decode cX5_advance 39 = .ok (.putfield 177, 3) := by decide +kernel
theorem dX5_advance_42 : decode cX5_advance 42 = .ok (.aload_n 0, 1) := by decide +kernel
theorem dX5_advance_43 : decode cX5_advance 43 = .ok (.aload_n 0, 1) := by decide +kernel
theorem dX5_advance_44 : decode cX5_advance 44 = .ok (.getfield 180, 3) := by decide +kernel
theorem dX5_advance_47 : decode cX5_advance 47 = .ok (.invokevirtual 183, 3) := by decide +kernel
theorem dX5_advance_50 : decode cX5_advance 50 = .ok (.istore_n 1, 1) := by decide +kernel
theorem dX5_advance_51 : decode cX5_advance 51 = .ok (.aload_n 0, 1) := by decide +kernel
theorem dX5_advance_52 : decode cX5_advance 52 = .ok (.iload_n 1, 1) := by decide +kernel
theorem dX5_advance_53 : decode cX5_advance 53 = .ok (.ifCond .ge 7, 3) := by decide +kernel
theorem dX5_advance_56 : decode cX5_advance 56 = .ok (.iconst 0, 1) := by decide +kernel
theorem dX5_advance_57 : decode cX5_advance 57 = .ok (.goto 26, 3) := by decide +kernel
theorem dX5_advance_60 : decode cX5_advance 60 = .ok (.iload_n 1, 1) := by decide +kernel
theorem dX5_advance_61 : decode cX5_advance 61 = .ok (.invokestatic 186, 3) := by decide +kernel
theorem dX5_advance_64 : decode cX5_advance 64 = .ok (.ifCond .eq 7, 3) := by decide +kernel
theorem dX5_advance_67 : decode cX5_advance 67 = .ok (.iconst 1, 1) := by decide +kernel
theorem dX5_advance_68 : decode cX5_advance 68 = .ok (.goto 15, 3) := by decide +kernel
theorem dX5_advance_71 : decode cX5_advance 71 = .ok (.iload_n 1, 1) := by decide +kernel
theorem dX5_advance_72 : decode cX5_advance 72 = .ok (.invokestatic 189, 3) := by decide +kernel
theorem dX5_advance_75 : decode cX5_advance 75 = .ok (.ifCond .eq 7, 3) := by decide +kernel
theorem dX5_advance_78 : decode cX5_advance 78 = .ok (.iconst 2, 1) := by decide +kernel
theorem dX5_advance_79 : decode cX5_advance 79 = .ok (.goto 4, 3) := by decide +kernel
theorem dX5_advance_82 : decode cX5_advance 82 = .ok (.iconst 3, 1) := by decide +kernel
theorem dX5_advance_83 : decode cX5_advance 83 = .ok (.putfield 192, 3) := by decide +kernel
theorem dX5_advance_86 : decode cX5_advance 86 = .ok (.aload_n 0, 1) := by decide +kernel
theorem dX5_advance_87 : decode cX5_advance 87 = .ok (.lconst 0, 1) := by decide +kernel
theorem dX5_advance_88 : decode cX5_advance 88 = .ok (.putfield 195, 3) := by decide +kernel
theorem dX5_advance_91 : decode cX5_advance 91 = .ok (.aload_n 0, 1) := by decide +kernel
theorem dX5_advance_92 : decode cX5_advance 92 = .ok (.aload_n 0, 1) := by decide +kernel
theorem dX5_advance_93 : decode cX5_advance 93 = .ok (.getfield 192, 3) := by decide +kernel
theorem dX5_advance_96 : decode cX5_advance 96 = .ok (.iconst 2, 1) := by decide +kernel
theorem dX5_advance_97 : decode cX5_advance 97 = .ok (.if_icmp .ne 7, 3) := by decide +kernel
theorem dX5_advance_100 : decode cX5_advance 100 = .ok (.iconst 0, 1) := by decide +kernel
theorem dX5_advance_101 : decode cX5_advance 101 = .ok (.goto 4, 3) := by decide +kernel
theorem dX5_advance_104 : decode cX5_advance 104 = .ok (.iload_n 1, 1) := by decide +kernel
theorem dX5_advance_105 : decode cX5_advance 105 = .ok (.putfield 199, 3) := by decide +kernel
theorem dX5_advance_108 : decode cX5_advance 108 = .ok (.aload_n 0, 1) := by decide +kernel
theorem dX5_advance_109 : decode cX5_advance 109 = .ok (.getfield 192, 3) := by decide +kernel
theorem dX5_advance_112 : decode cX5_advance 112 = .ok (.iconst 3, 1) := by decide +kernel
theorem dX5_advance_113 : decode cX5_advance 113 = .ok (.if_icmp .ne 13, 3) := by decide +kernel
theorem dX5_advance_116 : decode cX5_advance 116 = .ok (.aload_n 0, 1) := by decide +kernel
theorem dX5_advance_117 : decode cX5_advance 117 = .ok (.dup, 1) := by decide +kernel
theorem dX5_advance_118 : decode cX5_advance 118 = .ok (.getfield 177, 3) := by decide +kernel
theorem dX5_advance_121 : decode cX5_advance 121 = .ok (.iconst 1, 1) := by decide +kernel
theorem dX5_advance_122 : decode cX5_advance 122 = .ok (.iadd, 1) := by decide +kernel
theorem dX5_advance_123 : decode cX5_advance 123 = .ok (.putfield 177, 3) := by decide +kernel
theorem dX5_advance_126 : decode cX5_advance 126 = .ok (.aload_n 0, 1) := by decide +kernel
theorem dX5_advance_127 : decode cX5_advance 127 = .ok (.getfield 192, 3) := by decide +kernel
theorem dX5_advance_130 : decode cX5_advance 130 = .ok (.iconst 1, 1) := by decide +kernel
theorem dX5_advance_131 : decode cX5_advance 131 = .ok (.if_icmp .ne 76, 3) := by decide +kernel
theorem dX5_advance_134 : decode cX5_advance 134 = .ok (.aload_n 0, 1) := by decide +kernel
theorem dX5_advance_135 : decode cX5_advance 135 = .ok (.aload_n 0, 1) := by decide +kernel
theorem dX5_advance_136 : decode cX5_advance 136 = .ok (.getfield 177, 3) := by decide +kernel
theorem dX5_advance_139 : decode cX5_advance 139 = .ok (.invokevirtual 183, 3) := by decide +kernel
theorem dX5_advance_142 : decode cX5_advance 142 = .ok (.invokestatic 186, 3) := by decide +kernel
theorem dX5_advance_145 : decode cX5_advance 145 = .ok (.ifCond .eq 62, 3) := by decide +kernel
theorem dX5_advance_148 : decode cX5_advance 148 = .ok (.aload_n 0, 1) := by decide +kernel
theorem dX5_advance_149 : decode cX5_advance 149 = .ok (.aload_n 0, 1) := by decide +kernel
theorem dX5_advance_150 : decode cX5_advance 150 = .ok (.getfield 177, 3) := by decide +kernel
theorem dX5_advance_153 : decode cX5_advance 153 = .ok (.aload_n 0, 1) := by decide +kernel
theorem dX5_advance_154 : decode cX5_advance 154 = .ok (.getfield 180, 3) := by decide +kernel
theorem dX5_advance_157 : decode cX5_advance 157 = .ok (.isub, 1) := by decide +kernel
theorem dX5_advance_158 : decode cX5_advance 158 = .ok (.bipush 12, 2) := by decide +kernel
theorem dX5_advance_160 : decode cX5_advance 160 = .ok (.if_icmp .ge 28, 3) := by decide +kernel
theorem dX5_advance_163 : decode cX5_advance 163 = .ok (.ldc2_w 202, 3) := by decide +kernel
theorem dX5_advance_166 : decode cX5_advance 166 = .ok (.aload_n 0, 1) := by decide +kernel
theorem dX5_advance_167 : decode cX5_advance 167 = .ok (.getfield 195, 3) := by decide +kernel
theorem dX5_advance_170 : decode cX5_advance 170 = .ok (.lmul, 1) := by decide +kernel
theorem dX5_advance_171 : decode cX5_advance 171 = .ok (.aload_n 0, 1) := by decide +kernel
theorem dX5_advance_172 : decode cX5_advance 172 = .ok (.aload_n 0, 1) := by decide +kernel
theorem dX5_advance_173 : decode cX5_advance 173 = .ok (.getfield 177, 3) := by decide +kernel
theorem dX5_advance_176 : decode cX5_advance 176 = .ok (.invokevirtual 183, 3) := by decide +kernel
theorem dX5_advance_179 : decode cX5_advance 179 = .ok (.i2l, 1) := by decide +kernel
theorem dX5_advance_180 : decode cX5_advance 180 = .ok (.ladd, 1) := by decide +kernel
theorem dX5_advance_181 : decode cX5_advance 181 = .ok (.ldc2_w 204, 3) := by decide +kernel
theorem dX5_advance_184 : decode cX5_advance 184 = .ok (.lsub, 1) := by decide +kernel
theorem dX5_advance_185 : decode cX5_advance 185 = .ok (.goto 6, 3) := by decide +kernel
theorem dX5_advance_188 : decode cX5_advance 188 = .ok (.ldc2_w 206, 3) := by decide +kernel
theorem dX5_advance_191 : decode cX5_advance 191 = .ok (.putfield 195, 3) := by decide +kernel
theorem dX5_advance_194 : decode cX5_advance 194 = .ok (.aload_n 0, 1) := by decide +kernel
theorem dX5_advance_195 : decode cX5_advance 195 = .ok (.dup, 1) := by decide +kernel
theorem dX5_advance_196 : decode cX5_advance 196 = .ok (.getfield 177, 3) := by decide +kernel
theorem dX5_advance_199 : decode cX5_advance 199 = .ok (.iconst 1, 1) := by decide +kernel
theorem dX5_advance_200 : decode cX5_advance 200 = .ok (.iadd, 1) := by decide +kernel
theorem dX5_advance_201 : decode cX5_advance 201 = .ok (.putfield 177, 3) := by decide +kernel
theorem dX5_advance_204 : decode cX5_advance 204 = .ok (.goto (-78), 3) := by decide +kernel
theorem dX5_advance_207 : decode cX5_advance 207 = .ok (.aload_n 0, 1) := by decide +kernel
theorem dX5_advance_208 : decode cX5_advance 208 = .ok (.getfield 192, 3) := by decide +kernel
theorem dX5_advance_211 : decode cX5_advance 211 = .ok (.iconst 2, 1) := by decide +kernel
theorem dX5_advance_212 : decode cX5_advance 212 = .ok (.if_icmp .ne 69, 3) := by decide +kernel
theorem dX5_advance_215 : decode cX5_advance 215 = .ok (.aload_n 0, 1) := by decide +kernel
theorem dX5_advance_216 : decode cX5_advance 216 = .ok (.aload_n 0, 1) := by decide +kernel
theorem dX5_advance_217 : decode cX5_advance 217 = .ok (.getfield 177, 3) := by decide +kernel
theorem dX5_advance_220 : decode cX5_advance 220 = .ok (.invokevirtual 183, 3) := by decide +kernel
theorem dX5_advance_223 : decode cX5_advance 223 = .ok (.invokestatic 189, 3) := by decide +kernel
theorem dX5_advance_226 : decode cX5_advance 226 = .ok (.ifCond .eq 55, 3) := by decide +kernel
theorem dX5_advance_229 : decode cX5_advance 229 = .ok (.aload_n 0, 1) := by decide +kernel
theorem dX5_advance_230 : decode cX5_advance 230 = .ok (.aload_n 0, 1) := by decide +kernel
theorem dX5_advance_231 : decode cX5_advance 231 = .ok (.getfield 199, 3) := by decide +kernel
theorem dX5_advance_234 : decode cX5_advance 234 = .ok (.sipush 999, 3) := by decide +kernel
theorem dX5_advance_237 : decode cX5_advance 237 = .ok (.if_icmp .le 9, 3) := by decide +kernel
theorem dX5_advance_240 : decode cX5_advance 240 = .ok (.sipush 10000, 3) := by decide +kernel
theorem dX5_advance_243 : decode cX5_advance 243 = .ok (.goto 22, 3) := by decide +kernel
theorem dX5_advance_246 : decode cX5_advance 246 = .ok (.bipush 10, 2) := by decide +kernel
theorem dX5_advance_248 : decode cX5_advance 248 = .ok (.aload_n 0, 1) := by decide +kernel
theorem dX5_advance_249 : decode cX5_advance 249 = .ok (.getfield 199, 3) := by decide +kernel
theorem dX5_advance_252 : decode cX5_advance 252 = .ok (.imul, 1) := by decide +kernel
theorem dX5_advance_253 : decode cX5_advance 253 = .ok (.aload_n 0, 1) := by decide +kernel
theorem dX5_advance_254 : decode cX5_advance 254 = .ok (.aload_n 0, 1) := by decide +kernel
theorem dX5_advance_255 : decode cX5_advance 255 = .ok (.getfield 177, 3) := by decide +kernel
theorem dX5_advance_258 : decode cX5_advance 258 = .ok (.invokevirtual 183, 3) := by decide +kernel
theorem dX5_advance_261 : decode cX5_advance 261 = .ok (.iadd, 1) := by decide +kernel
theorem dX5_advance_262 : decode cX5_advance 262 = .ok (.bipush 48, 2) := by decide +kernel
theorem dX5_advance_264 : decode cX5_advance 264 = .ok (.isub, 1) := by decide +kernel
theorem dX5_advance_265 : decode cX5_advance 265 = .ok (.putfield 199, 3) := by decide +kernel
theorem dX5_advance_268 : decode cX5_advance 268 = .ok (.aload_n 0, 1) := by decide +kernel
theorem dX5_advance_269 : decode cX5_advance 269 = .ok (.dup, 1) := by decide +kernel
theorem dX5_advance_270 : decode cX5_advance 270 = .ok (.getfield 177, 3) := by decide +kernel
theorem dX5_advance_273 : decode cX5_advance 273 = .ok (.iconst 1, 1) := by decide +kernel
theorem dX5_advance_274 : decode cX5_advance 274 = .ok (.iadd, 1) := by decide +kernel
theorem dX5_advance_275 : decode cX5_advance 275 = .ok (.putfield 177, 3) := by decide +kernel
theorem dX5_advance_278 : decode cX5_advance 278 = .ok (.goto (-71), 3) := by decide +kernel
theorem dX5_advance_281 : decode cX5_advance 281 = .ok (.return_, 1) := by decide +kernel
theorem dX5_isWord_0 : decode cX5_isWord 0 = .ok (.aload_n 0, 1) := by decide +kernel
theorem dX5_isWord_1 : decode cX5_isWord 1 = .ok (.getfield 192, 3) := by decide +kernel
theorem dX5_isWord_4 : decode cX5_isWord 4 = .ok (.iconst 1, 1) := by decide +kernel
theorem dX5_isWord_5 : decode cX5_isWord 5 = .ok (.if_icmp .ne 16, 3) := by decide +kernel
theorem dX5_isWord_8 : decode cX5_isWord 8 = .ok (.aload_n 0, 1) := by decide +kernel
theorem dX5_isWord_9 : decode cX5_isWord 9 = .ok (.getfield 195, 3) := by decide +kernel
theorem dX5_isWord_12 : decode cX5_isWord 12 = .ok (.lload_n 1, 1) := by decide +kernel
theorem dX5_isWord_13 : decode cX5_isWord 13 = .ok (.lcmp, 1) := by decide +kernel
theorem dX5_isWord_14 : decode cX5_isWord 14 = .ok (.ifCond .ne 7, 3) := by decide +kernel
theorem dX5_isWord_17 : decode cX5_isWord 17 = .ok (.iconst 1, 1) := by decide +kernel
theorem dX5_isWord_18 : decode cX5_isWord 18 = .ok (.goto 4, 3) := by decide +kernel
theorem dX5_isWord_21 : decode cX5_isWord 21 = .ok (.iconst 0, 1) := by decide +kernel
theorem dX5_isWord_22 : decode cX5_isWord 22 = .ok (.ireturn, 1) := by decide +kernel
theorem dX5_kindHere_0 : decode cX5_kindHere 0 = .ok (.aload_n 0, 1) := by decide +kernel
theorem dX5_kindHere_1 : decode cX5_kindHere 1 = .ok (.ldc2_w 208, 3) := by decide +kernel
theorem dX5_kindHere_4 : decode cX5_kindHere 4 = .ok (.invokevirtual 210, 3) := by decide +kernel
theorem dX5_kindHere_7 : decode cX5_kindHere 7 = .ok (.ifCond .eq 7, 3) := by decide +kernel
theorem dX5_kindHere_10 : decode cX5_kindHere 10 = .ok (.iconst 0, 1) := by decide +kernel
theorem dX5_kindHere_11 : decode cX5_kindHere 11 = .ok (.goto 74, 3) := by decide +kernel
theorem dX5_kindHere_14 : decode cX5_kindHere 14 = .ok (.aload_n 0, 1) := by decide +kernel
theorem dX5_kindHere_15 : decode cX5_kindHere 15 = .ok (.ldc2_w 214, 3) := by decide +kernel
theorem dX5_kindHere_18 : decode cX5_kindHere 18 = .ok (.invokevirtual 210, 3) := by decide +kernel
theorem dX5_kindHere_21 : decode cX5_kindHere 21 = .ok (.ifCond .eq 7, 3) := by decide +kernel
theorem dX5_kindHere_24 : decode cX5_kindHere 24 = .ok (.iconst 1, 1) := by decide +kernel
theorem dX5_kindHere_25 : decode cX5_kindHere 25 = .ok (.goto 60, 3) := by decide +kernel
theorem dX5_kindHere_28 : decode cX5_kindHere 28 = .ok (.aload_n 0, 1) := by decide +kernel
theorem dX5_kindHere_29 : decode cX5_kindHere 29 = .ok (.ldc2_w 216, 3) := by decide +kernel
theorem dX5_kindHere_32 : decode cX5_kindHere 32 = .ok (.invokevirtual 210, 3) := by decide +kernel
theorem dX5_kindHere_35 : decode cX5_kindHere 35 = .ok (.ifCond .eq 7, 3) := by decide +kernel
theorem dX5_kindHere_38 : decode cX5_kindHere 38 = .ok (.iconst 2, 1) := by decide +kernel
theorem dX5_kindHere_39 : decode cX5_kindHere 39 = .ok (.goto 46, 3) := by decide +kernel
theorem dX5_kindHere_42 : decode cX5_kindHere 42 = .ok (.aload_n 0, 1) := by decide +kernel
theorem dX5_kindHere_43 : decode cX5_kindHere 43 = .ok (.ldc2_w 218, 3) := by decide +kernel
theorem dX5_kindHere_46 : decode cX5_kindHere 46 = .ok (.invokevirtual 210, 3) := by decide +kernel
theorem dX5_kindHere_49 : decode cX5_kindHere 49 = .ok (.ifCond .eq 7, 3) := by decide +kernel
theorem dX5_kindHere_52 : decode cX5_kindHere 52 = .ok (.iconst 3, 1) := by decide +kernel
theorem dX5_kindHere_53 : decode cX5_kindHere 53 = .ok (.goto 32, 3) := by decide +kernel
theorem dX5_kindHere_56 : decode cX5_kindHere 56 = .ok (.aload_n 0, 1) := by decide +kernel
theorem dX5_kindHere_57 : decode cX5_kindHere 57 = .ok (.ldc2_w 220, 3) := by decide +kernel
theorem dX5_kindHere_60 : decode cX5_kindHere 60 = .ok (.invokevirtual 210, 3) := by decide +kernel
theorem dX5_kindHere_63 : decode cX5_kindHere 63 = .ok (.ifCond .eq 7, 3) := by decide +kernel
theorem dX5_kindHere_66 : decode cX5_kindHere 66 = .ok (.iconst 4, 1) := by decide +kernel
theorem dX5_kindHere_67 : decode cX5_kindHere 67 = .ok (.goto 18, 3) := by decide +kernel
theorem dX5_kindHere_70 : decode cX5_kindHere 70 = .ok (.aload_n 0, 1) := by decide +kernel
theorem dX5_kindHere_71 : decode cX5_kindHere 71 = .ok (.ldc2_w 222, 3) := by decide +kernel
theorem dX5_kindHere_74 : decode cX5_kindHere 74 = .ok (.invokevirtual 210, 3) := by decide +kernel
theorem dX5_kindHere_77 : decode cX5_kindHere 77 = .ok (.ifCond .eq 7, 3) := by decide +kernel
theorem dX5_kindHere_80 : decode cX5_kindHere 80 = .ok (.iconst 5, 1) := by decide +kernel
theorem dX5_kindHere_81 : decode cX5_kindHere 81 = .ok (.goto 4, 3) := by decide +kernel
theorem dX5_kindHere_84 : decode cX5_kindHere 84 = .ok (.iconst (-1), 1) := by decide +kernel
theorem dX5_kindHere_85 : decode cX5_kindHere 85 = .ok (.ireturn, 1) := by decide +kernel
theorem dX5_wantNumber_0 : decode cX5_wantNumber 0 = .ok (.aload_n 0, 1) := by decide +kernel
theorem dX5_wantNumber_1 : decode cX5_wantNumber 1 = .ok (.getfield 199, 3) := by decide +kernel
theorem dX5_wantNumber_4 : decode cX5_wantNumber 4 = .ok (.istore_n 3, 1) := by decide +kernel
theorem dX5_wantNumber_5 : decode cX5_wantNumber 5 = .ok (.aload_n 0, 1) := by decide +kernel
theorem dX5_wantNumber_6 : decode cX5_wantNumber 6 = .ok (.aload_n 0, 1) := by decide +kernel
theorem dX5_wantNumber_7 : decode cX5_wantNumber 7 = .ok (.getfield 224, 3) := by decide +kernel
theorem dX5_wantNumber_10 : decode cX5_wantNumber 10 = .ok (.ifCond .eq 24, 3) := by decide +kernel
theorem dX5_wantNumber_13 : decode cX5_wantNumber 13 = .ok (.aload_n 0, 1) := by decide +kernel
theorem dX5_wantNumber_14 : decode cX5_wantNumber 14 = .ok (.getfield 192, 3) := by decide +kernel
theorem dX5_wantNumber_17 : decode cX5_wantNumber 17 = .ok (.iconst 2, 1) := by decide +kernel
theorem dX5_wantNumber_18 : decode cX5_wantNumber 18 = .ok (.if_icmp .ne 16, 3) := by decide +kernel
theorem dX5_wantNumber_21 : decode cX5_wantNumber 21 = .ok (.iload_n 3, 1) := by decide +kernel
theorem dX5_wantNumber_22 : decode cX5_wantNumber 22 = .ok (.iload_n 1, 1) := by decide +kernel
theorem dX5_wantNumber_23 : decode cX5_wantNumber 23 = .ok (.iload_n 2, 1) := by decide +kernel
theorem dX5_wantNumber_24 : decode cX5_wantNumber 24 = .ok (.invokestatic 51, 3) := by decide +kernel
theorem dX5_wantNumber_27 : decode cX5_wantNumber 27 = .ok (.ifCond .eq 7, 3) := by decide +kernel
theorem dX5_wantNumber_30 : decode cX5_wantNumber 30 = .ok (.iconst 1, 1) := by decide +kernel
theorem dX5_wantNumber_31 : decode cX5_wantNumber 31 = .ok (.goto 4, 3) := by decide +kernel
theorem dX5_wantNumber_34 : decode cX5_wantNumber 34 = .ok (.iconst 0, 1) := by decide +kernel
theorem dX5_wantNumber_35 : decode cX5_wantNumber 35 = .ok (.putfield 224, 3) := by decide +kernel
theorem dX5_wantNumber_38 : decode cX5_wantNumber 38 = .ok (.aload_n 0, 1) := by decide +kernel
theorem dX5_wantNumber_39 : decode cX5_wantNumber 39 = .ok (.getfield 224, 3) := by decide +kernel
theorem dX5_wantNumber_42 : decode cX5_wantNumber 42 = .ok (.ifCond .eq 7, 3) := by decide +kernel
theorem dX5_wantNumber_45 : decode cX5_wantNumber 45 = .ok (.aload_n 0, 1) := by decide +kernel
theorem dX5_wantNumber_46 : decode cX5_wantNumber 46 = .ok (.invokevirtual 228, 3) := by decide +kernel
theorem dX5_wantNumber_49 : decode cX5_wantNumber 49 = .ok (.iload_n 3, 1) := by decide +kernel
theorem dX5_wantNumber_50 : decode cX5_wantNumber 50 = .ok (.ireturn, 1) := by decide +kernel
theorem dX5_mayWant_0 : decode cX5_mayWant 0 = .ok (.aload_n 0, 1) := by decide +kernel
theorem dX5_mayWant_1 : decode cX5_mayWant 1 = .ok (.getfield 224, 3) := by decide +kernel
theorem dX5_mayWant_4 : decode cX5_mayWant 4 = .ok (.ifCond .eq 11, 3) := by decide +kernel
theorem dX5_mayWant_7 : decode cX5_mayWant 7 = .ok (.aload_n 0, 1) := by decide +kernel
theorem dX5_mayWant_8 : decode cX5_mayWant 8 = .ok (.lload_n 1, 1) := by decide +kernel
theorem dX5_mayWant_9 : decode cX5_mayWant 9 = .ok (.invokevirtual 210, 3) := by decide +kernel
theorem dX5_mayWant_12 : decode cX5_mayWant 12 = .ok (.ifCond .ne 6, 3) := by decide +kernel
theorem dX5_mayWant_15 : decode cX5_mayWant 15 = .ok (.iload 5, 2) := by decide +kernel
theorem dX5_mayWant_17 : decode cX5_mayWant 17 = .ok (.ireturn, 1) := by decide +kernel
theorem dX5_mayWant_18 : decode cX5_mayWant 18 = .ok (.aload_n 0, 1) := by decide +kernel
theorem dX5_mayWant_19 : decode cX5_mayWant 19 = .ok (.invokevirtual 228, 3) := by decide +kernel
theorem dX5_mayWant_22 : decode cX5_mayWant 22 = .ok (.aload_n 0, 1) := by decide +kernel
theorem dX5_mayWant_23 : decode cX5_mayWant 23 = .ok (.iload_n 3, 1) := by decide +kernel
theorem dX5_mayWant_24 : decode cX5_mayWant 24 = .ok (.iload 4, 2) := by decide +kernel
theorem dX5_mayWant_26 : decode cX5_mayWant 26 = .ok (.invokevirtual 231, 3) := by decide +kernel
theorem dX5_mayWant_29 : decode cX5_mayWant 29 = .ok (.ireturn, 1) := by decide +kernel
theorem dX5_wantSeat_0 : decode cX5_wantSeat 0 = .ok (.aload_n 0, 1) := by decide +kernel
theorem dX5_wantSeat_1 : decode cX5_wantSeat 1 = .ok (.aload_n 0, 1) := by decide +kernel
theorem dX5_wantSeat_2 : decode cX5_wantSeat 2 = .ok (.getfield 224, 3) := by decide +kernel
theorem dX5_wantSeat_5 : decode cX5_wantSeat 5 = .ok (.ifCond .eq 36, 3) := by decide +kernel
theorem dX5_wantSeat_8 : decode cX5_wantSeat 8 = .ok (.aload_n 0, 1) := by decide +kernel
theorem dX5_wantSeat_9 : decode cX5_wantSeat 9 = .ok (.getfield 192, 3) := by decide +kernel
theorem dX5_wantSeat_12 : decode cX5_wantSeat 12 = .ok (.iconst 2, 1) := by decide +kernel
theorem dX5_wantSeat_13 : decode cX5_wantSeat 13 = .ok (.if_icmp .ne 24, 3) := by decide +kernel
theorem dX5_wantSeat_16 : decode cX5_wantSeat 16 = .ok (.aload_n 0, 1) := by decide +kernel
theorem dX5_wantSeat_17 : decode cX5_wantSeat 17 = .ok (.getfield 199, 3) := by decide +kernel
theorem dX5_wantSeat_20 : decode cX5_wantSeat 20 = .ok (.invokestatic 59, 3) := by decide +kernel
theorem dX5_wantSeat_23 : decode cX5_wantSeat 23 = .ok (.ifCond .eq 14, 3) := by decide +kernel
theorem dX5_wantSeat_26 : decode cX5_wantSeat 26 = .ok (.aload_n 0, 1) := by decide +kernel
theorem dX5_wantSeat_27 : decode cX5_wantSeat 27 = .ok (.aload_n 0, 1) := by decide +kernel
theorem dX5_wantSeat_28 : decode cX5_wantSeat 28 = .ok (.getfield 199, 3) := by decide +kernel
theorem dX5_wantSeat_31 : decode cX5_wantSeat 31 = .ok (.invokevirtual 63, 3) := by decide +kernel
theorem dX5_wantSeat_34 : decode cX5_wantSeat 34 = .ok (.ifCond .ge 7, 3) := by decide +kernel
theorem dX5_wantSeat_37 : decode cX5_wantSeat 37 = .ok (.iconst 1, 1) := by decide +kernel
theorem dX5_wantSeat_38 : decode cX5_wantSeat 38 = .ok (.goto 4, 3) := by decide +kernel
theorem dX5_wantSeat_41 : decode cX5_wantSeat 41 = .ok (.iconst 0, 1) := by decide +kernel
theorem dX5_wantSeat_42 : decode cX5_wantSeat 42 = .ok (.putfield 224, 3) := by decide +kernel
theorem dX5_wantSeat_45 : decode cX5_wantSeat 45 = .ok (.aload_n 0, 1) := by decide +kernel
theorem dX5_wantSeat_46 : decode cX5_wantSeat 46 = .ok (.iconst 0, 1) := by decide +kernel
theorem dX5_wantSeat_47 : decode cX5_wantSeat 47 = .ok (.bipush 11, 2) := by decide +kernel
theorem dX5_wantSeat_49 : decode cX5_wantSeat 49 = .ok (.invokevirtual 231, 3) := by decide +kernel
theorem dX5_wantSeat_52 : decode cX5_wantSeat 52 = .ok (.ireturn, 1) := by decide +kernel
theorem dX5_wantOne_0 : decode cX5_wantOne 0 = .ok (.aload_n 0, 1) := by decide +kernel
theorem dX5_wantOne_1 : decode cX5_wantOne 1 = .ok (.aload_n 0, 1) := by decide +kernel
theorem dX5_wantOne_2 : decode cX5_wantOne 2 = .ok (.getfield 7, 3) := by decide +kernel
theorem dX5_wantOne_5 : decode cX5_wantOne 5 = .ok (.iconst 1, 1) := by decide +kernel
theorem dX5_wantOne_6 : decode cX5_wantOne 6 = .ok (.iaload, 1) := by decide +kernel
theorem dX5_wantOne_7 : decode cX5_wantOne 7 = .ok (.bipush 10, 2) := by decide +kernel
theorem dX5_wantOne_9 : decode cX5_wantOne 9 = .ok (.if_icmp .ge 7, 3) := by decide +kernel
theorem dX5_wantOne_12 : decode cX5_wantOne 12 = .ok (.iconst 1, 1) := by decide +kernel
theorem dX5_wantOne_13 : decode cX5_wantOne 13 = .ok (.goto 4, 3) := by decide +kernel
theorem dX5_wantOne_16 : decode cX5_wantOne 16 = .ok (.iconst 0, 1) := by decide +kernel
theorem dX5_wantOne_17 : decode cX5_wantOne 17 = .ok (.putfield 224, 3) := by decide +kernel
theorem dX5_wantOne_20 : decode cX5_wantOne 20 = .ok (.aload_n 0, 1) := by decide +kernel
theorem dX5_wantOne_21 : decode cX5_wantOne 21 = .ok (.getfield 224, 3) := by decide +kernel
theorem dX5_wantOne_24 : decode cX5_wantOne 24 = .ok (.ifCond .ne 4, 3) := by decide +kernel
theorem dX5_wantOne_27 : decode cX5_wantOne 27 = .ok (.return_, 1) := by decide +kernel
theorem dX5_wantOne_28 : decode cX5_wantOne 28 = .ok (.aload_n 0, 1) := by decide +kernel
theorem dX5_wantOne_29 : decode cX5_wantOne 29 = .ok (.invokevirtual 228, 3) := by decide +kernel
theorem dX5_wantOne_32 : decode cX5_wantOne 32 = .ok (.aload_n 0, 1) := by decide +kernel
theorem dX5_wantOne_33 : decode cX5_wantOne 33 = .ok (.invokevirtual 234, 3) := by decide +kernel
theorem dX5_wantOne_36 : decode cX5_wantOne 36 = .ok (.istore_n 2, 1) := by decide +kernel
theorem dX5_wantOne_37 : decode cX5_wantOne 37 = .ok (.aload_n 0, 1) := by decide +kernel
theorem dX5_wantOne_38 : decode cX5_wantOne 38 = .ok (.getfield 224, 3) := by decide +kernel
theorem dX5_wantOne_41 : decode cX5_wantOne 41 = .ok (.ifCond .eq 13, 3) := by decide +kernel
theorem dX5_wantOne_44 : decode cX5_wantOne 44 = .ok (.aload_n 0, 1) := by decide +kernel
theorem dX5_wantOne_45 : decode cX5_wantOne 45 = .ok (.iconst 0, 1) := by decide +kernel
theorem dX5_wantOne_46 : decode cX5_wantOne 46 = .ok (.bipush 9, 2) := by decide +kernel
theorem dX5_wantOne_48 : decode cX5_wantOne 48 = .ok (.invokevirtual 231, 3) := by decide +kernel
theorem dX5_wantOne_51 : decode cX5_wantOne 51 = .ok (.goto 4, 3) := by decide +kernel
theorem dX5_wantOne_54 : decode cX5_wantOne 54 = .ok (.iconst 0, 1) := by decide +kernel
theorem dX5_wantOne_55 : decode cX5_wantOne 55 = .ok (.istore_n 3, 1) := by decide +kernel
theorem dX5_wantOne_56 : decode cX5_wantOne 56 = .ok (.aload_n 0, 1) := by decide +kernel
theorem dX5_wantOne_57 : decode cX5_wantOne 57 = .ok (.ldc2_w 237, 3) := by decide +kernel
theorem dX5_wantOne_60 : decode cX5_wantOne 60 = .ok (.iconst 1, 1) := by decide +kernel
theorem dX5_wantOne_61 : decode cX5_wantOne 61 = .ok (.bipush 9, 2) := by decide +kernel
theorem dX5_wantOne_63 : decode cX5_wantOne 63 = .ok (.iconst 5, 1) := by decide +kernel
theorem dX5_wantOne_64 : decode cX5_wantOne 64 = .ok (.invokevirtual 239, 3) := by decide +kernel
theorem dX5_wantOne_67 : decode cX5_wantOne 67 = .ok (.istore 4, 2) := by decide +kernel
theorem dX5_wantOne_69 : decode cX5_wantOne 69 = .ok (.aload_n 0, 1) := by decide +kernel
theorem dX5_wantOne_70 : decode cX5_wantOne 70 = .ok (.getfield 224, 3) := by decide +kernel
theorem dX5_wantOne_73 : decode cX5_wantOne 73 = .ok (.ifCond .eq 12, 3) := by decide +kernel
theorem dX5_wantOne_76 : decode cX5_wantOne 76 = .ok (.aload_n 0, 1) := by decide +kernel
theorem dX5_wantOne_77 : decode cX5_wantOne 77 = .ok (.iload_n 1, 1) := by decide +kernel
theorem dX5_wantOne_78 : decode cX5_wantOne 78 = .ok (.iload_n 2, 1) := by decide +kernel
theorem dX5_wantOne_79 : decode cX5_wantOne 79 = .ok (.iload_n 3, 1) := by decide +kernel
theorem dX5_wantOne_80 : decode cX5_wantOne 80 = .ok (.iload 4, 2) := by decide +kernel
theorem dX5_wantOne_82 : decode cX5_wantOne 82 = .ok (.invokevirtual 120, 3) := by decide +kernel
theorem dX5_wantOne_85 : decode cX5_wantOne 85 = .ok (.return_, 1) := by decide +kernel
theorem dX5_wantKnowing_0 : decode cX5_wantKnowing 0 = .ok (.aload_n 0, 1) := by decide +kernel
theorem dX5_wantKnowing_1 : decode cX5_wantKnowing 1 = .ok (.invokevirtual 228, 3) := by decide +kernel
theorem dX5_wantKnowing_4 : decode cX5_wantKnowing 4 = .ok (.aload_n 0, 1) := by decide +kernel
theorem dX5_wantKnowing_5 : decode cX5_wantKnowing 5 = .ok (.iconst 0, 1) := by decide +kernel
theorem dX5_wantKnowing_6 : decode cX5_wantKnowing 6 = .ok (.aload_n 0, 1) := by decide +kernel
theorem dX5_wantKnowing_7 : decode cX5_wantKnowing 7 = .ok (.getfield 7, 3) := by decide +kernel
theorem dX5_wantKnowing_10 : decode cX5_wantKnowing 10 = .ok (.iconst 1, 1) := by decide +kernel
theorem dX5_wantKnowing_11 : decode cX5_wantKnowing 11 = .ok (.iaload, 1) := by decide +kernel
theorem dX5_wantKnowing_12 : decode cX5_wantKnowing 12 = .ok (.iconst 1, 1) := by decide +kernel
theorem dX5_wantKnowing_13 : decode cX5_wantKnowing 13 = .ok (.isub, 1) := by decide +kernel
theorem dX5_wantKnowing_14 : decode cX5_wantKnowing 14 = .ok (.invokevirtual 231, 3) := by decide +kernel
theorem dX5_wantKnowing_17 : decode cX5_wantKnowing 17 = .ok (.istore_n 1, 1) := by decide +kernel
theorem dX5_wantKnowing_18 : decode cX5_wantKnowing 18 = .ok (.aload_n 0, 1) := by decide +kernel
theorem dX5_wantKnowing_19 : decode cX5_wantKnowing 19 = .ok (.getfield 224, 3) := by decide +kernel
theorem dX5_wantKnowing_22 : decode cX5_wantKnowing 22 = .ok (.ifCond .eq 13, 3) := by decide +kernel
theorem dX5_wantKnowing_25 : decode cX5_wantKnowing 25 = .ok (.aload_n 0, 1) := by decide +kernel
theorem dX5_wantKnowing_26 : decode cX5_wantKnowing 26 = .ok (.iconst 0, 1) := by decide +kernel
theorem dX5_wantKnowing_27 : decode cX5_wantKnowing 27 = .ok (.bipush 9, 2) := by decide +kernel
theorem dX5_wantKnowing_29 : decode cX5_wantKnowing 29 = .ok (.invokevirtual 231, 3) := by decide +kernel
theorem dX5_wantKnowing_32 : decode cX5_wantKnowing 32 = .ok (.goto 4, 3) := by decide +kernel
theorem dX5_wantKnowing_35 : decode cX5_wantKnowing 35 = .ok (.iconst 0, 1) := by decide +kernel
theorem dX5_wantKnowing_36 : decode cX5_wantKnowing 36 = .ok (.istore_n 2, 1) := by decide +kernel
theorem dX5_wantKnowing_37 : decode cX5_wantKnowing 37 = .ok (.aload_n 0, 1) := by decide +kernel
theorem dX5_wantKnowing_38 : decode cX5_wantKnowing 38 = .ok (.getfield 224, 3) := by decide +kernel
theorem dX5_wantKnowing_41 : decode cX5_wantKnowing 41 = .ok (.ifCond .eq 19, 3) := by decide +kernel
theorem dX5_wantKnowing_44 : decode cX5_wantKnowing 44 = .ok (.aload_n 0, 1) := by decide +kernel
theorem dX5_wantKnowing_45 : decode cX5_wantKnowing 45 = .ok (.iload_n 1, 1) := by decide +kernel
theorem dX5_wantKnowing_46 : decode cX5_wantKnowing 46 = .ok (.iconst 4, 1) := by decide +kernel
theorem dX5_wantKnowing_47 : decode cX5_wantKnowing 47 = .ok (.aload_n 0, 1) := by decide +kernel
theorem dX5_wantKnowing_48 : decode cX5_wantKnowing 48 = .ok (.iload_n 1, 1) := by decide +kernel
theorem dX5_wantKnowing_49 : decode cX5_wantKnowing 49 = .ok (.iconst 4, 1) := by decide +kernel
theorem dX5_wantKnowing_50 : decode cX5_wantKnowing 50 = .ok (.invokevirtual 55, 3) := by decide +kernel
theorem dX5_wantKnowing_53 : decode cX5_wantKnowing 53 = .ok (.iconst 1, 1) := by decide +kernel
theorem dX5_wantKnowing_54 : decode cX5_wantKnowing 54 = .ok (.iload_n 2, 1) := by decide +kernel
theorem dX5_wantKnowing_55 : decode cX5_wantKnowing 55 = .ok (.ishl, 1) := by decide +kernel
theorem dX5_wantKnowing_56 : decode cX5_wantKnowing 56 = .ok (.ior, 1) := by decide +kernel
theorem dX5_wantKnowing_57 : decode cX5_wantKnowing 57 = .ok (.invokevirtual 108, 3) := by decide +kernel
theorem dX5_wantKnowing_60 : decode cX5_wantKnowing 60 = .ok (.return_, 1) := by decide +kernel
theorem dX5_wantMove_0 : decode cX5_wantMove 0 = .ok (.aload_n 0, 1) := by decide +kernel
theorem dX5_wantMove_1 : decode cX5_wantMove 1 = .ok (.invokevirtual 228, 3) := by decide +kernel
theorem dX5_wantMove_4 : decode cX5_wantMove 4 = .ok (.aload_n 0, 1) := by decide +kernel
theorem dX5_wantMove_5 : decode cX5_wantMove 5 = .ok (.iconst 0, 1) := by decide +kernel
theorem dX5_wantMove_6 : decode cX5_wantMove 6 = .ok (.aload_n 0, 1) := by decide +kernel
theorem dX5_wantMove_7 : decode cX5_wantMove 7 = .ok (.getfield 7, 3) := by decide +kernel
theorem dX5_wantMove_10 : decode cX5_wantMove 10 = .ok (.iconst 1, 1) := by decide +kernel
theorem dX5_wantMove_11 : decode cX5_wantMove 11 = .ok (.iaload, 1) := by decide +kernel
theorem dX5_wantMove_12 : decode cX5_wantMove 12 = .ok (.iconst 1, 1) := by decide +kernel
theorem dX5_wantMove_13 : decode cX5_wantMove 13 = .ok (.isub, 1) := by decide +kernel
theorem dX5_wantMove_14 : decode cX5_wantMove 14 = .ok (.invokevirtual 231, 3) := by decide +kernel
theorem dX5_wantMove_17 : decode cX5_wantMove 17 = .ok (.istore_n 1, 1) := by decide +kernel
theorem dX5_wantMove_18 : decode cX5_wantMove 18 = .ok (.aload_n 0, 1) := by decide +kernel
theorem dX5_wantMove_19 : decode cX5_wantMove 19 = .ok (.getfield 224, 3) := by decide +kernel
theorem dX5_wantMove_22 : decode cX5_wantMove 22 = .ok (.ifCond .eq 10, 3) := by decide +kernel
theorem dX5_wantMove_25 : decode cX5_wantMove 25 = .ok (.aload_n 0, 1) := by decide +kernel
theorem dX5_wantMove_26 : decode cX5_wantMove 26 = .ok (.invokevirtual 234, 3) := by decide +kernel
theorem dX5_wantMove_29 : decode cX5_wantMove 29 = .ok (.goto 4, 3) := by decide +kernel
theorem dX5_wantMove_32 : decode cX5_wantMove 32 = .ok (.iconst 0, 1) := by decide +kernel
theorem dX5_wantMove_33 : decode cX5_wantMove 33 = .ok (.istore_n 2, 1) := by decide +kernel
theorem dX5_wantMove_34 : decode cX5_wantMove 34 = .ok (.aload_n 0, 1) := by decide +kernel
theorem dX5_wantMove_35 : decode cX5_wantMove 35 = .ok (.getfield 224, 3) := by decide +kernel
theorem dX5_wantMove_38 : decode cX5_wantMove 38 = .ok (.ifCond .eq 10, 3) := by decide +kernel
theorem dX5_wantMove_41 : decode cX5_wantMove 41 = .ok (.aload_n 0, 1) := by decide +kernel
theorem dX5_wantMove_42 : decode cX5_wantMove 42 = .ok (.iload_n 1, 1) := by decide +kernel
theorem dX5_wantMove_43 : decode cX5_wantMove 43 = .ok (.iconst 1, 1) := by decide +kernel
theorem dX5_wantMove_44 : decode cX5_wantMove 44 = .ok (.iload_n 2, 1) := by decide +kernel
theorem dX5_wantMove_45 : decode cX5_wantMove 45 = .ok (.invokevirtual 108, 3) := by decide +kernel
theorem dX5_wantMove_48 : decode cX5_wantMove 48 = .ok (.return_, 1) := by decide +kernel
theorem dX5_wantItem_0 : decode cX5_wantItem 0 = .ok (.aload_n 0, 1) := by decide +kernel
theorem dX5_wantItem_1 : decode cX5_wantItem 1 = .ok (.invokevirtual 243, 3) := by decide +kernel
theorem dX5_wantItem_4 : decode cX5_wantItem 4 = .ok (.ifCond .lt 14, 3) := by decide +kernel
theorem dX5_wantItem_7 : decode cX5_wantItem 7 = .ok (.aload_n 0, 1) := by decide +kernel
theorem dX5_wantItem_8 : decode cX5_wantItem 8 = .ok (.aload_n 0, 1) := by decide +kernel
theorem dX5_wantItem_9 : decode cX5_wantItem 9 = .ok (.invokevirtual 243, 3) := by decide +kernel
theorem dX5_wantItem_12 : decode cX5_wantItem 12 = .ok (.invokevirtual 246, 3) := by decide +kernel
theorem dX5_wantItem_15 : decode cX5_wantItem 15 = .ok (.goto 42, 3) := by decide +kernel
theorem dX5_wantItem_18 : decode cX5_wantItem 18 = .ok (.aload_n 0, 1) := by decide +kernel
theorem dX5_wantItem_19 : decode cX5_wantItem 19 = .ok (.ldc2_w 249, 3) := by decide +kernel
theorem dX5_wantItem_22 : decode cX5_wantItem 22 = .ok (.invokevirtual 210, 3) := by decide +kernel
theorem dX5_wantItem_25 : decode cX5_wantItem 25 = .ok (.ifCond .eq 10, 3) := by decide +kernel
theorem dX5_wantItem_28 : decode cX5_wantItem 28 = .ok (.aload_n 0, 1) := by decide +kernel
theorem dX5_wantItem_29 : decode cX5_wantItem 29 = .ok (.invokevirtual 251, 3) := by decide +kernel
theorem dX5_wantItem_32 : decode cX5_wantItem 32 = .ok (.goto 25, 3) := by decide +kernel
theorem dX5_wantItem_35 : decode cX5_wantItem 35 = .ok (.aload_n 0, 1) := by decide +kernel
theorem dX5_wantItem_36 : decode cX5_wantItem 36 = .ok (.ldc2_w 254, 3) := by decide +kernel
theorem dX5_wantItem_39 : decode cX5_wantItem 39 = .ok (.invokevirtual 210, 3) := by decide +kernel
theorem dX5_wantItem_42 : decode cX5_wantItem 42 = .ok (.ifCond .eq 10, 3) := by decide +kernel
theorem dX5_wantItem_45 : decode cX5_wantItem 45 = .ok (.aload_n 0, 1) := by decide +kernel
theorem dX5_wantItem_46 : decode cX5_wantItem 46 = .ok (.invokevirtual 256, 3) := by decide +kernel
theorem dX5_wantItem_49 : decode cX5_wantItem 49 = .ok (.goto 8, 3) := by decide +kernel
theorem dX5_wantItem_52 : decode cX5_wantItem 52 = .ok (.aload_n 0, 1) := by decide +kernel
theorem dX5_wantItem_53 : decode cX5_wantItem 53 = .ok (.iconst 0, 1) := by decide +kernel
theorem dX5_wantItem_54 : decode cX5_wantItem 54 = .ok (.putfield 224, 3) := by decide +kernel
theorem dX5_wantItem_57 : decode cX5_wantItem 57 = .ok (.return_, 1) := by decide +kernel
theorem dX5_chapel_0 : decode cX5_chapel 0 = .ok (.aload_n 0, 1) := by decide +kernel
theorem dX5_chapel_1 : decode cX5_chapel 1 = .ok (.iconst 1, 1) := by decide +kernel
theorem dX5_chapel_2 : decode cX5_chapel 2 = .ok (.aload_n 0, 1) := by decide +kernel
theorem dX5_chapel_3 : decode cX5_chapel 3 = .ok (.getfield 47, 3) := by decide +kernel
theorem dX5_chapel_6 : decode cX5_chapel 6 = .ok (.invokevirtual 156, 3) := by decide +kernel
theorem dX5_chapel_9 : decode cX5_chapel 9 = .ok (.aload_n 0, 1) := by decide +kernel
theorem dX5_chapel_10 : decode cX5_chapel 10 = .ok (.iconst 0, 1) := by decide +kernel
theorem dX5_chapel_11 : decode cX5_chapel 11 = .ok (.putfield 177, 3) := by decide +kernel
theorem dX5_chapel_14 : decode cX5_chapel 14 = .ok (.aload_n 0, 1) := by decide +kernel
theorem dX5_chapel_15 : decode cX5_chapel 15 = .ok (.iconst 1, 1) := by decide +kernel
theorem dX5_chapel_16 : decode cX5_chapel 16 = .ok (.putfield 224, 3) := by decide +kernel
theorem dX5_chapel_19 : decode cX5_chapel 19 = .ok (.iconst 0, 1) := by decide +kernel
theorem dX5_chapel_20 : decode cX5_chapel 20 = .ok (.istore_n 1, 1) := by decide +kernel
theorem dX5_chapel_21 : decode cX5_chapel 21 = .ok (.iconst 1, 1) := by decide +kernel
theorem dX5_chapel_22 : decode cX5_chapel 22 = .ok (.istore_n 2, 1) := by decide +kernel
theorem dX5_chapel_23 : decode cX5_chapel 23 = .ok (.iload_n 2, 1) := by decide +kernel
theorem dX5_chapel_24 : decode cX5_chapel 24 = .ok (.ifCond .eq 47, 3) := by decide +kernel
theorem dX5_chapel_27 : decode cX5_chapel 27 = .ok (.aload_n 0, 1) := by decide +kernel
theorem dX5_chapel_28 : decode cX5_chapel 28 = .ok (.invokevirtual 228, 3) := by decide +kernel
theorem dX5_chapel_31 : decode cX5_chapel 31 = .ok (.aload_n 0, 1) := by decide +kernel
theorem dX5_chapel_32 : decode cX5_chapel 32 = .ok (.invokevirtual 259, 3) := by decide +kernel
theorem dX5_chapel_35 : decode cX5_chapel 35 = .ok (.iinc 1 1, 3) := by decide +kernel
theorem dX5_chapel_38 : decode cX5_chapel 38 = .ok (.aload_n 0, 1) := by decide +kernel
theorem dX5_chapel_39 : decode cX5_chapel 39 = .ok (.getfield 224, 3) := by decide +kernel
theorem dX5_chapel_42 : decode cX5_chapel 42 = .ok (.ifCond .eq 24, 3) := by decide +kernel
theorem dX5_chapel_45 : decode cX5_chapel 45 = .ok (.aload_n 0, 1) := by decide +kernel
theorem dX5_chapel_46 : decode cX5_chapel 46 = .ok (.getfield 192, 3) := by decide +kernel
theorem dX5_chapel_49 : decode cX5_chapel 49 = .ok (.iconst 3, 1) := by decide +kernel
theorem dX5_chapel_50 : decode cX5_chapel 50 = .ok (.if_icmp .ne 16, 3) := by decide +kernel
theorem dX5_chapel_53 : decode cX5_chapel 53 = .ok (.aload_n 0, 1) := by decide +kernel
theorem dX5_chapel_54 : decode cX5_chapel 54 = .ok (.getfield 199, 3) := by decide +kernel
theorem dX5_chapel_57 : decode cX5_chapel 57 = .ok (.bipush 59, 2) := by decide +kernel
theorem dX5_chapel_59 : decode cX5_chapel 59 = .ok (.if_icmp .ne 7, 3) := by decide +kernel
theorem dX5_chapel_62 : decode cX5_chapel 62 = .ok (.iconst 1, 1) := by decide +kernel
theorem dX5_chapel_63 : decode cX5_chapel 63 = .ok (.goto 4, 3) := by decide +kernel
theorem dX5_chapel_66 : decode cX5_chapel 66 = .ok (.iconst 0, 1) := by decide +kernel
theorem dX5_chapel_67 : decode cX5_chapel 67 = .ok (.istore_n 2, 1) := by decide +kernel
theorem dX5_chapel_68 : decode cX5_chapel 68 = .ok (.goto (-45), 3) := by decide +kernel
theorem dX5_chapel_71 : decode cX5_chapel 71 = .ok (.aload_n 0, 1) := by decide +kernel
theorem dX5_chapel_72 : decode cX5_chapel 72 = .ok (.aload_n 0, 1) := by decide +kernel
theorem dX5_chapel_73 : decode cX5_chapel 73 = .ok (.getfield 224, 3) := by decide +kernel
theorem dX5_chapel_76 : decode cX5_chapel 76 = .ok (.ifCond .eq 14, 3) := by decide +kernel
theorem dX5_chapel_79 : decode cX5_chapel 79 = .ok (.aload_n 0, 1) := by decide +kernel
theorem dX5_chapel_80 : decode cX5_chapel 80 = .ok (.getfield 192, 3) := by decide +kernel
theorem dX5_chapel_83 : decode cX5_chapel 83 = .ok (.ifCond .ne 7, 3) := by decide +kernel
theorem dX5_chapel_86 : decode cX5_chapel 86 = .ok (.iconst 1, 1) := by decide +kernel
theorem dX5_chapel_87 : decode cX5_chapel 87 = .ok (.goto 4, 3) := by decide +kernel
theorem dX5_chapel_90 : decode cX5_chapel 90 = .ok (.iconst 0, 1) := by decide +kernel
theorem dX5_chapel_91 : decode cX5_chapel 91 = .ok (.putfield 224, 3) := by decide +kernel
theorem dX5_chapel_94 : decode cX5_chapel 94 = .ok (.aload_n 0, 1) := by decide +kernel
theorem dX5_chapel_95 : decode cX5_chapel 95 = .ok (.iconst 0, 1) := by decide +kernel
theorem dX5_chapel_96 : decode cX5_chapel 96 = .ok (.putfield 173, 3) := by decide +kernel
theorem dX5_chapel_99 : decode cX5_chapel 99 = .ok (.aload_n 0, 1) := by decide +kernel
theorem dX5_chapel_100 : decode cX5_chapel 100 = .ok (.getfield 224, 3) := by decide +kernel
theorem dX5_chapel_103 : decode cX5_chapel 103 = .ok (.ifCond .ne 19, 3) := by decide +kernel
theorem dX5_chapel_106 : decode cX5_chapel 106 = .ok (.aload_n 0, 1) := by decide +kernel
theorem dX5_chapel_107 : decode cX5_chapel 107 = .ok (.iconst 0, 1) := by decide +kernel
theorem dX5_chapel_108 : decode cX5_chapel 108 = .ok (.aload_n 0, 1) := by decide +kernel
theorem dX5_chapel_109 : decode cX5_chapel 109 = .ok (.getfield 47, 3) := by decide +kernel
theorem dX5_chapel_112 : decode cX5_chapel 112 = .ok (.invokevirtual 156, 3) := by decide +kernel
theorem dX5_chapel_115 : decode cX5_chapel 115 = .ok (.iconst (-1), 1) := by decide +kernel
theorem dX5_chapel_116 : decode cX5_chapel 116 = .ok (.aload_n 0, 1) := by decide +kernel
theorem dX5_chapel_117 : decode cX5_chapel 117 = .ok (.getfield 180, 3) := by decide +kernel
theorem dX5_chapel_120 : decode cX5_chapel 120 = .ok (.isub, 1) := by decide +kernel
theorem dX5_chapel_121 : decode cX5_chapel 121 = .ok (.ireturn, 1) := by decide +kernel
theorem dX5_chapel_122 : decode cX5_chapel 122 = .ok (.iload_n 1, 1) := by decide +kernel
theorem dX5_chapel_123 : decode cX5_chapel 123 = .ok (.ireturn, 1) := by decide +kernel
theorem dX5_isSheet_0 : decode cX5_isSheet 0 = .ok (.iload_n 0, 1) := by decide +kernel
theorem dX5_isSheet_1 : decode cX5_isSheet 1 = .ok (.iconst 0, 1) := by decide +kernel
theorem dX5_isSheet_2 : decode cX5_isSheet 2 = .ok (.iconst 3, 1) := by decide +kernel
theorem dX5_isSheet_3 : decode cX5_isSheet 3 = .ok (.invokestatic 51, 3) := by decide +kernel
theorem dX5_isSheet_6 : decode cX5_isSheet 6 = .ok (.ireturn, 1) := by decide +kernel
theorem dX5_narrow_0 : decode cX5_narrow 0 = .ok (.iload_n 0, 1) := by decide +kernel
theorem dX5_narrow_1 : decode cX5_narrow 1 = .ok (.bipush 8, 2) := by decide +kernel
theorem dX5_narrow_3 : decode cX5_narrow 3 = .ok (.if_icmp .ne 13, 3) := by decide +kernel
theorem dX5_narrow_6 : decode cX5_narrow 6 = .ok (.lload_n 1, 1) := by decide +kernel
theorem dX5_narrow_7 : decode cX5_narrow 7 = .ok (.bipush 56, 2) := by decide +kernel
theorem dX5_narrow_9 : decode cX5_narrow 9 = .ok (.lshl, 1) := by decide +kernel
theorem dX5_narrow_10 : decode cX5_narrow 10 = .ok (.bipush 56, 2) := by decide +kernel
theorem dX5_narrow_12 : decode cX5_narrow 12 = .ok (.lshr, 1) := by decide +kernel
theorem dX5_narrow_13 : decode cX5_narrow 13 = .ok (.goto 20, 3) := by decide +kernel
theorem dX5_narrow_16 : decode cX5_narrow 16 = .ok (.iload_n 0, 1) := by decide +kernel
theorem dX5_narrow_17 : decode cX5_narrow 17 = .ok (.bipush 16, 2) := by decide +kernel
theorem dX5_narrow_19 : decode cX5_narrow 19 = .ok (.if_icmp .ne 13, 3) := by decide +kernel
theorem dX5_narrow_22 : decode cX5_narrow 22 = .ok (.lload_n 1, 1) := by decide +kernel
theorem dX5_narrow_23 : decode cX5_narrow 23 = .ok (.bipush 48, 2) := by decide +kernel
theorem dX5_narrow_25 : decode cX5_narrow 25 = .ok (.lshl, 1) := by decide +kernel
theorem dX5_narrow_26 : decode cX5_narrow 26 = .ok (.bipush 48, 2) := by decide +kernel
theorem dX5_narrow_28 : decode cX5_narrow 28 = .ok (.lshr, 1) := by decide +kernel
theorem dX5_narrow_29 : decode cX5_narrow 29 = .ok (.goto 4, 3) := by decide +kernel
theorem dX5_narrow_32 : decode cX5_narrow 32 = .ok (.lload_n 1, 1) := by decide +kernel
theorem dX5_narrow_33 : decode cX5_narrow 33 = .ok (.lreturn, 1) := by decide +kernel
theorem dX5_sheet_0 : decode cX5_sheet 0 = .ok (.iload_n 1, 1) := by decide +kernel
theorem dX5_sheet_1 : decode cX5_sheet 1 = .ok (.invokestatic 262, 3) := by decide +kernel
theorem dX5_sheet_4 : decode cX5_sheet 4 = .ok (.ifCond .eq 25, 3) := by decide +kernel
theorem dX5_sheet_7 : decode cX5_sheet 7 = .ok (.iload_n 2, 1) := by decide +kernel
theorem dX5_sheet_8 : decode cX5_sheet 8 = .ok (.ifCond .eq 28, 3) := by decide +kernel
theorem dX5_sheet_11 : decode cX5_sheet 11 = .ok (.iload_n 2, 1) := by decide +kernel
theorem dX5_sheet_12 : decode cX5_sheet 12 = .ok (.bipush 8, 2) := by decide +kernel
theorem dX5_sheet_14 : decode cX5_sheet 14 = .ok (.if_icmp .eq 22, 3) := by decide +kernel
theorem dX5_sheet_17 : decode cX5_sheet 17 = .ok (.iload_n 2, 1) := by decide +kernel
theorem dX5_sheet_18 : decode cX5_sheet 18 = .ok (.bipush 16, 2) := by decide +kernel
theorem dX5_sheet_20 : decode cX5_sheet 20 = .ok (.if_icmp .eq 16, 3) := by decide +kernel
theorem dX5_sheet_23 : decode cX5_sheet 23 = .ok (.iload_n 2, 1) := by decide +kernel
theorem dX5_sheet_24 : decode cX5_sheet 24 = .ok (.bipush 64, 2) := by decide +kernel
theorem dX5_sheet_26 : decode cX5_sheet 26 = .ok (.if_icmp .eq 10, 3) := by decide +kernel
theorem dX5_sheet_29 : decode cX5_sheet 29 = .ok (.aload_n 0, 1) := by decide +kernel
theorem dX5_sheet_30 : decode cX5_sheet 30 = .ok (.ldc 50, 2) := by decide +kernel
theorem dX5_sheet_32 : decode cX5_sheet 32 = .ok (.invokevirtual 67, 3) := by decide +kernel
theorem dX5_sheet_35 : decode cX5_sheet 35 = .ok (.ireturn, 1) := by decide +kernel
theorem dX5_sheet_36 : decode cX5_sheet 36 = .ok (.iload_n 3, 1) := by decide +kernel
theorem dX5_sheet_37 : decode cX5_sheet 37 = .ok (.ifCond .ge 11, 3) := by decide +kernel
theorem dX5_sheet_40 : decode cX5_sheet 40 = .ok (.aload_n 0, 1) := by decide +kernel
theorem dX5_sheet_41 : decode cX5_sheet 41 = .ok (.ldc_w 265, 3) := by decide +kernel
theorem dX5_sheet_44 : decode cX5_sheet 44 = .ok (.invokevirtual 67, 3) := by decide +kernel
theorem dX5_sheet_47 : decode cX5_sheet 47 = .ok (.ireturn, 1) := by decide +kernel
theorem dX5_sheet_48 : decode cX5_sheet 48 = .ok (.iload_n 3, 1) := by decide +kernel
theorem dX5_sheet_49 : decode cX5_sheet 49 = .ok (.bipush 40, 2) := by decide +kernel
theorem dX5_sheet_51 : decode cX5_sheet 51 = .ok (.if_icmp .le 10, 3) := by decide +kernel
theorem dX5_sheet_54 : decode cX5_sheet 54 = .ok (.aload_n 0, 1) := by decide +kernel
theorem dX5_sheet_55 : decode cX5_sheet 55 = .ok (.ldc 50, 2) := by decide +kernel
theorem dX5_sheet_57 : decode cX5_sheet 57 = .ok (.invokevirtual 67, 3) := by decide +kernel
theorem dX5_sheet_60 : decode cX5_sheet 60 = .ok (.ireturn, 1) := by decide +kernel
theorem dX5_sheet_61 : decode cX5_sheet 61 = .ok (.aload_n 0, 1) := by decide +kernel
theorem dX5_sheet_62 : decode cX5_sheet 62 = .ok (.getfield 31, 3) := by decide +kernel
theorem dX5_sheet_65 : decode cX5_sheet 65 = .ok (.iload_n 1, 1) := by decide +kernel
theorem dX5_sheet_66 : decode cX5_sheet 66 = .ok (.iload_n 2, 1) := by decide +kernel
theorem dX5_sheet_67 : decode cX5_sheet 67 = .ok (.iastore, 1) := by decide +kernel
theorem dX5_sheet_68 : decode cX5_sheet 68 = .ok (.aload_n 0, 1) := by decide +kernel
theorem dX5_sheet_69 : decode cX5_sheet 69 = .ok (.getfield 34, 3) := by decide +kernel
theorem dX5_sheet_72 : decode cX5_sheet 72 = .ok (.iload_n 1, 1) := by decide +kernel
theorem dX5_sheet_73 : decode cX5_sheet 73 = .ok (.iload_n 2, 1) := by decide +kernel
theorem dX5_sheet_74 : decode cX5_sheet 74 = .ok (.ifCond .ne 7, 3) := by decide +kernel
theorem dX5_sheet_77 : decode cX5_sheet 77 = .ok (.iconst 0, 1) := by decide +kernel
theorem dX5_sheet_78 : decode cX5_sheet 78 = .ok (.goto 4, 3) := by decide +kernel
theorem dX5_sheet_81 : decode cX5_sheet 81 = .ok (.iload_n 3, 1) := by decide +kernel
theorem dX5_sheet_82 : decode cX5_sheet 82 = .ok (.iastore, 1) := by decide +kernel
theorem dX5_sheet_83 : decode cX5_sheet 83 = .ok (.iconst 0, 1) := by decide +kernel
theorem dX5_sheet_84 : decode cX5_sheet 84 = .ok (.istore 4, 2) := by decide +kernel
theorem dX5_sheet_86 : decode cX5_sheet 86 = .ok (.iload 4, 2) := by decide +kernel
theorem dX5_sheet_88 : decode cX5_sheet 88 = .ok (.bipush 40, 2) := by decide +kernel
theorem dX5_sheet_90 : decode cX5_sheet 90 = .ok (.if_icmp .ge 22, 3) := by decide +kernel
theorem dX5_sheet_93 : decode cX5_sheet 93 = .ok (.aload_n 0, 1) := by decide +kernel
theorem dX5_sheet_94 : decode cX5_sheet 94 = .ok (.getfield 37, 3) := by decide +kernel
theorem dX5_sheet_97 : decode cX5_sheet 97 = .ok (.bipush 40, 2) := by decide +kernel
theorem dX5_sheet_99 : decode cX5_sheet 99 = .ok (.iload_n 1, 1) := by decide +kernel
theorem dX5_sheet_100 : decode cX5_sheet 100 = .ok (.imul, 1) := by decide +kernel
theorem dX5_sheet_101 : decode cX5_sheet 101 = .ok (.iload 4, 2) := by decide +kernel
theorem dX5_sheet_103 : decode cX5_sheet 103 = .ok (.iadd, 1) := by decide +kernel
theorem dX5_sheet_104 : decode cX5_sheet 104 = .ok (.lconst 0, 1) := by decide +kernel
theorem dX5_sheet_105 : decode cX5_sheet 105 = .ok (.lastore, 1) := by decide +kernel
theorem dX5_sheet_106 : decode cX5_sheet 106 = .ok (.iinc 4 1, 3) := by decide +kernel
theorem dX5_sheet_109 : decode cX5_sheet 109 = .ok (.goto (-23), 3) := by decide +kernel
theorem dX5_sheet_112 : decode cX5_sheet 112 = .ok (.aload_n 0, 1) := by decide +kernel
theorem dX5_sheet_113 : decode cX5_sheet 113 = .ok (.getfield 34, 3) := by decide +kernel
theorem dX5_sheet_116 : decode cX5_sheet 116 = .ok (.iload_n 1, 1) := by decide +kernel
theorem dX5_sheet_117 : decode cX5_sheet 117 = .ok (.iaload, 1) := by decide +kernel
theorem dX5_sheet_118 : decode cX5_sheet 118 = .ok (.ireturn, 1) := by decide +kernel
theorem dX5_write_0 : decode cX5_write 0 = .ok (.iload_n 1, 1) := by decide +kernel
theorem dX5_write_1 : decode cX5_write 1 = .ok (.invokestatic 262, 3) := by decide +kernel
theorem dX5_write_4 : decode cX5_write 4 = .ok (.ifCond .ne 11, 3) := by decide +kernel
theorem dX5_write_7 : decode cX5_write 7 = .ok (.aload_n 0, 1) := by decide +kernel
theorem dX5_write_8 : decode cX5_write 8 = .ok (.ldc 50, 2) := by decide +kernel
theorem dX5_write_10 : decode cX5_write 10 = .ok (.invokevirtual 67, 3) := by decide +kernel
theorem dX5_write_13 : decode cX5_write 13 = .ok (.i2l, 1) := by decide +kernel
theorem dX5_write_14 : decode cX5_write 14 = .ok (.lreturn, 1) := by decide +kernel
theorem dX5_write_15 : decode cX5_write 15 = .ok (.aload_n 0, 1) := by decide +kernel
theorem dX5_write_16 : decode cX5_write 16 = .ok (.getfield 31, 3) := by decide +kernel
theorem dX5_write_19 : decode cX5_write 19 = .ok (.iload_n 1, 1) := by decide +kernel
theorem dX5_write_20 : decode cX5_write 20 = .ok (.iaload, 1) := by decide +kernel
theorem dX5_write_21 : decode cX5_write 21 = .ok (.ifCond .ne 12, 3) := by decide +kernel
theorem dX5_write_24 : decode cX5_write 24 = .ok (.aload_n 0, 1) := by decide +kernel
theorem dX5_write_25 : decode cX5_write 25 = .ok (.ldc_w 266, 3) := by decide +kernel
theorem dX5_write_28 : decode cX5_write 28 = .ok (.invokevirtual 67, 3) := by decide +kernel
theorem dX5_write_31 : decode cX5_write 31 = .ok (.i2l, 1) := by decide +kernel
theorem dX5_write_32 : decode cX5_write 32 = .ok (.lreturn, 1) := by decide +kernel
theorem dX5_write_33 : decode cX5_write 33 = .ok (.iload_n 2, 1) := by decide +kernel
theorem dX5_write_34 : decode cX5_write 34 = .ok (.iconst 0, 1) := by decide +kernel
theorem dX5_write_35 : decode cX5_write 35 = .ok (.aload_n 0, 1) := by decide +kernel
theorem dX5_write_36 : decode cX5_write 36 = .ok (.getfield 34, 3) := by decide +kernel
theorem dX5_write_39 : decode cX5_write 39 = .ok (.iload_n 1, 1) := by decide +kernel
theorem dX5_write_40 : decode cX5_write 40 = .ok (.iaload, 1) := by decide +kernel
theorem dX5_write_41 : decode cX5_write 41 = .ok (.iconst 1, 1) := by decide +kernel
theorem dX5_write_42 : decode cX5_write 42 = .ok (.isub, 1) := by decide +kernel
theorem dX5_write_43 : decode cX5_write 43 = .ok (.invokestatic 51, 3) := by decide +kernel
theorem dX5_write_46 : decode cX5_write 46 = .ok (.ifCond .ne 11, 3) := by decide +kernel
theorem dX5_write_49 : decode cX5_write 49 = .ok (.aload_n 0, 1) := by decide +kernel
theorem dX5_write_50 : decode cX5_write 50 = .ok (.ldc 50, 2) := by decide +kernel
theorem dX5_write_52 : decode cX5_write 52 = .ok (.invokevirtual 67, 3) := by decide +kernel
theorem dX5_write_55 : decode cX5_write 55 = .ok (.i2l, 1) := by decide +kernel
theorem dX5_write_56 : decode cX5_write 56 = .ok (.lreturn, 1) := by decide +kernel
theorem dX5_write_57 : decode cX5_write 57 = .ok (.aload_n 0, 1) := by decide +kernel
theorem dX5_write_58 : decode cX5_write 58 = .ok (.getfield 37, 3) := by decide +kernel
theorem dX5_write_61 : decode cX5_write 61 = .ok (.bipush 40, 2) := by decide +kernel
theorem dX5_write_63 : decode cX5_write 63 = .ok (.iload_n 1, 1) := by decide +kernel
theorem dX5_write_64 : decode cX5_write 64 = .ok (.imul, 1) := by decide +kernel
theorem dX5_write_65 : decode cX5_write 65 = .ok (.iload_n 2, 1) := by decide +kernel
theorem dX5_write_66 : decode cX5_write 66 = .ok (.iadd, 1) := by decide +kernel
theorem dX5_write_67 : decode cX5_write 67 = .ok (.laload, 1) := by decide +kernel
theorem dX5_write_68 : decode cX5_write 68 = .ok (.lstore 5, 2) := by decide +kernel
theorem dX5_write_70 : decode cX5_write 70 = .ok (.aload_n 0, 1) := by decide +kernel
theorem dX5_write_71 : decode cX5_write 71 = .ok (.getfield 37, 3) := by decide +kernel
end
section
theorem dX5_write_74 : decode cX5_write 74 = .ok (.bipush 40, 2) := by decide +kernel
theorem dX5_write_76 : decode cX5_write 76 = .ok (.iload_n 1, 1) := by decide +kernel
theorem dX5_write_77 : decode cX5_write 77 = .ok (.imul, 1) := by decide +kernel
theorem dX5_write_78 : decode cX5_write 78 = .ok (.iload_n 2, 1) := by decide +kernel
theorem dX5_write_79 : decode cX5_write 79 = .ok (.iadd, 1) := by decide +kernel
theorem dX5_write_80 : decode cX5_write 80 = .ok (.aload_n 0, 1) := by decide +kernel
theorem dX5_write_81 : decode cX5_write 81 = .ok (.getfield 31, 3) := by decide +kernel
theorem dX5_write_84 : decode cX5_write 84 = .ok (.iload_n 1, 1) := by decide +kernel
theorem dX5_write_85 : decode cX5_write 85 = .ok (.iaload, 1) := by decide +kernel
theorem dX5_write_86 : decode cX5_write 86 = .ok (.lload_n 3, 1) := by decide +kernel
theorem dX5_write_87 : decode cX5_write 87 = .ok (.invokestatic 267, 3) := by decide +kernel
theorem dX5_write_90 : decode cX5_write 90 = .ok (.lastore, 1) := by decide +kernel
theorem dX5_write_91 : decode cX5_write 91 = .ok (.lload 5, 2) := by decide +kernel
theorem dX5_write_93 : decode cX5_write 93 = .ok (.lreturn, 1) := by decide +kernel
theorem dX5_isPart__0 : decode cX5_isPart_ 0 = .ok (.iload_n 2, 1) := by decide +kernel
theorem dX5_isPart__1 : decode cX5_isPart_ 1 = .ok (.ifCond .lt 33, 3) := by decide +kernel
theorem dX5_isPart__4 : decode cX5_isPart_ 4 = .ok (.iload_n 3, 1) := by decide +kernel
theorem dX5_isPart__5 : decode cX5_isPart_ 5 = .ok (.ifCond .lt 29, 3) := by decide +kernel
theorem dX5_isPart__8 : decode cX5_isPart_ 8 = .ok (.iload_n 3, 1) := by decide +kernel
theorem dX5_isPart__9 : decode cX5_isPart_ 9 = .ok (.aload_n 0, 1) := by decide +kernel
theorem dX5_isPart__10 : decode cX5_isPart_ 10 = .ok (.getfield 34, 3) := by decide +kernel
theorem dX5_isPart__13 : decode cX5_isPart_ 13 = .ok (.iload_n 1, 1) := by decide +kernel
theorem dX5_isPart__14 : decode cX5_isPart_ 14 = .ok (.iaload, 1) := by decide +kernel
theorem dX5_isPart__15 : decode cX5_isPart_ 15 = .ok (.if_icmp .gt 19, 3) := by decide +kernel
theorem dX5_isPart__18 : decode cX5_isPart_ 18 = .ok (.iload_n 2, 1) := by decide +kernel
theorem dX5_isPart__19 : decode cX5_isPart_ 19 = .ok (.aload_n 0, 1) := by decide +kernel
theorem dX5_isPart__20 : decode cX5_isPart_ 20 = .ok (.getfield 34, 3) := by decide +kernel
theorem dX5_isPart__23 : decode cX5_isPart_ 23 = .ok (.iload_n 1, 1) := by decide +kernel
theorem dX5_isPart__24 : decode cX5_isPart_ 24 = .ok (.iaload, 1) := by decide +kernel
theorem dX5_isPart__25 : decode cX5_isPart_ 25 = .ok (.iload_n 3, 1) := by decide +kernel
theorem dX5_isPart__26 : decode cX5_isPart_ 26 = .ok (.isub, 1) := by decide +kernel
theorem dX5_isPart__27 : decode cX5_isPart_ 27 = .ok (.if_icmp .gt 7, 3) := by decide +kernel
theorem dX5_isPart__30 : decode cX5_isPart_ 30 = .ok (.iconst 1, 1) := by decide +kernel
theorem dX5_isPart__31 : decode cX5_isPart_ 31 = .ok (.goto 4, 3) := by decide +kernel
theorem dX5_isPart__34 : decode cX5_isPart_ 34 = .ok (.iconst 0, 1) := by decide +kernel
theorem dX5_isPart__35 : decode cX5_isPart_ 35 = .ok (.ireturn, 1) := by decide +kernel
theorem dX5_copy_0 : decode cX5_copy 0 = .ok (.iload_n 1, 1) := by decide +kernel
theorem dX5_copy_1 : decode cX5_copy 1 = .ok (.invokestatic 262, 3) := by decide +kernel
theorem dX5_copy_4 : decode cX5_copy 4 = .ok (.ifCond .eq 10, 3) := by decide +kernel
theorem dX5_copy_7 : decode cX5_copy 7 = .ok (.iload_n 3, 1) := by decide +kernel
theorem dX5_copy_8 : decode cX5_copy 8 = .ok (.invokestatic 262, 3) := by decide +kernel
theorem dX5_copy_11 : decode cX5_copy 11 = .ok (.ifCond .ne 10, 3) := by decide +kernel
theorem dX5_copy_14 : decode cX5_copy 14 = .ok (.aload_n 0, 1) := by decide +kernel
theorem dX5_copy_15 : decode cX5_copy 15 = .ok (.ldc 50, 2) := by decide +kernel
theorem dX5_copy_17 : decode cX5_copy 17 = .ok (.invokevirtual 67, 3) := by decide +kernel
theorem dX5_copy_20 : decode cX5_copy 20 = .ok (.ireturn, 1) := by decide +kernel
theorem dX5_copy_21 : decode cX5_copy 21 = .ok (.aload_n 0, 1) := by decide +kernel
theorem dX5_copy_22 : decode cX5_copy 22 = .ok (.getfield 31, 3) := by decide +kernel
theorem dX5_copy_25 : decode cX5_copy 25 = .ok (.iload_n 1, 1) := by decide +kernel
theorem dX5_copy_26 : decode cX5_copy 26 = .ok (.iaload, 1) := by decide +kernel
theorem dX5_copy_27 : decode cX5_copy 27 = .ok (.ifCond .eq 12, 3) := by decide +kernel
theorem dX5_copy_30 : decode cX5_copy 30 = .ok (.aload_n 0, 1) := by decide +kernel
theorem dX5_copy_31 : decode cX5_copy 31 = .ok (.getfield 31, 3) := by decide +kernel
theorem dX5_copy_34 : decode cX5_copy 34 = .ok (.iload_n 3, 1) := by decide +kernel
theorem dX5_copy_35 : decode cX5_copy 35 = .ok (.iaload, 1) := by decide +kernel
theorem dX5_copy_36 : decode cX5_copy 36 = .ok (.ifCond .ne 11, 3) := by decide +kernel
theorem dX5_copy_39 : decode cX5_copy 39 = .ok (.aload_n 0, 1) := by decide +kernel
theorem dX5_copy_40 : decode cX5_copy 40 = .ok (.ldc_w 266, 3) := by decide +kernel
theorem dX5_copy_43 : decode cX5_copy 43 = .ok (.invokevirtual 67, 3) := by decide +kernel
theorem dX5_copy_46 : decode cX5_copy 46 = .ok (.ireturn, 1) := by decide +kernel
theorem dX5_copy_47 : decode cX5_copy 47 = .ok (.aload_n 0, 1) := by decide +kernel
theorem dX5_copy_48 : decode cX5_copy 48 = .ok (.getfield 31, 3) := by decide +kernel
theorem dX5_copy_51 : decode cX5_copy 51 = .ok (.iload_n 1, 1) := by decide +kernel
theorem dX5_copy_52 : decode cX5_copy 52 = .ok (.iaload, 1) := by decide +kernel
theorem dX5_copy_53 : decode cX5_copy 53 = .ok (.aload_n 0, 1) := by decide +kernel
theorem dX5_copy_54 : decode cX5_copy 54 = .ok (.getfield 31, 3) := by decide +kernel
theorem dX5_copy_57 : decode cX5_copy 57 = .ok (.iload_n 3, 1) := by decide +kernel
theorem dX5_copy_58 : decode cX5_copy 58 = .ok (.iaload, 1) := by decide +kernel
theorem dX5_copy_59 : decode cX5_copy 59 = .ok (.if_icmp .eq 10, 3) := by decide +kernel
theorem dX5_copy_62 : decode cX5_copy 62 = .ok (.aload_n 0, 1) := by decide +kernel
theorem dX5_copy_63 : decode cX5_copy 63 = .ok (.ldc 137, 2) := by decide +kernel
theorem dX5_copy_65 : decode cX5_copy 65 = .ok (.invokevirtual 67, 3) := by decide +kernel
theorem dX5_copy_68 : decode cX5_copy 68 = .ok (.ireturn, 1) := by decide +kernel
theorem dX5_copy_69 : decode cX5_copy 69 = .ok (.aload_n 0, 1) := by decide +kernel
theorem dX5_copy_70 : decode cX5_copy 70 = .ok (.iload_n 1, 1) := by decide +kernel
theorem dX5_copy_71 : decode cX5_copy 71 = .ok (.iload_n 2, 1) := by decide +kernel
theorem dX5_copy_72 : decode cX5_copy 72 = .ok (.iload 5, 2) := by decide +kernel
theorem dX5_copy_74 : decode cX5_copy 74 = .ok (.invokevirtual 271, 3) := by decide +kernel
theorem dX5_copy_77 : decode cX5_copy 77 = .ok (.ifCond .eq 15, 3) := by decide +kernel
theorem dX5_copy_80 : decode cX5_copy 80 = .ok (.aload_n 0, 1) := by decide +kernel
theorem dX5_copy_81 : decode cX5_copy 81 = .ok (.iload_n 3, 1) := by decide +kernel
theorem dX5_copy_82 : decode cX5_copy 82 = .ok (.iload 4, 2) := by decide +kernel
theorem dX5_copy_84 : decode cX5_copy 84 = .ok (.iload 5, 2) := by decide +kernel
theorem dX5_copy_86 : decode cX5_copy 86 = .ok (.invokevirtual 271, 3) := by decide +kernel
theorem dX5_copy_89 : decode cX5_copy 89 = .ok (.ifCond .ne 10, 3) := by decide +kernel
theorem dX5_copy_92 : decode cX5_copy 92 = .ok (.aload_n 0, 1) := by decide +kernel
theorem dX5_copy_93 : decode cX5_copy 93 = .ok (.ldc 50, 2) := by decide +kernel
theorem dX5_copy_95 : decode cX5_copy 95 = .ok (.invokevirtual 67, 3) := by decide +kernel
theorem dX5_copy_98 : decode cX5_copy 98 = .ok (.ireturn, 1) := by decide +kernel
theorem dX5_copy_99 : decode cX5_copy 99 = .ok (.iconst 0, 1) := by decide +kernel
theorem dX5_copy_100 : decode cX5_copy 100 = .ok (.istore 6, 2) := by decide +kernel
theorem dX5_copy_102 : decode cX5_copy 102 = .ok (.iload 6, 2) := by decide +kernel
theorem dX5_copy_104 : decode cX5_copy 104 = .ok (.iload 5, 2) := by decide +kernel
theorem dX5_copy_106 : decode cX5_copy 106 = .ok (.if_icmp .ge 30, 3) := by decide +kernel
theorem dX5_copy_109 : decode cX5_copy 109 = .ok (.aload_n 0, 1) := by decide +kernel
theorem dX5_copy_110 : decode cX5_copy 110 = .ok (.getfield 41, 3) := by decide +kernel
theorem dX5_copy_113 : decode cX5_copy 113 = .ok (.iload 6, 2) := by decide +kernel
theorem dX5_copy_115 : decode cX5_copy 115 = .ok (.aload_n 0, 1) := by decide +kernel
theorem dX5_copy_116 : decode cX5_copy 116 = .ok (.getfield 37, 3) := by decide +kernel
theorem dX5_copy_119 : decode cX5_copy 119 = .ok (.bipush 40, 2) := by decide +kernel
theorem dX5_copy_121 : decode cX5_copy 121 = .ok (.iload_n 1, 1) := by decide +kernel
theorem dX5_copy_122 : decode cX5_copy 122 = .ok (.imul, 1) := by decide +kernel
theorem dX5_copy_123 : decode cX5_copy 123 = .ok (.iload_n 2, 1) := by decide +kernel
theorem dX5_copy_124 : decode cX5_copy 124 = .ok (.iadd, 1) := by decide +kernel
theorem dX5_copy_125 : decode cX5_copy 125 = .ok (.iload 6, 2) := by decide +kernel
theorem dX5_copy_127 : decode cX5_copy 127 = .ok (.iadd, 1) := by decide +kernel
theorem dX5_copy_128 : decode cX5_copy 128 = .ok (.laload, 1) := by decide +kernel
theorem dX5_copy_129 : decode cX5_copy 129 = .ok (.lastore, 1) := by decide +kernel
theorem dX5_copy_130 : decode cX5_copy 130 = .ok (.iinc 6 1, 3) := by decide +kernel
theorem dX5_copy_133 : decode cX5_copy 133 = .ok (.goto (-31), 3) := by decide +kernel
theorem dX5_copy_136 : decode cX5_copy 136 = .ok (.iconst 0, 1) := by decide +kernel
theorem dX5_copy_137 : decode cX5_copy 137 = .ok (.istore 6, 2) := by decide +kernel
theorem dX5_copy_139 : decode cX5_copy 139 = .ok (.iload 6, 2) := by decide +kernel
theorem dX5_copy_141 : decode cX5_copy 141 = .ok (.iload 5, 2) := by decide +kernel
theorem dX5_copy_143 : decode cX5_copy 143 = .ok (.if_icmp .ge 31, 3) := by decide +kernel
theorem dX5_copy_146 : decode cX5_copy 146 = .ok (.aload_n 0, 1) := by decide +kernel
theorem dX5_copy_147 : decode cX5_copy 147 = .ok (.getfield 37, 3) := by decide +kernel
theorem dX5_copy_150 : decode cX5_copy 150 = .ok (.bipush 40, 2) := by decide +kernel
theorem dX5_copy_152 : decode cX5_copy 152 = .ok (.iload_n 3, 1) := by decide +kernel
theorem dX5_copy_153 : decode cX5_copy 153 = .ok (.imul, 1) := by decide +kernel
theorem dX5_copy_154 : decode cX5_copy 154 = .ok (.iload 4, 2) := by decide +kernel
theorem dX5_copy_156 : decode cX5_copy 156 = .ok (.iadd, 1) := by decide +kernel
theorem dX5_copy_157 : decode cX5_copy 157 = .ok (.iload 6, 2) := by decide +kernel
theorem dX5_copy_159 : decode cX5_copy 159 = .ok (.iadd, 1) := by decide +kernel
theorem dX5_copy_160 : decode cX5_copy 160 = .ok (.aload_n 0, 1) := by decide +kernel
theorem dX5_copy_161 : decode cX5_copy 161 = .ok (.getfield 41, 3) := by decide +kernel
theorem dX5_copy_164 : decode cX5_copy 164 = .ok (.iload 6, 2) := by decide +kernel
theorem dX5_copy_166 : decode cX5_copy 166 = .ok (.laload, 1) := by decide +kernel
theorem dX5_copy_167 : decode cX5_copy 167 = .ok (.lastore, 1) := by decide +kernel
theorem dX5_copy_168 : decode cX5_copy 168 = .ok (.iinc 6 1, 3) := by decide +kernel
theorem dX5_copy_171 : decode cX5_copy 171 = .ok (.goto (-32), 3) := by decide +kernel
theorem dX5_copy_174 : decode cX5_copy 174 = .ok (.iload 5, 2) := by decide +kernel
theorem dX5_copy_176 : decode cX5_copy 176 = .ok (.ireturn, 1) := by decide +kernel
theorem dX5_badSheet_0 : decode cX5_badSheet 0 = .ok (.iload_n 1, 1) := by decide +kernel
theorem dX5_badSheet_1 : decode cX5_badSheet 1 = .ok (.invokestatic 262, 3) := by decide +kernel
theorem dX5_badSheet_4 : decode cX5_badSheet 4 = .ok (.ifCond .ne 8, 3) := by decide +kernel
theorem dX5_badSheet_7 : decode cX5_badSheet 7 = .ok (.ldc 50, 2) := by decide +kernel
theorem dX5_badSheet_9 : decode cX5_badSheet 9 = .ok (.goto 19, 3) := by decide +kernel
theorem dX5_badSheet_12 : decode cX5_badSheet 12 = .ok (.aload_n 0, 1) := by decide +kernel
theorem dX5_badSheet_13 : decode cX5_badSheet 13 = .ok (.getfield 31, 3) := by decide +kernel
theorem dX5_badSheet_16 : decode cX5_badSheet 16 = .ok (.iload_n 1, 1) := by decide +kernel
theorem dX5_badSheet_17 : decode cX5_badSheet 17 = .ok (.iaload, 1) := by decide +kernel
theorem dX5_badSheet_18 : decode cX5_badSheet 18 = .ok (.ifCond .ne 9, 3) := by decide +kernel
theorem dX5_badSheet_21 : decode cX5_badSheet 21 = .ok (.ldc_w 266, 3) := by decide +kernel
theorem dX5_badSheet_24 : decode cX5_badSheet 24 = .ok (.goto 4, 3) := by decide +kernel
theorem dX5_badSheet_27 : decode cX5_badSheet 27 = .ok (.iconst 0, 1) := by decide +kernel
theorem dX5_badSheet_28 : decode cX5_badSheet 28 = .ok (.ireturn, 1) := by decide +kernel
theorem dX5_lays_0 : decode cX5_lays 0 = .ok (.aload_n 0, 1) := by decide +kernel
theorem dX5_lays_1 : decode cX5_lays 1 = .ok (.iload_n 1, 1) := by decide +kernel
theorem dX5_lays_2 : decode cX5_lays 2 = .ok (.invokevirtual 273, 3) := by decide +kernel
theorem dX5_lays_5 : decode cX5_lays 5 = .ok (.istore_n 2, 1) := by decide +kernel
theorem dX5_lays_6 : decode cX5_lays 6 = .ok (.iload_n 2, 1) := by decide +kernel
theorem dX5_lays_7 : decode cX5_lays 7 = .ok (.ifCond .eq 9, 3) := by decide +kernel
theorem dX5_lays_10 : decode cX5_lays 10 = .ok (.aload_n 0, 1) := by decide +kernel
theorem dX5_lays_11 : decode cX5_lays 11 = .ok (.iload_n 2, 1) := by decide +kernel
theorem dX5_lays_12 : decode cX5_lays 12 = .ok (.invokevirtual 67, 3) := by decide +kernel
theorem dX5_lays_15 : decode cX5_lays 15 = .ok (.ireturn, 1) := by decide +kernel
theorem dX5_lays_16 : decode cX5_lays 16 = .ok (.iconst 0, 1) := by decide +kernel
theorem dX5_lays_17 : decode cX5_lays 17 = .ok (.istore_n 3, 1) := by decide +kernel
theorem dX5_lays_18 : decode cX5_lays 18 = .ok (.iconst 0, 1) := by decide +kernel
theorem dX5_lays_19 : decode cX5_lays 19 = .ok (.istore 4, 2) := by decide +kernel
theorem dX5_lays_21 : decode cX5_lays 21 = .ok (.iload 4, 2) := by decide +kernel
theorem dX5_lays_23 : decode cX5_lays 23 = .ok (.aload_n 0, 1) := by decide +kernel
theorem dX5_lays_24 : decode cX5_lays 24 = .ok (.getfield 34, 3) := by decide +kernel
theorem dX5_lays_27 : decode cX5_lays 27 = .ok (.iload_n 1, 1) := by decide +kernel
theorem dX5_lays_28 : decode cX5_lays 28 = .ok (.iaload, 1) := by decide +kernel
theorem dX5_lays_29 : decode cX5_lays 29 = .ok (.if_icmp .ge 63, 3) := by decide +kernel
theorem dX5_lays_32 : decode cX5_lays 32 = .ok (.iload 4, 2) := by decide +kernel
theorem dX5_lays_34 : decode cX5_lays 34 = .ok (.aload_n 0, 1) := by decide +kernel
theorem dX5_lays_35 : decode cX5_lays 35 = .ok (.getfield 7, 3) := by decide +kernel
theorem dX5_lays_38 : decode cX5_lays 38 = .ok (.iconst 1, 1) := by decide +kernel
theorem dX5_lays_39 : decode cX5_lays 39 = .ok (.iaload, 1) := by decide +kernel
theorem dX5_lays_40 : decode cX5_lays 40 = .ok (.if_icmp .ge 52, 3) := by decide +kernel
theorem dX5_lays_43 : decode cX5_lays 43 = .ok (.aload_n 0, 1) := by decide +kernel
theorem dX5_lays_44 : decode cX5_lays 44 = .ok (.getfield 37, 3) := by decide +kernel
theorem dX5_lays_47 : decode cX5_lays 47 = .ok (.bipush 40, 2) := by decide +kernel
theorem dX5_lays_49 : decode cX5_lays 49 = .ok (.iload_n 1, 1) := by decide +kernel
theorem dX5_lays_50 : decode cX5_lays 50 = .ok (.imul, 1) := by decide +kernel
theorem dX5_lays_51 : decode cX5_lays 51 = .ok (.iload 4, 2) := by decide +kernel
theorem dX5_lays_53 : decode cX5_lays 53 = .ok (.iadd, 1) := by decide +kernel
theorem dX5_lays_54 : decode cX5_lays 54 = .ok (.laload, 1) := by decide +kernel
theorem dX5_lays_55 : decode cX5_lays 55 = .ok (.lstore 5, 2) := by decide +kernel
theorem dX5_lays_57 : decode cX5_lays 57 = .ok (.lload 5, 2) := by decide +kernel
theorem dX5_lays_59 : decode cX5_lays 59 = .ok (.lconst 0, 1) := by decide +kernel
theorem dX5_lays_60 : decode cX5_lays 60 = .ok (.lcmp, 1) := by decide +kernel
theorem dX5_lays_61 : decode cX5_lays 61 = .ok (.ifCond .lt 25, 3) := by decide +kernel
theorem dX5_lays_64 : decode cX5_lays 64 = .ok (.lload 5, 2) := by decide +kernel
theorem dX5_lays_66 : decode cX5_lays 66 = .ok (.ldc2_w 276, 3) := by decide +kernel
theorem dX5_lays_69 : decode cX5_lays 69 = .ok (.lcmp, 1) := by decide +kernel
theorem dX5_lays_70 : decode cX5_lays 70 = .ok (.ifCond .gt 16, 3) := by decide +kernel
theorem dX5_lays_73 : decode cX5_lays 73 = .ok (.aload_n 0, 1) := by decide +kernel
theorem dX5_lays_74 : decode cX5_lays 74 = .ok (.iload 4, 2) := by decide +kernel
theorem dX5_lays_76 : decode cX5_lays 76 = .ok (.iconst 4, 1) := by decide +kernel
theorem dX5_lays_77 : decode cX5_lays 77 = .ok (.lload 5, 2) := by decide +kernel
theorem dX5_lays_79 : decode cX5_lays 79 = .ok (.l2i, 1) := by decide +kernel
theorem dX5_lays_80 : decode cX5_lays 80 = .ok (.invokevirtual 108, 3) := by decide +kernel
theorem dX5_lays_83 : decode cX5_lays 83 = .ok (.iinc 3 1, 3) := by decide +kernel
theorem dX5_lays_86 : decode cX5_lays 86 = .ok (.iinc 4 1, 3) := by decide +kernel
theorem dX5_lays_89 : decode cX5_lays 89 = .ok (.goto (-68), 3) := by decide +kernel
theorem dX5_lays_92 : decode cX5_lays 92 = .ok (.iload_n 3, 1) := by decide +kernel
theorem dX5_lays_93 : decode cX5_lays 93 = .ok (.ireturn, 1) := by decide +kernel
theorem dX5_book_0 : decode cX5_book 0 = .ok (.aload_n 0, 1) := by decide +kernel
theorem dX5_book_1 : decode cX5_book 1 = .ok (.iload_n 1, 1) := by decide +kernel
theorem dX5_book_2 : decode cX5_book 2 = .ok (.invokevirtual 273, 3) := by decide +kernel
theorem dX5_book_5 : decode cX5_book 5 = .ok (.istore_n 3, 1) := by decide +kernel
theorem dX5_book_6 : decode cX5_book 6 = .ok (.iload_n 3, 1) := by decide +kernel
theorem dX5_book_7 : decode cX5_book 7 = .ok (.ifCond .eq 9, 3) := by decide +kernel
theorem dX5_book_10 : decode cX5_book 10 = .ok (.aload_n 0, 1) := by decide +kernel
theorem dX5_book_11 : decode cX5_book 11 = .ok (.iload_n 3, 1) := by decide +kernel
theorem dX5_book_12 : decode cX5_book 12 = .ok (.invokevirtual 67, 3) := by decide +kernel
theorem dX5_book_15 : decode cX5_book 15 = .ok (.ireturn, 1) := by decide +kernel
theorem dX5_book_16 : decode cX5_book 16 = .ok (.aload_n 0, 1) := by decide +kernel
theorem dX5_book_17 : decode cX5_book 17 = .ok (.iload_n 2, 1) := by decide +kernel
theorem dX5_book_18 : decode cX5_book 18 = .ok (.invokevirtual 124, 3) := by decide +kernel
theorem dX5_book_21 : decode cX5_book 21 = .ok (.ifCond .ne 10, 3) := by decide +kernel
theorem dX5_book_24 : decode cX5_book 24 = .ok (.aload_n 0, 1) := by decide +kernel
theorem dX5_book_25 : decode cX5_book 25 = .ok (.ldc 50, 2) := by decide +kernel
theorem dX5_book_27 : decode cX5_book 27 = .ok (.invokevirtual 67, 3) := by decide +kernel
theorem dX5_book_30 : decode cX5_book 30 = .ok (.ireturn, 1) := by decide +kernel
theorem dX5_book_31 : decode cX5_book 31 = .ok (.aload_n 0, 1) := by decide +kernel
theorem dX5_book_32 : decode cX5_book 32 = .ok (.iconst 1, 1) := by decide +kernel
theorem dX5_book_33 : decode cX5_book 33 = .ok (.aload_n 0, 1) := by decide +kernel
theorem dX5_book_34 : decode cX5_book 34 = .ok (.getfield 22, 3) := by decide +kernel
theorem dX5_book_37 : decode cX5_book 37 = .ok (.invokevirtual 156, 3) := by decide +kernel
theorem dX5_book_40 : decode cX5_book 40 = .ok (.iconst 0, 1) := by decide +kernel
theorem dX5_book_41 : decode cX5_book 41 = .ok (.istore 4, 2) := by decide +kernel
theorem dX5_book_43 : decode cX5_book 43 = .ok (.iload 4, 2) := by decide +kernel
theorem dX5_book_45 : decode cX5_book 45 = .ok (.aload_n 0, 1) := by decide +kernel
theorem dX5_book_46 : decode cX5_book 46 = .ok (.getfield 34, 3) := by decide +kernel
theorem dX5_book_49 : decode cX5_book 49 = .ok (.iload_n 1, 1) := by decide +kernel
theorem dX5_book_50 : decode cX5_book 50 = .ok (.iaload, 1) := by decide +kernel
theorem dX5_book_51 : decode cX5_book 51 = .ok (.if_icmp .ge 41, 3) := by decide +kernel
theorem dX5_book_54 : decode cX5_book 54 = .ok (.aload_n 0, 1) := by decide +kernel
theorem dX5_book_55 : decode cX5_book 55 = .ok (.getfield 37, 3) := by decide +kernel
theorem dX5_book_58 : decode cX5_book 58 = .ok (.bipush 40, 2) := by decide +kernel
theorem dX5_book_60 : decode cX5_book 60 = .ok (.iload_n 1, 1) := by decide +kernel
theorem dX5_book_61 : decode cX5_book 61 = .ok (.imul, 1) := by decide +kernel
theorem dX5_book_62 : decode cX5_book 62 = .ok (.iload 4, 2) := by decide +kernel
theorem dX5_book_64 : decode cX5_book 64 = .ok (.iadd, 1) := by decide +kernel
theorem dX5_book_65 : decode cX5_book 65 = .ok (.aload_n 0, 1) := by decide +kernel
theorem dX5_book_66 : decode cX5_book 66 = .ok (.getfield 31, 3) := by decide +kernel
theorem dX5_book_69 : decode cX5_book 69 = .ok (.iload_n 1, 1) := by decide +kernel
theorem dX5_book_70 : decode cX5_book 70 = .ok (.iaload, 1) := by decide +kernel
theorem dX5_book_71 : decode cX5_book 71 = .ok (.aload_n 0, 1) := by decide +kernel
theorem dX5_book_72 : decode cX5_book 72 = .ok (.iload_n 2, 1) := by decide +kernel
theorem dX5_book_73 : decode cX5_book 73 = .ok (.iconst 4, 1) := by decide +kernel
theorem dX5_book_74 : decode cX5_book 74 = .ok (.invokevirtual 55, 3) := by decide +kernel
theorem dX5_book_77 : decode cX5_book 77 = .ok (.i2l, 1) := by decide +kernel
theorem dX5_book_78 : decode cX5_book 78 = .ok (.invokestatic 267, 3) := by decide +kernel
theorem dX5_book_81 : decode cX5_book 81 = .ok (.lastore, 1) := by decide +kernel
theorem dX5_book_82 : decode cX5_book 82 = .ok (.aload_n 0, 1) := by decide +kernel
theorem dX5_book_83 : decode cX5_book 83 = .ok (.invokevirtual 148, 3) := by decide +kernel
theorem dX5_book_86 : decode cX5_book 86 = .ok (.iinc 4 1, 3) := by decide +kernel
theorem dX5_book_89 : decode cX5_book 89 = .ok (.goto (-46), 3) := by decide +kernel
theorem dX5_book_92 : decode cX5_book 92 = .ok (.aload_n 0, 1) := by decide +kernel
theorem dX5_book_93 : decode cX5_book 93 = .ok (.iconst 0, 1) := by decide +kernel
theorem dX5_book_94 : decode cX5_book 94 = .ok (.aload_n 0, 1) := by decide +kernel
theorem dX5_book_95 : decode cX5_book 95 = .ok (.getfield 22, 3) := by decide +kernel
theorem dX5_book_98 : decode cX5_book 98 = .ok (.invokevirtual 156, 3) := by decide +kernel
theorem dX5_book_101 : decode cX5_book 101 = .ok (.aload_n 0, 1) := by decide +kernel
theorem dX5_book_102 : decode cX5_book 102 = .ok (.getfield 34, 3) := by decide +kernel
theorem dX5_book_105 : decode cX5_book 105 = .ok (.iload_n 1, 1) := by decide +kernel
theorem dX5_book_106 : decode cX5_book 106 = .ok (.iaload, 1) := by decide +kernel
theorem dX5_book_107 : decode cX5_book 107 = .ok (.ireturn, 1) := by decide +kernel
theorem dX5_isSo_0 : decode cX5_isSo 0 = .ok (.iconst 1, 1) := by decide +kernel
theorem dX5_isSo_1 : decode cX5_isSo 1 = .ok (.istore_n 3, 1) := by decide +kernel
theorem dX5_isSo_2 : decode cX5_isSo 2 = .ok (.iconst 0, 1) := by decide +kernel
theorem dX5_isSo_3 : decode cX5_isSo 3 = .ok (.istore 4, 2) := by decide +kernel
theorem dX5_isSo_5 : decode cX5_isSo 5 = .ok (.iload 4, 2) := by decide +kernel
theorem dX5_isSo_7 : decode cX5_isSo 7 = .ok (.aload_n 0, 1) := by decide +kernel
theorem dX5_isSo_8 : decode cX5_isSo 8 = .ok (.getfield 34, 3) := by decide +kernel
theorem dX5_isSo_11 : decode cX5_isSo 11 = .ok (.iload_n 1, 1) := by decide +kernel
theorem dX5_isSo_12 : decode cX5_isSo 12 = .ok (.iaload, 1) := by decide +kernel
theorem dX5_isSo_13 : decode cX5_isSo 13 = .ok (.if_icmp .ge 46, 3) := by decide +kernel
theorem dX5_isSo_16 : decode cX5_isSo 16 = .ok (.iload_n 3, 1) := by decide +kernel
theorem dX5_isSo_17 : decode cX5_isSo 17 = .ok (.ifCond .eq 42, 3) := by decide +kernel
theorem dX5_isSo_20 : decode cX5_isSo 20 = .ok (.aload_n 0, 1) := by decide +kernel
theorem dX5_isSo_21 : decode cX5_isSo 21 = .ok (.getfield 37, 3) := by decide +kernel
theorem dX5_isSo_24 : decode cX5_isSo 24 = .ok (.bipush 40, 2) := by decide +kernel
theorem dX5_isSo_26 : decode cX5_isSo 26 = .ok (.iload_n 1, 1) := by decide +kernel
theorem dX5_isSo_27 : decode cX5_isSo 27 = .ok (.imul, 1) := by decide +kernel
theorem dX5_isSo_28 : decode cX5_isSo 28 = .ok (.iload 4, 2) := by decide +kernel
theorem dX5_isSo_30 : decode cX5_isSo 30 = .ok (.iadd, 1) := by decide +kernel
theorem dX5_isSo_31 : decode cX5_isSo 31 = .ok (.laload, 1) := by decide +kernel
theorem dX5_isSo_32 : decode cX5_isSo 32 = .ok (.aload_n 0, 1) := by decide +kernel
theorem dX5_isSo_33 : decode cX5_isSo 33 = .ok (.iload_n 2, 1) := by decide +kernel
theorem dX5_isSo_34 : decode cX5_isSo 34 = .ok (.iconst 4, 1) := by decide +kernel
theorem dX5_isSo_35 : decode cX5_isSo 35 = .ok (.invokevirtual 55, 3) := by decide +kernel
theorem dX5_isSo_38 : decode cX5_isSo 38 = .ok (.i2l, 1) := by decide +kernel
theorem dX5_isSo_39 : decode cX5_isSo 39 = .ok (.lcmp, 1) := by decide +kernel
theorem dX5_isSo_40 : decode cX5_isSo 40 = .ok (.ifCond .ne 7, 3) := by decide +kernel
theorem dX5_isSo_43 : decode cX5_isSo 43 = .ok (.iconst 1, 1) := by decide +kernel
theorem dX5_isSo_44 : decode cX5_isSo 44 = .ok (.goto 4, 3) := by decide +kernel
theorem dX5_isSo_47 : decode cX5_isSo 47 = .ok (.iconst 0, 1) := by decide +kernel
theorem dX5_isSo_48 : decode cX5_isSo 48 = .ok (.istore_n 3, 1) := by decide +kernel
theorem dX5_isSo_49 : decode cX5_isSo 49 = .ok (.aload_n 0, 1) := by decide +kernel
theorem dX5_isSo_50 : decode cX5_isSo 50 = .ok (.invokevirtual 148, 3) := by decide +kernel
theorem dX5_isSo_53 : decode cX5_isSo 53 = .ok (.iinc 4 1, 3) := by decide +kernel
theorem dX5_isSo_56 : decode cX5_isSo 56 = .ok (.goto (-51), 3) := by decide +kernel
theorem dX5_isSo_59 : decode cX5_isSo 59 = .ok (.iload_n 3, 1) := by decide +kernel
theorem dX5_isSo_60 : decode cX5_isSo 60 = .ok (.ireturn, 1) := by decide +kernel
theorem dX5_read_0 : decode cX5_read 0 = .ok (.aload_n 0, 1) := by decide +kernel
theorem dX5_read_1 : decode cX5_read 1 = .ok (.iload_n 1, 1) := by decide +kernel
theorem dX5_read_2 : decode cX5_read 2 = .ok (.invokevirtual 273, 3) := by decide +kernel
theorem dX5_read_5 : decode cX5_read 5 = .ok (.istore 4, 2) := by decide +kernel
theorem dX5_read_7 : decode cX5_read 7 = .ok (.iload 4, 2) := by decide +kernel
theorem dX5_read_9 : decode cX5_read 9 = .ok (.ifCond .eq 10, 3) := by decide +kernel
theorem dX5_read_12 : decode cX5_read 12 = .ok (.aload_n 0, 1) := by decide +kernel
theorem dX5_read_13 : decode cX5_read 13 = .ok (.iload 4, 2) := by decide +kernel
theorem dX5_read_15 : decode cX5_read 15 = .ok (.invokevirtual 67, 3) := by decide +kernel
theorem dX5_read_18 : decode cX5_read 18 = .ok (.ireturn, 1) := by decide +kernel
theorem dX5_read_19 : decode cX5_read 19 = .ok (.aload_n 0, 1) := by decide +kernel
theorem dX5_read_20 : decode cX5_read 20 = .ok (.iload_n 2, 1) := by decide +kernel
theorem dX5_read_21 : decode cX5_read 21 = .ok (.invokevirtual 124, 3) := by decide +kernel
theorem dX5_read_24 : decode cX5_read 24 = .ok (.ifCond .eq 16, 3) := by decide +kernel
theorem dX5_read_27 : decode cX5_read 27 = .ok (.aload_n 0, 1) := by decide +kernel
theorem dX5_read_28 : decode cX5_read 28 = .ok (.iload_n 3, 1) := by decide +kernel
theorem dX5_read_29 : decode cX5_read 29 = .ok (.invokevirtual 124, 3) := by decide +kernel
theorem dX5_read_32 : decode cX5_read 32 = .ok (.ifCond .eq 8, 3) := by decide +kernel
theorem dX5_read_35 : decode cX5_read 35 = .ok (.iload_n 2, 1) := by decide +kernel
theorem dX5_read_36 : decode cX5_read 36 = .ok (.iload_n 3, 1) := by decide +kernel
theorem dX5_read_37 : decode cX5_read 37 = .ok (.if_icmp .ne 10, 3) := by decide +kernel
theorem dX5_read_40 : decode cX5_read 40 = .ok (.aload_n 0, 1) := by decide +kernel
theorem dX5_read_41 : decode cX5_read 41 = .ok (.ldc 50, 2) := by decide +kernel
theorem dX5_read_43 : decode cX5_read 43 = .ok (.invokevirtual 67, 3) := by decide +kernel
theorem dX5_read_46 : decode cX5_read 46 = .ok (.ireturn, 1) := by decide +kernel
theorem dX5_read_47 : decode cX5_read 47 = .ok (.iconst 0, 1) := by decide +kernel
theorem dX5_read_48 : decode cX5_read 48 = .ok (.istore 5, 2) := by decide +kernel
theorem dX5_read_50 : decode cX5_read 50 = .ok (.aload_n 0, 1) := by decide +kernel
theorem dX5_read_51 : decode cX5_read 51 = .ok (.iconst 1, 1) := by decide +kernel
theorem dX5_read_52 : decode cX5_read 52 = .ok (.aload_n 0, 1) := by decide +kernel
theorem dX5_read_53 : decode cX5_read 53 = .ok (.getfield 25, 3) := by decide +kernel
theorem dX5_read_56 : decode cX5_read 56 = .ok (.invokevirtual 156, 3) := by decide +kernel
theorem dX5_read_59 : decode cX5_read 59 = .ok (.iconst 0, 1) := by decide +kernel
theorem dX5_read_60 : decode cX5_read 60 = .ok (.istore 6, 2) := by decide +kernel
theorem dX5_read_62 : decode cX5_read 62 = .ok (.iload 6, 2) := by decide +kernel
theorem dX5_read_64 : decode cX5_read 64 = .ok (.bipush 36, 2) := by decide +kernel
theorem dX5_read_66 : decode cX5_read 66 = .ok (.if_icmp .ge 59, 3) := by decide +kernel
theorem dX5_read_69 : decode cX5_read 69 = .ok (.aload_n 0, 1) := by decide +kernel
theorem dX5_read_70 : decode cX5_read 70 = .ok (.iload_n 2, 1) := by decide +kernel
theorem dX5_read_71 : decode cX5_read 71 = .ok (.iconst 0, 1) := by decide +kernel
theorem dX5_read_72 : decode cX5_read 72 = .ok (.iload 6, 2) := by decide +kernel
theorem dX5_read_74 : decode cX5_read 74 = .ok (.bipush 6, 2) := by decide +kernel
theorem dX5_read_76 : decode cX5_read 76 = .ok (.idiv, 1) := by decide +kernel
theorem dX5_read_77 : decode cX5_read 77 = .ok (.invokevirtual 108, 3) := by decide +kernel
theorem dX5_read_80 : decode cX5_read 80 = .ok (.aload_n 0, 1) := by decide +kernel
theorem dX5_read_81 : decode cX5_read 81 = .ok (.iload_n 3, 1) := by decide +kernel
theorem dX5_read_82 : decode cX5_read 82 = .ok (.iconst 0, 1) := by decide +kernel
theorem dX5_read_83 : decode cX5_read 83 = .ok (.iload 6, 2) := by decide +kernel
theorem dX5_read_85 : decode cX5_read 85 = .ok (.bipush 6, 2) := by decide +kernel
theorem dX5_read_87 : decode cX5_read 87 = .ok (.irem, 1) := by decide +kernel
theorem dX5_read_88 : decode cX5_read 88 = .ok (.invokevirtual 108, 3) := by decide +kernel
theorem dX5_read_91 : decode cX5_read 91 = .ok (.iload 5, 2) := by decide +kernel
theorem dX5_read_93 : decode cX5_read 93 = .ok (.aload_n 0, 1) := by decide +kernel
theorem dX5_read_94 : decode cX5_read 94 = .ok (.iload_n 1, 1) := by decide +kernel
theorem dX5_read_95 : decode cX5_read 95 = .ok (.iload_n 2, 1) := by decide +kernel
theorem dX5_read_96 : decode cX5_read 96 = .ok (.invokevirtual 278, 3) := by decide +kernel
theorem dX5_read_99 : decode cX5_read 99 = .ok (.ifCond .eq 7, 3) := by decide +kernel
theorem dX5_read_102 : decode cX5_read 102 = .ok (.iconst 1, 1) := by decide +kernel
theorem dX5_read_103 : decode cX5_read 103 = .ok (.goto 4, 3) := by decide +kernel
theorem dX5_read_106 : decode cX5_read 106 = .ok (.iconst 0, 1) := by decide +kernel
theorem dX5_read_107 : decode cX5_read 107 = .ok (.iadd, 1) := by decide +kernel
theorem dX5_read_108 : decode cX5_read 108 = .ok (.istore 5, 2) := by decide +kernel
theorem dX5_read_110 : decode cX5_read 110 = .ok (.aload_n 0, 1) := by decide +kernel
theorem dX5_read_111 : decode cX5_read 111 = .ok (.iconst 0, 1) := by decide +kernel
theorem dX5_read_112 : decode cX5_read 112 = .ok (.aload_n 0, 1) := by decide +kernel
theorem dX5_read_113 : decode cX5_read 113 = .ok (.getfield 25, 3) := by decide +kernel
theorem dX5_read_116 : decode cX5_read 116 = .ok (.invokevirtual 156, 3) := by decide +kernel
theorem dX5_read_119 : decode cX5_read 119 = .ok (.iinc 6 1, 3) := by decide +kernel
theorem dX5_read_122 : decode cX5_read 122 = .ok (.goto (-60), 3) := by decide +kernel
theorem dX5_read_125 : decode cX5_read 125 = .ok (.iload 5, 2) := by decide +kernel
theorem dX5_read_127 : decode cX5_read 127 = .ok (.ireturn, 1) := by decide +kernel
theorem dX5_moveAll_0 : decode cX5_moveAll 0 = .ok (.iconst 0, 1) := by decide +kernel
theorem dX5_moveAll_1 : decode cX5_moveAll 1 = .ok (.istore_n 3, 1) := by decide +kernel
theorem dX5_moveAll_2 : decode cX5_moveAll 2 = .ok (.iload_n 3, 1) := by decide +kernel
theorem dX5_moveAll_3 : decode cX5_moveAll 3 = .ok (.bipush 62, 2) := by decide +kernel
theorem dX5_moveAll_5 : decode cX5_moveAll 5 = .ok (.if_icmp .ge 34, 3) := by decide +kernel
theorem dX5_moveAll_8 : decode cX5_moveAll 8 = .ok (.iload_n 1, 1) := by decide +kernel
theorem dX5_moveAll_9 : decode cX5_moveAll 9 = .ok (.ifCond .eq 15, 3) := by decide +kernel
theorem dX5_moveAll_12 : decode cX5_moveAll 12 = .ok (.aload_n 2, 1) := by decide +kernel
theorem dX5_moveAll_13 : decode cX5_moveAll 13 = .ok (.iload_n 3, 1) := by decide +kernel
theorem dX5_moveAll_14 : decode cX5_moveAll 14 = .ok (.aload_n 0, 1) := by decide +kernel
theorem dX5_moveAll_15 : decode cX5_moveAll 15 = .ok (.getfield 7, 3) := by decide +kernel
theorem dX5_moveAll_18 : decode cX5_moveAll 18 = .ok (.iload_n 3, 1) := by decide +kernel
theorem dX5_moveAll_19 : decode cX5_moveAll 19 = .ok (.iaload, 1) := by decide +kernel
theorem dX5_moveAll_20 : decode cX5_moveAll 20 = .ok (.iastore, 1) := by decide +kernel
theorem dX5_moveAll_21 : decode cX5_moveAll 21 = .ok (.goto 12, 3) := by decide +kernel
theorem dX5_moveAll_24 : decode cX5_moveAll 24 = .ok (.aload_n 0, 1) := by decide +kernel
theorem dX5_moveAll_25 : decode cX5_moveAll 25 = .ok (.getfield 7, 3) := by decide +kernel
theorem dX5_moveAll_28 : decode cX5_moveAll 28 = .ok (.iload_n 3, 1) := by decide +kernel
theorem dX5_moveAll_29 : decode cX5_moveAll 29 = .ok (.aload_n 2, 1) := by decide +kernel
theorem dX5_moveAll_30 : decode cX5_moveAll 30 = .ok (.iload_n 3, 1) := by decide +kernel
theorem dX5_moveAll_31 : decode cX5_moveAll 31 = .ok (.iaload, 1) := by decide +kernel
theorem dX5_moveAll_32 : decode cX5_moveAll 32 = .ok (.iastore, 1) := by decide +kernel
theorem dX5_moveAll_33 : decode cX5_moveAll 33 = .ok (.iinc 3 1, 3) := by decide +kernel
theorem dX5_moveAll_36 : decode cX5_moveAll 36 = .ok (.goto (-34), 3) := by decide +kernel
theorem dX5_moveAll_39 : decode cX5_moveAll 39 = .ok (.return_, 1) := by decide +kernel
theorem dX5_image_0 : decode cX5_image 0 = .ok (.aload_n 0, 1) := by decide +kernel
theorem dX5_image_1 : decode cX5_image 1 = .ok (.iconst 1, 1) := by decide +kernel
theorem dX5_image_2 : decode cX5_image 2 = .ok (.aload_n 0, 1) := by decide +kernel
theorem dX5_image_3 : decode cX5_image 3 = .ok (.getfield 44, 3) := by decide +kernel
theorem dX5_image_6 : decode cX5_image 6 = .ok (.invokevirtual 156, 3) := by decide +kernel
theorem dX5_image_9 : decode cX5_image 9 = .ok (.aload_n 0, 1) := by decide +kernel
theorem dX5_image_10 : decode cX5_image 10 = .ok (.iconst 1, 1) := by decide +kernel
theorem dX5_image_11 : decode cX5_image 11 = .ok (.putfield 281, 3) := by decide +kernel
theorem dX5_image_14 : decode cX5_image 14 = .ok (.iconst 1, 1) := by decide +kernel
theorem dX5_image_15 : decode cX5_image 15 = .ok (.ireturn, 1) := by decide +kernel
theorem dX5_undo_0 : decode cX5_undo 0 = .ok (.aload_n 0, 1) := by decide +kernel
theorem dX5_undo_1 : decode cX5_undo 1 = .ok (.getfield 281, 3) := by decide +kernel
theorem dX5_undo_4 : decode cX5_undo 4 = .ok (.ifCond .ne 10, 3) := by decide +kernel
theorem dX5_undo_7 : decode cX5_undo 7 = .ok (.aload_n 0, 1) := by decide +kernel
theorem dX5_undo_8 : decode cX5_undo 8 = .ok (.ldc 92, 2) := by decide +kernel
theorem dX5_undo_10 : decode cX5_undo 10 = .ok (.invokevirtual 67, 3) := by decide +kernel
theorem dX5_undo_13 : decode cX5_undo 13 = .ok (.ireturn, 1) := by decide +kernel
theorem dX5_undo_14 : decode cX5_undo 14 = .ok (.aload_n 0, 1) := by decide +kernel
theorem dX5_undo_15 : decode cX5_undo 15 = .ok (.iconst 0, 1) := by decide +kernel
theorem dX5_undo_16 : decode cX5_undo 16 = .ok (.aload_n 0, 1) := by decide +kernel
theorem dX5_undo_17 : decode cX5_undo 17 = .ok (.getfield 44, 3) := by decide +kernel
theorem dX5_undo_20 : decode cX5_undo 20 = .ok (.invokevirtual 156, 3) := by decide +kernel
theorem dX5_undo_23 : decode cX5_undo 23 = .ok (.aload_n 0, 1) := by decide +kernel
theorem dX5_undo_24 : decode cX5_undo 24 = .ok (.getfield 7, 3) := by decide +kernel
theorem dX5_undo_27 : decode cX5_undo 27 = .ok (.iconst 1, 1) := by decide +kernel
theorem dX5_undo_28 : decode cX5_undo 28 = .ok (.iaload, 1) := by decide +kernel
theorem dX5_undo_29 : decode cX5_undo 29 = .ok (.ireturn, 1) := by decide +kernel
theorem dX5_tear_0 : decode cX5_tear 0 = .ok (.aload_n 0, 1) := by decide +kernel
theorem dX5_tear_1 : decode cX5_tear 1 = .ok (.getfield 281, 3) := by decide +kernel
theorem dX5_tear_4 : decode cX5_tear 4 = .ok (.ifCond .eq 7, 3) := by decide +kernel
theorem dX5_tear_7 : decode cX5_tear 7 = .ok (.iconst 1, 1) := by decide +kernel
theorem dX5_tear_8 : decode cX5_tear 8 = .ok (.goto 4, 3) := by decide +kernel
theorem dX5_tear_11 : decode cX5_tear 11 = .ok (.iconst 0, 1) := by decide +kernel
theorem dX5_tear_12 : decode cX5_tear 12 = .ok (.istore_n 1, 1) := by decide +kernel
theorem dX5_tear_13 : decode cX5_tear 13 = .ok (.aload_n 0, 1) := by decide +kernel
theorem dX5_tear_14 : decode cX5_tear 14 = .ok (.iconst 0, 1) := by decide +kernel
theorem dX5_tear_15 : decode cX5_tear 15 = .ok (.putfield 281, 3) := by decide +kernel
theorem dX5_tear_18 : decode cX5_tear 18 = .ok (.iload_n 1, 1) := by decide +kernel
theorem dX5_tear_19 : decode cX5_tear 19 = .ok (.ireturn, 1) := by decide +kernel
theorem dX5_count_0 : decode cX5_count 0 = .ok (.iload_n 1, 1) := by decide +kernel
theorem dX5_count_1 : decode cX5_count 1 = .ok (.tableswitch 59 0 3 #[31, 38, 43, 49], 31) := by decide +kernel
theorem dX5_count_32 : decode cX5_count 32 = .ok (.aload_n 0, 1) := by decide +kernel
theorem dX5_count_33 : decode cX5_count 33 = .ok (.getfield 7, 3) := by decide +kernel
theorem dX5_count_36 : decode cX5_count 36 = .ok (.iconst 1, 1) := by decide +kernel
theorem dX5_count_37 : decode cX5_count 37 = .ok (.iaload, 1) := by decide +kernel
theorem dX5_count_38 : decode cX5_count 38 = .ok (.ireturn, 1) := by decide +kernel
theorem dX5_count_39 : decode cX5_count 39 = .ok (.aload_n 0, 1) := by decide +kernel
theorem dX5_count_40 : decode cX5_count 40 = .ok (.getfield 173, 3) := by decide +kernel
theorem dX5_count_43 : decode cX5_count 43 = .ok (.ireturn, 1) := by decide +kernel
theorem dX5_count_44 : decode cX5_count 44 = .ok (.aload_n 0, 1) := by decide +kernel
theorem dX5_count_45 : decode cX5_count 45 = .ok (.iconst 3, 1) := by decide +kernel
theorem dX5_count_46 : decode cX5_count 46 = .ok (.invokevirtual 89, 3) := by decide +kernel
theorem dX5_count_49 : decode cX5_count 49 = .ok (.ireturn, 1) := by decide +kernel
theorem dX5_count_50 : decode cX5_count 50 = .ok (.bipush 12, 2) := by decide +kernel
theorem dX5_count_52 : decode cX5_count 52 = .ok (.aload_n 0, 1) := by decide +kernel
theorem dX5_count_53 : decode cX5_count 53 = .ok (.getfield 7, 3) := by decide +kernel
theorem dX5_count_56 : decode cX5_count 56 = .ok (.iconst 1, 1) := by decide +kernel
theorem dX5_count_57 : decode cX5_count 57 = .ok (.iaload, 1) := by decide +kernel
theorem dX5_count_58 : decode cX5_count 58 = .ok (.isub, 1) := by decide +kernel
theorem dX5_count_59 : decode cX5_count 59 = .ok (.ireturn, 1) := by decide +kernel
theorem dX5_count_60 : decode cX5_count 60 = .ok (.aload_n 0, 1) := by decide +kernel
theorem dX5_count_61 : decode cX5_count 61 = .ok (.ldc 50, 2) := by decide +kernel
theorem dX5_count_63 : decode cX5_count 63 = .ok (.invokevirtual 67, 3) := by decide +kernel
theorem dX5_count_66 : decode cX5_count 66 = .ok (.ireturn, 1) := by decide +kernel
theorem dX5_status_0 : decode cX5_status 0 = .ok (.iload_n 1, 1) := by decide +kernel
theorem dX5_status_1 : decode cX5_status 1 = .ok (.iconst (-1), 1) := by decide +kernel
theorem dX5_status_2 : decode cX5_status 2 = .ok (.bipush 6, 2) := by decide +kernel
theorem dX5_status_4 : decode cX5_status 4 = .ok (.invokestatic 51, 3) := by decide +kernel
theorem dX5_status_7 : decode cX5_status 7 = .ok (.ifCond .ne 10, 3) := by decide +kernel
theorem dX5_status_10 : decode cX5_status 10 = .ok (.aload_n 0, 1) := by decide +kernel
theorem dX5_status_11 : decode cX5_status 11 = .ok (.ldc 50, 2) := by decide +kernel
theorem dX5_status_13 : decode cX5_status 13 = .ok (.invokevirtual 67, 3) := by decide +kernel
theorem dX5_status_16 : decode cX5_status 16 = .ok (.ireturn, 1) := by decide +kernel
theorem dX5_status_17 : decode cX5_status 17 = .ok (.iconst 0, 1) := by decide +kernel
theorem dX5_status_18 : decode cX5_status 18 = .ok (.istore_n 2, 1) := by decide +kernel
theorem dX5_status_19 : decode cX5_status 19 = .ok (.iconst 0, 1) := by decide +kernel
theorem dX5_status_20 : decode cX5_status 20 = .ok (.istore_n 3, 1) := by decide +kernel
theorem dX5_status_21 : decode cX5_status 21 = .ok (.iload_n 3, 1) := by decide +kernel
theorem dX5_status_22 : decode cX5_status 22 = .ok (.bipush 7, 2) := by decide +kernel
theorem dX5_status_24 : decode cX5_status 24 = .ok (.if_icmp .ge 18, 3) := by decide +kernel
theorem dX5_status_27 : decode cX5_status 27 = .ok (.iload_n 2, 1) := by decide +kernel
theorem dX5_status_28 : decode cX5_status 28 = .ok (.aload_n 0, 1) := by decide +kernel
theorem dX5_status_29 : decode cX5_status 29 = .ok (.getfield 13, 3) := by decide +kernel
theorem dX5_status_32 : decode cX5_status 32 = .ok (.iload_n 3, 1) := by decide +kernel
theorem dX5_status_33 : decode cX5_status 33 = .ok (.iaload, 1) := by decide +kernel
theorem dX5_status_34 : decode cX5_status 34 = .ok (.iadd, 1) := by decide +kernel
theorem dX5_status_35 : decode cX5_status 35 = .ok (.istore_n 2, 1) := by decide +kernel
theorem dX5_status_36 : decode cX5_status 36 = .ok (.iinc 3 1, 3) := by decide +kernel
theorem dX5_status_39 : decode cX5_status 39 = .ok (.goto (-18), 3) := by decide +kernel
theorem dX5_status_42 : decode cX5_status 42 = .ok (.iload_n 1, 1) := by decide +kernel
theorem dX5_status_43 : decode cX5_status 43 = .ok (.ifCond .ge 7, 3) := by decide +kernel
theorem dX5_status_46 : decode cX5_status 46 = .ok (.iload_n 2, 1) := by decide +kernel
theorem dX5_status_47 : decode cX5_status 47 = .ok (.goto 17, 3) := by decide +kernel
theorem dX5_status_50 : decode cX5_status 50 = .ok (.aload_n 0, 1) := by decide +kernel
theorem dX5_status_51 : decode cX5_status 51 = .ok (.getfield 13, 3) := by decide +kernel
theorem dX5_status_54 : decode cX5_status 54 = .ok (.iload_n 1, 1) := by decide +kernel
theorem dX5_status_55 : decode cX5_status 55 = .ok (.ifCond .ge 7, 3) := by decide +kernel
theorem dX5_status_58 : decode cX5_status 58 = .ok (.iconst 0, 1) := by decide +kernel
theorem dX5_status_59 : decode cX5_status 59 = .ok (.goto 4, 3) := by decide +kernel
theorem dX5_status_62 : decode cX5_status 62 = .ok (.iload_n 1, 1) := by decide +kernel
theorem dX5_status_63 : decode cX5_status 63 = .ok (.iaload, 1) := by decide +kernel
theorem dX5_status_64 : decode cX5_status 64 = .ok (.ireturn, 1) := by decide +kernel
theorem dL_law_0 : decode cL_law 0 = .ok (.new 7, 3) := by decide +kernel
theorem dL_law_3 : decode cL_law 3 = .ok (.dup, 1) := by decide +kernel
theorem dL_law_4 : decode cL_law 4 = .ok (.invokespecial 9, 3) := by decide +kernel
theorem dL_law_7 : decode cL_law 7 = .ok (.astore_n 1, 1) := by decide +kernel
theorem dL_law_8 : decode cL_law 8 = .ok (.new 10, 3) := by decide +kernel
theorem dL_law_11 : decode cL_law 11 = .ok (.dup, 1) := by decide +kernel
theorem dL_law_12 : decode cL_law 12 = .ok (.invokespecial 12, 3) := by decide +kernel
theorem dL_law_15 : decode cL_law 15 = .ok (.astore_n 2, 1) := by decide +kernel
theorem dL_law_16 : decode cL_law 16 = .ok (.iconst 0, 1) := by decide +kernel
theorem dL_law_17 : decode cL_law 17 = .ok (.istore_n 3, 1) := by decide +kernel
theorem dL_law_18 : decode cL_law 18 = .ok (.iload_n 3, 1) := by decide +kernel
theorem dL_law_19 : decode cL_law 19 = .ok (.aload_n 0, 1) := by decide +kernel
theorem dL_law_20 : decode cL_law 20 = .ok (.arraylength, 1) := by decide +kernel
theorem dL_law_21 : decode cL_law 21 = .ok (.bipush 6, 2) := by decide +kernel
theorem dL_law_23 : decode cL_law 23 = .ok (.isub, 1) := by decide +kernel
theorem dL_law_24 : decode cL_law 24 = .ok (.if_icmp .gt 1209, 3) := by decide +kernel
theorem dL_law_27 : decode cL_law 27 = .ok (.aload_n 0, 1) := by decide +kernel
theorem dL_law_28 : decode cL_law 28 = .ok (.iload_n 3, 1) := by decide +kernel
theorem dL_law_29 : decode cL_law 29 = .ok (.iaload, 1) := by decide +kernel
theorem dL_law_30 : decode cL_law 30 = .ok (.bipush 63, 2) := by decide +kernel
theorem dL_law_32 : decode cL_law 32 = .ok (.iand, 1) := by decide +kernel
theorem dL_law_33 : decode cL_law 33 = .ok (.tableswitch 1194 0 33 #[151, 174, 197, 220, 263, 296, 339, 372, 405, 438, 461, 504, 537, 560, 573, 606, 639, 682, 705, 748, 771, 804, 817, 830, 873, 947, 1010, 1033, 1066, 1109, 1122, 1135, 1148, 1171], 151) := by decide +kernel
theorem dL_law_184 : decode cL_law 184 = .ok (.aload_n 1, 1) := by decide +kernel
theorem dL_law_185 : decode cL_law 185 = .ok (.aload_n 0, 1) := by decide +kernel
theorem dL_law_186 : decode cL_law 186 = .ok (.iload_n 3, 1) := by decide +kernel
theorem dL_law_187 : decode cL_law 187 = .ok (.iconst 1, 1) := by decide +kernel
theorem dL_law_188 : decode cL_law 188 = .ok (.iadd, 1) := by decide +kernel
theorem dL_law_189 : decode cL_law 189 = .ok (.iaload, 1) := by decide +kernel
theorem dL_law_190 : decode cL_law 190 = .ok (.invokevirtual 13, 3) := by decide +kernel
theorem dL_law_193 : decode cL_law 193 = .ok (.aload_n 2, 1) := by decide +kernel
theorem dL_law_194 : decode cL_law 194 = .ok (.aload_n 0, 1) := by decide +kernel
theorem dL_law_195 : decode cL_law 195 = .ok (.iload_n 3, 1) := by decide +kernel
theorem dL_law_196 : decode cL_law 196 = .ok (.iconst 1, 1) := by decide +kernel
theorem dL_law_197 : decode cL_law 197 = .ok (.iadd, 1) := by decide +kernel
theorem dL_law_198 : decode cL_law 198 = .ok (.iaload, 1) := by decide +kernel
theorem dL_law_199 : decode cL_law 199 = .ok (.invokevirtual 17, 3) := by decide +kernel
theorem dL_law_202 : decode cL_law 202 = .ok (.if_icmp .eq 1025, 3) := by decide +kernel
theorem dL_law_205 : decode cL_law 205 = .ok (.iconst 0, 1) := by decide +kernel
theorem dL_law_206 : decode cL_law 206 = .ok (.ireturn, 1) := by decide +kernel
theorem dL_law_207 : decode cL_law 207 = .ok (.aload_n 1, 1) := by decide +kernel
theorem dL_law_208 : decode cL_law 208 = .ok (.aload_n 0, 1) := by decide +kernel
theorem dL_law_209 : decode cL_law 209 = .ok (.iload_n 3, 1) := by decide +kernel
theorem dL_law_210 : decode cL_law 210 = .ok (.iconst 1, 1) := by decide +kernel
theorem dL_law_211 : decode cL_law 211 = .ok (.iadd, 1) := by decide +kernel
theorem dL_law_212 : decode cL_law 212 = .ok (.iaload, 1) := by decide +kernel
theorem dL_law_213 : decode cL_law 213 = .ok (.invokevirtual 18, 3) := by decide +kernel
theorem dL_law_216 : decode cL_law 216 = .ok (.aload_n 2, 1) := by decide +kernel
theorem dL_law_217 : decode cL_law 217 = .ok (.aload_n 0, 1) := by decide +kernel
theorem dL_law_218 : decode cL_law 218 = .ok (.iload_n 3, 1) := by decide +kernel
theorem dL_law_219 : decode cL_law 219 = .ok (.iconst 1, 1) := by decide +kernel
theorem dL_law_220 : decode cL_law 220 = .ok (.iadd, 1) := by decide +kernel
theorem dL_law_221 : decode cL_law 221 = .ok (.iaload, 1) := by decide +kernel
theorem dL_law_222 : decode cL_law 222 = .ok (.invokevirtual 21, 3) := by decide +kernel
theorem dL_law_225 : decode cL_law 225 = .ok (.if_icmp .eq 1002, 3) := by decide +kernel
theorem dL_law_228 : decode cL_law 228 = .ok (.iconst 0, 1) := by decide +kernel
theorem dL_law_229 : decode cL_law 229 = .ok (.ireturn, 1) := by decide +kernel
theorem dL_law_230 : decode cL_law 230 = .ok (.aload_n 1, 1) := by decide +kernel
theorem dL_law_231 : decode cL_law 231 = .ok (.aload_n 0, 1) := by decide +kernel
theorem dL_law_232 : decode cL_law 232 = .ok (.iload_n 3, 1) := by decide +kernel
theorem dL_law_233 : decode cL_law 233 = .ok (.iconst 1, 1) := by decide +kernel
theorem dL_law_234 : decode cL_law 234 = .ok (.iadd, 1) := by decide +kernel
theorem dL_law_235 : decode cL_law 235 = .ok (.iaload, 1) := by decide +kernel
theorem dL_law_236 : decode cL_law 236 = .ok (.invokevirtual 22, 3) := by decide +kernel
theorem dL_law_239 : decode cL_law 239 = .ok (.aload_n 2, 1) := by decide +kernel
theorem dL_law_240 : decode cL_law 240 = .ok (.aload_n 0, 1) := by decide +kernel
theorem dL_law_241 : decode cL_law 241 = .ok (.iload_n 3, 1) := by decide +kernel
theorem dL_law_242 : decode cL_law 242 = .ok (.iconst 1, 1) := by decide +kernel
theorem dL_law_243 : decode cL_law 243 = .ok (.iadd, 1) := by decide +kernel
theorem dL_law_244 : decode cL_law 244 = .ok (.iaload, 1) := by decide +kernel
theorem dL_law_245 : decode cL_law 245 = .ok (.invokevirtual 25, 3) := by decide +kernel
theorem dL_law_248 : decode cL_law 248 = .ok (.if_icmp .eq 979, 3) := by decide +kernel
theorem dL_law_251 : decode cL_law 251 = .ok (.iconst 0, 1) := by decide +kernel
theorem dL_law_252 : decode cL_law 252 = .ok (.ireturn, 1) := by decide +kernel
theorem dL_law_253 : decode cL_law 253 = .ok (.aload_n 1, 1) := by decide +kernel
theorem dL_law_254 : decode cL_law 254 = .ok (.aload_n 0, 1) := by decide +kernel
theorem dL_law_255 : decode cL_law 255 = .ok (.iload_n 3, 1) := by decide +kernel
theorem dL_law_256 : decode cL_law 256 = .ok (.iconst 1, 1) := by decide +kernel
theorem dL_law_257 : decode cL_law 257 = .ok (.iadd, 1) := by decide +kernel
theorem dL_law_258 : decode cL_law 258 = .ok (.iaload, 1) := by decide +kernel
theorem dL_law_259 : decode cL_law 259 = .ok (.aload_n 0, 1) := by decide +kernel
theorem dL_law_260 : decode cL_law 260 = .ok (.iload_n 3, 1) := by decide +kernel
theorem dL_law_261 : decode cL_law 261 = .ok (.iconst 2, 1) := by decide +kernel
theorem dL_law_262 : decode cL_law 262 = .ok (.iadd, 1) := by decide +kernel
theorem dL_law_263 : decode cL_law 263 = .ok (.iaload, 1) := by decide +kernel
theorem dL_law_264 : decode cL_law 264 = .ok (.aload_n 0, 1) := by decide +kernel
theorem dL_law_265 : decode cL_law 265 = .ok (.iload_n 3, 1) := by decide +kernel
theorem dL_law_266 : decode cL_law 266 = .ok (.iconst 3, 1) := by decide +kernel
theorem dL_law_267 : decode cL_law 267 = .ok (.iadd, 1) := by decide +kernel
theorem dL_law_268 : decode cL_law 268 = .ok (.iaload, 1) := by decide +kernel
theorem dL_law_269 : decode cL_law 269 = .ok (.invokevirtual 26, 3) := by decide +kernel
theorem dL_law_272 : decode cL_law 272 = .ok (.aload_n 2, 1) := by decide +kernel
theorem dL_law_273 : decode cL_law 273 = .ok (.aload_n 0, 1) := by decide +kernel
theorem dL_law_274 : decode cL_law 274 = .ok (.iload_n 3, 1) := by decide +kernel
theorem dL_law_275 : decode cL_law 275 = .ok (.iconst 1, 1) := by decide +kernel
theorem dL_law_276 : decode cL_law 276 = .ok (.iadd, 1) := by decide +kernel
theorem dL_law_277 : decode cL_law 277 = .ok (.iaload, 1) := by decide +kernel
theorem dL_law_278 : decode cL_law 278 = .ok (.aload_n 0, 1) := by decide +kernel
theorem dL_law_279 : decode cL_law 279 = .ok (.iload_n 3, 1) := by decide +kernel
theorem dL_law_280 : decode cL_law 280 = .ok (.iconst 2, 1) := by decide +kernel
theorem dL_law_281 : decode cL_law 281 = .ok (.iadd, 1) := by decide +kernel
theorem dL_law_282 : decode cL_law 282 = .ok (.iaload, 1) := by decide +kernel
theorem dL_law_283 : decode cL_law 283 = .ok (.aload_n 0, 1) := by decide +kernel
theorem dL_law_284 : decode cL_law 284 = .ok (.iload_n 3, 1) := by decide +kernel
theorem dL_law_285 : decode cL_law 285 = .ok (.iconst 3, 1) := by decide +kernel
theorem dL_law_286 : decode cL_law 286 = .ok (.iadd, 1) := by decide +kernel
theorem dL_law_287 : decode cL_law 287 = .ok (.iaload, 1) := by decide +kernel
theorem dL_law_288 : decode cL_law 288 = .ok (.invokevirtual 30, 3) := by decide +kernel
theorem dL_law_291 : decode cL_law 291 = .ok (.if_icmp .eq 936, 3) := by decide +kernel
theorem dL_law_294 : decode cL_law 294 = .ok (.iconst 0, 1) := by decide +kernel
theorem dL_law_295 : decode cL_law 295 = .ok (.ireturn, 1) := by decide +kernel
theorem dL_law_296 : decode cL_law 296 = .ok (.aload_n 1, 1) := by decide +kernel
theorem dL_law_297 : decode cL_law 297 = .ok (.aload_n 0, 1) := by decide +kernel
theorem dL_law_298 : decode cL_law 298 = .ok (.iload_n 3, 1) := by decide +kernel
theorem dL_law_299 : decode cL_law 299 = .ok (.iconst 1, 1) := by decide +kernel
theorem dL_law_300 : decode cL_law 300 = .ok (.iadd, 1) := by decide +kernel
theorem dL_law_301 : decode cL_law 301 = .ok (.iaload, 1) := by decide +kernel
theorem dL_law_302 : decode cL_law 302 = .ok (.aload_n 0, 1) := by decide +kernel
theorem dL_law_303 : decode cL_law 303 = .ok (.iload_n 3, 1) := by decide +kernel
theorem dL_law_304 : decode cL_law 304 = .ok (.iconst 2, 1) := by decide +kernel
theorem dL_law_305 : decode cL_law 305 = .ok (.iadd, 1) := by decide +kernel
theorem dL_law_306 : decode cL_law 306 = .ok (.iaload, 1) := by decide +kernel
theorem dL_law_307 : decode cL_law 307 = .ok (.invokevirtual 31, 3) := by decide +kernel
theorem dL_law_310 : decode cL_law 310 = .ok (.aload_n 2, 1) := by decide +kernel
theorem dL_law_311 : decode cL_law 311 = .ok (.aload_n 0, 1) := by decide +kernel
theorem dL_law_312 : decode cL_law 312 = .ok (.iload_n 3, 1) := by decide +kernel
theorem dL_law_313 : decode cL_law 313 = .ok (.iconst 1, 1) := by decide +kernel
theorem dL_law_314 : decode cL_law 314 = .ok (.iadd, 1) := by decide +kernel
theorem dL_law_315 : decode cL_law 315 = .ok (.iaload, 1) := by decide +kernel
theorem dL_law_316 : decode cL_law 316 = .ok (.aload_n 0, 1) := by decide +kernel
theorem dL_law_317 : decode cL_law 317 = .ok (.iload_n 3, 1) := by decide +kernel
theorem dL_law_318 : decode cL_law 318 = .ok (.iconst 2, 1) := by decide +kernel
theorem dL_law_319 : decode cL_law 319 = .ok (.iadd, 1) := by decide +kernel
theorem dL_law_320 : decode cL_law 320 = .ok (.iaload, 1) := by decide +kernel
theorem dL_law_321 : decode cL_law 321 = .ok (.invokevirtual 35, 3) := by decide +kernel
theorem dL_law_324 : decode cL_law 324 = .ok (.if_icmp .eq 903, 3) := by decide +kernel
theorem dL_law_327 : decode cL_law 327 = .ok (.iconst 0, 1) := by decide +kernel
theorem dL_law_328 : decode cL_law 328 = .ok (.ireturn, 1) := by decide +kernel
theorem dL_law_329 : decode cL_law 329 = .ok (.aload_n 1, 1) := by decide +kernel
theorem dL_law_330 : decode cL_law 330 = .ok (.aload_n 0, 1) := by decide +kernel
theorem dL_law_331 : decode cL_law 331 = .ok (.iload_n 3, 1) := by decide +kernel
theorem dL_law_332 : decode cL_law 332 = .ok (.iconst 1, 1) := by decide +kernel
theorem dL_law_333 : decode cL_law 333 = .ok (.iadd, 1) := by decide +kernel
theorem dL_law_334 : decode cL_law 334 = .ok (.iaload, 1) := by decide +kernel
theorem dL_law_335 : decode cL_law 335 = .ok (.aload_n 0, 1) := by decide +kernel
theorem dL_law_336 : decode cL_law 336 = .ok (.iload_n 3, 1) := by decide +kernel
theorem dL_law_337 : decode cL_law 337 = .ok (.iconst 2, 1) := by decide +kernel
theorem dL_law_338 : decode cL_law 338 = .ok (.iadd, 1) := by decide +kernel
theorem dL_law_339 : decode cL_law 339 = .ok (.iaload, 1) := by decide +kernel
theorem dL_law_340 : decode cL_law 340 = .ok (.aload_n 0, 1) := by decide +kernel
theorem dL_law_341 : decode cL_law 341 = .ok (.iload_n 3, 1) := by decide +kernel
theorem dL_law_342 : decode cL_law 342 = .ok (.iconst 3, 1) := by decide +kernel
theorem dL_law_343 : decode cL_law 343 = .ok (.iadd, 1) := by decide +kernel
theorem dL_law_344 : decode cL_law 344 = .ok (.iaload, 1) := by decide +kernel
theorem dL_law_345 : decode cL_law 345 = .ok (.invokevirtual 36, 3) := by decide +kernel
theorem dL_law_348 : decode cL_law 348 = .ok (.aload_n 2, 1) := by decide +kernel
theorem dL_law_349 : decode cL_law 349 = .ok (.aload_n 0, 1) := by decide +kernel
theorem dL_law_350 : decode cL_law 350 = .ok (.iload_n 3, 1) := by decide +kernel
theorem dL_law_351 : decode cL_law 351 = .ok (.iconst 1, 1) := by decide +kernel
theorem dL_law_352 : decode cL_law 352 = .ok (.iadd, 1) := by decide +kernel
theorem dL_law_353 : decode cL_law 353 = .ok (.iaload, 1) := by decide +kernel
theorem dL_law_354 : decode cL_law 354 = .ok (.aload_n 0, 1) := by decide +kernel
theorem dL_law_355 : decode cL_law 355 = .ok (.iload_n 3, 1) := by decide +kernel
theorem dL_law_356 : decode cL_law 356 = .ok (.iconst 2, 1) := by decide +kernel
theorem dL_law_357 : decode cL_law 357 = .ok (.iadd, 1) := by decide +kernel
theorem dL_law_358 : decode cL_law 358 = .ok (.iaload, 1) := by decide +kernel
theorem dL_law_359 : decode cL_law 359 = .ok (.aload_n 0, 1) := by decide +kernel
theorem dL_law_360 : decode cL_law 360 = .ok (.iload_n 3, 1) := by decide +kernel
theorem dL_law_361 : decode cL_law 361 = .ok (.iconst 3, 1) := by decide +kernel
theorem dL_law_362 : decode cL_law 362 = .ok (.iadd, 1) := by decide +kernel
theorem dL_law_363 : decode cL_law 363 = .ok (.iaload, 1) := by decide +kernel
theorem dL_law_364 : decode cL_law 364 = .ok (.invokevirtual 39, 3) := by decide +kernel
theorem dL_law_367 : decode cL_law 367 = .ok (.if_icmp .eq 860, 3) := by decide +kernel
theorem dL_law_370 : decode cL_law 370 = .ok (.iconst 0, 1) := by decide +kernel
theorem dL_law_371 : decode cL_law 371 = .ok (.ireturn, 1) := by decide +kernel
theorem dL_law_372 : decode cL_law 372 = .ok (.aload_n 1, 1) := by decide +kernel
theorem dL_law_373 : decode cL_law 373 = .ok (.aload_n 0, 1) := by decide +kernel
theorem dL_law_374 : decode cL_law 374 = .ok (.iload_n 3, 1) := by decide +kernel
theorem dL_law_375 : decode cL_law 375 = .ok (.iconst 1, 1) := by decide +kernel
theorem dL_law_376 : decode cL_law 376 = .ok (.iadd, 1) := by decide +kernel
theorem dL_law_377 : decode cL_law 377 = .ok (.iaload, 1) := by decide +kernel
theorem dL_law_378 : decode cL_law 378 = .ok (.aload_n 0, 1) := by decide +kernel
theorem dL_law_379 : decode cL_law 379 = .ok (.iload_n 3, 1) := by decide +kernel
theorem dL_law_380 : decode cL_law 380 = .ok (.iconst 2, 1) := by decide +kernel
theorem dL_law_381 : decode cL_law 381 = .ok (.iadd, 1) := by decide +kernel
theorem dL_law_382 : decode cL_law 382 = .ok (.iaload, 1) := by decide +kernel
theorem dL_law_383 : decode cL_law 383 = .ok (.invokevirtual 40, 3) := by decide +kernel
theorem dL_law_386 : decode cL_law 386 = .ok (.aload_n 2, 1) := by decide +kernel
theorem dL_law_387 : decode cL_law 387 = .ok (.aload_n 0, 1) := by decide +kernel
theorem dL_law_388 : decode cL_law 388 = .ok (.iload_n 3, 1) := by decide +kernel
theorem dL_law_389 : decode cL_law 389 = .ok (.iconst 1, 1) := by decide +kernel
theorem dL_law_390 : decode cL_law 390 = .ok (.iadd, 1) := by decide +kernel
theorem dL_law_391 : decode cL_law 391 = .ok (.iaload, 1) := by decide +kernel
theorem dL_law_392 : decode cL_law 392 = .ok (.aload_n 0, 1) := by decide +kernel
theorem dL_law_393 : decode cL_law 393 = .ok (.iload_n 3, 1) := by decide +kernel
theorem dL_law_394 : decode cL_law 394 = .ok (.iconst 2, 1) := by decide +kernel
theorem dL_law_395 : decode cL_law 395 = .ok (.iadd, 1) := by decide +kernel
theorem dL_law_396 : decode cL_law 396 = .ok (.iaload, 1) := by decide +kernel
theorem dL_law_397 : decode cL_law 397 = .ok (.invokevirtual 43, 3) := by decide +kernel
theorem dL_law_400 : decode cL_law 400 = .ok (.if_icmp .eq 827, 3) := by decide +kernel
theorem dL_law_403 : decode cL_law 403 = .ok (.iconst 0, 1) := by decide +kernel
theorem dL_law_404 : decode cL_law 404 = .ok (.ireturn, 1) := by decide +kernel
theorem dL_law_405 : decode cL_law 405 = .ok (.aload_n 1, 1) := by decide +kernel
theorem dL_law_406 : decode cL_law 406 = .ok (.aload_n 0, 1) := by decide +kernel
theorem dL_law_407 : decode cL_law 407 = .ok (.iload_n 3, 1) := by decide +kernel
theorem dL_law_408 : decode cL_law 408 = .ok (.iconst 1, 1) := by decide +kernel
theorem dL_law_409 : decode cL_law 409 = .ok (.iadd, 1) := by decide +kernel
theorem dL_law_410 : decode cL_law 410 = .ok (.iaload, 1) := by decide +kernel
theorem dL_law_411 : decode cL_law 411 = .ok (.aload_n 0, 1) := by decide +kernel
theorem dL_law_412 : decode cL_law 412 = .ok (.iload_n 3, 1) := by decide +kernel
theorem dL_law_413 : decode cL_law 413 = .ok (.iconst 2, 1) := by decide +kernel
theorem dL_law_414 : decode cL_law 414 = .ok (.iadd, 1) := by decide +kernel
theorem dL_law_415 : decode cL_law 415 = .ok (.iaload, 1) := by decide +kernel
theorem dL_law_416 : decode cL_law 416 = .ok (.invokevirtual 44, 3) := by decide +kernel
theorem dL_law_419 : decode cL_law 419 = .ok (.aload_n 2, 1) := by decide +kernel
theorem dL_law_420 : decode cL_law 420 = .ok (.aload_n 0, 1) := by decide +kernel
theorem dL_law_421 : decode cL_law 421 = .ok (.iload_n 3, 1) := by decide +kernel
theorem dL_law_422 : decode cL_law 422 = .ok (.iconst 1, 1) := by decide +kernel
theorem dL_law_423 : decode cL_law 423 = .ok (.iadd, 1) := by decide +kernel
theorem dL_law_424 : decode cL_law 424 = .ok (.iaload, 1) := by decide +kernel
theorem dL_law_425 : decode cL_law 425 = .ok (.aload_n 0, 1) := by decide +kernel
theorem dL_law_426 : decode cL_law 426 = .ok (.iload_n 3, 1) := by decide +kernel
theorem dL_law_427 : decode cL_law 427 = .ok (.iconst 2, 1) := by decide +kernel
theorem dL_law_428 : decode cL_law 428 = .ok (.iadd, 1) := by decide +kernel
theorem dL_law_429 : decode cL_law 429 = .ok (.iaload, 1) := by decide +kernel
theorem dL_law_430 : decode cL_law 430 = .ok (.invokevirtual 47, 3) := by decide +kernel
theorem dL_law_433 : decode cL_law 433 = .ok (.if_icmp .eq 794, 3) := by decide +kernel
theorem dL_law_436 : decode cL_law 436 = .ok (.iconst 0, 1) := by decide +kernel
theorem dL_law_437 : decode cL_law 437 = .ok (.ireturn, 1) := by decide +kernel
theorem dL_law_438 : decode cL_law 438 = .ok (.aload_n 1, 1) := by decide +kernel
theorem dL_law_439 : decode cL_law 439 = .ok (.aload_n 0, 1) := by decide +kernel
theorem dL_law_440 : decode cL_law 440 = .ok (.iload_n 3, 1) := by decide +kernel
theorem dL_law_441 : decode cL_law 441 = .ok (.iconst 1, 1) := by decide +kernel
theorem dL_law_442 : decode cL_law 442 = .ok (.iadd, 1) := by decide +kernel
theorem dL_law_443 : decode cL_law 443 = .ok (.iaload, 1) := by decide +kernel
theorem dL_law_444 : decode cL_law 444 = .ok (.aload_n 0, 1) := by decide +kernel
theorem dL_law_445 : decode cL_law 445 = .ok (.iload_n 3, 1) := by decide +kernel
theorem dL_law_446 : decode cL_law 446 = .ok (.iconst 2, 1) := by decide +kernel
theorem dL_law_447 : decode cL_law 447 = .ok (.iadd, 1) := by decide +kernel
theorem dL_law_448 : decode cL_law 448 = .ok (.iaload, 1) := by decide +kernel
theorem dL_law_449 : decode cL_law 449 = .ok (.invokevirtual 48, 3) := by decide +kernel
theorem dL_law_452 : decode cL_law 452 = .ok (.aload_n 2, 1) := by decide +kernel
theorem dL_law_453 : decode cL_law 453 = .ok (.aload_n 0, 1) := by decide +kernel
theorem dL_law_454 : decode cL_law 454 = .ok (.iload_n 3, 1) := by decide +kernel
theorem dL_law_455 : decode cL_law 455 = .ok (.iconst 1, 1) := by decide +kernel
theorem dL_law_456 : decode cL_law 456 = .ok (.iadd, 1) := by decide +kernel
theorem dL_law_457 : decode cL_law 457 = .ok (.iaload, 1) := by decide +kernel
theorem dL_law_458 : decode cL_law 458 = .ok (.aload_n 0, 1) := by decide +kernel
theorem dL_law_459 : decode cL_law 459 = .ok (.iload_n 3, 1) := by decide +kernel
theorem dL_law_460 : decode cL_law 460 = .ok (.iconst 2, 1) := by decide +kernel
theorem dL_law_461 : decode cL_law 461 = .ok (.iadd, 1) := by decide +kernel
theorem dL_law_462 : decode cL_law 462 = .ok (.iaload, 1) := by decide +kernel
theorem dL_law_463 : decode cL_law 463 = .ok (.invokevirtual 51, 3) := by decide +kernel
theorem dL_law_466 : decode cL_law 466 = .ok (.if_icmp .eq 761, 3) := by decide +kernel
theorem dL_law_469 : decode cL_law 469 = .ok (.iconst 0, 1) := by decide +kernel
theorem dL_law_470 : decode cL_law 470 = .ok (.ireturn, 1) := by decide +kernel
theorem dL_law_471 : decode cL_law 471 = .ok (.aload_n 1, 1) := by decide +kernel
theorem dL_law_472 : decode cL_law 472 = .ok (.aload_n 0, 1) := by decide +kernel
theorem dL_law_473 : decode cL_law 473 = .ok (.iload_n 3, 1) := by decide +kernel
theorem dL_law_474 : decode cL_law 474 = .ok (.iconst 1, 1) := by decide +kernel
theorem dL_law_475 : decode cL_law 475 = .ok (.iadd, 1) := by decide +kernel
theorem dL_law_476 : decode cL_law 476 = .ok (.iaload, 1) := by decide +kernel
theorem dL_law_477 : decode cL_law 477 = .ok (.invokevirtual 52, 3) := by decide +kernel
theorem dL_law_480 : decode cL_law 480 = .ok (.aload_n 2, 1) := by decide +kernel
theorem dL_law_481 : decode cL_law 481 = .ok (.aload_n 0, 1) := by decide +kernel
theorem dL_law_482 : decode cL_law 482 = .ok (.iload_n 3, 1) := by decide +kernel
theorem dL_law_483 : decode cL_law 483 = .ok (.iconst 1, 1) := by decide +kernel
theorem dL_law_484 : decode cL_law 484 = .ok (.iadd, 1) := by decide +kernel
theorem dL_law_485 : decode cL_law 485 = .ok (.iaload, 1) := by decide +kernel
theorem dL_law_486 : decode cL_law 486 = .ok (.invokevirtual 55, 3) := by decide +kernel
theorem dL_law_489 : decode cL_law 489 = .ok (.if_icmp .eq 738, 3) := by decide +kernel
theorem dL_law_492 : decode cL_law 492 = .ok (.iconst 0, 1) := by decide +kernel
theorem dL_law_493 : decode cL_law 493 = .ok (.ireturn, 1) := by decide +kernel
theorem dL_law_494 : decode cL_law 494 = .ok (.aload_n 1, 1) := by decide +kernel
theorem dL_law_495 : decode cL_law 495 = .ok (.aload_n 0, 1) := by decide +kernel
theorem dL_law_496 : decode cL_law 496 = .ok (.iload_n 3, 1) := by decide +kernel
theorem dL_law_497 : decode cL_law 497 = .ok (.iconst 1, 1) := by decide +kernel
theorem dL_law_498 : decode cL_law 498 = .ok (.iadd, 1) := by decide +kernel
theorem dL_law_499 : decode cL_law 499 = .ok (.iaload, 1) := by decide +kernel
theorem dL_law_500 : decode cL_law 500 = .ok (.aload_n 0, 1) := by decide +kernel
theorem dL_law_501 : decode cL_law 501 = .ok (.iload_n 3, 1) := by decide +kernel
theorem dL_law_502 : decode cL_law 502 = .ok (.iconst 2, 1) := by decide +kernel
theorem dL_law_503 : decode cL_law 503 = .ok (.iadd, 1) := by decide +kernel
theorem dL_law_504 : decode cL_law 504 = .ok (.iaload, 1) := by decide +kernel
theorem dL_law_505 : decode cL_law 505 = .ok (.aload_n 0, 1) := by decide +kernel
theorem dL_law_506 : decode cL_law 506 = .ok (.iload_n 3, 1) := by decide +kernel
theorem dL_law_507 : decode cL_law 507 = .ok (.iconst 3, 1) := by decide +kernel
theorem dL_law_508 : decode cL_law 508 = .ok (.iadd, 1) := by decide +kernel
theorem dL_law_509 : decode cL_law 509 = .ok (.iaload, 1) := by decide +kernel
theorem dL_law_510 : decode cL_law 510 = .ok (.invokevirtual 56, 3) := by decide +kernel
theorem dL_law_513 : decode cL_law 513 = .ok (.aload_n 2, 1) := by decide +kernel
theorem dL_law_514 : decode cL_law 514 = .ok (.aload_n 0, 1) := by decide +kernel
theorem dL_law_515 : decode cL_law 515 = .ok (.iload_n 3, 1) := by decide +kernel
theorem dL_law_516 : decode cL_law 516 = .ok (.iconst 1, 1) := by decide +kernel
theorem dL_law_517 : decode cL_law 517 = .ok (.iadd, 1) := by decide +kernel
theorem dL_law_518 : decode cL_law 518 = .ok (.iaload, 1) := by decide +kernel
theorem dL_law_519 : decode cL_law 519 = .ok (.aload_n 0, 1) := by decide +kernel
theorem dL_law_520 : decode cL_law 520 = .ok (.iload_n 3, 1) := by decide +kernel
theorem dL_law_521 : decode cL_law 521 = .ok (.iconst 2, 1) := by decide +kernel
theorem dL_law_522 : decode cL_law 522 = .ok (.iadd, 1) := by decide +kernel
theorem dL_law_523 : decode cL_law 523 = .ok (.iaload, 1) := by decide +kernel
theorem dL_law_524 : decode cL_law 524 = .ok (.aload_n 0, 1) := by decide +kernel
theorem dL_law_525 : decode cL_law 525 = .ok (.iload_n 3, 1) := by decide +kernel
theorem dL_law_526 : decode cL_law 526 = .ok (.iconst 3, 1) := by decide +kernel
theorem dL_law_527 : decode cL_law 527 = .ok (.iadd, 1) := by decide +kernel
theorem dL_law_528 : decode cL_law 528 = .ok (.iaload, 1) := by decide +kernel
theorem dL_law_529 : decode cL_law 529 = .ok (.invokevirtual 59, 3) := by decide +kernel
theorem dL_law_532 : decode cL_law 532 = .ok (.if_icmp .eq 695, 3) := by decide +kernel
theorem dL_law_535 : decode cL_law 535 = .ok (.iconst 0, 1) := by decide +kernel
theorem dL_law_536 : decode cL_law 536 = .ok (.ireturn, 1) := by decide +kernel
theorem dL_law_537 : decode cL_law 537 = .ok (.aload_n 1, 1) := by decide +kernel
theorem dL_law_538 : decode cL_law 538 = .ok (.aload_n 0, 1) := by decide +kernel
theorem dL_law_539 : decode cL_law 539 = .ok (.iload_n 3, 1) := by decide +kernel
theorem dL_law_540 : decode cL_law 540 = .ok (.iconst 1, 1) := by decide +kernel
theorem dL_law_541 : decode cL_law 541 = .ok (.iadd, 1) := by decide +kernel
theorem dL_law_542 : decode cL_law 542 = .ok (.iaload, 1) := by decide +kernel
theorem dL_law_543 : decode cL_law 543 = .ok (.aload_n 0, 1) := by decide +kernel
theorem dL_law_544 : decode cL_law 544 = .ok (.iload_n 3, 1) := by decide +kernel
theorem dL_law_545 : decode cL_law 545 = .ok (.iconst 2, 1) := by decide +kernel
theorem dL_law_546 : decode cL_law 546 = .ok (.iadd, 1) := by decide +kernel
theorem dL_law_547 : decode cL_law 547 = .ok (.iaload, 1) := by decide +kernel
theorem dL_law_548 : decode cL_law 548 = .ok (.invokevirtual 60, 3) := by decide +kernel
theorem dL_law_551 : decode cL_law 551 = .ok (.aload_n 2, 1) := by decide +kernel
theorem dL_law_552 : decode cL_law 552 = .ok (.aload_n 0, 1) := by decide +kernel
theorem dL_law_553 : decode cL_law 553 = .ok (.iload_n 3, 1) := by decide +kernel
theorem dL_law_554 : decode cL_law 554 = .ok (.iconst 1, 1) := by decide +kernel
theorem dL_law_555 : decode cL_law 555 = .ok (.iadd, 1) := by decide +kernel
theorem dL_law_556 : decode cL_law 556 = .ok (.iaload, 1) := by decide +kernel
theorem dL_law_557 : decode cL_law 557 = .ok (.aload_n 0, 1) := by decide +kernel
theorem dL_law_558 : decode cL_law 558 = .ok (.iload_n 3, 1) := by decide +kernel
theorem dL_law_559 : decode cL_law 559 = .ok (.iconst 2, 1) := by decide +kernel
theorem dL_law_560 : decode cL_law 560 = .ok (.iadd, 1) := by decide +kernel
theorem dL_law_561 : decode cL_law 561 = .ok (.iaload, 1) := by decide +kernel
theorem dL_law_562 : decode cL_law 562 = .ok (.invokevirtual 63, 3) := by decide +kernel
theorem dL_law_565 : decode cL_law 565 = .ok (.if_icmp .eq 662, 3) := by decide +kernel
theorem dL_law_568 : decode cL_law 568 = .ok (.iconst 0, 1) := by decide +kernel
theorem dL_law_569 : decode cL_law 569 = .ok (.ireturn, 1) := by decide +kernel
theorem dL_law_570 : decode cL_law 570 = .ok (.aload_n 1, 1) := by decide +kernel
theorem dL_law_571 : decode cL_law 571 = .ok (.aload_n 0, 1) := by decide +kernel
theorem dL_law_572 : decode cL_law 572 = .ok (.iload_n 3, 1) := by decide +kernel
theorem dL_law_573 : decode cL_law 573 = .ok (.iconst 1, 1) := by decide +kernel
theorem dL_law_574 : decode cL_law 574 = .ok (.iadd, 1) := by decide +kernel
theorem dL_law_575 : decode cL_law 575 = .ok (.iaload, 1) := by decide +kernel
theorem dL_law_576 : decode cL_law 576 = .ok (.invokevirtual 64, 3) := by decide +kernel
theorem dL_law_579 : decode cL_law 579 = .ok (.aload_n 2, 1) := by decide +kernel
theorem dL_law_580 : decode cL_law 580 = .ok (.aload_n 0, 1) := by decide +kernel
theorem dL_law_581 : decode cL_law 581 = .ok (.iload_n 3, 1) := by decide +kernel
theorem dL_law_582 : decode cL_law 582 = .ok (.iconst 1, 1) := by decide +kernel
theorem dL_law_583 : decode cL_law 583 = .ok (.iadd, 1) := by decide +kernel
theorem dL_law_584 : decode cL_law 584 = .ok (.iaload, 1) := by decide +kernel
theorem dL_law_585 : decode cL_law 585 = .ok (.invokevirtual 67, 3) := by decide +kernel
theorem dL_law_588 : decode cL_law 588 = .ok (.if_icmp .eq 639, 3) := by decide +kernel
theorem dL_law_591 : decode cL_law 591 = .ok (.iconst 0, 1) := by decide +kernel
theorem dL_law_592 : decode cL_law 592 = .ok (.ireturn, 1) := by decide +kernel
theorem dL_law_593 : decode cL_law 593 = .ok (.aload_n 1, 1) := by decide +kernel
theorem dL_law_594 : decode cL_law 594 = .ok (.invokevirtual 68, 3) := by decide +kernel
theorem dL_law_597 : decode cL_law 597 = .ok (.aload_n 2, 1) := by decide +kernel
theorem dL_law_598 : decode cL_law 598 = .ok (.invokevirtual 72, 3) := by decide +kernel
theorem dL_law_601 : decode cL_law 601 = .ok (.if_icmp .eq 626, 3) := by decide +kernel
theorem dL_law_604 : decode cL_law 604 = .ok (.iconst 0, 1) := by decide +kernel
theorem dL_law_605 : decode cL_law 605 = .ok (.ireturn, 1) := by decide +kernel
theorem dL_law_606 : decode cL_law 606 = .ok (.aload_n 1, 1) := by decide +kernel
theorem dL_law_607 : decode cL_law 607 = .ok (.aload_n 0, 1) := by decide +kernel
theorem dL_law_608 : decode cL_law 608 = .ok (.iload_n 3, 1) := by decide +kernel
theorem dL_law_609 : decode cL_law 609 = .ok (.iconst 1, 1) := by decide +kernel
theorem dL_law_610 : decode cL_law 610 = .ok (.iadd, 1) := by decide +kernel
theorem dL_law_611 : decode cL_law 611 = .ok (.iaload, 1) := by decide +kernel
theorem dL_law_612 : decode cL_law 612 = .ok (.aload_n 0, 1) := by decide +kernel
theorem dL_law_613 : decode cL_law 613 = .ok (.iload_n 3, 1) := by decide +kernel
theorem dL_law_614 : decode cL_law 614 = .ok (.iconst 2, 1) := by decide +kernel
theorem dL_law_615 : decode cL_law 615 = .ok (.iadd, 1) := by decide +kernel
theorem dL_law_616 : decode cL_law 616 = .ok (.iaload, 1) := by decide +kernel
theorem dL_law_617 : decode cL_law 617 = .ok (.invokevirtual 73, 3) := by decide +kernel
theorem dL_law_620 : decode cL_law 620 = .ok (.aload_n 2, 1) := by decide +kernel
theorem dL_law_621 : decode cL_law 621 = .ok (.aload_n 0, 1) := by decide +kernel
theorem dL_law_622 : decode cL_law 622 = .ok (.iload_n 3, 1) := by decide +kernel
theorem dL_law_623 : decode cL_law 623 = .ok (.iconst 1, 1) := by decide +kernel
theorem dL_law_624 : decode cL_law 624 = .ok (.iadd, 1) := by decide +kernel
theorem dL_law_625 : decode cL_law 625 = .ok (.iaload, 1) := by decide +kernel
theorem dL_law_626 : decode cL_law 626 = .ok (.aload_n 0, 1) := by decide +kernel
theorem dL_law_627 : decode cL_law 627 = .ok (.iload_n 3, 1) := by decide +kernel
theorem dL_law_628 : decode cL_law 628 = .ok (.iconst 2, 1) := by decide +kernel
theorem dL_law_629 : decode cL_law 629 = .ok (.iadd, 1) := by decide +kernel
theorem dL_law_630 : decode cL_law 630 = .ok (.iaload, 1) := by decide +kernel
theorem dL_law_631 : decode cL_law 631 = .ok (.invokevirtual 76, 3) := by decide +kernel
theorem dL_law_634 : decode cL_law 634 = .ok (.if_icmp .eq 593, 3) := by decide +kernel
theorem dL_law_637 : decode cL_law 637 = .ok (.iconst 0, 1) := by decide +kernel
theorem dL_law_638 : decode cL_law 638 = .ok (.ireturn, 1) := by decide +kernel
theorem dL_law_639 : decode cL_law 639 = .ok (.aload_n 1, 1) := by decide +kernel
theorem dL_law_640 : decode cL_law 640 = .ok (.aload_n 0, 1) := by decide +kernel
theorem dL_law_641 : decode cL_law 641 = .ok (.iload_n 3, 1) := by decide +kernel
theorem dL_law_642 : decode cL_law 642 = .ok (.iconst 1, 1) := by decide +kernel
theorem dL_law_643 : decode cL_law 643 = .ok (.iadd, 1) := by decide +kernel
theorem dL_law_644 : decode cL_law 644 = .ok (.iaload, 1) := by decide +kernel
theorem dL_law_645 : decode cL_law 645 = .ok (.aload_n 0, 1) := by decide +kernel
theorem dL_law_646 : decode cL_law 646 = .ok (.iload_n 3, 1) := by decide +kernel
theorem dL_law_647 : decode cL_law 647 = .ok (.iconst 2, 1) := by decide +kernel
theorem dL_law_648 : decode cL_law 648 = .ok (.iadd, 1) := by decide +kernel
theorem dL_law_649 : decode cL_law 649 = .ok (.iaload, 1) := by decide +kernel
theorem dL_law_650 : decode cL_law 650 = .ok (.invokevirtual 77, 3) := by decide +kernel
theorem dL_law_653 : decode cL_law 653 = .ok (.aload_n 2, 1) := by decide +kernel
theorem dL_law_654 : decode cL_law 654 = .ok (.aload_n 0, 1) := by decide +kernel
theorem dL_law_655 : decode cL_law 655 = .ok (.iload_n 3, 1) := by decide +kernel
theorem dL_law_656 : decode cL_law 656 = .ok (.iconst 1, 1) := by decide +kernel
theorem dL_law_657 : decode cL_law 657 = .ok (.iadd, 1) := by decide +kernel
theorem dL_law_658 : decode cL_law 658 = .ok (.iaload, 1) := by decide +kernel
theorem dL_law_659 : decode cL_law 659 = .ok (.aload_n 0, 1) := by decide +kernel
theorem dL_law_660 : decode cL_law 660 = .ok (.iload_n 3, 1) := by decide +kernel
theorem dL_law_661 : decode cL_law 661 = .ok (.iconst 2, 1) := by decide +kernel
theorem dL_law_662 : decode cL_law 662 = .ok (.iadd, 1) := by decide +kernel
theorem dL_law_663 : decode cL_law 663 = .ok (.iaload, 1) := by decide +kernel
theorem dL_law_664 : decode cL_law 664 = .ok (.invokevirtual 80, 3) := by decide +kernel
theorem dL_law_667 : decode cL_law 667 = .ok (.if_icmp .eq 560, 3) := by decide +kernel
theorem dL_law_670 : decode cL_law 670 = .ok (.iconst 0, 1) := by decide +kernel
theorem dL_law_671 : decode cL_law 671 = .ok (.ireturn, 1) := by decide +kernel
theorem dL_law_672 : decode cL_law 672 = .ok (.aload_n 1, 1) := by decide +kernel
theorem dL_law_673 : decode cL_law 673 = .ok (.aload_n 0, 1) := by decide +kernel
theorem dL_law_674 : decode cL_law 674 = .ok (.iload_n 3, 1) := by decide +kernel
theorem dL_law_675 : decode cL_law 675 = .ok (.iconst 1, 1) := by decide +kernel
theorem dL_law_676 : decode cL_law 676 = .ok (.iadd, 1) := by decide +kernel
theorem dL_law_677 : decode cL_law 677 = .ok (.iaload, 1) := by decide +kernel
theorem dL_law_678 : decode cL_law 678 = .ok (.aload_n 0, 1) := by decide +kernel
theorem dL_law_679 : decode cL_law 679 = .ok (.iload_n 3, 1) := by decide +kernel
theorem dL_law_680 : decode cL_law 680 = .ok (.iconst 2, 1) := by decide +kernel
theorem dL_law_681 : decode cL_law 681 = .ok (.iadd, 1) := by decide +kernel
theorem dL_law_682 : decode cL_law 682 = .ok (.iaload, 1) := by decide +kernel
theorem dL_law_683 : decode cL_law 683 = .ok (.aload_n 0, 1) := by decide +kernel
theorem dL_law_684 : decode cL_law 684 = .ok (.iload_n 3, 1) := by decide +kernel
theorem dL_law_685 : decode cL_law 685 = .ok (.iconst 3, 1) := by decide +kernel
theorem dL_law_686 : decode cL_law 686 = .ok (.iadd, 1) := by decide +kernel
theorem dL_law_687 : decode cL_law 687 = .ok (.iaload, 1) := by decide +kernel
theorem dL_law_688 : decode cL_law 688 = .ok (.invokevirtual 81, 3) := by decide +kernel
theorem dL_law_691 : decode cL_law 691 = .ok (.aload_n 2, 1) := by decide +kernel
theorem dL_law_692 : decode cL_law 692 = .ok (.aload_n 0, 1) := by decide +kernel
theorem dL_law_693 : decode cL_law 693 = .ok (.iload_n 3, 1) := by decide +kernel
theorem dL_law_694 : decode cL_law 694 = .ok (.iconst 1, 1) := by decide +kernel
theorem dL_law_695 : decode cL_law 695 = .ok (.iadd, 1) := by decide +kernel
theorem dL_law_696 : decode cL_law 696 = .ok (.iaload, 1) := by decide +kernel
theorem dL_law_697 : decode cL_law 697 = .ok (.aload_n 0, 1) := by decide +kernel
theorem dL_law_698 : decode cL_law 698 = .ok (.iload_n 3, 1) := by decide +kernel
theorem dL_law_699 : decode cL_law 699 = .ok (.iconst 2, 1) := by decide +kernel
theorem dL_law_700 : decode cL_law 700 = .ok (.iadd, 1) := by decide +kernel
theorem dL_law_701 : decode cL_law 701 = .ok (.iaload, 1) := by decide +kernel
theorem dL_law_702 : decode cL_law 702 = .ok (.aload_n 0, 1) := by decide +kernel
theorem dL_law_703 : decode cL_law 703 = .ok (.iload_n 3, 1) := by decide +kernel
theorem dL_law_704 : decode cL_law 704 = .ok (.iconst 3, 1) := by decide +kernel
theorem dL_law_705 : decode cL_law 705 = .ok (.iadd, 1) := by decide +kernel
theorem dL_law_706 : decode cL_law 706 = .ok (.iaload, 1) := by decide +kernel
theorem dL_law_707 : decode cL_law 707 = .ok (.invokevirtual 84, 3) := by decide +kernel
theorem dL_law_710 : decode cL_law 710 = .ok (.if_icmp .eq 517, 3) := by decide +kernel
theorem dL_law_713 : decode cL_law 713 = .ok (.iconst 0, 1) := by decide +kernel
theorem dL_law_714 : decode cL_law 714 = .ok (.ireturn, 1) := by decide +kernel
theorem dL_law_715 : decode cL_law 715 = .ok (.aload_n 1, 1) := by decide +kernel
theorem dL_law_716 : decode cL_law 716 = .ok (.aload_n 0, 1) := by decide +kernel
theorem dL_law_717 : decode cL_law 717 = .ok (.iload_n 3, 1) := by decide +kernel
theorem dL_law_718 : decode cL_law 718 = .ok (.iconst 1, 1) := by decide +kernel
theorem dL_law_719 : decode cL_law 719 = .ok (.iadd, 1) := by decide +kernel
theorem dL_law_720 : decode cL_law 720 = .ok (.iaload, 1) := by decide +kernel
theorem dL_law_721 : decode cL_law 721 = .ok (.invokevirtual 85, 3) := by decide +kernel
theorem dL_law_724 : decode cL_law 724 = .ok (.aload_n 2, 1) := by decide +kernel
theorem dL_law_725 : decode cL_law 725 = .ok (.aload_n 0, 1) := by decide +kernel
theorem dL_law_726 : decode cL_law 726 = .ok (.iload_n 3, 1) := by decide +kernel
theorem dL_law_727 : decode cL_law 727 = .ok (.iconst 1, 1) := by decide +kernel
theorem dL_law_728 : decode cL_law 728 = .ok (.iadd, 1) := by decide +kernel
theorem dL_law_729 : decode cL_law 729 = .ok (.iaload, 1) := by decide +kernel
theorem dL_law_730 : decode cL_law 730 = .ok (.invokevirtual 88, 3) := by decide +kernel
theorem dL_law_733 : decode cL_law 733 = .ok (.if_icmp .eq 494, 3) := by decide +kernel
theorem dL_law_736 : decode cL_law 736 = .ok (.iconst 0, 1) := by decide +kernel
theorem dL_law_737 : decode cL_law 737 = .ok (.ireturn, 1) := by decide +kernel
theorem dL_law_738 : decode cL_law 738 = .ok (.aload_n 1, 1) := by decide +kernel
theorem dL_law_739 : decode cL_law 739 = .ok (.aload_n 0, 1) := by decide +kernel
theorem dL_law_740 : decode cL_law 740 = .ok (.iload_n 3, 1) := by decide +kernel
theorem dL_law_741 : decode cL_law 741 = .ok (.iconst 1, 1) := by decide +kernel
theorem dL_law_742 : decode cL_law 742 = .ok (.iadd, 1) := by decide +kernel
theorem dL_law_743 : decode cL_law 743 = .ok (.iaload, 1) := by decide +kernel
theorem dL_law_744 : decode cL_law 744 = .ok (.aload_n 0, 1) := by decide +kernel
theorem dL_law_745 : decode cL_law 745 = .ok (.iload_n 3, 1) := by decide +kernel
theorem dL_law_746 : decode cL_law 746 = .ok (.iconst 2, 1) := by decide +kernel
theorem dL_law_747 : decode cL_law 747 = .ok (.iadd, 1) := by decide +kernel
theorem dL_law_748 : decode cL_law 748 = .ok (.iaload, 1) := by decide +kernel
theorem dL_law_749 : decode cL_law 749 = .ok (.aload_n 0, 1) := by decide +kernel
theorem dL_law_750 : decode cL_law 750 = .ok (.iload_n 3, 1) := by decide +kernel
theorem dL_law_751 : decode cL_law 751 = .ok (.iconst 3, 1) := by decide +kernel
theorem dL_law_752 : decode cL_law 752 = .ok (.iadd, 1) := by decide +kernel
theorem dL_law_753 : decode cL_law 753 = .ok (.iaload, 1) := by decide +kernel
theorem dL_law_754 : decode cL_law 754 = .ok (.invokevirtual 89, 3) := by decide +kernel
theorem dL_law_757 : decode cL_law 757 = .ok (.aload_n 2, 1) := by decide +kernel
theorem dL_law_758 : decode cL_law 758 = .ok (.aload_n 0, 1) := by decide +kernel
theorem dL_law_759 : decode cL_law 759 = .ok (.iload_n 3, 1) := by decide +kernel
theorem dL_law_760 : decode cL_law 760 = .ok (.iconst 1, 1) := by decide +kernel
theorem dL_law_761 : decode cL_law 761 = .ok (.iadd, 1) := by decide +kernel
theorem dL_law_762 : decode cL_law 762 = .ok (.iaload, 1) := by decide +kernel
theorem dL_law_763 : decode cL_law 763 = .ok (.aload_n 0, 1) := by decide +kernel
theorem dL_law_764 : decode cL_law 764 = .ok (.iload_n 3, 1) := by decide +kernel
theorem dL_law_765 : decode cL_law 765 = .ok (.iconst 2, 1) := by decide +kernel
theorem dL_law_766 : decode cL_law 766 = .ok (.iadd, 1) := by decide +kernel
theorem dL_law_767 : decode cL_law 767 = .ok (.iaload, 1) := by decide +kernel
theorem dL_law_768 : decode cL_law 768 = .ok (.aload_n 0, 1) := by decide +kernel
theorem dL_law_769 : decode cL_law 769 = .ok (.iload_n 3, 1) := by decide +kernel
theorem dL_law_770 : decode cL_law 770 = .ok (.iconst 3, 1) := by decide +kernel
theorem dL_law_771 : decode cL_law 771 = .ok (.iadd, 1) := by decide +kernel
theorem dL_law_772 : decode cL_law 772 = .ok (.iaload, 1) := by decide +kernel
theorem dL_law_773 : decode cL_law 773 = .ok (.invokevirtual 92, 3) := by decide +kernel
theorem dL_law_776 : decode cL_law 776 = .ok (.if_icmp .eq 451, 3) := by decide +kernel
theorem dL_law_779 : decode cL_law 779 = .ok (.iconst 0, 1) := by decide +kernel
theorem dL_law_780 : decode cL_law 780 = .ok (.ireturn, 1) := by decide +kernel
theorem dL_law_781 : decode cL_law 781 = .ok (.aload_n 1, 1) := by decide +kernel
theorem dL_law_782 : decode cL_law 782 = .ok (.aload_n 0, 1) := by decide +kernel
theorem dL_law_783 : decode cL_law 783 = .ok (.iload_n 3, 1) := by decide +kernel
theorem dL_law_784 : decode cL_law 784 = .ok (.iconst 1, 1) := by decide +kernel
theorem dL_law_785 : decode cL_law 785 = .ok (.iadd, 1) := by decide +kernel
theorem dL_law_786 : decode cL_law 786 = .ok (.iaload, 1) := by decide +kernel
theorem dL_law_787 : decode cL_law 787 = .ok (.invokevirtual 93, 3) := by decide +kernel
theorem dL_law_790 : decode cL_law 790 = .ok (.aload_n 2, 1) := by decide +kernel
theorem dL_law_791 : decode cL_law 791 = .ok (.aload_n 0, 1) := by decide +kernel
theorem dL_law_792 : decode cL_law 792 = .ok (.iload_n 3, 1) := by decide +kernel
theorem dL_law_793 : decode cL_law 793 = .ok (.iconst 1, 1) := by decide +kernel
theorem dL_law_794 : decode cL_law 794 = .ok (.iadd, 1) := by decide +kernel
theorem dL_law_795 : decode cL_law 795 = .ok (.iaload, 1) := by decide +kernel
theorem dL_law_796 : decode cL_law 796 = .ok (.invokevirtual 96, 3) := by decide +kernel
theorem dL_law_799 : decode cL_law 799 = .ok (.if_icmp .eq 428, 3) := by decide +kernel
theorem dL_law_802 : decode cL_law 802 = .ok (.iconst 0, 1) := by decide +kernel
theorem dL_law_803 : decode cL_law 803 = .ok (.ireturn, 1) := by decide +kernel
theorem dL_law_804 : decode cL_law 804 = .ok (.aload_n 1, 1) := by decide +kernel
theorem dL_law_805 : decode cL_law 805 = .ok (.aload_n 0, 1) := by decide +kernel
theorem dL_law_806 : decode cL_law 806 = .ok (.iload_n 3, 1) := by decide +kernel
theorem dL_law_807 : decode cL_law 807 = .ok (.iconst 1, 1) := by decide +kernel
theorem dL_law_808 : decode cL_law 808 = .ok (.iadd, 1) := by decide +kernel
theorem dL_law_809 : decode cL_law 809 = .ok (.iaload, 1) := by decide +kernel
theorem dL_law_810 : decode cL_law 810 = .ok (.aload_n 0, 1) := by decide +kernel
theorem dL_law_811 : decode cL_law 811 = .ok (.iload_n 3, 1) := by decide +kernel
theorem dL_law_812 : decode cL_law 812 = .ok (.iconst 2, 1) := by decide +kernel
theorem dL_law_813 : decode cL_law 813 = .ok (.iadd, 1) := by decide +kernel
theorem dL_law_814 : decode cL_law 814 = .ok (.iaload, 1) := by decide +kernel
theorem dL_law_815 : decode cL_law 815 = .ok (.invokevirtual 97, 3) := by decide +kernel
theorem dL_law_818 : decode cL_law 818 = .ok (.aload_n 2, 1) := by decide +kernel
theorem dL_law_819 : decode cL_law 819 = .ok (.aload_n 0, 1) := by decide +kernel
theorem dL_law_820 : decode cL_law 820 = .ok (.iload_n 3, 1) := by decide +kernel
theorem dL_law_821 : decode cL_law 821 = .ok (.iconst 1, 1) := by decide +kernel
theorem dL_law_822 : decode cL_law 822 = .ok (.iadd, 1) := by decide +kernel
theorem dL_law_823 : decode cL_law 823 = .ok (.iaload, 1) := by decide +kernel
theorem dL_law_824 : decode cL_law 824 = .ok (.aload_n 0, 1) := by decide +kernel
theorem dL_law_825 : decode cL_law 825 = .ok (.iload_n 3, 1) := by decide +kernel
theorem dL_law_826 : decode cL_law 826 = .ok (.iconst 2, 1) := by decide +kernel
theorem dL_law_827 : decode cL_law 827 = .ok (.iadd, 1) := by decide +kernel
theorem dL_law_828 : decode cL_law 828 = .ok (.iaload, 1) := by decide +kernel
theorem dL_law_829 : decode cL_law 829 = .ok (.invokevirtual 100, 3) := by decide +kernel
theorem dL_law_832 : decode cL_law 832 = .ok (.if_icmp .eq 395, 3) := by decide +kernel
theorem dL_law_835 : decode cL_law 835 = .ok (.iconst 0, 1) := by decide +kernel
theorem dL_law_836 : decode cL_law 836 = .ok (.ireturn, 1) := by decide +kernel
theorem dL_law_837 : decode cL_law 837 = .ok (.aload_n 1, 1) := by decide +kernel
theorem dL_law_838 : decode cL_law 838 = .ok (.invokevirtual 101, 3) := by decide +kernel
theorem dL_law_841 : decode cL_law 841 = .ok (.aload_n 2, 1) := by decide +kernel
theorem dL_law_842 : decode cL_law 842 = .ok (.invokevirtual 104, 3) := by decide +kernel
theorem dL_law_845 : decode cL_law 845 = .ok (.if_icmp .eq 382, 3) := by decide +kernel
theorem dL_law_848 : decode cL_law 848 = .ok (.iconst 0, 1) := by decide +kernel
theorem dL_law_849 : decode cL_law 849 = .ok (.ireturn, 1) := by decide +kernel
theorem dL_law_850 : decode cL_law 850 = .ok (.aload_n 1, 1) := by decide +kernel
theorem dL_law_851 : decode cL_law 851 = .ok (.invokevirtual 105, 3) := by decide +kernel
theorem dL_law_854 : decode cL_law 854 = .ok (.aload_n 2, 1) := by decide +kernel
theorem dL_law_855 : decode cL_law 855 = .ok (.invokevirtual 108, 3) := by decide +kernel
theorem dL_law_858 : decode cL_law 858 = .ok (.if_icmp .eq 369, 3) := by decide +kernel
theorem dL_law_861 : decode cL_law 861 = .ok (.iconst 0, 1) := by decide +kernel
theorem dL_law_862 : decode cL_law 862 = .ok (.ireturn, 1) := by decide +kernel
theorem dL_law_863 : decode cL_law 863 = .ok (.aload_n 1, 1) := by decide +kernel
theorem dL_law_864 : decode cL_law 864 = .ok (.aload_n 0, 1) := by decide +kernel
theorem dL_law_865 : decode cL_law 865 = .ok (.iload_n 3, 1) := by decide +kernel
theorem dL_law_866 : decode cL_law 866 = .ok (.iconst 1, 1) := by decide +kernel
theorem dL_law_867 : decode cL_law 867 = .ok (.iadd, 1) := by decide +kernel
theorem dL_law_868 : decode cL_law 868 = .ok (.iaload, 1) := by decide +kernel
theorem dL_law_869 : decode cL_law 869 = .ok (.aload_n 0, 1) := by decide +kernel
theorem dL_law_870 : decode cL_law 870 = .ok (.iload_n 3, 1) := by decide +kernel
theorem dL_law_871 : decode cL_law 871 = .ok (.iconst 2, 1) := by decide +kernel
theorem dL_law_872 : decode cL_law 872 = .ok (.iadd, 1) := by decide +kernel
theorem dL_law_873 : decode cL_law 873 = .ok (.iaload, 1) := by decide +kernel
theorem dL_law_874 : decode cL_law 874 = .ok (.aload_n 0, 1) := by decide +kernel
theorem dL_law_875 : decode cL_law 875 = .ok (.iload_n 3, 1) := by decide +kernel
theorem dL_law_876 : decode cL_law 876 = .ok (.iconst 3, 1) := by decide +kernel
theorem dL_law_877 : decode cL_law 877 = .ok (.iadd, 1) := by decide +kernel
theorem dL_law_878 : decode cL_law 878 = .ok (.iaload, 1) := by decide +kernel
theorem dL_law_879 : decode cL_law 879 = .ok (.invokevirtual 109, 3) := by decide +kernel
theorem dL_law_882 : decode cL_law 882 = .ok (.aload_n 2, 1) := by decide +kernel
theorem dL_law_883 : decode cL_law 883 = .ok (.aload_n 0, 1) := by decide +kernel
theorem dL_law_884 : decode cL_law 884 = .ok (.iload_n 3, 1) := by decide +kernel
theorem dL_law_885 : decode cL_law 885 = .ok (.iconst 1, 1) := by decide +kernel
theorem dL_law_886 : decode cL_law 886 = .ok (.iadd, 1) := by decide +kernel
theorem dL_law_887 : decode cL_law 887 = .ok (.iaload, 1) := by decide +kernel
theorem dL_law_888 : decode cL_law 888 = .ok (.aload_n 0, 1) := by decide +kernel
theorem dL_law_889 : decode cL_law 889 = .ok (.iload_n 3, 1) := by decide +kernel
theorem dL_law_890 : decode cL_law 890 = .ok (.iconst 2, 1) := by decide +kernel
theorem dL_law_891 : decode cL_law 891 = .ok (.iadd, 1) := by decide +kernel
theorem dL_law_892 : decode cL_law 892 = .ok (.iaload, 1) := by decide +kernel
theorem dL_law_893 : decode cL_law 893 = .ok (.aload_n 0, 1) := by decide +kernel
theorem dL_law_894 : decode cL_law 894 = .ok (.iload_n 3, 1) := by decide +kernel
theorem dL_law_895 : decode cL_law 895 = .ok (.iconst 3, 1) := by decide +kernel
theorem dL_law_896 : decode cL_law 896 = .ok (.iadd, 1) := by decide +kernel
theorem dL_law_897 : decode cL_law 897 = .ok (.iaload, 1) := by decide +kernel
theorem dL_law_898 : decode cL_law 898 = .ok (.invokevirtual 112, 3) := by decide +kernel
theorem dL_law_901 : decode cL_law 901 = .ok (.if_icmp .eq 326, 3) := by decide +kernel
theorem dL_law_904 : decode cL_law 904 = .ok (.iconst 0, 1) := by decide +kernel
theorem dL_law_905 : decode cL_law 905 = .ok (.ireturn, 1) := by decide +kernel
theorem dL_law_906 : decode cL_law 906 = .ok (.aload_n 1, 1) := by decide +kernel
end
section
theorem dL_law_907 : decode cL_law 907 = .ok (.aload_n 0, 1) := by decide +kernel
theorem dL_law_908 : decode cL_law 908 = .ok (.iload_n 3, 1) := by decide +kernel
theorem dL_law_909 : decode cL_law 909 = .ok (.iconst 1, 1) := by decide +kernel
theorem dL_law_910 : decode cL_law 910 = .ok (.iadd, 1) := by decide +kernel
theorem dL_law_911 : decode cL_law 911 = .ok (.iaload, 1) := by decide +kernel
theorem dL_law_912 : decode cL_law 912 = .ok (.aload_n 0, 1) := by decide +kernel
theorem dL_law_913 : decode cL_law 913 = .ok (.iload_n 3, 1) := by decide +kernel
theorem dL_law_914 : decode cL_law 914 = .ok (.iconst 2, 1) := by decide +kernel
theorem dL_law_915 : decode cL_law 915 = .ok (.iadd, 1) := by decide +kernel
theorem dL_law_916 : decode cL_law 916 = .ok (.iaload, 1) := by decide +kernel
theorem dL_law_917 : decode cL_law 917 = .ok (.aload_n 0, 1) := by decide +kernel
theorem dL_law_918 : decode cL_law 918 = .ok (.iload_n 3, 1) := by decide +kernel
theorem dL_law_919 : decode cL_law 919 = .ok (.iconst 3, 1) := by decide +kernel
theorem dL_law_920 : decode cL_law 920 = .ok (.iadd, 1) := by decide +kernel
theorem dL_law_921 : decode cL_law 921 = .ok (.iaload, 1) := by decide +kernel
theorem dL_law_922 : decode cL_law 922 = .ok (.i2l, 1) := by decide +kernel
theorem dL_law_923 : decode cL_law 923 = .ok (.bipush 32, 2) := by decide +kernel
theorem dL_law_925 : decode cL_law 925 = .ok (.lshl, 1) := by decide +kernel
theorem dL_law_926 : decode cL_law 926 = .ok (.aload_n 0, 1) := by decide +kernel
theorem dL_law_927 : decode cL_law 927 = .ok (.iload_n 3, 1) := by decide +kernel
theorem dL_law_928 : decode cL_law 928 = .ok (.iconst 4, 1) := by decide +kernel
theorem dL_law_929 : decode cL_law 929 = .ok (.iadd, 1) := by decide +kernel
theorem dL_law_930 : decode cL_law 930 = .ok (.iaload, 1) := by decide +kernel
theorem dL_law_931 : decode cL_law 931 = .ok (.i2l, 1) := by decide +kernel
theorem dL_law_932 : decode cL_law 932 = .ok (.ldc2_w 113, 3) := by decide +kernel
theorem dL_law_935 : decode cL_law 935 = .ok (.land, 1) := by decide +kernel
theorem dL_law_936 : decode cL_law 936 = .ok (.lor, 1) := by decide +kernel
theorem dL_law_937 : decode cL_law 937 = .ok (.invokevirtual 115, 3) := by decide +kernel
theorem dL_law_940 : decode cL_law 940 = .ok (.aload_n 2, 1) := by decide +kernel
theorem dL_law_941 : decode cL_law 941 = .ok (.aload_n 0, 1) := by decide +kernel
theorem dL_law_942 : decode cL_law 942 = .ok (.iload_n 3, 1) := by decide +kernel
theorem dL_law_943 : decode cL_law 943 = .ok (.iconst 1, 1) := by decide +kernel
theorem dL_law_944 : decode cL_law 944 = .ok (.iadd, 1) := by decide +kernel
theorem dL_law_945 : decode cL_law 945 = .ok (.iaload, 1) := by decide +kernel
theorem dL_law_946 : decode cL_law 946 = .ok (.aload_n 0, 1) := by decide +kernel
theorem dL_law_947 : decode cL_law 947 = .ok (.iload_n 3, 1) := by decide +kernel
theorem dL_law_948 : decode cL_law 948 = .ok (.iconst 2, 1) := by decide +kernel
theorem dL_law_949 : decode cL_law 949 = .ok (.iadd, 1) := by decide +kernel
theorem dL_law_950 : decode cL_law 950 = .ok (.iaload, 1) := by decide +kernel
theorem dL_law_951 : decode cL_law 951 = .ok (.aload_n 0, 1) := by decide +kernel
theorem dL_law_952 : decode cL_law 952 = .ok (.iload_n 3, 1) := by decide +kernel
theorem dL_law_953 : decode cL_law 953 = .ok (.iconst 3, 1) := by decide +kernel
theorem dL_law_954 : decode cL_law 954 = .ok (.iadd, 1) := by decide +kernel
theorem dL_law_955 : decode cL_law 955 = .ok (.iaload, 1) := by decide +kernel
theorem dL_law_956 : decode cL_law 956 = .ok (.i2l, 1) := by decide +kernel
theorem dL_law_957 : decode cL_law 957 = .ok (.bipush 32, 2) := by decide +kernel
theorem dL_law_959 : decode cL_law 959 = .ok (.lshl, 1) := by decide +kernel
theorem dL_law_960 : decode cL_law 960 = .ok (.aload_n 0, 1) := by decide +kernel
theorem dL_law_961 : decode cL_law 961 = .ok (.iload_n 3, 1) := by decide +kernel
theorem dL_law_962 : decode cL_law 962 = .ok (.iconst 4, 1) := by decide +kernel
theorem dL_law_963 : decode cL_law 963 = .ok (.iadd, 1) := by decide +kernel
theorem dL_law_964 : decode cL_law 964 = .ok (.iaload, 1) := by decide +kernel
theorem dL_law_965 : decode cL_law 965 = .ok (.i2l, 1) := by decide +kernel
theorem dL_law_966 : decode cL_law 966 = .ok (.ldc2_w 113, 3) := by decide +kernel
theorem dL_law_969 : decode cL_law 969 = .ok (.land, 1) := by decide +kernel
theorem dL_law_970 : decode cL_law 970 = .ok (.lor, 1) := by decide +kernel
theorem dL_law_971 : decode cL_law 971 = .ok (.invokevirtual 119, 3) := by decide +kernel
theorem dL_law_974 : decode cL_law 974 = .ok (.lcmp, 1) := by decide +kernel
theorem dL_law_975 : decode cL_law 975 = .ok (.ifCond .eq 252, 3) := by decide +kernel
theorem dL_law_978 : decode cL_law 978 = .ok (.iconst 0, 1) := by decide +kernel
theorem dL_law_979 : decode cL_law 979 = .ok (.ireturn, 1) := by decide +kernel
theorem dL_law_980 : decode cL_law 980 = .ok (.aload_n 1, 1) := by decide +kernel
theorem dL_law_981 : decode cL_law 981 = .ok (.aload_n 0, 1) := by decide +kernel
theorem dL_law_982 : decode cL_law 982 = .ok (.iload_n 3, 1) := by decide +kernel
theorem dL_law_983 : decode cL_law 983 = .ok (.iconst 1, 1) := by decide +kernel
theorem dL_law_984 : decode cL_law 984 = .ok (.iadd, 1) := by decide +kernel
theorem dL_law_985 : decode cL_law 985 = .ok (.iaload, 1) := by decide +kernel
theorem dL_law_986 : decode cL_law 986 = .ok (.aload_n 0, 1) := by decide +kernel
theorem dL_law_987 : decode cL_law 987 = .ok (.iload_n 3, 1) := by decide +kernel
theorem dL_law_988 : decode cL_law 988 = .ok (.iconst 2, 1) := by decide +kernel
theorem dL_law_989 : decode cL_law 989 = .ok (.iadd, 1) := by decide +kernel
theorem dL_law_990 : decode cL_law 990 = .ok (.iaload, 1) := by decide +kernel
theorem dL_law_991 : decode cL_law 991 = .ok (.aload_n 0, 1) := by decide +kernel
theorem dL_law_992 : decode cL_law 992 = .ok (.iload_n 3, 1) := by decide +kernel
theorem dL_law_993 : decode cL_law 993 = .ok (.iconst 3, 1) := by decide +kernel
theorem dL_law_994 : decode cL_law 994 = .ok (.iadd, 1) := by decide +kernel
theorem dL_law_995 : decode cL_law 995 = .ok (.iaload, 1) := by decide +kernel
theorem dL_law_996 : decode cL_law 996 = .ok (.aload_n 0, 1) := by decide +kernel
theorem dL_law_997 : decode cL_law 997 = .ok (.iload_n 3, 1) := by decide +kernel
theorem dL_law_998 : decode cL_law 998 = .ok (.iconst 4, 1) := by decide +kernel
theorem dL_law_999 : decode cL_law 999 = .ok (.iadd, 1) := by decide +kernel
theorem dL_law_1000 : decode cL_law 1000 = .ok (.iaload, 1) := by decide +kernel
theorem dL_law_1001 : decode cL_law 1001 = .ok (.aload_n 0, 1) := by decide +kernel
theorem dL_law_1002 : decode cL_law 1002 = .ok (.iload_n 3, 1) := by decide +kernel
theorem dL_law_1003 : decode cL_law 1003 = .ok (.iconst 5, 1) := by decide +kernel
theorem dL_law_1004 : decode cL_law 1004 = .ok (.iadd, 1) := by decide +kernel
theorem dL_law_1005 : decode cL_law 1005 = .ok (.iaload, 1) := by decide +kernel
theorem dL_law_1006 : decode cL_law 1006 = .ok (.invokevirtual 120, 3) := by decide +kernel
theorem dL_law_1009 : decode cL_law 1009 = .ok (.aload_n 2, 1) := by decide +kernel
theorem dL_law_1010 : decode cL_law 1010 = .ok (.aload_n 0, 1) := by decide +kernel
theorem dL_law_1011 : decode cL_law 1011 = .ok (.iload_n 3, 1) := by decide +kernel
theorem dL_law_1012 : decode cL_law 1012 = .ok (.iconst 1, 1) := by decide +kernel
theorem dL_law_1013 : decode cL_law 1013 = .ok (.iadd, 1) := by decide +kernel
theorem dL_law_1014 : decode cL_law 1014 = .ok (.iaload, 1) := by decide +kernel
theorem dL_law_1015 : decode cL_law 1015 = .ok (.aload_n 0, 1) := by decide +kernel
theorem dL_law_1016 : decode cL_law 1016 = .ok (.iload_n 3, 1) := by decide +kernel
theorem dL_law_1017 : decode cL_law 1017 = .ok (.iconst 2, 1) := by decide +kernel
theorem dL_law_1018 : decode cL_law 1018 = .ok (.iadd, 1) := by decide +kernel
theorem dL_law_1019 : decode cL_law 1019 = .ok (.iaload, 1) := by decide +kernel
theorem dL_law_1020 : decode cL_law 1020 = .ok (.aload_n 0, 1) := by decide +kernel
theorem dL_law_1021 : decode cL_law 1021 = .ok (.iload_n 3, 1) := by decide +kernel
theorem dL_law_1022 : decode cL_law 1022 = .ok (.iconst 3, 1) := by decide +kernel
theorem dL_law_1023 : decode cL_law 1023 = .ok (.iadd, 1) := by decide +kernel
theorem dL_law_1024 : decode cL_law 1024 = .ok (.iaload, 1) := by decide +kernel
theorem dL_law_1025 : decode cL_law 1025 = .ok (.aload_n 0, 1) := by decide +kernel
theorem dL_law_1026 : decode cL_law 1026 = .ok (.iload_n 3, 1) := by decide +kernel
theorem dL_law_1027 : decode cL_law 1027 = .ok (.iconst 4, 1) := by decide +kernel
theorem dL_law_1028 : decode cL_law 1028 = .ok (.iadd, 1) := by decide +kernel
theorem dL_law_1029 : decode cL_law 1029 = .ok (.iaload, 1) := by decide +kernel
theorem dL_law_1030 : decode cL_law 1030 = .ok (.aload_n 0, 1) := by decide +kernel
theorem dL_law_1031 : decode cL_law 1031 = .ok (.iload_n 3, 1) := by decide +kernel
theorem dL_law_1032 : decode cL_law 1032 = .ok (.iconst 5, 1) := by decide +kernel
theorem dL_law_1033 : decode cL_law 1033 = .ok (.iadd, 1) := by decide +kernel
theorem dL_law_1034 : decode cL_law 1034 = .ok (.iaload, 1) := by decide +kernel
theorem dL_law_1035 : decode cL_law 1035 = .ok (.invokevirtual 124, 3) := by decide +kernel
theorem dL_law_1038 : decode cL_law 1038 = .ok (.if_icmp .eq 189, 3) := by decide +kernel
theorem dL_law_1041 : decode cL_law 1041 = .ok (.iconst 0, 1) := by decide +kernel
theorem dL_law_1042 : decode cL_law 1042 = .ok (.ireturn, 1) := by decide +kernel
theorem dL_law_1043 : decode cL_law 1043 = .ok (.aload_n 1, 1) := by decide +kernel
theorem dL_law_1044 : decode cL_law 1044 = .ok (.aload_n 0, 1) := by decide +kernel
theorem dL_law_1045 : decode cL_law 1045 = .ok (.iload_n 3, 1) := by decide +kernel
theorem dL_law_1046 : decode cL_law 1046 = .ok (.iconst 1, 1) := by decide +kernel
theorem dL_law_1047 : decode cL_law 1047 = .ok (.iadd, 1) := by decide +kernel
theorem dL_law_1048 : decode cL_law 1048 = .ok (.iaload, 1) := by decide +kernel
theorem dL_law_1049 : decode cL_law 1049 = .ok (.invokevirtual 125, 3) := by decide +kernel
theorem dL_law_1052 : decode cL_law 1052 = .ok (.aload_n 2, 1) := by decide +kernel
theorem dL_law_1053 : decode cL_law 1053 = .ok (.aload_n 0, 1) := by decide +kernel
theorem dL_law_1054 : decode cL_law 1054 = .ok (.iload_n 3, 1) := by decide +kernel
theorem dL_law_1055 : decode cL_law 1055 = .ok (.iconst 1, 1) := by decide +kernel
theorem dL_law_1056 : decode cL_law 1056 = .ok (.iadd, 1) := by decide +kernel
theorem dL_law_1057 : decode cL_law 1057 = .ok (.iaload, 1) := by decide +kernel
theorem dL_law_1058 : decode cL_law 1058 = .ok (.invokevirtual 128, 3) := by decide +kernel
theorem dL_law_1061 : decode cL_law 1061 = .ok (.if_icmp .eq 166, 3) := by decide +kernel
theorem dL_law_1064 : decode cL_law 1064 = .ok (.iconst 0, 1) := by decide +kernel
theorem dL_law_1065 : decode cL_law 1065 = .ok (.ireturn, 1) := by decide +kernel
theorem dL_law_1066 : decode cL_law 1066 = .ok (.aload_n 1, 1) := by decide +kernel
theorem dL_law_1067 : decode cL_law 1067 = .ok (.aload_n 0, 1) := by decide +kernel
theorem dL_law_1068 : decode cL_law 1068 = .ok (.iload_n 3, 1) := by decide +kernel
theorem dL_law_1069 : decode cL_law 1069 = .ok (.iconst 1, 1) := by decide +kernel
theorem dL_law_1070 : decode cL_law 1070 = .ok (.iadd, 1) := by decide +kernel
theorem dL_law_1071 : decode cL_law 1071 = .ok (.iaload, 1) := by decide +kernel
theorem dL_law_1072 : decode cL_law 1072 = .ok (.aload_n 0, 1) := by decide +kernel
theorem dL_law_1073 : decode cL_law 1073 = .ok (.iload_n 3, 1) := by decide +kernel
theorem dL_law_1074 : decode cL_law 1074 = .ok (.iconst 2, 1) := by decide +kernel
theorem dL_law_1075 : decode cL_law 1075 = .ok (.iadd, 1) := by decide +kernel
theorem dL_law_1076 : decode cL_law 1076 = .ok (.iaload, 1) := by decide +kernel
theorem dL_law_1077 : decode cL_law 1077 = .ok (.invokevirtual 129, 3) := by decide +kernel
theorem dL_law_1080 : decode cL_law 1080 = .ok (.aload_n 2, 1) := by decide +kernel
theorem dL_law_1081 : decode cL_law 1081 = .ok (.aload_n 0, 1) := by decide +kernel
theorem dL_law_1082 : decode cL_law 1082 = .ok (.iload_n 3, 1) := by decide +kernel
theorem dL_law_1083 : decode cL_law 1083 = .ok (.iconst 1, 1) := by decide +kernel
theorem dL_law_1084 : decode cL_law 1084 = .ok (.iadd, 1) := by decide +kernel
theorem dL_law_1085 : decode cL_law 1085 = .ok (.iaload, 1) := by decide +kernel
theorem dL_law_1086 : decode cL_law 1086 = .ok (.aload_n 0, 1) := by decide +kernel
theorem dL_law_1087 : decode cL_law 1087 = .ok (.iload_n 3, 1) := by decide +kernel
theorem dL_law_1088 : decode cL_law 1088 = .ok (.iconst 2, 1) := by decide +kernel
theorem dL_law_1089 : decode cL_law 1089 = .ok (.iadd, 1) := by decide +kernel
theorem dL_law_1090 : decode cL_law 1090 = .ok (.iaload, 1) := by decide +kernel
theorem dL_law_1091 : decode cL_law 1091 = .ok (.invokevirtual 132, 3) := by decide +kernel
theorem dL_law_1094 : decode cL_law 1094 = .ok (.if_icmp .eq 133, 3) := by decide +kernel
theorem dL_law_1097 : decode cL_law 1097 = .ok (.iconst 0, 1) := by decide +kernel
theorem dL_law_1098 : decode cL_law 1098 = .ok (.ireturn, 1) := by decide +kernel
theorem dL_law_1099 : decode cL_law 1099 = .ok (.aload_n 1, 1) := by decide +kernel
theorem dL_law_1100 : decode cL_law 1100 = .ok (.aload_n 0, 1) := by decide +kernel
theorem dL_law_1101 : decode cL_law 1101 = .ok (.iload_n 3, 1) := by decide +kernel
theorem dL_law_1102 : decode cL_law 1102 = .ok (.iconst 1, 1) := by decide +kernel
theorem dL_law_1103 : decode cL_law 1103 = .ok (.iadd, 1) := by decide +kernel
theorem dL_law_1104 : decode cL_law 1104 = .ok (.iaload, 1) := by decide +kernel
theorem dL_law_1105 : decode cL_law 1105 = .ok (.aload_n 0, 1) := by decide +kernel
theorem dL_law_1106 : decode cL_law 1106 = .ok (.iload_n 3, 1) := by decide +kernel
theorem dL_law_1107 : decode cL_law 1107 = .ok (.iconst 2, 1) := by decide +kernel
theorem dL_law_1108 : decode cL_law 1108 = .ok (.iadd, 1) := by decide +kernel
theorem dL_law_1109 : decode cL_law 1109 = .ok (.iaload, 1) := by decide +kernel
theorem dL_law_1110 : decode cL_law 1110 = .ok (.aload_n 0, 1) := by decide +kernel
theorem dL_law_1111 : decode cL_law 1111 = .ok (.iload_n 3, 1) := by decide +kernel
theorem dL_law_1112 : decode cL_law 1112 = .ok (.iconst 3, 1) := by decide +kernel
theorem dL_law_1113 : decode cL_law 1113 = .ok (.iadd, 1) := by decide +kernel
theorem dL_law_1114 : decode cL_law 1114 = .ok (.iaload, 1) := by decide +kernel
theorem dL_law_1115 : decode cL_law 1115 = .ok (.invokevirtual 133, 3) := by decide +kernel
theorem dL_law_1118 : decode cL_law 1118 = .ok (.aload_n 2, 1) := by decide +kernel
theorem dL_law_1119 : decode cL_law 1119 = .ok (.aload_n 0, 1) := by decide +kernel
theorem dL_law_1120 : decode cL_law 1120 = .ok (.iload_n 3, 1) := by decide +kernel
theorem dL_law_1121 : decode cL_law 1121 = .ok (.iconst 1, 1) := by decide +kernel
theorem dL_law_1122 : decode cL_law 1122 = .ok (.iadd, 1) := by decide +kernel
theorem dL_law_1123 : decode cL_law 1123 = .ok (.iaload, 1) := by decide +kernel
theorem dL_law_1124 : decode cL_law 1124 = .ok (.aload_n 0, 1) := by decide +kernel
theorem dL_law_1125 : decode cL_law 1125 = .ok (.iload_n 3, 1) := by decide +kernel
theorem dL_law_1126 : decode cL_law 1126 = .ok (.iconst 2, 1) := by decide +kernel
theorem dL_law_1127 : decode cL_law 1127 = .ok (.iadd, 1) := by decide +kernel
theorem dL_law_1128 : decode cL_law 1128 = .ok (.iaload, 1) := by decide +kernel
theorem dL_law_1129 : decode cL_law 1129 = .ok (.aload_n 0, 1) := by decide +kernel
theorem dL_law_1130 : decode cL_law 1130 = .ok (.iload_n 3, 1) := by decide +kernel
theorem dL_law_1131 : decode cL_law 1131 = .ok (.iconst 3, 1) := by decide +kernel
theorem dL_law_1132 : decode cL_law 1132 = .ok (.iadd, 1) := by decide +kernel
theorem dL_law_1133 : decode cL_law 1133 = .ok (.iaload, 1) := by decide +kernel
theorem dL_law_1134 : decode cL_law 1134 = .ok (.invokevirtual 136, 3) := by decide +kernel
theorem dL_law_1137 : decode cL_law 1137 = .ok (.if_icmp .eq 90, 3) := by decide +kernel
theorem dL_law_1140 : decode cL_law 1140 = .ok (.iconst 0, 1) := by decide +kernel
theorem dL_law_1141 : decode cL_law 1141 = .ok (.ireturn, 1) := by decide +kernel
theorem dL_law_1142 : decode cL_law 1142 = .ok (.aload_n 1, 1) := by decide +kernel
theorem dL_law_1143 : decode cL_law 1143 = .ok (.invokevirtual 137, 3) := by decide +kernel
theorem dL_law_1146 : decode cL_law 1146 = .ok (.aload_n 2, 1) := by decide +kernel
theorem dL_law_1147 : decode cL_law 1147 = .ok (.invokevirtual 140, 3) := by decide +kernel
theorem dL_law_1150 : decode cL_law 1150 = .ok (.if_icmp .eq 77, 3) := by decide +kernel
theorem dL_law_1153 : decode cL_law 1153 = .ok (.iconst 0, 1) := by decide +kernel
theorem dL_law_1154 : decode cL_law 1154 = .ok (.ireturn, 1) := by decide +kernel
theorem dL_law_1155 : decode cL_law 1155 = .ok (.aload_n 1, 1) := by decide +kernel
theorem dL_law_1156 : decode cL_law 1156 = .ok (.invokevirtual 141, 3) := by decide +kernel
theorem dL_law_1159 : decode cL_law 1159 = .ok (.aload_n 2, 1) := by decide +kernel
theorem dL_law_1160 : decode cL_law 1160 = .ok (.invokevirtual 144, 3) := by decide +kernel
theorem dL_law_1163 : decode cL_law 1163 = .ok (.if_icmp .eq 64, 3) := by decide +kernel
theorem dL_law_1166 : decode cL_law 1166 = .ok (.iconst 0, 1) := by decide +kernel
theorem dL_law_1167 : decode cL_law 1167 = .ok (.ireturn, 1) := by decide +kernel
theorem dL_law_1168 : decode cL_law 1168 = .ok (.aload_n 1, 1) := by decide +kernel
theorem dL_law_1169 : decode cL_law 1169 = .ok (.invokevirtual 145, 3) := by decide +kernel
theorem dL_law_1172 : decode cL_law 1172 = .ok (.aload_n 2, 1) := by decide +kernel
theorem dL_law_1173 : decode cL_law 1173 = .ok (.invokevirtual 148, 3) := by decide +kernel
theorem dL_law_1176 : decode cL_law 1176 = .ok (.if_icmp .eq 51, 3) := by decide +kernel
theorem dL_law_1179 : decode cL_law 1179 = .ok (.iconst 0, 1) := by decide +kernel
theorem dL_law_1180 : decode cL_law 1180 = .ok (.ireturn, 1) := by decide +kernel
theorem dL_law_1181 : decode cL_law 1181 = .ok (.aload_n 1, 1) := by decide +kernel
theorem dL_law_1182 : decode cL_law 1182 = .ok (.aload_n 0, 1) := by decide +kernel
theorem dL_law_1183 : decode cL_law 1183 = .ok (.iload_n 3, 1) := by decide +kernel
theorem dL_law_1184 : decode cL_law 1184 = .ok (.iconst 1, 1) := by decide +kernel
theorem dL_law_1185 : decode cL_law 1185 = .ok (.iadd, 1) := by decide +kernel
theorem dL_law_1186 : decode cL_law 1186 = .ok (.iaload, 1) := by decide +kernel
theorem dL_law_1187 : decode cL_law 1187 = .ok (.invokevirtual 149, 3) := by decide +kernel
theorem dL_law_1190 : decode cL_law 1190 = .ok (.aload_n 2, 1) := by decide +kernel
theorem dL_law_1191 : decode cL_law 1191 = .ok (.aload_n 0, 1) := by decide +kernel
theorem dL_law_1192 : decode cL_law 1192 = .ok (.iload_n 3, 1) := by decide +kernel
theorem dL_law_1193 : decode cL_law 1193 = .ok (.iconst 1, 1) := by decide +kernel
theorem dL_law_1194 : decode cL_law 1194 = .ok (.iadd, 1) := by decide +kernel
theorem dL_law_1195 : decode cL_law 1195 = .ok (.iaload, 1) := by decide +kernel
theorem dL_law_1196 : decode cL_law 1196 = .ok (.invokevirtual 152, 3) := by decide +kernel
theorem dL_law_1199 : decode cL_law 1199 = .ok (.if_icmp .eq 28, 3) := by decide +kernel
theorem dL_law_1202 : decode cL_law 1202 = .ok (.iconst 0, 1) := by decide +kernel
theorem dL_law_1203 : decode cL_law 1203 = .ok (.ireturn, 1) := by decide +kernel
theorem dL_law_1204 : decode cL_law 1204 = .ok (.aload_n 1, 1) := by decide +kernel
theorem dL_law_1205 : decode cL_law 1205 = .ok (.aload_n 0, 1) := by decide +kernel
theorem dL_law_1206 : decode cL_law 1206 = .ok (.iload_n 3, 1) := by decide +kernel
theorem dL_law_1207 : decode cL_law 1207 = .ok (.iconst 1, 1) := by decide +kernel
theorem dL_law_1208 : decode cL_law 1208 = .ok (.iadd, 1) := by decide +kernel
theorem dL_law_1209 : decode cL_law 1209 = .ok (.iaload, 1) := by decide +kernel
theorem dL_law_1210 : decode cL_law 1210 = .ok (.invokevirtual 153, 3) := by decide +kernel
theorem dL_law_1213 : decode cL_law 1213 = .ok (.aload_n 2, 1) := by decide +kernel
theorem dL_law_1214 : decode cL_law 1214 = .ok (.aload_n 0, 1) := by decide +kernel
theorem dL_law_1215 : decode cL_law 1215 = .ok (.iload_n 3, 1) := by decide +kernel
theorem dL_law_1216 : decode cL_law 1216 = .ok (.iconst 1, 1) := by decide +kernel
theorem dL_law_1217 : decode cL_law 1217 = .ok (.iadd, 1) := by decide +kernel
theorem dL_law_1218 : decode cL_law 1218 = .ok (.iaload, 1) := by decide +kernel
theorem dL_law_1219 : decode cL_law 1219 = .ok (.invokevirtual 156, 3) := by decide +kernel
theorem dL_law_1222 : decode cL_law 1222 = .ok (.if_icmp .eq 5, 3) := by decide +kernel
theorem dL_law_1225 : decode cL_law 1225 = .ok (.iconst 0, 1) := by decide +kernel
theorem dL_law_1226 : decode cL_law 1226 = .ok (.ireturn, 1) := by decide +kernel
theorem dL_law_1227 : decode cL_law 1227 = .ok (.iinc 3 6, 3) := by decide +kernel
theorem dL_law_1230 : decode cL_law 1230 = .ok (.goto (-1212), 3) := by decide +kernel
theorem dL_law_1233 : decode cL_law 1233 = .ok (.iconst 1, 1) := by decide +kernel
theorem dL_law_1234 : decode cL_law 1234 = .ok (.ireturn, 1) := by decide +kernel
end
section
/-! the walk's own layer: a world of 57 cells at fixed places, locals by their slots, contracts over the whole world -/
abbrev GG : Type := va_G × ClassId × ClassId × ClassId × (Nat → Nat) × (Nat → Nat) × (Nat → Nat) × Nat
def gD (g : GG) : va_G := g.1
def gI (g : GG) : ClassId := g.2.1
def gJ (g : GG) : ClassId := g.2.2.1
def gS (g : GG) : ClassId := g.2.2.2.1
def ga (g : GG) : Nat → Nat := g.2.2.2.2.1
def gK (g : GG) : Nat → Nat := g.2.2.2.2.2.1
def gV (g : GG) : Nat → Nat := g.2.2.2.2.2.2.1
def gB (g : GG) : Nat := g.2.2.2.2.2.2.2
def gty (g : GG) : List (ClassId × FieldType) := [(gI g, .int), (gJ g, .long), (gS g, .object RX2)]
abbrev Hp : Type := Nat → va_E
def ci (g : GG) (n : Nat) (f : Nat → Int32) : va_E := .inl (gI g, n, .inl f)
def cj (g : GG) (n : Nat) (f : Nat → Int64) : va_E := .inl (gJ g, n, .inr (.inl f))
def cs (g : GG) (n : Nat) (f : Nat → Option Nat) : va_E := .inl (gS g, n, .inr (.inr (.inr (.inr f))))
def co (k : Nat) (fs : List Value) : va_E := .inr (k, fs)
def wl (g : GG) (h : Hp) : va_W := (List.range 57).map (fun k => (ga g k, h k))
theorem wl_at {g : GG} {h : Hp} {k : Nat} (hk : k < 57) : (wl g h)[k]? = some (ga g k, h k) := by
  simp [wl, hk]
theorem wl_set {g : GG} {h : Hp} {k : Nat} (e : va_E) (hk : k < 57) : (wl g h).set k (ga g k, e) = wl g (va_up h k e) := by
  apply List.ext_getElem?
  intro i
  by_cases hi : i < 57
  · rw [wl_at hi]
    by_cases hik : i = k
    · subst hik
      rw [List.getElem?_set_self (by simp [wl, hk])]
      simp [va_up]
    · rw [List.getElem?_set_ne (fun z => hik z.symm), wl_at hi]
      simp [va_up, hik]
  · rw [List.getElem?_eq_none (by simp [wl]; omega), List.getElem?_eq_none (by simp [wl]; omega)]
/-! locals by their slots -/
def lvh (ls : Array Slot) (nL : Nat) (lv : List (Option Value)) : Prop := ls.size = nL ∧ lv_wf ls ∧ ∀ (i : Nat) (v : Value), lv[i]? = some (some v) → ls[i]? = some (.val v)
def lvl (lv : List (Option Value)) : List (Nat × Value) := (List.range lv.length).filterMap (fun i => (lv[i]?.getD none).map (fun v => (i, v)))
theorem lvl_mem {lv : List (Option Value)} {i : Nat} {v : Value} : (i, v) ∈ lvl lv ↔ lv[i]? = some (some v) := by
  simp only [lvl, List.mem_filterMap, List.mem_range]
  constructor
  · rintro ⟨j, hj, h⟩
    rw [List.getElem?_eq_getElem hj] at h
    simp only [Option.getD_some] at h
    cases hv : lv[j] with
    | none => rw [hv] at h; simp at h
    | some w =>
      rw [hv] at h
      simp only [Option.map_some, Option.some.injEq, Prod.mk.injEq] at h
      obtain ⟨rfl, rfl⟩ := h
      rw [List.getElem?_eq_getElem hj, hv]
  · intro h
    refine ⟨i, (List.getElem?_eq_some_iff.mp h).1, ?_⟩
    rw [h]
    rfl
theorem lvh_has {ls : Array Slot} {nL : Nat} {lv : List (Option Value)} (h : lvh ls nL lv) : lv_has ls nL (lvl lv) :=
  ⟨h.1, h.2.1, fun q hq => h.2.2 q.1 q.2 (lvl_mem.mp hq)⟩
def noL (lv : List (Option Value)) : Nat → Bool
  | 0 => true
  | j + 1 => match lv[j]? with
    | some (some w) => w.category == 1
    | _ => true
theorem noL_sp {lv : List (Option Value)} {i j : Nat} {w : Value} (h : noL lv i = true) (hj : j + 1 = i) (hw : lv[j]? = some (some w)) : ¬ w.category = 2 := by
  subst hj
  simp only [noL, hw, beq_iff_eq] at h
  omega
theorem lvh_st1 {ls : Array Slot} {nL i : Nat} {v : Value} {lv : List (Option Value)} (h : lv_has ls nL ((i, v) :: (lvl lv).filter (fun q => !(q.1 == i) && !(q.1 + 1 == i && q.2.category == 2)))) (hn : noL lv i = true) : lvh ls nL (lv.set i (some v)) := by
  refine ⟨h.1, h.2.1, fun j w hj => ?_⟩
  by_cases hji : j = i
  · subst hji
    have hl : j < lv.length := by
      have := (List.getElem?_eq_some_iff.mp hj).1
      simpa using this
    rw [List.getElem?_set_self hl] at hj
    cases hj
    exact h.2.2 (j, v) List.mem_cons_self
  · rw [List.getElem?_set_ne (fun z => hji z.symm)] at hj
    refine h.2.2 (j, w) (List.mem_cons_of_mem _ (List.mem_filter.mpr ⟨lvl_mem.mpr hj, ?_⟩))
    simp only [Bool.and_eq_true, Bool.not_eq_true', beq_eq_false_iff_ne, Bool.and_eq_false_iff]
    refine ⟨hji, ?_⟩
    by_cases hc : j + 1 = i
    · exact Or.inr (noL_sp hn hc hj)
    · exact Or.inl hc
theorem lvh_st2 {ls : Array Slot} {nL i : Nat} {v : Value} {lv : List (Option Value)} (h : lv_has ls nL ((i, v) :: (lvl lv).filter (fun q => !(q.1 == i) && (!(q.1 == i + 1) && !(q.1 + 1 == i && q.2.category == 2))))) (hn : noL lv i = true) : lvh ls nL ((lv.set i (some v)).set (i + 1) none) := by
  refine ⟨h.1, h.2.1, fun j w hj => ?_⟩
  by_cases hj1 : j = i + 1
  · subst hj1
    have hl : i + 1 < (lv.set i (some v)).length := (by
      have := (List.getElem?_eq_some_iff.mp hj).1
      simpa using this)
    rw [List.getElem?_set_self hl] at hj
    cases hj
  · rw [List.getElem?_set_ne (fun z => hj1 z.symm)] at hj
    by_cases hji : j = i
    · subst hji
      have hl : j < lv.length := by
        have := (List.getElem?_eq_some_iff.mp hj).1
        simpa using this
      rw [List.getElem?_set_self hl] at hj
      cases hj
      exact h.2.2 (j, v) List.mem_cons_self
    · rw [List.getElem?_set_ne (fun z => hji z.symm)] at hj
      refine h.2.2 (j, w) (List.mem_cons_of_mem _ (List.mem_filter.mpr ⟨lvl_mem.mpr hj, ?_⟩))
      simp only [Bool.and_eq_true, Bool.not_eq_true', beq_eq_false_iff_ne, Bool.and_eq_false_iff]
      refine ⟨hji, hj1, ?_⟩
      by_cases hc : j + 1 = i
      · exact Or.inr (noL_sp hn hc hj)
      · exact Or.inl hc
def ent : List Value → Nat → List (Option Value)
  | [], n => List.replicate n none
  | v :: vs, n => if v.category = 2 then some v :: none :: ent vs (n - 2) else some v :: ent vs (n - 1)
theorem ent_args : ∀ (vs : List Value) (n i k : Nat) (v : Value), (ent vs n)[i]? = some (some v) → (k + i, v) ∈ lv_args k vs
  | [], n, i, k, v, h => by
    simp only [ent] at h
    have := List.mem_of_getElem? h
    simp at this
  | a :: vs, n, i, k, v, h => by
    simp only [ent] at h
    simp only [lv_args]
    by_cases hc : a.category = 2
    · rw [if_pos hc] at h
      rw [if_pos hc]
      match i, h with
      | 0, h => simp at h; subst h; simp
      | 1, h => simp at h
      | i + 2, h =>
        have := ent_args vs (n - 2) i (k + 2) v (by simpa using h)
        refine List.mem_cons_of_mem _ ?_
        rw [show k + (i + 2) = k + 2 + i by omega]
        exact this
    · rw [if_neg hc] at h
      rw [if_neg hc]
      match i, h with
      | 0, h => simp at h; subst h; simp
      | i + 1, h =>
        have := ent_args vs (n - 1) i (k + 1) v (by simpa using h)
        refine List.mem_cons_of_mem _ ?_
        rw [show k + (i + 1) = k + 1 + i by omega]
        exact this
/-! the table of words that go through every call -/
def gTb : List Cond := lw_tbl.filter goodWord
theorem gTb_at {w : Cond} (i : Nat) (h : lw_tbl[i]? = some w) (hg : goodWord w = true) : w ∈ gTb := List.mem_filter.mpr ⟨List.mem_of_getElem? h, hg⟩
theorem gTb_good {w : Cond} (h : w ∈ gTb) : goodWord w = true := (List.mem_filter.mp h).2
theorem gTb_tbl {w : Cond} (h : w ∈ gTb) : w ∈ lw_tbl := (List.mem_filter.mp h).1
/-! what stays for ever: nest words, the row ABOVE, the texts -/
def aboveF (j : Nat) : Value := .int (([-1, 0, 0, 0, 1, 2] : List Int32).getD j 0)
def txLen : List Nat := [6, 5, 3, 8, 7, 8, 5, 4, 4]
def txByt : List (List Int32) := [[109, 101, 109, 98, 101, 114], [101, 108, 100, 101, 114], [98, 111, 121], [115, 116, 114, 97, 110, 103, 101, 114], [104, 101, 114, 101, 116, 105, 99], [99, 104, 111, 105, 114, 98, 111, 121], [107, 110, 111, 119, 115], [109, 111, 118, 101], [100, 101, 101, 112]]
def txIdx : List Nat := [123, 125, 127, 129, 131, 133, 135, 136, 138]
def txTxt : List String := ["member", "elder", "boy", "stranger", "heretic", "choirboy", "knows", "move", "deep"]
def Gl (g : GG) (A : Nat → Prop) (U : State) : Prop :=
  va_Nw (.methodLinkNest RX0 58 yX4_within RX4) U ∧ va_Nw (.methodLinkNest RX3 84 yX4_within RX4) U ∧
  va_Z RX1 "ABOVE" "[I" (.ref (gB g)) A U U.heap ∧ va_T .int (gB g) 6 aboveF A U U.heap ∧
  vk_S 9 txLen txByt (gK g) (gV g) A U U.heap ∧ (∀ i, i < 9 → vk_R RX3 (txIdx.getD i 0) (txTxt.getD i "") (gK g i) U) ∧
  va_Z "java/lang/String" "COMPACT_STRINGS" "Z" (.int 1) A U U.heap ∧ va_Zq "jdk/internal/util/Preconditions" "SIOOBE_FORMATTER" "Ljava/util/function/BiFunction;" A U U.heap
theorem Gl.same {g : GG} {A : Nat → Prop} {u U : State} (hv : U.vm = u.vm) (hh : U.heap = u.heap) (h : Gl g A u) : Gl g A U := by
  obtain ⟨h1, h2, h3, h4, h5, h6, h7, h8⟩ := h
  have hl : u.vm.Alike U.vm := by rw [hv]; exact Vm.Alike.refl _
  exact ⟨va_Nw.same rfl hv.symm h1, va_Nw.same rfl hv.symm h2, by rw [hh]; exact h3.moved hl, by rw [hh]; exact h4.moved hl, by rw [hh]; exact h5.moved hl, fun i hi => vk_R.same hv (h6 i hi), by rw [hh]; exact h7.moved hl, by rw [hh]; exact h8.moved hl⟩
theorem Gl.call {g : GG} {A B : Nat → Prop} {s U : State} {H : Heap} {locs : List Loc} (h : Gl g A s) (hS : va_S A s.heap H locs) (hAB : ∀ q, B q → A q) (hU : U.heap = H) (hW : s.WarmedH U.vm) : Gl g B U := by
  obtain ⟨h1, h2, h3, h4, h5, h6, h7, h8⟩ := h
  have hl : s.vm.Alike U.vm := hW.alike
  exact ⟨va_Nw.warmM hW h1, va_Nw.warmM hW h2, by rw [hU]; exact ((h3.kept hS.2.1).narrow hAB).moved hl, by rw [hU]; exact ((h4.kept hS.2.1).narrow hAB).moved hl, by rw [hU]; exact ((h5.kept hS.2.1).narrow hAB).moved hl, fun i hi => vk_R.warm hW (h6 i hi), by rw [hU]; exact ((h7.kept hS.2.1).narrow hAB).moved hl, by rw [hU]; exact ((h8.kept hS.2.1).narrow hAB).moved hl⟩
/-! contracts -/
def CQ (g : GG) (h0 : Hp) (sz : Nat) (post : Option Value → Hp → Prop) : Array Value → State → Outcome → State → Prop := fun _ st oc t =>
  (∃ (v : Option Value) (h' : Hp), oc = .returned v ∧ post v h' ∧ va_P (gD g) vwCl (wl g h') t.heap ∧ va_D (va_A (wl g h0) sz) (wl g h')) ∧ va_F (va_A (wl g h0) sz) st t
def CP (g : GG) (h0 : Hp) (sz : Nat) (U : State) : Prop := U.heap.size = sz ∧ va_P (gD g) vwCl (wl g h0) U.heap ∧ va_K (gD g) vwCl (gty g) U ∧ va_D (fun _ => True) (wl g h0) ∧ Gl g (va_A (wl g h0) sz) U
abbrev MM : Type := MethodName × ByteArray × Nat × Option FieldType × Room
def rmM (fr lo : Nat) : Room := { frames := fr, cells := 0, slots := 0, locals := lo }
def CT (l : Launch) (g : GG) (M : MM) (av : List Value) (h : Hp) (post : Option Value → Hp → Prop) : Prop :=
  ∀ sz : Nat, Met l M.1 (Cond.code M.1 M.2.1 M.2.2.1 M.2.2.2.1 :: gTb) M.2.2.2.2 (va_Pc av (CP g h sz)) (CQ g h sz post) 0 0 (va_A (wl g h) sz)
theorem CP_blind {g : GG} {h : Hp} {sz : Nat} {av : List Value} : FrameBlind (va_Pc av (CP g h sz)) := by
  intro a U gg mk q
  obtain ⟨q0, q1, q2, q3, q4, q5⟩ := q
  exact ⟨q0, q1, q2, va_K.moved (u := U) (U := U.calling gg mk a) (Vm.Alike.refl U.vm) q3, q4, Gl.same (u := U) rfl rfl q5⟩
section AWL
variable {p : Program} {l : Launch} {e : Env} {R : Room} {s : State} {m : MethodId} {args : Array Value} {below : List Frame} {meth : Method} {c : Code} {g : GG} {A : Nat → Prop} {cc : ByteArray} {nL : Nat} {own : String} {w0 : Cond} {ret : Option FieldType} {cells slots : Nat} {Q : State → Prop} {pc : Nat} {lv : List (Option Value)} {st : List Value} {h : Hp}
/-- what holds while a method runs -/
def AX (p : Program) (s : State) (m : MethodId) (args : Array Value) (meth : Method) (c : Code) (g : GG) (A : Nat → Prop) (cc : ByteArray) (nL : Nat) (own : String) (w0 : Cond) (ret : Option FieldType) : Prop :=
  CallFix p m c cc nL s args (w0 :: gTb) own ∧ va_K (gD g) vwCl (gty g) s ∧ Gl g A s ∧ (∀ q, s.heap.size ≤ q → A q) ∧ meth.sig.returnType = ret ∧ meth.locks = false
def AW (p : Program) (l : Launch) (e : Env) (R : Room) (s : State) (m : MethodId) (args : Array Value) (below : List Frame) (meth : Method) (c : Code) (g : GG) (A : Nat → Prop) (nL : Nat) (cells slots : Nat) (Q : State → Prop) (pc : Nat) (lv : List (Option Value)) (st : List Value) (h : Hp) : Prop :=
  ∀ (H : Heap) (locs : List Loc) (ls : Array Slot), va_P (gD g) vwCl (wl g h) H → va_D A (wl g h) → va_S A s.heap H locs → lvh ls nL lv → W p l e R s m args below meth c H locs cells slots Q (F0 m pc ls st)
theorem ct_start {M : MM} {av : List Value} {post : Option Value → Hp → Prop} (hy : plainName M.1.cls = true) (hlen : (lg_sl av).length ≤ M.2.2.1)
    (body : ∀ (p : Program) (e : Env) (s : State) (m : MethodId) (args : Array Value) (below : List Frame) (meth : Method) (c : Code) (A : Nat → Prop), AX p s m args meth c g A M.2.1 M.2.2.1 M.1.cls (Cond.code M.1 M.2.1 M.2.2.1 M.2.2.2.1) M.2.2.2.1 →
      A = va_A (wl g h) s.heap.size → AW p l e M.2.2.2.2 s m args below meth c g A M.2.2.1 0 0 (MQ below (CQ g h s.heap.size post) args s 0 0 A) 0 (ent av M.2.2.1) [] h) : CT l g M av h post := by
  intro sz
  refine Met.ofW (cc := M.2.1) (maxL := M.2.2.1) (ret := M.2.2.2.1) hy rfl ?_
  intro p e s m args below meth c s₁ B hml hv
  obtain ⟨rfl, rfl, hP, hK, hD0, hG⟩ := hv
  have hts := atoms_spec (ws := Cond.code M.1 M.2.1 M.2.2.1 M.2.2.2.1 :: gTb) B.pre
  have hown : s.vm.findClass M.1.cls = some m.cls := findClass_of_methodNamed B.named
  have hD := hD0.self (sz := s.heap.size)
  have hl := lv_entry av (n := M.2.2.1) hlen
  rw [lg_entry_eq]
  refine body p e s m _ below meth c _ ⟨⟨B.exec, B.bytes, hml, hown, hts⟩, hK, hG, fun q hq => Or.inr hq, B.returns, B.notSynchronized⟩ rfl s.heap [] _ hP hD va_S.rf ⟨hl.1, hl.2.1, fun i v hi => ?_⟩
  have := ent_args av M.2.2.1 i 0 v hi
  rw [Nat.zero_add] at this
  exact hl.2.2 (i, v) this
end AWL
end
section
section ROWS
variable {p : Program} {l : Launch} {e : Env} {R : Room} {s : State} {m : MethodId} {args : Array Value} {below : List Frame} {meth : Method} {c : Code} {g : GG} {A : Nat → Prop} {cc : ByteArray} {nL : Nat} {own : String} {w0 : Cond} {ret : Option FieldType} {cells slots : Nat} {Q : State → Prop} {pc : Nat} {lv : List (Option Value)} {st : List Value} {h : Hp}
theorem a_iconst (X : AX p s m args meth c g A cc nL own w0 ret) {n : Int} {v : Int32} (hd : decode cc pc = .ok (.iconst n, 1)) (he : Int32.ofInt n = v) (k : AW p l e R s m args below meth c g A nL cells slots Q (pc + 1) (lv) (.int v :: st) (h)) : AW p l e R s m args below meth c g A nL cells slots Q (pc) (lv) (st) (h) := fun H locs ls hP hD hS hv => lv_iconst X.1.1 X.1.2.1 hd he (k H locs ls hP hD hS hv)
theorem a_bipush (X : AX p s m args meth c g A cc nL own w0 ret) {n : Int} {v : Int32} (hd : decode cc pc = .ok (.bipush n, 2)) (he : (Int8.ofInt n).toInt32 = v) (k : AW p l e R s m args below meth c g A nL cells slots Q (pc + 2) (lv) (.int v :: st) (h)) : AW p l e R s m args below meth c g A nL cells slots Q (pc) (lv) (st) (h) := fun H locs ls hP hD hS hv => lv_bipush X.1.1 X.1.2.1 hd he (k H locs ls hP hD hS hv)
theorem a_sipush (X : AX p s m args meth c g A cc nL own w0 ret) {n : Int} {v : Int32} (hd : decode cc pc = .ok (.sipush n, 3)) (he : (Int16.ofInt n).toInt32 = v) (k : AW p l e R s m args below meth c g A nL cells slots Q (pc + 3) (lv) (.int v :: st) (h)) : AW p l e R s m args below meth c g A nL cells slots Q (pc) (lv) (st) (h) := fun H locs ls hP hD hS hv => lv_sipush X.1.1 X.1.2.1 hd he (k H locs ls hP hD hS hv)
theorem a_lconst (X : AX p s m args meth c g A cc nL own w0 ret) {n : Fin 2} {v : Int64} (hd : decode cc pc = .ok (.lconst n, 1)) (he : Int64.ofNat (n : Nat) = v) (k : AW p l e R s m args below meth c g A nL cells slots Q (pc + 1) (lv) (.long v :: st) (h)) : AW p l e R s m args below meth c g A nL cells slots Q (pc) (lv) (st) (h) := fun H locs ls hP hD hS hv => lv_lconst X.1.1 X.1.2.1 hd he (k H locs ls hP hD hS hv)
theorem a_iload_n (X : AX p s m args meth c g A cc nL own w0 ret) {q : Fin 4} {i : Nat} {x : Int32} (hd : decode cc pc = .ok (.iload_n q, 1)) (hi : (q : Nat) = i) (hl : lv[i]? = some (some (.int x))) (k : AW p l e R s m args below meth c g A nL cells slots Q (pc + 1) (lv) (.int x :: st) (h)) : AW p l e R s m args below meth c g A nL cells slots Q (pc) (lv) (st) (h) := fun H locs ls hP hD hS hv => lv_iload_n X.1.1 X.1.2.1 hd hi (hv.2.2 i _ hl) (k H locs ls hP hD hS hv)
theorem a_iload (X : AX p s m args meth c g A cc nL own w0 ret) {i : Nat} {x : Int32} (hd : decode cc pc = .ok (.iload i, 2)) (hl : lv[i]? = some (some (.int x))) (k : AW p l e R s m args below meth c g A nL cells slots Q (pc + 2) (lv) (.int x :: st) (h)) : AW p l e R s m args below meth c g A nL cells slots Q (pc) (lv) (st) (h) := fun H locs ls hP hD hS hv => lv_iload X.1.1 X.1.2.1 hd (hv.2.2 i _ hl) (k H locs ls hP hD hS hv)
theorem a_lload_n (X : AX p s m args meth c g A cc nL own w0 ret) {q : Fin 4} {i : Nat} {x : Int64} (hd : decode cc pc = .ok (.lload_n q, 1)) (hi : (q : Nat) = i) (hl : lv[i]? = some (some (.long x))) (k : AW p l e R s m args below meth c g A nL cells slots Q (pc + 1) (lv) (.long x :: st) (h)) : AW p l e R s m args below meth c g A nL cells slots Q (pc) (lv) (st) (h) := fun H locs ls hP hD hS hv => lv_lload_n X.1.1 X.1.2.1 hd hi (hv.2.2 i _ hl) (k H locs ls hP hD hS hv)
theorem a_lload (X : AX p s m args meth c g A cc nL own w0 ret) {i : Nat} {x : Int64} (hd : decode cc pc = .ok (.lload i, 2)) (hl : lv[i]? = some (some (.long x))) (k : AW p l e R s m args below meth c g A nL cells slots Q (pc + 2) (lv) (.long x :: st) (h)) : AW p l e R s m args below meth c g A nL cells slots Q (pc) (lv) (st) (h) := fun H locs ls hP hD hS hv => lv_lload X.1.1 X.1.2.1 hd (hv.2.2 i _ hl) (k H locs ls hP hD hS hv)
theorem a_aload_n (X : AX p s m args meth c g A cc nL own w0 ret) {q : Fin 4} {i : Nat} {x : Nat} (hd : decode cc pc = .ok (.aload_n q, 1)) (hi : (q : Nat) = i) (hl : lv[i]? = some (some (.ref x))) (k : AW p l e R s m args below meth c g A nL cells slots Q (pc + 1) (lv) (.ref x :: st) (h)) : AW p l e R s m args below meth c g A nL cells slots Q (pc) (lv) (st) (h) := fun H locs ls hP hD hS hv => lv_aload_n X.1.1 X.1.2.1 hd hi (hv.2.2 i _ hl) (k H locs ls hP hD hS hv)
theorem a_aload (X : AX p s m args meth c g A cc nL own w0 ret) {i : Nat} {x : Nat} (hd : decode cc pc = .ok (.aload i, 2)) (hl : lv[i]? = some (some (.ref x))) (k : AW p l e R s m args below meth c g A nL cells slots Q (pc + 2) (lv) (.ref x :: st) (h)) : AW p l e R s m args below meth c g A nL cells slots Q (pc) (lv) (st) (h) := fun H locs ls hP hD hS hv => lv_aload X.1.1 X.1.2.1 hd (hv.2.2 i _ hl) (k H locs ls hP hD hS hv)
theorem a_istore_n (X : AX p s m args meth c g A cc nL own w0 ret) {q : Fin 4} {i : Nat} {x : Int32} (hd : decode cc pc = .ok (.istore_n q, 1)) (hi : (q : Nat) = i) (hn : i < nL) (ho : noL lv i = true) (k : AW p l e R s m args below meth c g A nL cells slots Q (pc + 1) (lv.set i (some (.int x))) (st) (h)) : AW p l e R s m args below meth c g A nL cells slots Q (pc) (lv) (.int x :: st) (h) := fun H locs ls hP hD hS hv => lv_istore_n X.1.1 X.1.2.1 hd hi (lvh_has hv) hn rfl (fun ls2 hl2 => k H locs ls2 hP hD hS (lvh_st1 hl2 ho))
theorem a_istore (X : AX p s m args meth c g A cc nL own w0 ret) {i : Nat} {x : Int32} (hd : decode cc pc = .ok (.istore i, 2)) (hn : i < nL) (ho : noL lv i = true) (k : AW p l e R s m args below meth c g A nL cells slots Q (pc + 2) (lv.set i (some (.int x))) (st) (h)) : AW p l e R s m args below meth c g A nL cells slots Q (pc) (lv) (.int x :: st) (h) := fun H locs ls hP hD hS hv => lv_istore X.1.1 X.1.2.1 hd (lvh_has hv) hn rfl (fun ls2 hl2 => k H locs ls2 hP hD hS (lvh_st1 hl2 ho))
theorem a_lstore_n (X : AX p s m args meth c g A cc nL own w0 ret) {q : Fin 4} {i : Nat} {x : Int64} (hd : decode cc pc = .ok (.lstore_n q, 1)) (hi : (q : Nat) = i) (hn : i + 1 < nL) (ho : noL lv i = true) (k : AW p l e R s m args below meth c g A nL cells slots Q (pc + 1) ((lv.set i (some (.long x))).set (i + 1) none) (st) (h)) : AW p l e R s m args below meth c g A nL cells slots Q (pc) (lv) (.long x :: st) (h) := fun H locs ls hP hD hS hv => lv_lstore_n X.1.1 X.1.2.1 hd hi (lvh_has hv) hn rfl (fun ls2 hl2 => k H locs ls2 hP hD hS (lvh_st2 hl2 ho))
theorem a_lstore (X : AX p s m args meth c g A cc nL own w0 ret) {i : Nat} {x : Int64} (hd : decode cc pc = .ok (.lstore i, 2)) (hn : i + 1 < nL) (ho : noL lv i = true) (k : AW p l e R s m args below meth c g A nL cells slots Q (pc + 2) ((lv.set i (some (.long x))).set (i + 1) none) (st) (h)) : AW p l e R s m args below meth c g A nL cells slots Q (pc) (lv) (.long x :: st) (h) := fun H locs ls hP hD hS hv => lv_lstore X.1.1 X.1.2.1 hd (lvh_has hv) hn rfl (fun ls2 hl2 => k H locs ls2 hP hD hS (lvh_st2 hl2 ho))
theorem a_astore_n (X : AX p s m args meth c g A cc nL own w0 ret) {q : Fin 4} {i : Nat} {x : Nat} (hd : decode cc pc = .ok (.astore_n q, 1)) (hi : (q : Nat) = i) (hn : i < nL) (ho : noL lv i = true) (k : AW p l e R s m args below meth c g A nL cells slots Q (pc + 1) (lv.set i (some (.ref x))) (st) (h)) : AW p l e R s m args below meth c g A nL cells slots Q (pc) (lv) (.ref x :: st) (h) := fun H locs ls hP hD hS hv => lv_astore_n X.1.1 X.1.2.1 hd hi (lvh_has hv) hn rfl (fun ls2 hl2 => k H locs ls2 hP hD hS (lvh_st1 hl2 ho))
theorem a_astore (X : AX p s m args meth c g A cc nL own w0 ret) {i : Nat} {x : Nat} (hd : decode cc pc = .ok (.astore i, 2)) (hn : i < nL) (ho : noL lv i = true) (k : AW p l e R s m args below meth c g A nL cells slots Q (pc + 2) (lv.set i (some (.ref x))) (st) (h)) : AW p l e R s m args below meth c g A nL cells slots Q (pc) (lv) (.ref x :: st) (h) := fun H locs ls hP hD hS hv => lv_astore X.1.1 X.1.2.1 hd (lvh_has hv) hn rfl (fun ls2 hl2 => k H locs ls2 hP hD hS (lvh_st1 hl2 ho))
theorem a_iinc (X : AX p s m args meth c g A cc nL own w0 ret) {i : Nat} {n : Int} {x v : Int32} (hd : decode cc pc = .ok (.iinc i n, 3)) (hl : lv[i]? = some (some (.int x))) (he : x + Int32.ofInt n = v) (hn : i < nL) (ho : noL lv i = true) (k : AW p l e R s m args below meth c g A nL cells slots Q (pc + 3) (lv.set i (some (.int v))) (st) (h)) : AW p l e R s m args below meth c g A nL cells slots Q (pc) (lv) (st) (h) := fun H locs ls hP hD hS hv => by
  obtain ⟨j, hj⟩ := List.getElem?_of_mem (lvl_mem.mpr hl)
  exact lv_iinc X.1.1 X.1.2.1 hd (lvh_has hv) hj he hn rfl (fun ls2 hl2 => k H locs ls2 hP hD hS (lvh_st1 hl2 ho))
theorem a_iadd (X : AX p s m args meth c g A cc nL own w0 ret) {x y : Int32} (hd : decode cc pc = .ok (.iadd, 1))  (k : AW p l e R s m args below meth c g A nL cells slots Q (pc + 1) (lv) (.int (x + y) :: st) (h)) : AW p l e R s m args below meth c g A nL cells slots Q (pc) (lv) (.int y :: .int x :: st) (h) := fun H locs ls hP hD hS hv => lv_iadd X.1.1 X.1.2.1 hd  (k H locs ls hP hD hS hv)
theorem a_isub (X : AX p s m args meth c g A cc nL own w0 ret) {x y : Int32} (hd : decode cc pc = .ok (.isub, 1))  (k : AW p l e R s m args below meth c g A nL cells slots Q (pc + 1) (lv) (.int (x - y) :: st) (h)) : AW p l e R s m args below meth c g A nL cells slots Q (pc) (lv) (.int y :: .int x :: st) (h) := fun H locs ls hP hD hS hv => lv_isub X.1.1 X.1.2.1 hd  (k H locs ls hP hD hS hv)
theorem a_imul (X : AX p s m args meth c g A cc nL own w0 ret) {x y : Int32} (hd : decode cc pc = .ok (.imul, 1))  (k : AW p l e R s m args below meth c g A nL cells slots Q (pc + 1) (lv) (.int (x * y) :: st) (h)) : AW p l e R s m args below meth c g A nL cells slots Q (pc) (lv) (.int y :: .int x :: st) (h) := fun H locs ls hP hD hS hv => lv_imul X.1.1 X.1.2.1 hd  (k H locs ls hP hD hS hv)
theorem a_iand (X : AX p s m args meth c g A cc nL own w0 ret) {x y : Int32} (hd : decode cc pc = .ok (.iand, 1))  (k : AW p l e R s m args below meth c g A nL cells slots Q (pc + 1) (lv) (.int (x &&& y) :: st) (h)) : AW p l e R s m args below meth c g A nL cells slots Q (pc) (lv) (.int y :: .int x :: st) (h) := fun H locs ls hP hD hS hv => lv_iand X.1.1 X.1.2.1 hd  (k H locs ls hP hD hS hv)
theorem a_ior (X : AX p s m args meth c g A cc nL own w0 ret) {x y : Int32} (hd : decode cc pc = .ok (.ior, 1))  (k : AW p l e R s m args below meth c g A nL cells slots Q (pc + 1) (lv) (.int (x ||| y) :: st) (h)) : AW p l e R s m args below meth c g A nL cells slots Q (pc) (lv) (.int y :: .int x :: st) (h) := fun H locs ls hP hD hS hv => lv_ior X.1.1 X.1.2.1 hd  (k H locs ls hP hD hS hv)
theorem a_ixor (X : AX p s m args meth c g A cc nL own w0 ret) {x y : Int32} (hd : decode cc pc = .ok (.ixor, 1))  (k : AW p l e R s m args below meth c g A nL cells slots Q (pc + 1) (lv) (.int (x ^^^ y) :: st) (h)) : AW p l e R s m args below meth c g A nL cells slots Q (pc) (lv) (.int y :: .int x :: st) (h) := fun H locs ls hP hD hS hv => lv_ixor X.1.1 X.1.2.1 hd  (k H locs ls hP hD hS hv)
theorem a_ishl (X : AX p s m args meth c g A cc nL own w0 ret) {x y : Int32} (hd : decode cc pc = .ok (.ishl, 1))  (k : AW p l e R s m args below meth c g A nL cells slots Q (pc + 1) (lv) (.int (x <<< (y &&& 31)) :: st) (h)) : AW p l e R s m args below meth c g A nL cells slots Q (pc) (lv) (.int y :: .int x :: st) (h) := fun H locs ls hP hD hS hv => lv_ishl X.1.1 X.1.2.1 hd  (k H locs ls hP hD hS hv)
theorem a_ishr (X : AX p s m args meth c g A cc nL own w0 ret) {x y : Int32} (hd : decode cc pc = .ok (.ishr, 1))  (k : AW p l e R s m args below meth c g A nL cells slots Q (pc + 1) (lv) (.int (x >>> (y &&& 31)) :: st) (h)) : AW p l e R s m args below meth c g A nL cells slots Q (pc) (lv) (.int y :: .int x :: st) (h) := fun H locs ls hP hD hS hv => lv_ishr X.1.1 X.1.2.1 hd  (k H locs ls hP hD hS hv)
theorem a_ladd (X : AX p s m args meth c g A cc nL own w0 ret) {x y : Int64} (hd : decode cc pc = .ok (.ladd, 1))  (k : AW p l e R s m args below meth c g A nL cells slots Q (pc + 1) (lv) (.long (x + y) :: st) (h)) : AW p l e R s m args below meth c g A nL cells slots Q (pc) (lv) (.long y :: .long x :: st) (h) := fun H locs ls hP hD hS hv => lv_ladd X.1.1 X.1.2.1 hd  (k H locs ls hP hD hS hv)
theorem a_lsub (X : AX p s m args meth c g A cc nL own w0 ret) {x y : Int64} (hd : decode cc pc = .ok (.lsub, 1))  (k : AW p l e R s m args below meth c g A nL cells slots Q (pc + 1) (lv) (.long (x - y) :: st) (h)) : AW p l e R s m args below meth c g A nL cells slots Q (pc) (lv) (.long y :: .long x :: st) (h) := fun H locs ls hP hD hS hv => lv_lsub X.1.1 X.1.2.1 hd  (k H locs ls hP hD hS hv)
theorem a_lmul (X : AX p s m args meth c g A cc nL own w0 ret) {x y : Int64} (hd : decode cc pc = .ok (.lmul, 1))  (k : AW p l e R s m args below meth c g A nL cells slots Q (pc + 1) (lv) (.long (x * y) :: st) (h)) : AW p l e R s m args below meth c g A nL cells slots Q (pc) (lv) (.long y :: .long x :: st) (h) := fun H locs ls hP hD hS hv => lv_lmul X.1.1 X.1.2.1 hd  (k H locs ls hP hD hS hv)
theorem a_land (X : AX p s m args meth c g A cc nL own w0 ret) {x y : Int64} (hd : decode cc pc = .ok (.land, 1))  (k : AW p l e R s m args below meth c g A nL cells slots Q (pc + 1) (lv) (.long (x &&& y) :: st) (h)) : AW p l e R s m args below meth c g A nL cells slots Q (pc) (lv) (.long y :: .long x :: st) (h) := fun H locs ls hP hD hS hv => lv_land X.1.1 X.1.2.1 hd  (k H locs ls hP hD hS hv)
theorem a_lor (X : AX p s m args meth c g A cc nL own w0 ret) {x y : Int64} (hd : decode cc pc = .ok (.lor, 1))  (k : AW p l e R s m args below meth c g A nL cells slots Q (pc + 1) (lv) (.long (x ||| y) :: st) (h)) : AW p l e R s m args below meth c g A nL cells slots Q (pc) (lv) (.long y :: .long x :: st) (h) := fun H locs ls hP hD hS hv => lv_lor X.1.1 X.1.2.1 hd  (k H locs ls hP hD hS hv)
theorem a_lxor (X : AX p s m args meth c g A cc nL own w0 ret) {x y : Int64} (hd : decode cc pc = .ok (.lxor, 1))  (k : AW p l e R s m args below meth c g A nL cells slots Q (pc + 1) (lv) (.long (x ^^^ y) :: st) (h)) : AW p l e R s m args below meth c g A nL cells slots Q (pc) (lv) (.long y :: .long x :: st) (h) := fun H locs ls hP hD hS hv => lv_lxor X.1.1 X.1.2.1 hd  (k H locs ls hP hD hS hv)
theorem a_idiv (X : AX p s m args meth c g A cc nL own w0 ret) {x y : Int32} (hd : decode cc pc = .ok (.idiv, 1)) (hne : ¬ y = 0) (k : AW p l e R s m args below meth c g A nL cells slots Q (pc + 1) (lv) (.int (x / y) :: st) (h)) : AW p l e R s m args below meth c g A nL cells slots Q (pc) (lv) (.int y :: .int x :: st) (h) := fun H locs ls hP hD hS hv => lv_idiv X.1.1 X.1.2.1 hd hne (k H locs ls hP hD hS hv)
theorem a_irem (X : AX p s m args meth c g A cc nL own w0 ret) {x y : Int32} (hd : decode cc pc = .ok (.irem, 1)) (hne : ¬ y = 0) (k : AW p l e R s m args below meth c g A nL cells slots Q (pc + 1) (lv) (.int (x - x / y * y) :: st) (h)) : AW p l e R s m args below meth c g A nL cells slots Q (pc) (lv) (.int y :: .int x :: st) (h) := fun H locs ls hP hD hS hv => lv_irem X.1.1 X.1.2.1 hd hne (k H locs ls hP hD hS hv)
theorem a_ineg (X : AX p s m args meth c g A cc nL own w0 ret) {x : Int32} (hd : decode cc pc = .ok (.ineg, 1))  (k : AW p l e R s m args below meth c g A nL cells slots Q (pc + 1) (lv) (.int (-x) :: st) (h)) : AW p l e R s m args below meth c g A nL cells slots Q (pc) (lv) (.int x :: st) (h) := fun H locs ls hP hD hS hv => lv_ineg X.1.1 X.1.2.1 hd  (k H locs ls hP hD hS hv)
theorem a_iushr (X : AX p s m args meth c g A cc nL own w0 ret) {x y v : Int32} (hd : decode cc pc = .ok (.iushr, 1)) (he : (x.toUInt32 >>> (y.toUInt32 &&& Int32.toUInt32 31)).toInt32 = v) (k : AW p l e R s m args below meth c g A nL cells slots Q (pc + 1) (lv) (.int v :: st) (h)) : AW p l e R s m args below meth c g A nL cells slots Q (pc) (lv) (.int y :: .int x :: st) (h) := fun H locs ls hP hD hS hv => lv_iushr X.1.1 X.1.2.1 hd he (k H locs ls hP hD hS hv)
theorem a_lshl (X : AX p s m args meth c g A cc nL own w0 ret) {x v : Int64} {y : Int32} (hd : decode cc pc = .ok (.lshl, 1)) (he : x <<< (y.toInt64 &&& 63) = v) (k : AW p l e R s m args below meth c g A nL cells slots Q (pc + 1) (lv) (.long v :: st) (h)) : AW p l e R s m args below meth c g A nL cells slots Q (pc) (lv) (.int y :: .long x :: st) (h) := fun H locs ls hP hD hS hv => lv_lshl X.1.1 X.1.2.1 hd he (k H locs ls hP hD hS hv)
theorem a_lshr (X : AX p s m args meth c g A cc nL own w0 ret) {x v : Int64} {y : Int32} (hd : decode cc pc = .ok (.lshr, 1)) (he : x >>> (y.toInt64 &&& 63) = v) (k : AW p l e R s m args below meth c g A nL cells slots Q (pc + 1) (lv) (.long v :: st) (h)) : AW p l e R s m args below meth c g A nL cells slots Q (pc) (lv) (.int y :: .long x :: st) (h) := fun H locs ls hP hD hS hv => lv_lshr X.1.1 X.1.2.1 hd he (k H locs ls hP hD hS hv)
theorem a_i2l (X : AX p s m args meth c g A cc nL own w0 ret) {x : Int32} {v : Int64} (hd : decode cc pc = .ok (.i2l, 1)) (he : x.toInt64 = v) (k : AW p l e R s m args below meth c g A nL cells slots Q (pc + 1) (lv) (.long v :: st) (h)) : AW p l e R s m args below meth c g A nL cells slots Q (pc) (lv) (.int x :: st) (h) := fun H locs ls hP hD hS hv => lv_i2l X.1.1 X.1.2.1 hd he (k H locs ls hP hD hS hv)
theorem a_l2i (X : AX p s m args meth c g A cc nL own w0 ret) {x : Int64} {v : Int32} (hd : decode cc pc = .ok (.l2i, 1)) (he : x.toInt32 = v) (k : AW p l e R s m args below meth c g A nL cells slots Q (pc + 1) (lv) (.int v :: st) (h)) : AW p l e R s m args below meth c g A nL cells slots Q (pc) (lv) (.long x :: st) (h) := fun H locs ls hP hD hS hv => lv_l2i X.1.1 X.1.2.1 hd he (k H locs ls hP hD hS hv)
theorem a_i2b (X : AX p s m args meth c g A cc nL own w0 ret) {x v : Int32} (hd : decode cc pc = .ok (.i2b, 1)) (he : x.toInt8.toInt32 = v) (k : AW p l e R s m args below meth c g A nL cells slots Q (pc + 1) (lv) (.int v :: st) (h)) : AW p l e R s m args below meth c g A nL cells slots Q (pc) (lv) (.int x :: st) (h) := fun H locs ls hP hD hS hv => lv_i2b X.1.1 X.1.2.1 hd he (k H locs ls hP hD hS hv)
theorem a_i2s (X : AX p s m args meth c g A cc nL own w0 ret) {x v : Int32} (hd : decode cc pc = .ok (.i2s, 1)) (he : x.toInt16.toInt32 = v) (k : AW p l e R s m args below meth c g A nL cells slots Q (pc + 1) (lv) (.int v :: st) (h)) : AW p l e R s m args below meth c g A nL cells slots Q (pc) (lv) (.int x :: st) (h) := fun H locs ls hP hD hS hv => lv_i2s X.1.1 X.1.2.1 hd he (k H locs ls hP hD hS hv)
theorem a_lcmp (X : AX p s m args meth c g A cc nL own w0 ret) {x y : Int64} (hd : decode cc pc = .ok (.lcmp, 1))  (k : AW p l e R s m args below meth c g A nL cells slots Q (pc + 1) (lv) (.int (lg_cmp x y) :: st) (h)) : AW p l e R s m args below meth c g A nL cells slots Q (pc) (lv) (.long y :: .long x :: st) (h) := fun H locs ls hP hD hS hv => W.lcmp X.1.1 X.1.2.1 hd  (k H locs ls hP hD hS hv)
theorem a_dup (X : AX p s m args meth c g A cc nL own w0 ret) {a : Value} (hd : decode cc pc = .ok (.dup, 1)) (ha : a.category = 1) (k : AW p l e R s m args below meth c g A nL cells slots Q (pc + 1) (lv) (a :: a :: st) (h)) : AW p l e R s m args below meth c g A nL cells slots Q (pc) (lv) (a :: st) (h) := fun H locs ls hP hD hS hv => lv_dup X.1.1 X.1.2.1 hd ha (k H locs ls hP hD hS hv)
theorem a_pop (X : AX p s m args meth c g A cc nL own w0 ret) {a : Value} (hd : decode cc pc = .ok (.pop, 1)) (ha : a.category = 1) (k : AW p l e R s m args below meth c g A nL cells slots Q (pc + 1) (lv) (st) (h)) : AW p l e R s m args below meth c g A nL cells slots Q (pc) (lv) (a :: st) (h) := fun H locs ls hP hD hS hv => lv_pop X.1.1 X.1.2.1 hd ha (k H locs ls hP hD hS hv)
theorem a_dup2 (X : AX p s m args meth c g A cc nL own w0 ret) {a b : Value} (hd : decode cc pc = .ok (.dup2, 1)) (ha : a.category = 1) (hb : b.category = 1) (k : AW p l e R s m args below meth c g A nL cells slots Q (pc + 1) (lv) (a :: b :: a :: b :: st) (h)) : AW p l e R s m args below meth c g A nL cells slots Q (pc) (lv) (a :: b :: st) (h) := fun H locs ls hP hD hS hv => lv_dup2_11 X.1.1 X.1.2.1 hd ha hb (k H locs ls hP hD hS hv)
theorem a_if_eq (X : AX p s m args meth c g A cc nL own w0 ret) {x : Int32} {off : Int} {tgt : Nat} (hd : decode cc pc = .ok (.ifCond .eq off, 3)) (ht : (pc : Int) + off = (tgt : Int)) (kt : x = 0 → AW p l e R s m args below meth c g A nL cells slots Q (tgt) (lv) (st) (h)) (kf : ¬ x = 0 → AW p l e R s m args below meth c g A nL cells slots Q (pc + 3) (lv) (st) (h)) : AW p l e R s m args below meth c g A nL cells slots Q (pc) (lv) (.int x :: st) (h) := fun H locs ls hP hD hS hv => lv_if_eq X.1.1 X.1.2.1 hd ht (fun q => kt q H locs ls hP hD hS hv) (fun q => kf q H locs ls hP hD hS hv)
theorem a_icmp_eq (X : AX p s m args meth c g A cc nL own w0 ret) {x y : Int32} {off : Int} {tgt : Nat} (hd : decode cc pc = .ok (.if_icmp .eq off, 3)) (ht : (pc : Int) + off = (tgt : Int)) (kt : x = y → AW p l e R s m args below meth c g A nL cells slots Q (tgt) (lv) (st) (h)) (kf : ¬ x = y → AW p l e R s m args below meth c g A nL cells slots Q (pc + 3) (lv) (st) (h)) : AW p l e R s m args below meth c g A nL cells slots Q (pc) (lv) (.int y :: .int x :: st) (h) := fun H locs ls hP hD hS hv => lv_icmp_eq X.1.1 X.1.2.1 hd ht (fun q => kt q H locs ls hP hD hS hv) (fun q => kf q H locs ls hP hD hS hv)
theorem a_if_ne (X : AX p s m args meth c g A cc nL own w0 ret) {x : Int32} {off : Int} {tgt : Nat} (hd : decode cc pc = .ok (.ifCond .ne off, 3)) (ht : (pc : Int) + off = (tgt : Int)) (kt : ¬ x = 0 → AW p l e R s m args below meth c g A nL cells slots Q (tgt) (lv) (st) (h)) (kf : x = 0 → AW p l e R s m args below meth c g A nL cells slots Q (pc + 3) (lv) (st) (h)) : AW p l e R s m args below meth c g A nL cells slots Q (pc) (lv) (.int x :: st) (h) := fun H locs ls hP hD hS hv => lv_if_ne X.1.1 X.1.2.1 hd ht (fun q => kt q H locs ls hP hD hS hv) (fun q => kf q H locs ls hP hD hS hv)
theorem a_icmp_ne (X : AX p s m args meth c g A cc nL own w0 ret) {x y : Int32} {off : Int} {tgt : Nat} (hd : decode cc pc = .ok (.if_icmp .ne off, 3)) (ht : (pc : Int) + off = (tgt : Int)) (kt : ¬ x = y → AW p l e R s m args below meth c g A nL cells slots Q (tgt) (lv) (st) (h)) (kf : x = y → AW p l e R s m args below meth c g A nL cells slots Q (pc + 3) (lv) (st) (h)) : AW p l e R s m args below meth c g A nL cells slots Q (pc) (lv) (.int y :: .int x :: st) (h) := fun H locs ls hP hD hS hv => lv_icmp_ne X.1.1 X.1.2.1 hd ht (fun q => kt q H locs ls hP hD hS hv) (fun q => kf q H locs ls hP hD hS hv)
theorem a_if_lt (X : AX p s m args meth c g A cc nL own w0 ret) {x : Int32} {off : Int} {tgt : Nat} (hd : decode cc pc = .ok (.ifCond .lt off, 3)) (ht : (pc : Int) + off = (tgt : Int)) (kt : x < 0 → AW p l e R s m args below meth c g A nL cells slots Q (tgt) (lv) (st) (h)) (kf : ¬ x < 0 → AW p l e R s m args below meth c g A nL cells slots Q (pc + 3) (lv) (st) (h)) : AW p l e R s m args below meth c g A nL cells slots Q (pc) (lv) (.int x :: st) (h) := fun H locs ls hP hD hS hv => lv_if_lt X.1.1 X.1.2.1 hd ht (fun q => kt q H locs ls hP hD hS hv) (fun q => kf q H locs ls hP hD hS hv)
theorem a_icmp_lt (X : AX p s m args meth c g A cc nL own w0 ret) {x y : Int32} {off : Int} {tgt : Nat} (hd : decode cc pc = .ok (.if_icmp .lt off, 3)) (ht : (pc : Int) + off = (tgt : Int)) (kt : x < y → AW p l e R s m args below meth c g A nL cells slots Q (tgt) (lv) (st) (h)) (kf : ¬ x < y → AW p l e R s m args below meth c g A nL cells slots Q (pc + 3) (lv) (st) (h)) : AW p l e R s m args below meth c g A nL cells slots Q (pc) (lv) (.int y :: .int x :: st) (h) := fun H locs ls hP hD hS hv => lv_icmp_lt X.1.1 X.1.2.1 hd ht (fun q => kt q H locs ls hP hD hS hv) (fun q => kf q H locs ls hP hD hS hv)
theorem a_if_ge (X : AX p s m args meth c g A cc nL own w0 ret) {x : Int32} {off : Int} {tgt : Nat} (hd : decode cc pc = .ok (.ifCond .ge off, 3)) (ht : (pc : Int) + off = (tgt : Int)) (kt : 0 ≤ x → AW p l e R s m args below meth c g A nL cells slots Q (tgt) (lv) (st) (h)) (kf : ¬ 0 ≤ x → AW p l e R s m args below meth c g A nL cells slots Q (pc + 3) (lv) (st) (h)) : AW p l e R s m args below meth c g A nL cells slots Q (pc) (lv) (.int x :: st) (h) := fun H locs ls hP hD hS hv => lv_if_ge X.1.1 X.1.2.1 hd ht (fun q => kt q H locs ls hP hD hS hv) (fun q => kf q H locs ls hP hD hS hv)
theorem a_icmp_ge (X : AX p s m args meth c g A cc nL own w0 ret) {x y : Int32} {off : Int} {tgt : Nat} (hd : decode cc pc = .ok (.if_icmp .ge off, 3)) (ht : (pc : Int) + off = (tgt : Int)) (kt : y ≤ x → AW p l e R s m args below meth c g A nL cells slots Q (tgt) (lv) (st) (h)) (kf : ¬ y ≤ x → AW p l e R s m args below meth c g A nL cells slots Q (pc + 3) (lv) (st) (h)) : AW p l e R s m args below meth c g A nL cells slots Q (pc) (lv) (.int y :: .int x :: st) (h) := fun H locs ls hP hD hS hv => lv_icmp_ge X.1.1 X.1.2.1 hd ht (fun q => kt q H locs ls hP hD hS hv) (fun q => kf q H locs ls hP hD hS hv)
theorem a_if_gt (X : AX p s m args meth c g A cc nL own w0 ret) {x : Int32} {off : Int} {tgt : Nat} (hd : decode cc pc = .ok (.ifCond .gt off, 3)) (ht : (pc : Int) + off = (tgt : Int)) (kt : 0 < x → AW p l e R s m args below meth c g A nL cells slots Q (tgt) (lv) (st) (h)) (kf : ¬ 0 < x → AW p l e R s m args below meth c g A nL cells slots Q (pc + 3) (lv) (st) (h)) : AW p l e R s m args below meth c g A nL cells slots Q (pc) (lv) (.int x :: st) (h) := fun H locs ls hP hD hS hv => lv_if_gt X.1.1 X.1.2.1 hd ht (fun q => kt q H locs ls hP hD hS hv) (fun q => kf q H locs ls hP hD hS hv)
theorem a_icmp_gt (X : AX p s m args meth c g A cc nL own w0 ret) {x y : Int32} {off : Int} {tgt : Nat} (hd : decode cc pc = .ok (.if_icmp .gt off, 3)) (ht : (pc : Int) + off = (tgt : Int)) (kt : y < x → AW p l e R s m args below meth c g A nL cells slots Q (tgt) (lv) (st) (h)) (kf : ¬ y < x → AW p l e R s m args below meth c g A nL cells slots Q (pc + 3) (lv) (st) (h)) : AW p l e R s m args below meth c g A nL cells slots Q (pc) (lv) (.int y :: .int x :: st) (h) := fun H locs ls hP hD hS hv => lv_icmp_gt X.1.1 X.1.2.1 hd ht (fun q => kt q H locs ls hP hD hS hv) (fun q => kf q H locs ls hP hD hS hv)
theorem a_if_le (X : AX p s m args meth c g A cc nL own w0 ret) {x : Int32} {off : Int} {tgt : Nat} (hd : decode cc pc = .ok (.ifCond .le off, 3)) (ht : (pc : Int) + off = (tgt : Int)) (kt : x ≤ 0 → AW p l e R s m args below meth c g A nL cells slots Q (tgt) (lv) (st) (h)) (kf : ¬ x ≤ 0 → AW p l e R s m args below meth c g A nL cells slots Q (pc + 3) (lv) (st) (h)) : AW p l e R s m args below meth c g A nL cells slots Q (pc) (lv) (.int x :: st) (h) := fun H locs ls hP hD hS hv => lv_if_le X.1.1 X.1.2.1 hd ht (fun q => kt q H locs ls hP hD hS hv) (fun q => kf q H locs ls hP hD hS hv)
theorem a_icmp_le (X : AX p s m args meth c g A cc nL own w0 ret) {x y : Int32} {off : Int} {tgt : Nat} (hd : decode cc pc = .ok (.if_icmp .le off, 3)) (ht : (pc : Int) + off = (tgt : Int)) (kt : x ≤ y → AW p l e R s m args below meth c g A nL cells slots Q (tgt) (lv) (st) (h)) (kf : ¬ x ≤ y → AW p l e R s m args below meth c g A nL cells slots Q (pc + 3) (lv) (st) (h)) : AW p l e R s m args below meth c g A nL cells slots Q (pc) (lv) (.int y :: .int x :: st) (h) := fun H locs ls hP hD hS hv => lv_icmp_le X.1.1 X.1.2.1 hd ht (fun q => kt q H locs ls hP hD hS hv) (fun q => kf q H locs ls hP hD hS hv)
theorem a_goto (X : AX p s m args meth c g A cc nL own w0 ret) {off : Int} {tgt : Nat} (hd : decode cc pc = .ok (.goto off, 3)) (ht : (pc : Int) + off = (tgt : Int)) (k : AW p l e R s m args below meth c g A nL cells slots Q (tgt) (lv) (st) (h)) : AW p l e R s m args below meth c g A nL cells slots Q (pc) (lv) (st) (h) := fun H locs ls hP hD hS hv => lv_goto X.1.1 X.1.2.1 hd ht (k H locs ls hP hD hS hv)
theorem a_tsOut (X : AX p s m args meth c g A cc nL own w0 ret) {dflt lo hi : Int} {offs : Array Int} {len : Nat} {x : Int32} {tgt : Nat} (hd : decode cc pc = .ok (.tableswitch dflt lo hi offs, len)) (hx : x.toInt < lo ∨ hi < x.toInt) (ht : (pc : Int) + dflt = (tgt : Int)) (k : AW p l e R s m args below meth c g A nL cells slots Q (tgt) (lv) (st) (h)) : AW p l e R s m args below meth c g A nL cells slots Q (pc) (lv) (.int x :: st) (h) := fun H locs ls hP hD hS hv => lv_tableOut X.1.1 X.1.2.1 hd hx ht (k H locs ls hP hD hS hv)
theorem a_tsIn (X : AX p s m args meth c g A cc nL own w0 ret) {dflt lo hi : Int} {offs : Array Int} {len : Nat} {x : Int32} {off : Int} {tgt : Nat} (hd : decode cc pc = .ok (.tableswitch dflt lo hi offs, len)) (h1 : ¬ x.toInt < lo) (h2 : ¬ hi < x.toInt) (ho : offs[(x.toInt - lo).toNat]? = some off) (ht : (pc : Int) + off = (tgt : Int)) (k : AW p l e R s m args below meth c g A nL cells slots Q (tgt) (lv) (st) (h)) : AW p l e R s m args below meth c g A nL cells slots Q (pc) (lv) (.int x :: st) (h) := fun H locs ls hP hD hS hv => lv_tableIn X.1.1 X.1.2.1 hd h1 h2 ho ht (k H locs ls hP hD hS hv)
theorem a_ldc (X : AX p s m args meth c g A cc nL own w0 ret) {i : Nat} {v : Int32} (hd : decode cc pc = .ok (.ldc i, 2)) (hw : Cond.constant own i v ∈ gTb) (k : AW p l e R s m args below meth c g A nL cells slots Q (pc + 2) (lv) (.int v :: st) (h)) : AW p l e R s m args below meth c g A nL cells slots Q (pc) (lv) (st) (h) := fun H locs ls hP hD hS hv => lv_ldc X.1.1 X.1.2.1 X.1.2.2.2.1 (X.1.2.2.2.2 _ (List.mem_cons_of_mem _ hw)) hd (k H locs ls hP hD hS hv)
theorem a_ldcw (X : AX p s m args meth c g A cc nL own w0 ret) {i : Nat} {v : Int32} (hd : decode cc pc = .ok (.ldc_w i, 3)) (hw : Cond.constant own i v ∈ gTb) (k : AW p l e R s m args below meth c g A nL cells slots Q (pc + 3) (lv) (.int v :: st) (h)) : AW p l e R s m args below meth c g A nL cells slots Q (pc) (lv) (st) (h) := fun H locs ls hP hD hS hv => lv_ldcw X.1.1 X.1.2.1 X.1.2.2.2.1 (X.1.2.2.2.2 _ (List.mem_cons_of_mem _ hw)) hd (k H locs ls hP hD hS hv)
theorem a_ldc2 (X : AX p s m args meth c g A cc nL own w0 ret) {i : Nat} {v : Int64} (hd : decode cc pc = .ok (.ldc2_w i, 3)) (hw : Cond.constantLong own i v ∈ gTb) (k : AW p l e R s m args below meth c g A nL cells slots Q (pc + 3) (lv) (.long v :: st) (h)) : AW p l e R s m args below meth c g A nL cells slots Q (pc) (lv) (st) (h) := fun H locs ls hP hD hS hv => lv_ldc2 X.1.1 X.1.2.1 X.1.2.2.2.1 (X.1.2.2.2.2 _ (List.mem_cons_of_mem _ hw)) hd (k H locs ls hP hD hS hv)
/-- a field by its link: the word, the class's rows -/
def FL (own : String) (idx ci k : Nat) : Prop := ∃ (C : String) (T : u_T) (N : Nat), vwCl[ci]? = some (C, T, N) ∧ k < N ∧ Cond.fieldLink own idx (T k).1 (T k).2.1 (T k).2.2.1 ∈ gTb ∧ ∀ w ∈ u_ws C T N, w ∈ gTb
def FP (own : String) (idx ci k : Nat) (ty : FieldType) : Prop := ∃ (C : String) (T : u_T) (N : Nat) (ty0 : Nat → FieldType), vwCl[ci]? = some (C, T, N) ∧ k < N ∧ Cond.fieldLink own idx (T k).1 (T k).2.1 (T k).2.2.1 ∈ gTb ∧ (∀ w ∈ u_ws C T N, w ∈ gTb) ∧ (∀ k, k < N → parseFieldDescriptor (T k).2.2.1 = some (ty0 k)) ∧ (∀ a, a < N → ∀ b, b < N → a ≠ b → (T a).2.1 ≠ (T b).2.1) ∧ (T k).2.2.2 = false ∧ parseFieldDescriptor (T k).2.2.1 = some ty
theorem a_get (X : AX p s m args meth c g A cc nL own w0 ret) {idx cn k P : Nat} {fs : List Value} {v : Value} (hd : decode cc pc = .ok (.getfield idx, 3)) (hf : FL own idx cn k) (hP0 : P < 57) (hh : h P = co cn fs) (hvv : fs[k]? = some v) (kk : AW p l e R s m args below meth c g A nL cells slots Q (pc + 3) (lv) (v :: st) (h)) : AW p l e R s m args below meth c g A nL cells slots Q (pc) (lv) (.ref (ga g P) :: st) (h) := fun H locs ls hP hD hS hv => by
  obtain ⟨C, T, N, hc, hk, hw, hin⟩ := hf
  have he : (wl g h)[P]? = some (ga g P, .inr (cn, fs)) := by rw [wl_at hP0, hh]; rfl
  exact va_get (C := C) (T := T) (N := N) X.1.1 X.1.2.1 X.1.2.2.2.2 (fun w q => List.mem_cons_of_mem _ (hin w q)) X.1.2.2.2.1 X.2.1 hP P he hc k hk (X.1.2.2.2.2 _ (List.mem_cons_of_mem _ hw)) (fun _ q => q) hvv hd (kk H locs ls hP hD hS hv)
theorem a_put (X : AX p s m args meth c g A cc nL own w0 ret) {idx cn k P : Nat} {fs : List Value} {v : Value} {ty : FieldType} (hd : decode cc pc = .ok (.putfield idx, 3)) (hf : FP own idx cn k ty) (hP0 : P < 57) (hh : h P = co cn fs) (hn : narrow ty v = v) (hfit : fits ty v = true) (hl : k < fs.length) (kk : AW p l e R s m args below meth c g A nL cells slots Q (pc + 3) (lv) (st) (va_up h P (co cn (fs.set k v)))) : AW p l e R s m args below meth c g A nL cells slots Q (pc) (lv) (v :: .ref (ga g P) :: st) (h) := fun H locs ls hP hD hS hv => by
  obtain ⟨C, T, N, ty0, hc, hk, hw, hin, h1, h2, h3, h4⟩ := hf
  have he : (wl g h)[P]? = some (ga g P, .inr (cn, fs)) := by rw [wl_at hP0, hh]; rfl
  refine va_put (C := C) (T := T) (N := N) (ty := ty) X.1.1 X.1.2.1 X.1.2.2.2.2 (fun w q => List.mem_cons_of_mem _ (hin w q)) ty0 h1 h2 X.1.2.2.2.1 X.2.1 hP hD hS P he hc k hk (X.1.2.2.2.2 _ (List.mem_cons_of_mem _ hw)) (fun _ q => q) h3 h4 hn hfit hl hd (fun H1 locs1 hP1 hD1 hS1 => ?_)
  have e2 : (wl g h).set P (ga g P, .inr (cn, fs.set k v)) = wl g (va_up h P (co cn (fs.set k v))) := wl_set _ hP0
  rw [e2] at hP1 hD1
  exact kk H1 locs1 ls hP1 hD1 hS1 hv
theorem a_iald (X : AX p s m args meth c g A cc nL own w0 ret) {P n : Nat} {f : Nat → Int32} {i : Int32} (hd : decode cc pc = .ok (.iaload, 1)) (hP0 : P < 57) (hh : h P = ci g n f) (hin : vp_in i n) (kk : AW p l e R s m args below meth c g A nL cells slots Q (pc + 1) (lv) (.int (f i.toNatClampNeg) :: st) (h)) : AW p l e R s m args below meth c g A nL cells slots Q (pc) (lv) (.int i :: .ref (ga g P) :: st) (h) := fun H locs ls hP hD hS hv => by
  have he : (wl g h)[P]? = some (ga g P, .inl (gI g, n, .inl f)) := by rw [wl_at hP0, hh]; rfl
  exact va_iald X.1.1 X.1.2.1 X.2.1 hP P 0 he rfl hin hd (kk H locs ls hP hD hS hv)
theorem a_lald (X : AX p s m args meth c g A cc nL own w0 ret) {P n : Nat} {f : Nat → Int64} {i : Int32} (hd : decode cc pc = .ok (.laload, 1)) (hP0 : P < 57) (hh : h P = cj g n f) (hin : vp_in i n) (kk : AW p l e R s m args below meth c g A nL cells slots Q (pc + 1) (lv) (.long (f i.toNatClampNeg) :: st) (h)) : AW p l e R s m args below meth c g A nL cells slots Q (pc) (lv) (.int i :: .ref (ga g P) :: st) (h) := fun H locs ls hP hD hS hv => by
  have he : (wl g h)[P]? = some (ga g P, .inl (gJ g, n, .inr (.inl f))) := by rw [wl_at hP0, hh]; rfl
  exact va_lald X.1.1 X.1.2.1 X.2.1 hP P 1 he rfl hin hd (kk H locs ls hP hD hS hv)
theorem a_aald (X : AX p s m args meth c g A cc nL own w0 ret) {P n q : Nat} {f : Nat → Option Nat} {i : Int32} (hd : decode cc pc = .ok (.aaload, 1)) (hP0 : P < 57) (hh : h P = cs g n f) (hin : vp_in i n) (hf : f i.toNatClampNeg = some q) (kk : AW p l e R s m args below meth c g A nL cells slots Q (pc + 1) (lv) (.ref q :: st) (h)) : AW p l e R s m args below meth c g A nL cells slots Q (pc) (lv) (.int i :: .ref (ga g P) :: st) (h) := fun H locs ls hP hD hS hv => by
  have he : (wl g h)[P]? = some (ga g P, .inl (gS g, n, .inr (.inr (.inr (.inr f))))) := by rw [wl_at hP0, hh]; rfl
  refine va_aldq X.1.1 X.1.2.1 X.2.1 hP P 2 he rfl hin hd ?_
  rw [hf]
  exact kk H locs ls hP hD hS hv
theorem a_iast (X : AX p s m args meth c g A cc nL own w0 ret) {P n : Nat} {f : Nat → Int32} {i x : Int32} (hd : decode cc pc = .ok (.iastore, 1)) (hP0 : P < 57) (hh : h P = ci g n f) (hin : vp_in i n) (kk : AW p l e R s m args below meth c g A nL cells slots Q (pc + 1) (lv) (st) (va_up h P (ci g n (upd f i.toNatClampNeg x)))) : AW p l e R s m args below meth c g A nL cells slots Q (pc) (lv) (.int x :: .int i :: .ref (ga g P) :: st) (h) := fun H locs ls hP hD hS hv => by
  have he : (wl g h)[P]? = some (ga g P, .inl (gI g, n, .inl f)) := by rw [wl_at hP0, hh]; rfl
  refine va_iast X.1.1 X.1.2.1 X.2.1 hP hD hS P 0 he rfl hin hd (fun H1 locs1 hP1 hD1 hS1 => ?_)
  have e2 : (wl g h).set P (ga g P, .inl (gI g, n, .inl (upd f i.toNatClampNeg x))) = wl g (va_up h P (ci g n (upd f i.toNatClampNeg x))) := wl_set _ hP0
  rw [e2] at hP1 hD1
  exact kk H1 locs1 ls hP1 hD1 hS1 hv
theorem a_last (X : AX p s m args meth c g A cc nL own w0 ret) {P n : Nat} {f : Nat → Int64} {i : Int32} {x : Int64} (hd : decode cc pc = .ok (.lastore, 1)) (hP0 : P < 57) (hh : h P = cj g n f) (hin : vp_in i n) (kk : AW p l e R s m args below meth c g A nL cells slots Q (pc + 1) (lv) (st) (va_up h P (cj g n (vp_updL f i.toNatClampNeg x)))) : AW p l e R s m args below meth c g A nL cells slots Q (pc) (lv) (.long x :: .int i :: .ref (ga g P) :: st) (h) := fun H locs ls hP hD hS hv => by
  have he : (wl g h)[P]? = some (ga g P, .inl (gJ g, n, .inr (.inl f))) := by rw [wl_at hP0, hh]; rfl
  refine va_last X.1.1 X.1.2.1 X.2.1 hP hD hS P 1 he rfl hin hd (fun H1 locs1 hP1 hD1 hS1 => ?_)
  have e2 : (wl g h).set P (ga g P, .inl (gJ g, n, .inr (.inl (vp_updL f i.toNatClampNeg x)))) = wl g (va_up h P (cj g n (vp_updL f i.toNatClampNeg x))) := wl_set _ hP0
  rw [e2] at hP1 hD1
  exact kk H1 locs1 ls hP1 hD1 hS1 hv
theorem a_alenI (X : AX p s m args meth c g A cc nL own w0 ret) {P n : Nat} {f : Nat → Int32} (hd : decode cc pc = .ok (.arraylength, 1)) (hP0 : P < 57) (hh : h P = ci g n f) (kk : AW p l e R s m args below meth c g A nL cells slots Q (pc + 1) (lv) (.int (nI n) :: st) (h)) : AW p l e R s m args below meth c g A nL cells slots Q (pc) (lv) (.ref (ga g P) :: st) (h) := fun H locs ls hP hD hS hv => by
  have he : (wl g h)[P]? = some (ga g P, .inl (gI g, n, .inl f)) := by rw [wl_at hP0, hh]; rfl
  exact va_alen X.1.1 X.1.2.1 X.2.1 hP P 0 he rfl (v := nI n) rfl hd (kk H locs ls hP hD hS hv)
theorem a_alenJ (X : AX p s m args meth c g A cc nL own w0 ret) {P n : Nat} {f : Nat → Int64} (hd : decode cc pc = .ok (.arraylength, 1)) (hP0 : P < 57) (hh : h P = cj g n f) (kk : AW p l e R s m args below meth c g A nL cells slots Q (pc + 1) (lv) (.int (nI n) :: st) (h)) : AW p l e R s m args below meth c g A nL cells slots Q (pc) (lv) (.ref (ga g P) :: st) (h) := fun H locs ls hP hD hS hv => by
  have he : (wl g h)[P]? = some (ga g P, .inl (gJ g, n, .inr (.inl f))) := by rw [wl_at hP0, hh]; rfl
  exact va_alen X.1.1 X.1.2.1 X.2.1 hP P 1 he rfl (v := nI n) rfl hd (kk H locs ls hP hD hS hv)
theorem a_copyi (X : AX p s m args meth c g A cc nL own w0 ret) {idx P P2 n0 n1 : Nat} {f f2 : Nat → Int32} {sp dp n : Int32} (hd : decode cc pc = .ok (.invokestatic idx, 3)) (hw : Cond.methodLink own idx arraycopyName ∈ gTb) (hw2 : Cond.native arraycopyName ∈ gTb ∧ Cond.static arraycopyName ∈ gTb ∧ Cond.initialized "java/lang/System" ∈ gTb) (hP0 : P < 57) (hP2 : P2 < 57) (hh : h P = ci g n0 f) (hh2 : h P2 = ci g n1 f2) (h1 : ¬ sp < 0) (h2 : ¬ dp < 0) (h3 : ¬ n < 0) (h4 : sp.toNatClampNeg + n.toNatClampNeg ≤ n0) (h5 : dp.toNatClampNeg + n.toNatClampNeg ≤ n1) (hR : 1 ≤ R.frames ∧ (st.map fun v => v.category).sum + (nativeFrameWords "java/lang/System" "arraycopy" 5 + 11) ≤ R.locals) (kk : AW p l e R s m args below meth c g A nL cells slots Q (pc + 3) (lv) (st) (va_up h P2 (ci g n1 (va_cpy f f2 sp.toNatClampNeg dp.toNatClampNeg n.toNatClampNeg)))) : AW p l e R s m args below meth c g A nL cells slots Q (pc) (lv) (.int n :: .int dp :: .ref (ga g P2) :: .int sp :: .ref (ga g P) :: st) (h) := fun H locs ls hP hD hS hv => by
  have he : (wl g h)[P]? = some (ga g P, .inl (gI g, n0, .inl f)) := by rw [wl_at hP0, hh]; rfl
  have he2 : (wl g h)[P2]? = some (ga g P2, .inl (gI g, n1, .inl f2)) := by rw [wl_at hP2, hh2]; rfl
  have tt := fun w q => X.1.2.2.2.2 w (List.mem_cons_of_mem _ q)
  refine va_copyi (ty := .int) X.1.1 X.1.2.1 (by rw [X.1.2.2.1, hv.1]) X.1.2.2.2.1 (tt _ hw) (tt _ hw2.1) (tt _ hw2.2.1) (tt _ hw2.2.2) X.2.1 hP hD hS P P2 0 0 he he2 rfl rfl rfl h1 h2 h3 h4 h5 (fun _ _ => rfl) hR.1 hR.2 hd (fun H1 locs1 hP1 hD1 hS1 => ?_)
  have e2 : (wl g h).set P2 (ga g P2, .inl (gI g, n1, .inl (va_cpy f f2 sp.toNatClampNeg dp.toNatClampNeg n.toNatClampNeg))) = wl g (va_up h P2 (ci g n1 (va_cpy f f2 sp.toNatClampNeg dp.toNatClampNeg n.toNatClampNeg))) := wl_set _ hP2
  rw [e2] at hP1 hD1
  exact kk H1 locs1 ls hP1 hD1 hS1 hv
theorem a_copyl (X : AX p s m args meth c g A cc nL own w0 ret) {idx P P2 n0 n1 : Nat} {f f2 : Nat → Int64} {sp dp n : Int32} (hd : decode cc pc = .ok (.invokestatic idx, 3)) (hw : Cond.methodLink own idx arraycopyName ∈ gTb) (hw2 : Cond.native arraycopyName ∈ gTb ∧ Cond.static arraycopyName ∈ gTb ∧ Cond.initialized "java/lang/System" ∈ gTb) (hP0 : P < 57) (hP2 : P2 < 57) (hh : h P = cj g n0 f) (hh2 : h P2 = cj g n1 f2) (h1 : ¬ sp < 0) (h2 : ¬ dp < 0) (h3 : ¬ n < 0) (h4 : sp.toNatClampNeg + n.toNatClampNeg ≤ n0) (h5 : dp.toNatClampNeg + n.toNatClampNeg ≤ n1) (hR : 1 ≤ R.frames ∧ (st.map fun v => v.category).sum + (nativeFrameWords "java/lang/System" "arraycopy" 5 + 11) ≤ R.locals) (kk : AW p l e R s m args below meth c g A nL cells slots Q (pc + 3) (lv) (st) (va_up h P2 (cj g n1 (va_cpy f f2 sp.toNatClampNeg dp.toNatClampNeg n.toNatClampNeg)))) : AW p l e R s m args below meth c g A nL cells slots Q (pc) (lv) (.int n :: .int dp :: .ref (ga g P2) :: .int sp :: .ref (ga g P) :: st) (h) := fun H locs ls hP hD hS hv => by
  have he : (wl g h)[P]? = some (ga g P, .inl (gJ g, n0, .inr (.inl f))) := by rw [wl_at hP0, hh]; rfl
  have he2 : (wl g h)[P2]? = some (ga g P2, .inl (gJ g, n1, .inr (.inl f2))) := by rw [wl_at hP2, hh2]; rfl
  have tt := fun w q => X.1.2.2.2.2 w (List.mem_cons_of_mem _ q)
  refine va_copyl (ty := .long) X.1.1 X.1.2.1 (by rw [X.1.2.2.1, hv.1]) X.1.2.2.2.1 (tt _ hw) (tt _ hw2.1) (tt _ hw2.2.1) (tt _ hw2.2.2) X.2.1 hP hD hS P P2 1 1 he he2 rfl rfl rfl h1 h2 h3 h4 h5 (fun _ _ => rfl) hR.1 hR.2 hd (fun H1 locs1 hP1 hD1 hS1 => ?_)
  have e2 : (wl g h).set P2 (ga g P2, .inl (gJ g, n1, .inr (.inl (va_cpy f f2 sp.toNatClampNeg dp.toNatClampNeg n.toNatClampNeg)))) = wl g (va_up h P2 (cj g n1 (va_cpy f f2 sp.toNatClampNeg dp.toNatClampNeg n.toNatClampNeg))) := wl_set _ hP2
  rw [e2] at hP1 hD1
  exact kk H1 locs1 ls hP1 hD1 hS1 hv
theorem a_mmax (X : AX p s m args meth c g A cc nL own w0 ret) {idx : Nat} {x y : Int32} (hd : decode cc pc = .ok (.invokestatic idx, 3)) (hw : Cond.methodLink own idx Lib.Math.max.name ∈ gTb) (hw2 : Cond.static Lib.Math.max.name ∈ gTb ∧ Cond.initialized "java/lang/Math" ∈ gTb ∧ Cond.code Lib.Math.max.name Lib.Math.max.code 2 (some .int) ∈ gTb) (hR : 1 ≤ R.frames ∧ (st.map fun v => v.category).sum + 13 ≤ R.locals) (hC : cells ≤ R.cells ∧ slots ≤ R.slots) (kk : AW p l e R s m args below meth c g A nL cells slots Q (pc + 3) (lv) (.int (if x < y then y else x) :: st) (h)) : AW p l e R s m args below meth c g A nL cells slots Q (pc) (lv) (.int y :: .int x :: st) (h) := fun H locs ls hP hD hS hv => by
  have tt := fun w q => X.1.2.2.2.2 w (List.mem_cons_of_mem _ q)
  exact va_mmax X.1.1 X.1.2.1 (by rw [X.1.2.2.1, hv.1]) X.1.2.2.2.1 (tt _ hw) (tt _ hw2.1) (tt _ hw2.2.1) (tt _ hw2.2.2) hR.1 hR.2 hC.1 hC.2 hd (kk H locs ls hP hD hS hv)
theorem a_mmin (X : AX p s m args meth c g A cc nL own w0 ret) {idx : Nat} {x y : Int32} (hd : decode cc pc = .ok (.invokestatic idx, 3)) (hw : Cond.methodLink own idx Lib.Math.min.name ∈ gTb) (hw2 : Cond.static Lib.Math.min.name ∈ gTb ∧ Cond.initialized "java/lang/Math" ∈ gTb ∧ Cond.code Lib.Math.min.name Lib.Math.min.code 2 (some .int) ∈ gTb) (hR : 1 ≤ R.frames ∧ (st.map fun v => v.category).sum + 13 ≤ R.locals) (hC : cells ≤ R.cells ∧ slots ≤ R.slots) (kk : AW p l e R s m args below meth c g A nL cells slots Q (pc + 3) (lv) (.int (if y < x then y else x) :: st) (h)) : AW p l e R s m args below meth c g A nL cells slots Q (pc) (lv) (.int y :: .int x :: st) (h) := fun H locs ls hP hD hS hv => by
  have tt := fun w q => X.1.2.2.2.2 w (List.mem_cons_of_mem _ q)
  exact va_mmin X.1.1 X.1.2.1 (by rw [X.1.2.2.1, hv.1]) X.1.2.2.2.1 (tt _ hw) (tt _ hw2.1) (tt _ hw2.2.1) (tt _ hw2.2.2) hR.1 hR.2 hC.1 hC.2 hd (kk H locs ls hP hD hS hv)
theorem a_iret {v : Int32} {h0 : Hp} {post : Option Value → Hp → Prop} (X : AX p s m args meth c g A cc nL own w0 (some .int)) (hA : A = va_A (wl g h0) s.heap.size) (hd : decode cc pc = .ok (.ireturn, 1)) (hp : post (some (.int v)) h) : AW p l e R s m args below meth c g A nL 0 0 (MQ below (CQ g h0 s.heap.size post) args s 0 0 A) pc lv ([.int v]) h := fun H locs ls hP hD hS hv => by
  subst hA
  exact W.iret X.1.1 X.1.2.1 X.2.2.2.2.1  (fun t ht hW => ⟨⟨_, h, rfl, hp, by rw [ht]; exact hP, hD⟩, hS.F ht⟩) hS.2.2 hd X.2.2.2.2.2
theorem a_zret {v : Int32} {h0 : Hp} {post : Option Value → Hp → Prop} (X : AX p s m args meth c g A cc nL own w0 (some .boolean)) (hA : A = va_A (wl g h0) s.heap.size) (hd : decode cc pc = .ok (.ireturn, 1)) (hn : narrow .boolean (.int v) = .int v) (hp : post (some (.int v)) h) : AW p l e R s m args below meth c g A nL 0 0 (MQ below (CQ g h0 s.heap.size post) args s 0 0 A) pc lv ([.int v]) h := fun H locs ls hP hD hS hv => by
  subst hA
  exact W.zret X.1.1 X.1.2.1 X.2.2.2.2.1 hn (fun t ht hW => ⟨⟨_, h, rfl, hp, by rw [ht]; exact hP, hD⟩, hS.F ht⟩) hS.2.2 hd X.2.2.2.2.2
theorem a_lret {v : Int64} {h0 : Hp} {post : Option Value → Hp → Prop} (X : AX p s m args meth c g A cc nL own w0 (some .long)) (hA : A = va_A (wl g h0) s.heap.size) (hd : decode cc pc = .ok (.lreturn, 1)) (hp : post (some (.long v)) h) : AW p l e R s m args below meth c g A nL 0 0 (MQ below (CQ g h0 s.heap.size post) args s 0 0 A) pc lv ([.long v]) h := fun H locs ls hP hD hS hv => by
  subst hA
  exact W.lret X.1.1 X.1.2.1 X.2.2.2.2.1  (fun t ht hW => ⟨⟨_, h, rfl, hp, by rw [ht]; exact hP, hD⟩, hS.F ht⟩) hS.2.2 hd X.2.2.2.2.2
theorem a_aret {v : Nat} {rt : FieldType} {h0 : Hp} {post : Option Value → Hp → Prop} (X : AX p s m args meth c g A cc nL own w0 (some rt)) (hA : A = va_A (wl g h0) s.heap.size) (hd : decode cc pc = .ok (.areturn, 1)) (hrt : (∃ n, rt = .object n) ∨ ∃ t, rt = .array t) (hp : post (some (.ref v)) h) : AW p l e R s m args below meth c g A nL 0 0 (MQ below (CQ g h0 s.heap.size post) args s 0 0 A) pc lv ([.ref v]) h := fun H locs ls hP hD hS hv => by
  subst hA
  exact W.aret X.1.1 X.1.2.1 X.2.2.2.2.1 hrt (Or.inr ⟨v, rfl⟩) (fun t ht hW => ⟨⟨_, h, rfl, hp, by rw [ht]; exact hP, hD⟩, hS.F ht⟩) hS.2.2 hd X.2.2.2.2.2
theorem a_vret  {h0 : Hp} {post : Option Value → Hp → Prop} (X : AX p s m args meth c g A cc nL own w0 none) (hA : A = va_A (wl g h0) s.heap.size) (hd : decode cc pc = .ok (.return_, 1)) (hp : post (none) h) : AW p l e R s m args below meth c g A nL 0 0 (MQ below (CQ g h0 s.heap.size post) args s 0 0 A) pc lv ([]) h := fun H locs ls hP hD hS hv => by
  subst hA
  exact W.vret X.1.1 X.1.2.1 X.2.2.2.2.1  (fun t ht hW => ⟨⟨_, h, rfl, hp, by rw [ht]; exact hP, hD⟩, hS.F ht⟩) hS.2.2 hd X.2.2.2.2.2
theorem a_cont {h1 : Hp} {post : Option Value → Hp → Prop} {rest st0 : List Value} {a : Array Value} {H : Heap} {locs : List Loc} {ls : Array Slot} (hr : va_Run p l e R s m args below meth c H locs cells slots 0 0 (F0 m pc ls st0) rest (CQ g h1 H.size post a) (va_A (wl g h1) H.size)) (hS : va_S A s.heap H locs) (hf : ∀ q, va_A (wl g h1) H.size q → A q)
    (kk : ∀ (v : Option Value) (h' : Hp) (H1 : Heap) (locs1 : List Loc), post v h' → va_P (gD g) vwCl (wl g h') H1 → va_D A (wl g h') → va_S A s.heap H1 locs1 → W p l e R s m args below meth c H1 locs1 cells slots Q (F0 m (pc + 3) ls (v.toList ++ rest))) : W p l e R s m args below meth c H locs cells slots Q (F0 m pc ls st0) := by
  intro T hT X
  obtain ⟨v, st₀, t, T', L, h0, X', hL, e1, e2, ⟨⟨v2, h', hv, hp, hP1, hD1⟩, hz, hk⟩, sg⟩ := hr T hT X
  cases hv
  rw [h0] at hz hk
  obtain ⟨t2, a1, b1⟩ := kk v h' T'.heap (locs ++ L) hp (by rw [e1]; exact hP1) (hD1.weaken (fun _ _ _ q => hf _ q))
    ⟨Nat.le_trans hS.1 (by rw [e1]; exact hz), fun q q1 q2 => by rw [e1, hk q (Nat.lt_of_lt_of_le q1 hS.1) (fun z => q2 (hf q z))]; exact hS.2.1 q q1 q2, fun q hq => by
      rcases List.mem_append.mp hq with h | h
      · exact hS.2.2 q h
      · exact hf _ (hL q h)⟩ T' rfl X'
  exact ⟨t2, sg t2 a1, b1⟩
theorem a_freeA {H : Heap} {locs : List Loc} (hA : ∀ q, s.heap.size ≤ q → A q) (hD : va_D A (wl g h)) (hS : va_S A s.heap H locs) : ∀ q, va_A (wl g h) H.size q → A q := by
  intro q hq
  rcases hq with ⟨k, e, hk⟩ | hq
  · exact hD.2 k (q, e) hk
  · exact hA q (Nat.le_trans hS.1 hq)
/-- a call's words: which link, which method -/
def LnS (own : String) (idx : Nat) (M : MM) (n : Nat) : Prop := (Cond.methodLink own idx M.1 ∈ gTb ∧ Cond.static M.1 ∈ gTb ∧ Cond.initialized M.1.cls ∈ gTb ∧ Cond.code M.1 M.2.1 M.2.2.1 M.2.2.2.1 ∈ gTb) ∧ (M.1.cls ≠ "java/lang/invoke/MethodHandle" ∧ M.1.cls ≠ "java/lang/invoke/VarHandle" ∧ (parseMethodDescriptor M.1.desc).map (fun d => d.parameters.length) = some n) ∧ M.2.2.2.2.cells = 0 ∧ M.2.2.2.2.slots = 0
def LnN (own : String) (idx : Nat) (M : MM) (n : Nat) : Prop := (Cond.static M.1 ∈ gTb ∧ Cond.initialized M.1.cls ∈ gTb ∧ Cond.code M.1 M.2.1 M.2.2.1 M.2.2.2.1 ∈ gTb) ∧ (M.1.cls ≠ "java/lang/invoke/MethodHandle" ∧ M.1.cls ≠ "java/lang/invoke/VarHandle" ∧ (parseMethodDescriptor M.1.desc).map (fun d => d.parameters.length) = some n) ∧ M.2.2.2.2.cells = 0 ∧ M.2.2.2.2.slots = 0
def LnV (own : String) (idx : Nat) (M : MM) (n : Nat) : Prop := (Cond.methodLink own idx M.1 ∈ gTb ∧ Cond.instanceMethod M.1 ∈ gTb ∧ Cond.selects M.1.cls M.1 M.1 ∈ gTb ∧ Cond.initialized M.1.cls ∈ gTb ∧ Cond.code M.1 M.2.1 M.2.2.1 M.2.2.2.1 ∈ gTb) ∧ (M.1.cls ≠ "java/lang/invoke/MethodHandle" ∧ M.1.cls ≠ "java/lang/invoke/VarHandle" ∧ (parseMethodDescriptor M.1.desc).map (fun d => d.parameters.length) = some n) ∧ M.2.2.2.2.cells = 0 ∧ M.2.2.2.2.slots = 0
theorem goodM {M : MM} (hc : Cond.code M.1 M.2.1 M.2.2.1 M.2.2.2.1 ∈ gTb) : GoodIn (w0 :: gTb) (Cond.code M.1 M.2.1 M.2.2.1 M.2.2.2.1 :: gTb) := by
  intro w hw
  have hw2 : w ∈ gTb := by
    rcases List.mem_cons.mp hw with q | q
    · rw [q]; exact hc
    · exact q
  exact ⟨List.mem_cons_of_mem _ hw2, good_of_word (gTb_good hw2)⟩
def roomOk (R : Room) (M : MM) : Prop := M.2.2.2.2.frames + 1 ≤ R.frames ∧ 8 + (M.2.2.1 + 11) + M.2.2.2.2.locals ≤ R.locals
theorem a_callS (X : AX p s m args meth c g A cc nL own w0 ret) {idx n : Nat} {M : MM} {As rest : List Value} {post : Option Value → Hp → Prop} (hd : decode cc pc = .ok (.invokestatic idx, 3)) (hL : LnS own idx M n) (hM : CT l g M As h post) (hR : roomOk R M) (hn : As.length = n) (hst : st = As.reverse ++ rest) (hcat : (rest.map fun v => v.category).sum ≤ 8) (hC : cells ≤ R.cells ∧ slots ≤ R.slots)
    (kk : ∀ (v : Option Value) (h' : Hp), post v h' → AW p l e R s m args below meth c g A nL cells slots Q (pc + 3) (lv) (v.toList ++ rest) (h')) : AW p l e R s m args below meth c g A nL cells slots Q (pc) (lv) (st) (h) := fun H locs ls hP hD hS hv => by
  have hF := a_freeA X.2.2.2.1 hD hS
  have tt := fun w q => X.1.2.2.2.2 w (List.mem_cons_of_mem _ q)
  obtain ⟨⟨l1, l2, l3, l4⟩, l5, l6, l7⟩ := hL
  refine a_cont (h1 := h) (a := As.toArray) (va_runS (g := F0 m pc ls st) (bytes := M.2.1) (maxL := M.2.2.1) (ret := M.2.2.2.1) X.1 (hM H.size) ⟨callB_of n X.1.2.2.2.2 (goodM l4) rfl l6 l7 (tt _ l3) (tt _ l1) l5 hR, tt _ l2⟩ ⟨CP_blind, fun U hU hW => ⟨rfl, by rw [hU], by rw [hU]; exact hP, va_K.moved hW.alike X.2.1, hD.weaken (fun _ _ _ _ => trivial), Gl.call X.2.2.1 hS hF hU hW⟩⟩ rfl hn hv.1 hst (lv_room hcat) hd hC) hS hF (fun v h' H1 locs1 hp hP1 hD1 hS1 => kk v h' hp H1 locs1 ls hP1 hD1 hS1 hv)
theorem a_callSN (X : AX p s m args meth c g A cc nL own w0 ret) {idx n : Nat} {host : String} {M : MM} {As rest : List Value} {post : Option Value → Hp → Prop} (hd : decode cc pc = .ok (.invokestatic idx, 3)) (hL : LnN own idx M n) (hN : va_Nw (.methodLinkNest own idx M.1 host) s) (hM : CT l g M As h post) (hR : roomOk R M) (hn : As.length = n) (hst : st = As.reverse ++ rest) (hcat : (rest.map fun v => v.category).sum ≤ 8) (hC : cells ≤ R.cells ∧ slots ≤ R.slots)
    (kk : ∀ (v : Option Value) (h' : Hp), post v h' → AW p l e R s m args below meth c g A nL cells slots Q (pc + 3) (lv) (v.toList ++ rest) (h')) : AW p l e R s m args below meth c g A nL cells slots Q (pc) (lv) (st) (h) := fun H locs ls hP hD hS hv => by
  have hF := a_freeA X.2.2.2.1 hD hS
  have tt := fun w q => X.1.2.2.2.2 w (List.mem_cons_of_mem _ q)
  obtain ⟨⟨l2, l3, l4⟩, l5, l6, l7⟩ := hL
  refine a_cont (h1 := h) (a := As.toArray) (va_runSN (g := F0 m pc ls st) (bytes := M.2.1) (maxL := M.2.2.1) (ret := M.2.2.2.1) X.1 (hM H.size) ⟨va_cnB n X.1.2.2.2.2 (goodM l4) rfl l6 l7 hN (tt _ l3) l5 hR, tt _ l2, trivial⟩ ⟨CP_blind, fun U hU hW => ⟨rfl, by rw [hU], by rw [hU]; exact hP, va_K.moved hW.alike X.2.1, hD.weaken (fun _ _ _ _ => trivial), Gl.call X.2.2.1 hS hF hU hW⟩⟩ rfl hn hv.1 hst (lv_room hcat) hd hC) hS hF (fun v h' H1 locs1 hp hP1 hD1 hS1 => kk v h' hp H1 locs1 ls hP1 hD1 hS1 hv)
theorem a_callV (X : AX p s m args meth c g A cc nL own w0 ret) {idx n P cn : Nat} {M : MM} {fs : List Value} {q0 : vw_C} {As rest : List Value} {post : Option Value → Hp → Prop} (hd : decode cc pc = .ok (.invokevirtual idx, 3)) (hL : LnV own idx M n) (hP0 : P < 57) (hh : h P = co cn fs) (hc : vwCl[cn]? = some q0) (hcl : q0.1 = M.1.cls) (hM : CT l g M (.ref (ga g P) :: As) h post) (hR : roomOk R M) (hn : As.length = n) (hst : st = As.reverse ++ .ref (ga g P) :: rest) (hcat : (rest.map fun v => v.category).sum ≤ 8) (hC : cells ≤ R.cells ∧ slots ≤ R.slots)
    (kk : ∀ (v : Option Value) (h' : Hp), post v h' → AW p l e R s m args below meth c g A nL cells slots Q (pc + 3) (lv) (v.toList ++ rest) (h')) : AW p l e R s m args below meth c g A nL cells slots Q (pc) (lv) (st) (h) := fun H locs ls hP hD hS hv => by
  have hF := a_freeA X.2.2.2.1 hD hS
  have tt := fun w q => X.1.2.2.2.2 w (List.mem_cons_of_mem _ q)
  obtain ⟨⟨l1, l2, l2b, l3, l4⟩, l5, l6, l7⟩ := hL
  have he : (wl g h)[P]? = some (ga g P, .inr (cn, fs)) := by rw [wl_at hP0, hh]; rfl
  have hrc := va_recv X.2.1 hP hc he
  rw [hcl] at hrc
  refine a_cont (h1 := h) (a := (.ref (ga g P) :: As).toArray) (va_runV (g := F0 m pc ls st) (C := M.1.cls) (bytes := M.2.1) (maxL := M.2.2.1) (ret := M.2.2.2.1) X.1 (hM H.size) ⟨callB_of n X.1.2.2.2.2 (goodM l4) rfl l6 l7 (tt _ l3) (tt _ l1) l5 hR, tt _ l2, tt _ l2b⟩ ⟨CP_blind, hrc, fun U hU hW => ⟨rfl, by rw [hU], by rw [hU]; exact hP, va_K.moved hW.alike X.2.1, hD.weaken (fun _ _ _ _ => trivial), Gl.call X.2.2.1 hS hF hU hW⟩⟩ rfl hn hv.1 hst (lv_room hcat) hd hC) hS hF (fun v h' H1 locs1 hp hP1 hD1 hS1 => kk v h' hp H1 locs1 ls hP1 hD1 hS1 hv)
end ROWS
end
section
theorem in_X0 : ∀ w ∈ u_ws RX0 TX0 11, w ∈ gTb := by
  intro w hw
  obtain ⟨k, hk, rfl⟩ := List.mem_map.mp hw
  have hk := List.mem_range.mp hk
  match k, hk with
  | 0, _ => exact gTb_at 107 (by decide +kernel) (by decide +kernel)
  | 1, _ => exact gTb_at 109 (by decide +kernel) (by decide +kernel)
  | 2, _ => exact gTb_at 111 (by decide +kernel) (by decide +kernel)
  | 3, _ => exact gTb_at 113 (by decide +kernel) (by decide +kernel)
  | 4, _ => exact gTb_at 115 (by decide +kernel) (by decide +kernel)
  | 5, _ => exact gTb_at 117 (by decide +kernel) (by decide +kernel)
  | 6, _ => exact gTb_at 119 (by decide +kernel) (by decide +kernel)
  | 7, _ => exact gTb_at 121 (by decide +kernel) (by decide +kernel)
  | 8, _ => exact gTb_at 123 (by decide +kernel) (by decide +kernel)
  | 9, _ => exact gTb_at 125 (by decide +kernel) (by decide +kernel)
  | 10, _ => exact gTb_at 127 (by decide +kernel) (by decide +kernel)
  | k + 11, hk => exact absurd hk (by omega)
theorem in_X2 : ∀ w ∈ u_ws RX2 TX2 3, w ∈ gTb := by
  intro w hw
  obtain ⟨k, hk, rfl⟩ := List.mem_map.mp hw
  have hk := List.mem_range.mp hk
  match k, hk with
  | 0, _ => exact gTb_at 170 (by decide +kernel) (by decide +kernel)
  | 1, _ => exact gTb_at 172 (by decide +kernel) (by decide +kernel)
  | 2, _ => exact gTb_at 174 (by decide +kernel) (by decide +kernel)
  | k + 3, hk => exact absurd hk (by omega)
theorem in_X3 : ∀ w ∈ u_ws RX3 TX3 6, w ∈ gTb := by
  intro w hw
  obtain ⟨k, hk, rfl⟩ := List.mem_map.mp hw
  have hk := List.mem_range.mp hk
  match k, hk with
  | 0, _ => exact gTb_at 144 (by decide +kernel) (by decide +kernel)
  | 1, _ => exact gTb_at 146 (by decide +kernel) (by decide +kernel)
  | 2, _ => exact gTb_at 148 (by decide +kernel) (by decide +kernel)
  | 3, _ => exact gTb_at 150 (by decide +kernel) (by decide +kernel)
  | 4, _ => exact gTb_at 152 (by decide +kernel) (by decide +kernel)
  | 5, _ => exact gTb_at 154 (by decide +kernel) (by decide +kernel)
  | k + 6, hk => exact absurd hk (by omega)
theorem in_X4 : ∀ w ∈ u_ws RX4 TX4 7, w ∈ gTb := by
  intro w hw
  obtain ⟨k, hk, rfl⟩ := List.mem_map.mp hw
  have hk := List.mem_range.mp hk
  match k, hk with
  | 0, _ => exact gTb_at 185 (by decide +kernel) (by decide +kernel)
  | 1, _ => exact gTb_at 187 (by decide +kernel) (by decide +kernel)
  | 2, _ => exact gTb_at 189 (by decide +kernel) (by decide +kernel)
  | 3, _ => exact gTb_at 191 (by decide +kernel) (by decide +kernel)
  | 4, _ => exact gTb_at 193 (by decide +kernel) (by decide +kernel)
  | 5, _ => exact gTb_at 195 (by decide +kernel) (by decide +kernel)
  | 6, _ => exact gTb_at 197 (by decide +kernel) (by decide +kernel)
  | k + 7, hk => exact absurd hk (by omega)
theorem in_X5 : ∀ w ∈ u_ws RX5 TX5 21, w ∈ gTb := by
  intro w hw
  obtain ⟨k, hk, rfl⟩ := List.mem_map.mp hw
  have hk := List.mem_range.mp hk
  match k, hk with
  | 0, _ => exact gTb_at 683 (by decide +kernel) (by decide +kernel)
  | 1, _ => exact gTb_at 685 (by decide +kernel) (by decide +kernel)
  | 2, _ => exact gTb_at 687 (by decide +kernel) (by decide +kernel)
  | 3, _ => exact gTb_at 689 (by decide +kernel) (by decide +kernel)
  | 4, _ => exact gTb_at 691 (by decide +kernel) (by decide +kernel)
  | 5, _ => exact gTb_at 693 (by decide +kernel) (by decide +kernel)
  | 6, _ => exact gTb_at 695 (by decide +kernel) (by decide +kernel)
  | 7, _ => exact gTb_at 697 (by decide +kernel) (by decide +kernel)
  | 8, _ => exact gTb_at 699 (by decide +kernel) (by decide +kernel)
  | 9, _ => exact gTb_at 701 (by decide +kernel) (by decide +kernel)
  | 10, _ => exact gTb_at 703 (by decide +kernel) (by decide +kernel)
  | 11, _ => exact gTb_at 705 (by decide +kernel) (by decide +kernel)
  | 12, _ => exact gTb_at 707 (by decide +kernel) (by decide +kernel)
  | 13, _ => exact gTb_at 709 (by decide +kernel) (by decide +kernel)
  | 14, _ => exact gTb_at 711 (by decide +kernel) (by decide +kernel)
  | 15, _ => exact gTb_at 713 (by decide +kernel) (by decide +kernel)
  | 16, _ => exact gTb_at 715 (by decide +kernel) (by decide +kernel)
  | 17, _ => exact gTb_at 717 (by decide +kernel) (by decide +kernel)
  | 18, _ => exact gTb_at 719 (by decide +kernel) (by decide +kernel)
  | 19, _ => exact gTb_at 721 (by decide +kernel) (by decide +kernel)
  | 20, _ => exact gTb_at 723 (by decide +kernel) (by decide +kernel)
  | k + 21, hk => exact absurd hk (by omega)
theorem fl_X0_9 : FL RX0 9 0 0 := ⟨RX0, TX0, 11, rfl, by decide, gTb_at 86 (by decide +kernel) (by decide +kernel), in_X0⟩
theorem fp_X0_9 : FP RX0 9 0 0 .int := ⟨RX0, TX0, 11, tyX0, rfl, by decide, gTb_at 86 (by decide +kernel) (by decide +kernel), in_X0, tyX0_ok, nmX0, rfl, by decide +kernel⟩
theorem fl_X4_56 : FL RX4 56 0 0 := ⟨RX0, TX0, 11, rfl, by decide, gTb_at 87 (by decide +kernel) (by decide +kernel), in_X0⟩
theorem fp_X4_56 : FP RX4 56 0 0 .int := ⟨RX0, TX0, 11, tyX0, rfl, by decide, gTb_at 87 (by decide +kernel) (by decide +kernel), in_X0, tyX0_ok, nmX0, rfl, by decide +kernel⟩
theorem fl_X0_15 : FL RX0 15 0 1 := ⟨RX0, TX0, 11, rfl, by decide, gTb_at 88 (by decide +kernel) (by decide +kernel), in_X0⟩
theorem fp_X0_15 : FP RX0 15 0 1 .int := ⟨RX0, TX0, 11, tyX0, rfl, by decide, gTb_at 88 (by decide +kernel) (by decide +kernel), in_X0, tyX0_ok, nmX0, rfl, by decide +kernel⟩
theorem fl_X3_70 : FL RX3 70 0 1 := ⟨RX0, TX0, 11, rfl, by decide, gTb_at 89 (by decide +kernel) (by decide +kernel), in_X0⟩
theorem fp_X3_70 : FP RX3 70 0 1 .int := ⟨RX0, TX0, 11, tyX0, rfl, by decide, gTb_at 89 (by decide +kernel) (by decide +kernel), in_X0, tyX0_ok, nmX0, rfl, by decide +kernel⟩
theorem fl_X4_177 : FL RX4 177 0 1 := ⟨RX0, TX0, 11, rfl, by decide, gTb_at 90 (by decide +kernel) (by decide +kernel), in_X0⟩
theorem fp_X4_177 : FP RX4 177 0 1 .int := ⟨RX0, TX0, 11, tyX0, rfl, by decide, gTb_at 90 (by decide +kernel) (by decide +kernel), in_X0, tyX0_ok, nmX0, rfl, by decide +kernel⟩
theorem fl_X0_18 : FL RX0 18 0 2 := ⟨RX0, TX0, 11, rfl, by decide, gTb_at 91 (by decide +kernel) (by decide +kernel), in_X0⟩
theorem fl_X4_106 : FL RX4 106 0 2 := ⟨RX0, TX0, 11, rfl, by decide, gTb_at 92 (by decide +kernel) (by decide +kernel), in_X0⟩
theorem fl_X0_22 : FL RX0 22 0 3 := ⟨RX0, TX0, 11, rfl, by decide, gTb_at 93 (by decide +kernel) (by decide +kernel), in_X0⟩
theorem fl_X4_109 : FL RX4 109 0 3 := ⟨RX0, TX0, 11, rfl, by decide, gTb_at 94 (by decide +kernel) (by decide +kernel), in_X0⟩
theorem fl_X0_25 : FL RX0 25 0 4 := ⟨RX0, TX0, 11, rfl, by decide, gTb_at 95 (by decide +kernel) (by decide +kernel), in_X0⟩
theorem fl_X4_84 : FL RX4 84 0 4 := ⟨RX0, TX0, 11, rfl, by decide, gTb_at 96 (by decide +kernel) (by decide +kernel), in_X0⟩
theorem fl_X0_28 : FL RX0 28 0 5 := ⟨RX0, TX0, 11, rfl, by decide, gTb_at 97 (by decide +kernel) (by decide +kernel), in_X0⟩
theorem fl_X4_112 : FL RX4 112 0 5 := ⟨RX0, TX0, 11, rfl, by decide, gTb_at 98 (by decide +kernel) (by decide +kernel), in_X0⟩
theorem fl_X0_31 : FL RX0 31 0 6 := ⟨RX0, TX0, 11, rfl, by decide, gTb_at 99 (by decide +kernel) (by decide +kernel), in_X0⟩
theorem fl_X3_73 : FL RX3 73 0 6 := ⟨RX0, TX0, 11, rfl, by decide, gTb_at 100 (by decide +kernel) (by decide +kernel), in_X0⟩
theorem fl_X4_115 : FL RX4 115 0 6 := ⟨RX0, TX0, 11, rfl, by decide, gTb_at 101 (by decide +kernel) (by decide +kernel), in_X0⟩
theorem fl_X0_34 : FL RX0 34 0 7 := ⟨RX0, TX0, 11, rfl, by decide, gTb_at 102 (by decide +kernel) (by decide +kernel), in_X0⟩
theorem fl_X4_73 : FL RX4 73 0 7 := ⟨RX0, TX0, 11, rfl, by decide, gTb_at 103 (by decide +kernel) (by decide +kernel), in_X0⟩
theorem fl_X0_37 : FL RX0 37 0 8 := ⟨RX0, TX0, 11, rfl, by decide, gTb_at 104 (by decide +kernel) (by decide +kernel), in_X0⟩
theorem fl_X0_40 : FL RX0 40 0 9 := ⟨RX0, TX0, 11, rfl, by decide, gTb_at 105 (by decide +kernel) (by decide +kernel), in_X0⟩
theorem fl_X0_43 : FL RX0 43 0 10 := ⟨RX0, TX0, 11, rfl, by decide, gTb_at 106 (by decide +kernel) (by decide +kernel), in_X0⟩
theorem fl_X3_11 : FL RX3 11 2 0 := ⟨RX3, TX3, 6, rfl, by decide, gTb_at 137 (by decide +kernel) (by decide +kernel), in_X3⟩
theorem fp_X3_11 : FP RX3 11 2 0 .int := ⟨RX3, TX3, 6, tyX3, rfl, by decide, gTb_at 137 (by decide +kernel) (by decide +kernel), in_X3, tyX3_ok, nmX3, rfl, by decide +kernel⟩
theorem fl_X4_180 : FL RX4 180 2 0 := ⟨RX3, TX3, 6, rfl, by decide, gTb_at 138 (by decide +kernel) (by decide +kernel), in_X3⟩
theorem fp_X4_180 : FP RX4 180 2 0 .int := ⟨RX3, TX3, 6, tyX3, rfl, by decide, gTb_at 138 (by decide +kernel) (by decide +kernel), in_X3, tyX3_ok, nmX3, rfl, by decide +kernel⟩
theorem fl_X3_17 : FL RX3 17 2 1 := ⟨RX3, TX3, 6, rfl, by decide, gTb_at 139 (by decide +kernel) (by decide +kernel), in_X3⟩
theorem fl_X3_21 : FL RX3 21 2 2 := ⟨RX3, TX3, 6, rfl, by decide, gTb_at 140 (by decide +kernel) (by decide +kernel), in_X3⟩
theorem fp_X3_21 : FP RX3 21 2 2 .int := ⟨RX3, TX3, 6, tyX3, rfl, by decide, gTb_at 140 (by decide +kernel) (by decide +kernel), in_X3, tyX3_ok, nmX3, rfl, by decide +kernel⟩
theorem fl_X3_24 : FL RX3 24 2 3 := ⟨RX3, TX3, 6, rfl, by decide, gTb_at 141 (by decide +kernel) (by decide +kernel), in_X3⟩
theorem fp_X3_24 : FP RX3 24 2 3 .int := ⟨RX3, TX3, 6, tyX3, rfl, by decide, gTb_at 141 (by decide +kernel) (by decide +kernel), in_X3, tyX3_ok, nmX3, rfl, by decide +kernel⟩
theorem fl_X3_27 : FL RX3 27 2 4 := ⟨RX3, TX3, 6, rfl, by decide, gTb_at 142 (by decide +kernel) (by decide +kernel), in_X3⟩
theorem fp_X3_27 : FP RX3 27 2 4 .int := ⟨RX3, TX3, 6, tyX3, rfl, by decide, gTb_at 142 (by decide +kernel) (by decide +kernel), in_X3, tyX3_ok, nmX3, rfl, by decide +kernel⟩
theorem fl_X3_30 : FL RX3 30 2 5 := ⟨RX3, TX3, 6, rfl, by decide, gTb_at 143 (by decide +kernel) (by decide +kernel), in_X3⟩
theorem fp_X3_30 : FP RX3 30 2 5 .int := ⟨RX3, TX3, 6, tyX3, rfl, by decide, gTb_at 143 (by decide +kernel) (by decide +kernel), in_X3, tyX3_ok, nmX3, rfl, by decide +kernel⟩
theorem fl_X2_9 : FL RX2 9 1 0 := ⟨RX2, TX2, 3, rfl, by decide, gTb_at 164 (by decide +kernel) (by decide +kernel), in_X2⟩
theorem fp_X2_9 : FP RX2 9 1 0 .int := ⟨RX2, TX2, 3, tyX2, rfl, by decide, gTb_at 164 (by decide +kernel) (by decide +kernel), in_X2, tyX2_ok, nmX2, rfl, by decide +kernel⟩
theorem fl_X4_210 : FL RX4 210 1 0 := ⟨RX2, TX2, 3, rfl, by decide, gTb_at 165 (by decide +kernel) (by decide +kernel), in_X2⟩
theorem fp_X4_210 : FP RX4 210 1 0 .int := ⟨RX2, TX2, 3, tyX2, rfl, by decide, gTb_at 165 (by decide +kernel) (by decide +kernel), in_X2, tyX2_ok, nmX2, rfl, by decide +kernel⟩
theorem fl_X2_15 : FL RX2 15 1 1 := ⟨RX2, TX2, 3, rfl, by decide, gTb_at 166 (by decide +kernel) (by decide +kernel), in_X2⟩
theorem fp_X2_15 : FP RX2 15 1 1 .int := ⟨RX2, TX2, 3, tyX2, rfl, by decide, gTb_at 166 (by decide +kernel) (by decide +kernel), in_X2, tyX2_ok, nmX2, rfl, by decide +kernel⟩
theorem fl_X4_197 : FL RX4 197 1 1 := ⟨RX2, TX2, 3, rfl, by decide, gTb_at 167 (by decide +kernel) (by decide +kernel), in_X2⟩
theorem fp_X4_197 : FP RX4 197 1 1 .int := ⟨RX2, TX2, 3, tyX2, rfl, by decide, gTb_at 167 (by decide +kernel) (by decide +kernel), in_X2, tyX2_ok, nmX2, rfl, by decide +kernel⟩
theorem fl_X2_18 : FL RX2 18 1 2 := ⟨RX2, TX2, 3, rfl, by decide, gTb_at 168 (by decide +kernel) (by decide +kernel), in_X2⟩
theorem fl_X4_202 : FL RX4 202 1 2 := ⟨RX2, TX2, 3, rfl, by decide, gTb_at 169 (by decide +kernel) (by decide +kernel), in_X2⟩
theorem fl_X4_10 : FL RX4 10 3 0 := ⟨RX4, TX4, 7, rfl, by decide, gTb_at 178 (by decide +kernel) (by decide +kernel), in_X4⟩
theorem fl_X4_16 : FL RX4 16 3 1 := ⟨RX4, TX4, 7, rfl, by decide, gTb_at 179 (by decide +kernel) (by decide +kernel), in_X4⟩
theorem fl_X4_19 : FL RX4 19 3 2 := ⟨RX4, TX4, 7, rfl, by decide, gTb_at 180 (by decide +kernel) (by decide +kernel), in_X4⟩
theorem fl_X4_22 : FL RX4 22 3 3 := ⟨RX4, TX4, 7, rfl, by decide, gTb_at 181 (by decide +kernel) (by decide +kernel), in_X4⟩
theorem fp_X4_22 : FP RX4 22 3 3 .boolean := ⟨RX4, TX4, 7, tyX4, rfl, by decide, gTb_at 181 (by decide +kernel) (by decide +kernel), in_X4, tyX4_ok, nmX4, rfl, by decide +kernel⟩
theorem fl_X4_29 : FL RX4 29 3 4 := ⟨RX4, TX4, 7, rfl, by decide, gTb_at 182 (by decide +kernel) (by decide +kernel), in_X4⟩
theorem fl_X4_35 : FL RX4 35 3 5 := ⟨RX4, TX4, 7, rfl, by decide, gTb_at 183 (by decide +kernel) (by decide +kernel), in_X4⟩
theorem fl_X4_39 : FL RX4 39 3 6 := ⟨RX4, TX4, 7, rfl, by decide, gTb_at 184 (by decide +kernel) (by decide +kernel), in_X4⟩
theorem kc_X4_48 : Cond.constant RX4 48 (-1000000001) ∈ gTb := gTb_at 207 (by decide +kernel) (by decide +kernel)
theorem kc_J6_265 : Cond.constant RJ6 265 (1431655765) ∈ gTb := gTb_at 244 (by decide +kernel) (by decide +kernel)
theorem kc_J6_266 : Cond.constant RJ6 266 (858993459) ∈ gTb := gTb_at 245 (by decide +kernel) (by decide +kernel)
theorem kc_J6_267 : Cond.constant RJ6 267 (252645135) ∈ gTb := gTb_at 246 (by decide +kernel) (by decide +kernel)
theorem kc_X4_83 : Cond.constant RX4 83 (-1000000004) ∈ gTb := gTb_at 259 (by decide +kernel) (by decide +kernel)
theorem kc_X4_97 : Cond.constant RX4 97 (-1000000002) ∈ gTb := gTb_at 271 (by decide +kernel) (by decide +kernel)
theorem kc_X4_98 : Cond.constant RX4 98 (-1000000005) ∈ gTb := gTb_at 272 (by decide +kernel) (by decide +kernel)
theorem kc_X4_149 : Cond.constant RX4 149 (-1000000003) ∈ gTb := gTb_at 352 (by decide +kernel) (by decide +kernel)
theorem kc_X4_150 : Cond.constant RX4 150 (99999) ∈ gTb := gTb_at 357 (by decide +kernel) (by decide +kernel)
theorem kc_X4_193 : Cond.constant RX4 193 (-1000000007) ∈ gTb := gTb_at 589 (by decide +kernel) (by decide +kernel)
theorem kc_X4_201 : Cond.constant RX4 201 (-1000000006) ∈ gTb := gTb_at 605 (by decide +kernel) (by decide +kernel)
theorem kc_X4_222 : Cond.constantLong RX4 222 (1023) ∈ gTb := gTb_at 623 (by decide +kernel) (by decide +kernel)
theorem fl_X5_7 : FL RX5 7 4 0 := ⟨RX5, TX5, 21, rfl, by decide, gTb_at 662 (by decide +kernel) (by decide +kernel), in_X5⟩
theorem fl_X5_13 : FL RX5 13 4 1 := ⟨RX5, TX5, 21, rfl, by decide, gTb_at 663 (by decide +kernel) (by decide +kernel), in_X5⟩
theorem fl_X5_16 : FL RX5 16 4 2 := ⟨RX5, TX5, 21, rfl, by decide, gTb_at 664 (by decide +kernel) (by decide +kernel), in_X5⟩
theorem fl_X5_19 : FL RX5 19 4 3 := ⟨RX5, TX5, 21, rfl, by decide, gTb_at 665 (by decide +kernel) (by decide +kernel), in_X5⟩
theorem fl_X5_22 : FL RX5 22 4 4 := ⟨RX5, TX5, 21, rfl, by decide, gTb_at 666 (by decide +kernel) (by decide +kernel), in_X5⟩
theorem fl_X5_25 : FL RX5 25 4 5 := ⟨RX5, TX5, 21, rfl, by decide, gTb_at 667 (by decide +kernel) (by decide +kernel), in_X5⟩
theorem fl_X5_28 : FL RX5 28 4 6 := ⟨RX5, TX5, 21, rfl, by decide, gTb_at 668 (by decide +kernel) (by decide +kernel), in_X5⟩
theorem fl_X5_173 : FL RX5 173 4 7 := ⟨RX5, TX5, 21, rfl, by decide, gTb_at 669 (by decide +kernel) (by decide +kernel), in_X5⟩
theorem fp_X5_173 : FP RX5 173 4 7 .int := ⟨RX5, TX5, 21, tyX5, rfl, by decide, gTb_at 669 (by decide +kernel) (by decide +kernel), in_X5, tyX5_ok, nmX5, rfl, by decide +kernel⟩
theorem fl_X5_192 : FL RX5 192 4 8 := ⟨RX5, TX5, 21, rfl, by decide, gTb_at 670 (by decide +kernel) (by decide +kernel), in_X5⟩
theorem fp_X5_192 : FP RX5 192 4 8 .int := ⟨RX5, TX5, 21, tyX5, rfl, by decide, gTb_at 670 (by decide +kernel) (by decide +kernel), in_X5, tyX5_ok, nmX5, rfl, by decide +kernel⟩
theorem fl_X5_180 : FL RX5 180 4 9 := ⟨RX5, TX5, 21, rfl, by decide, gTb_at 671 (by decide +kernel) (by decide +kernel), in_X5⟩
theorem fp_X5_180 : FP RX5 180 4 9 .int := ⟨RX5, TX5, 21, tyX5, rfl, by decide, gTb_at 671 (by decide +kernel) (by decide +kernel), in_X5, tyX5_ok, nmX5, rfl, by decide +kernel⟩
theorem fl_X5_177 : FL RX5 177 4 10 := ⟨RX5, TX5, 21, rfl, by decide, gTb_at 672 (by decide +kernel) (by decide +kernel), in_X5⟩
theorem fp_X5_177 : FP RX5 177 4 10 .int := ⟨RX5, TX5, 21, tyX5, rfl, by decide, gTb_at 672 (by decide +kernel) (by decide +kernel), in_X5, tyX5_ok, nmX5, rfl, by decide +kernel⟩
theorem fl_X5_195 : FL RX5 195 4 11 := ⟨RX5, TX5, 21, rfl, by decide, gTb_at 673 (by decide +kernel) (by decide +kernel), in_X5⟩
theorem fp_X5_195 : FP RX5 195 4 11 .long := ⟨RX5, TX5, 21, tyX5, rfl, by decide, gTb_at 673 (by decide +kernel) (by decide +kernel), in_X5, tyX5_ok, nmX5, rfl, by decide +kernel⟩
theorem fl_X5_199 : FL RX5 199 4 12 := ⟨RX5, TX5, 21, rfl, by decide, gTb_at 674 (by decide +kernel) (by decide +kernel), in_X5⟩
theorem fp_X5_199 : FP RX5 199 4 12 .int := ⟨RX5, TX5, 21, tyX5, rfl, by decide, gTb_at 674 (by decide +kernel) (by decide +kernel), in_X5, tyX5_ok, nmX5, rfl, by decide +kernel⟩
theorem fl_X5_224 : FL RX5 224 4 13 := ⟨RX5, TX5, 21, rfl, by decide, gTb_at 675 (by decide +kernel) (by decide +kernel), in_X5⟩
theorem fp_X5_224 : FP RX5 224 4 13 .boolean := ⟨RX5, TX5, 21, tyX5, rfl, by decide, gTb_at 675 (by decide +kernel) (by decide +kernel), in_X5, tyX5_ok, nmX5, rfl, by decide +kernel⟩
theorem fl_X5_31 : FL RX5 31 4 14 := ⟨RX5, TX5, 21, rfl, by decide, gTb_at 676 (by decide +kernel) (by decide +kernel), in_X5⟩
theorem fl_X5_34 : FL RX5 34 4 15 := ⟨RX5, TX5, 21, rfl, by decide, gTb_at 677 (by decide +kernel) (by decide +kernel), in_X5⟩
theorem fl_X5_37 : FL RX5 37 4 16 := ⟨RX5, TX5, 21, rfl, by decide, gTb_at 678 (by decide +kernel) (by decide +kernel), in_X5⟩
theorem fl_X5_41 : FL RX5 41 4 17 := ⟨RX5, TX5, 21, rfl, by decide, gTb_at 679 (by decide +kernel) (by decide +kernel), in_X5⟩
theorem fl_X5_44 : FL RX5 44 4 18 := ⟨RX5, TX5, 21, rfl, by decide, gTb_at 680 (by decide +kernel) (by decide +kernel), in_X5⟩
theorem fl_X5_47 : FL RX5 47 4 19 := ⟨RX5, TX5, 21, rfl, by decide, gTb_at 681 (by decide +kernel) (by decide +kernel), in_X5⟩
theorem fl_X5_281 : FL RX5 281 4 20 := ⟨RX5, TX5, 21, rfl, by decide, gTb_at 682 (by decide +kernel) (by decide +kernel), in_X5⟩
theorem fp_X5_281 : FP RX5 281 4 20 .boolean := ⟨RX5, TX5, 21, tyX5, rfl, by decide, gTb_at 682 (by decide +kernel) (by decide +kernel), in_X5, tyX5_ok, nmX5, rfl, by decide +kernel⟩
theorem kc_X5_50 : Cond.constant RX5 50 (-1000000001) ∈ gTb := gTb_at 744 (by decide +kernel) (by decide +kernel)
theorem kc_X5_92 : Cond.constant RX5 92 (-1000000004) ∈ gTb := gTb_at 784 (by decide +kernel) (by decide +kernel)
theorem kc_X5_118 : Cond.constant RX5 118 (-1000000002) ∈ gTb := gTb_at 795 (by decide +kernel) (by decide +kernel)
theorem kc_X5_119 : Cond.constant RX5 119 (-1000000005) ∈ gTb := gTb_at 796 (by decide +kernel) (by decide +kernel)
theorem kc_X5_137 : Cond.constant RX5 137 (-1000000003) ∈ gTb := gTb_at 858 (by decide +kernel) (by decide +kernel)
theorem kc_X5_151 : Cond.constant RX5 151 (99999) ∈ gTb := gTb_at 863 (by decide +kernel) (by decide +kernel)
theorem kc_X5_202 : Cond.constantLong RX5 202 (27) ∈ gTb := gTb_at 969 (by decide +kernel) (by decide +kernel)
theorem kc_X5_204 : Cond.constantLong RX5 204 (96) ∈ gTb := gTb_at 970 (by decide +kernel) (by decide +kernel)
theorem kc_X5_206 : Cond.constantLong RX5 206 (-1) ∈ gTb := gTb_at 971 (by decide +kernel) (by decide +kernel)
theorem kc_X5_208 : Cond.constantLong RX5 208 (189450486) ∈ gTb := gTb_at 980 (by decide +kernel) (by decide +kernel)
theorem kc_X5_214 : Cond.constantLong RX5 214 (2896470) ∈ gTb := gTb_at 985 (by decide +kernel) (by decide +kernel)
theorem kc_X5_216 : Cond.constantLong RX5 216 (1888) ∈ gTb := gTb_at 986 (by decide +kernel) (by decide +kernel)
theorem kc_X5_218 : Cond.constantLong RX5 218 (206754213222) ∈ gTb := gTb_at 987 (by decide +kernel) (by decide +kernel)
theorem kc_X5_220 : Cond.constantLong RX5 220 (3180787626) ∈ gTb := gTb_at 988 (by decide +kernel) (by decide +kernel)
theorem kc_X5_222 : Cond.constantLong RX5 222 (34700796277) ∈ gTb := gTb_at 989 (by decide +kernel) (by decide +kernel)
theorem kc_X5_237 : Cond.constantLong RX5 237 (82528) ∈ gTb := gTb_at 1002 (by decide +kernel) (by decide +kernel)
theorem kc_X5_249 : Cond.constantLong RX5 249 (6132988) ∈ gTb := gTb_at 1007 (by decide +kernel) (by decide +kernel)
theorem kc_X5_254 : Cond.constantLong RX5 254 (267413) ∈ gTb := gTb_at 1012 (by decide +kernel) (by decide +kernel)
theorem kc_X5_265 : Cond.constant RX5 265 (-1000000007) ∈ gTb := gTb_at 1024 (by decide +kernel) (by decide +kernel)
theorem kc_X5_266 : Cond.constant RX5 266 (-1000000006) ∈ gTb := gTb_at 1029 (by decide +kernel) (by decide +kernel)
theorem kc_X5_276 : Cond.constantLong RX5 276 (1023) ∈ gTb := gTb_at 1049 (by decide +kernel) (by decide +kernel)
theorem kc_L_113 : Cond.constantLong RL 113 (4294967295) ∈ gTb := gTb_at 1082 (by decide +kernel) (by decide +kernel)
def mX0_init : MM := (yX0_init, cX0_init, 1, none, rmM 1 23)
def mX0_become : MM := (yX0_become, cX0_become, 2, none, rmM 1 26)
def mX0_has : MM := (yX0_has, cX0_has, 2, (some .boolean), rmM 0 0)
def mX0_isFull : MM := (yX0_isFull, cX0_isFull, 1, (some .boolean), rmM 0 0)
def mX0_sitter : MM := (yX0_sitter, cX0_sitter, 2, (some .int), rmM 1 22)
def mX0_maySit : MM := (yX0_maySit, cX0_maySit, 4, (some .boolean), rmM 2 43)
def mX0_add : MM := (yX0_add, cX0_add, 6, (some .int), rmM 0 0)
def mX0_reseat : MM := (yX0_reseat, cX0_reseat, 3, none, rmM 0 0)
def mX0_leastEmptySeat : MM := (yX0_leastEmptySeat, cX0_leastEmptySeat, 2, (some .int), rmM 0 0)
def mX0_sitterInOrder : MM := (yX0_sitterInOrder, cX0_sitterInOrder, 4, (some .int), rmM 0 0)
def mX0_gaps : MM := (yX0_gaps, cX0_gaps, 5, (some .int), rmM 0 0)
def mX0_versesBorne : MM := (yX0_versesBorne, cX0_versesBorne, 3, (some .int), rmM 0 0)
def mX0_versesKnown : MM := (yX0_versesKnown, cX0_versesKnown, 3, (some .int), rmM 0 0)
def mX0_knownTogether : MM := (yX0_knownTogether, cX0_knownTogether, 3, (some .int), rmM 2 41)
def mX0_knownBy : MM := (yX0_knownBy, cX0_knownBy, 2, (some .int), rmM 1 20)
def mX0_doesKnow : MM := (yX0_doesKnow, cX0_doesKnow, 3, (some .boolean), rmM 0 0)
def mX0_isSpread : MM := (yX0_isSpread, cX0_isSpread, 4, (some .boolean), rmM 1 22)
def mX0_isHeretical : MM := (yX0_isHeretical, cX0_isHeretical, 2, (some .boolean), rmM 1 22)
def mX0_sum : MM := (yX0_sum, cX0_sum, 4, (some .int), rmM 0 0)
def mX0_felt : MM := (yX0_felt, cX0_felt, 5, (some .int), rmM 2 43)
def mX0_getsFrom : MM := (yX0_getsFrom, cX0_getsFrom, 3, (some .boolean), rmM 1 23)
def mX0_told : MM := (yX0_told, cX0_told, 2, (some .int), rmM 2 43)
def mX0_passNights : MM := (yX0_passNights, cX0_passNights, 3, none, rmM 5 113)
def mX0_passNight : MM := (yX0_passNight, cX0_passNight, 2, none, rmM 4 92)
def mX0_findOut : MM := (yX0_findOut, cX0_findOut, 6, none, rmM 3 67)
def mX1_isKind : MM := (yX1_isKind, cX1_isKind, 1, (some .boolean), rmM 0 0)
def mX1_isUnder : MM := (yX1_isUnder, cX1_isUnder, 4, (some .boolean), rmM 1 20)
def mX1_reach : MM := (yX1_reach, cX1_reach, 2, (some .int), rmM 0 0)
def mX1_gets : MM := (yX1_gets, cX1_gets, 4, (some .boolean), rmM 0 0)
def mX1_tells : MM := (yX1_tells, cX1_tells, 2, (some .int), rmM 1 22)
def mX1_tires : MM := (yX1_tires, cX1_tires, 3, (some .int), rmM 0 0)
def mX1_least : MM := (yX1_least, cX1_least, 1, (some .int), rmM 0 0)
def mX1_greatest : MM := (yX1_greatest, cX1_greatest, 3, (some .int), rmM 0 0)
def mX2_init : MM := (yX2_init, cX2_init, 1, none, rmM 0 0)
def mX2_isMissing : MM := (yX2_isMissing, cX2_isMissing, 1, (some .boolean), rmM 0 0)
def mX2_lay : MM := (yX2_lay, cX2_lay, 3, none, rmM 1 24)
def mX2_put : MM := (yX2_put, cX2_put, 4, none, rmM 0 0)
def mX2_hasPart : MM := (yX2_hasPart, cX2_hasPart, 3, (some .boolean), rmM 0 0)
def mX3_init : MM := (yX3_init, cX3_init, 1, none, rmM 0 0)
def mX3_append : MM := (yX3_append, cX3_append, 2, none, rmM 0 0)
def mX3_parse : MM := (yX3_parse, cX3_parse, 3, (some .int), rmM 10 215)
def mX3_takesItem : MM := (yX3_takesItem, cX3_takesItem, 2, (some .boolean), rmM 9 194)
def mX3_takesMember : MM := (yX3_takesMember, cX3_takesMember, 6, (some .boolean), rmM 8 169)
def mX3_takesKnows : MM := (yX3_takesKnows, cX3_takesKnows, 3, (some .boolean), rmM 8 169)
def mX3_takesMove : MM := (yX3_takesMove, cX3_takesMove, 3, (some .boolean), rmM 8 169)
def mX3_atEmptySeat : MM := (yX3_atEmptySeat, cX3_atEmptySeat, 2, (some .boolean), rmM 2 44)
def mX3_atNumber : MM := (yX3_atNumber, cX3_atNumber, 3, (some .boolean), rmM 1 22)
def mX3_advance : MM := (yX3_advance, cX3_advance, 1, none, rmM 7 149)
def mX3_takeWord : MM := (yX3_takeWord, cX3_takeWord, 2, none, rmM 6 128)
def mX3_takeNumber : MM := (yX3_takeNumber, cX3_takeNumber, 1, none, rmM 1 21)
def mX3_isWord : MM := (yX3_isWord, cX3_isWord, 3, (some .boolean), rmM 5 106)
def mX3_spelling : MM := (yX3_spelling, cX3_spelling, 1, (some (.object "java/lang/String")), rmM 0 0)
def mX3_isLetter : MM := (yX3_isLetter, cX3_isLetter, 1, (some .boolean), rmM 0 0)
def mX3_isDigit : MM := (yX3_isDigit, cX3_isDigit, 1, (some .boolean), rmM 0 0)
def mX4_init : MM := (yX4_init, cX4_init, 2, none, rmM 0 0)
def mX4_seat : MM := (yX4_seat, cX4_seat, 2, (some .int), rmM 2 44)
def mX4_now : MM := (yX4_now, cX4_now, 2, (some .int), rmM 3 63)
def mX4_verse : MM := (yX4_verse, cX4_verse, 3, (some .int), rmM 2 44)
def mX4_member : MM := (yX4_member, cX4_member, 4, (some .int), rmM 2 44)
def mX4_of : MM := (yX4_of, cX4_of, 3, (some .int), rmM 3 67)
def mX4_set : MM := (yX4_set, cX4_set, 6, (some .int), rmM 2 44)
def mX4_maySet : MM := (yX4_maySet, cX4_maySet, 2, (some .boolean), rmM 1 22)
def mX4_rowOf : MM := (yX4_rowOf, cX4_rowOf, 2, (some (.array .int)), rmM 0 0)
def mX4_move : MM := (yX4_move, cX4_move, 4, (some .int), rmM 3 66)
def mX4_turn : MM := (yX4_turn, cX4_turn, 4, (some .int), rmM 2 44)
def mX4_as : MM := (yX4_as, cX4_as, 3, (some .int), rmM 2 44)
def mX4_nights : MM := (yX4_nights, cX4_nights, 2, (some .int), rmM 6 135)
def mX4_on : MM := (yX4_on, cX4_on, 4, (some .int), rmM 6 135)
def mX4_learns : MM := (yX4_learns, cX4_learns, 4, (some .int), rmM 5 113)
def mX4_spreads : MM := (yX4_spreads, cX4_spreads, 3, (some .int), rmM 5 113)
def mX4_heresy : MM := (yX4_heresy, cX4_heresy, 2, (some .int), rmM 5 113)
def mX4_best : MM := (yX4_best, cX4_best, 7, (some .int), rmM 6 135)
def mX4_kind : MM := (yX4_kind, cX4_kind, 7, (some .int), rmM 6 135)
def mX4_deep : MM := (yX4_deep, cX4_deep, 5, (some .int), rmM 6 135)
def mX4_shift : MM := (yX4_shift, cX4_shift, 7, (some .int), rmM 6 135)
def mX4_bears : MM := (yX4_bears, cX4_bears, 5, (some .int), rmM 6 135)
def mX4_wisest : MM := (yX4_wisest, cX4_wisest, 4, (some .int), rmM 6 135)
def mX4_feed : MM := (yX4_feed, cX4_feed, 4, (some .int), rmM 2 44)
def mX4_wipe : MM := (yX4_wipe, cX4_wipe, 2, (some .int), rmM 0 0)
def mX4_chapel : MM := (yX4_chapel, cX4_chapel, 2, (some .int), rmM 11 237)
def mX4_sheet : MM := (yX4_sheet, cX4_sheet, 4, (some .int), rmM 2 46)
def mX4_write : MM := (yX4_write, cX4_write, 8, (some .long), rmM 2 44)
def mX4_copy : MM := (yX4_copy, cX4_copy, 8, (some .int), rmM 2 44)
def mX4_lays : MM := (yX4_lays, cX4_lays, 7, (some .int), rmM 2 44)
def mX4_book : MM := (yX4_book, cX4_book, 5, (some .int), rmM 5 113)
def mX4_read : MM := (yX4_read, cX4_read, 8, (some .int), rmM 6 136)
def mX4_trialGoesAs : MM := (yX4_trialGoesAs, cX4_trialGoesAs, 4, (some .boolean), rmM 5 113)
def mX4_image : MM := (yX4_image, cX4_image, 1, (some .int), rmM 2 47)
def mX4_undo : MM := (yX4_undo, cX4_undo, 1, (some .int), rmM 2 47)
def mX4_tear : MM := (yX4_tear, cX4_tear, 2, (some .int), rmM 0 0)
def mX4_count : MM := (yX4_count, cX4_count, 2, (some .int), rmM 2 44)
def mX4_status : MM := (yX4_status, cX4_status, 4, (some .int), rmM 2 44)
def mX4_found : MM := (yX4_found, cX4_found, 3, (some .int), rmM 1 22)
def mX4_isSheet : MM := (yX4_isSheet, cX4_isSheet, 1, (some .boolean), rmM 1 22)
def mX4_within : MM := (yX4_within, cX4_within, 3, (some .boolean), rmM 0 0)
def mX5_init : MM := (yX5_init, cX5_init, 1, none, rmM 0 0)
def mX5_in : MM := (yX5_in, cX5_in, 3, (some .boolean), rmM 0 0)
def mX5_finds : MM := (yX5_finds, cX5_finds, 2, (some .int), rmM 0 0)
def mX5_held : MM := (yX5_held, cX5_held, 3, (some .int), rmM 0 0)
def mX5_its : MM := (yX5_its, cX5_its, 3, (some .int), rmM 0 0)
def mX5_puts : MM := (yX5_puts, cX5_puts, 4, none, rmM 0 0)
def mX5_becomes : MM := (yX5_becomes, cX5_becomes, 4, (some .int), rmM 0 0)
def mX5_isOne : MM := (yX5_isOne, cX5_isOne, 2, (some .boolean), rmM 1 22)
def mX5_isKind : MM := (yX5_isKind, cX5_isKind, 1, (some .boolean), rmM 1 22)
def mX5_isSeat : MM := (yX5_isSeat, cX5_isSeat, 1, (some .boolean), rmM 1 22)
def mX5_isVerse : MM := (yX5_isVerse, cX5_isVerse, 1, (some .boolean), rmM 1 22)
def mX5_bits : MM := (yX5_bits, cX5_bits, 3, (some .int), rmM 0 0)
def mX5_leastOf : MM := (yX5_leastOf, cX5_leastOf, 1, (some .int), rmM 0 0)
def mX5_greatestOf : MM := (yX5_greatestOf, cX5_greatestOf, 2, (some .int), rmM 0 0)
def mX5_whoIn : MM := (yX5_whoIn, cX5_whoIn, 4, (some .int), rmM 1 22)
def mX5_seat : MM := (yX5_seat, cX5_seat, 2, (some .int), rmM 2 45)
def mX5_seatsTaken : MM := (yX5_seatsTaken, cX5_seatsTaken, 3, (some .int), rmM 1 22)
def mX5_gaps : MM := (yX5_gaps, cX5_gaps, 6, (some .int), rmM 2 44)
def mX5_standing : MM := (yX5_standing, cX5_standing, 3, (some .int), rmM 1 22)
def mX5_known : MM := (yX5_known, cX5_known, 3, (some .int), rmM 1 22)
def mX5_knownOfAll : MM := (yX5_knownOfAll, cX5_knownOfAll, 3, (some .int), rmM 1 22)
def mX5_sumOf : MM := (yX5_sumOf, cX5_sumOf, 4, (some .int), rmM 1 22)
def mX5_now : MM := (yX5_now, cX5_now, 2, (some .int), rmM 3 69)
def mX5_verse : MM := (yX5_verse, cX5_verse, 4, (some .int), rmM 2 45)
def mX5_feels : MM := (yX5_feels, cX5_feels, 2, (some .int), rmM 1 22)
def mX5_felt : MM := (yX5_felt, cX5_felt, 5, (some .int), rmM 2 45)
def mX5_isReading : MM := (yX5_isReading, cX5_isReading, 5, (some .boolean), rmM 3 69)
def mX5_tells : MM := (yX5_tells, cX5_tells, 3, (some .int), rmM 1 22)
def mX5_tires : MM := (yX5_tires, cX5_tires, 3, (some .int), rmM 4 93)
def mX5_adds : MM := (yX5_adds, cX5_adds, 6, none, rmM 1 23)
def mX5_member : MM := (yX5_member, cX5_member, 4, (some .int), rmM 2 48)
def mX5_of : MM := (yX5_of, cX5_of, 3, (some .int), rmM 4 93)
def mX5_isPart : MM := (yX5_isPart, cX5_isPart, 2, (some .boolean), rmM 2 42)
def mX5_set : MM := (yX5_set, cX5_set, 4, (some .int), rmM 3 63)
def mX5_move : MM := (yX5_move, cX5_move, 4, (some .int), rmM 2 45)
def mX5_turn : MM := (yX5_turn, cX5_turn, 3, (some .int), rmM 2 43)
def mX5_as : MM := (yX5_as, cX5_as, 5, (some .int), rmM 2 43)
def mX5_got : MM := (yX5_got, cX5_got, 4, (some .int), rmM 4 93)
def mX5_oneNight : MM := (yX5_oneNight, cX5_oneNight, 2, none, rmM 5 116)
def mX5_passes : MM := (yX5_passes, cX5_passes, 3, none, rmM 6 137)
def mX5_nights : MM := (yX5_nights, cX5_nights, 2, (some .int), rmM 7 159)
def mX5_on : MM := (yX5_on, cX5_on, 5, (some .int), rmM 7 159)
def mX5_isKnown : MM := (yX5_isKnown, cX5_isKnown, 3, (some .boolean), rmM 1 22)
def mX5_learns : MM := (yX5_learns, cX5_learns, 4, (some .int), rmM 6 137)
def mX5_isSpread : MM := (yX5_isSpread, cX5_isSpread, 4, (some .boolean), rmM 2 44)
def mX5_spreads : MM := (yX5_spreads, cX5_spreads, 3, (some .int), rmM 6 137)
def mX5_isHeresy : MM := (yX5_isHeresy, cX5_isHeresy, 3, (some .boolean), rmM 2 44)
def mX5_heresy : MM := (yX5_heresy, cX5_heresy, 2, (some .int), rmM 6 137)
def mX5_knowsBehind : MM := (yX5_knowsBehind, cX5_knowsBehind, 4, (some .int), rmM 7 159)
def mX5_best : MM := (yX5_best, cX5_best, 8, (some .int), rmM 8 182)
def mX5_kind : MM := (yX5_kind, cX5_kind, 7, (some .int), rmM 8 182)
def mX5_deep : MM := (yX5_deep, cX5_deep, 7, (some .int), rmM 8 182)
def mX5_shift : MM := (yX5_shift, cX5_shift, 7, (some .int), rmM 7 159)
def mX5_bears : MM := (yX5_bears, cX5_bears, 6, (some .int), rmM 8 182)
def mX5_wisest : MM := (yX5_wisest, cX5_wisest, 4, (some .int), rmM 7 159)
def mX5_feed : MM := (yX5_feed, cX5_feed, 4, (some .int), rmM 1 22)
def mX5_wipe : MM := (yX5_wipe, cX5_wipe, 2, (some .int), rmM 0 0)
def mX5_byteAt : MM := (yX5_byteAt, cX5_byteAt, 2, (some .int), rmM 0 0)
def mX5_isLetter : MM := (yX5_isLetter, cX5_isLetter, 1, (some .boolean), rmM 1 22)
def mX5_isDigit : MM := (yX5_isDigit, cX5_isDigit, 1, (some .boolean), rmM 1 22)
def mX5_advance : MM := (yX5_advance, cX5_advance, 2, none, rmM 2 42)
def mX5_isWord : MM := (yX5_isWord, cX5_isWord, 3, (some .boolean), rmM 0 0)
def mX5_kindHere : MM := (yX5_kindHere, cX5_kindHere, 1, (some .int), rmM 1 22)
def mX5_wantNumber : MM := (yX5_wantNumber, cX5_wantNumber, 4, (some .int), rmM 3 63)
def mX5_mayWant : MM := (yX5_mayWant, cX5_mayWant, 6, (some .int), rmM 4 86)
def mX5_wantSeat : MM := (yX5_wantSeat, cX5_wantSeat, 1, (some .int), rmM 4 86)
def mX5_wantOne : MM := (yX5_wantOne, cX5_wantOne, 5, none, rmM 5 111)
def mX5_wantKnowing : MM := (yX5_wantKnowing, cX5_wantKnowing, 3, none, rmM 4 86)
def mX5_wantMove : MM := (yX5_wantMove, cX5_wantMove, 3, none, rmM 5 106)
def mX5_wantItem : MM := (yX5_wantItem, cX5_wantItem, 1, none, rmM 6 135)
def mX5_chapel : MM := (yX5_chapel, cX5_chapel, 3, (some .int), rmM 7 155)
def mX5_isSheet : MM := (yX5_isSheet, cX5_isSheet, 1, (some .boolean), rmM 1 22)
def mX5_narrow : MM := (yX5_narrow, cX5_narrow, 3, (some .long), rmM 0 0)
def mX5_sheet : MM := (yX5_sheet, cX5_sheet, 5, (some .int), rmM 2 42)
def mX5_write : MM := (yX5_write, cX5_write, 7, (some .long), rmM 2 42)
def mX5_isPart_ : MM := (yX5_isPart_, cX5_isPart_, 4, (some .boolean), rmM 0 0)
def mX5_copy : MM := (yX5_copy, cX5_copy, 7, (some .int), rmM 2 42)
def mX5_badSheet : MM := (yX5_badSheet, cX5_badSheet, 2, (some .int), rmM 2 42)
def mX5_lays : MM := (yX5_lays, cX5_lays, 7, (some .int), rmM 3 63)
def mX5_book : MM := (yX5_book, cX5_book, 5, (some .int), rmM 6 137)
def mX5_isSo : MM := (yX5_isSo, cX5_isSo, 5, (some .boolean), rmM 6 137)
def mX5_read : MM := (yX5_read, cX5_read, 7, (some .int), rmM 7 161)
def mX5_moveAll : MM := (yX5_moveAll, cX5_moveAll, 4, none, rmM 0 0)
def mX5_image : MM := (yX5_image, cX5_image, 1, (some .int), rmM 1 23)
def mX5_undo : MM := (yX5_undo, cX5_undo, 1, (some .int), rmM 1 23)
def mX5_tear : MM := (yX5_tear, cX5_tear, 2, (some .int), rmM 0 0)
def mX5_count : MM := (yX5_count, cX5_count, 2, (some .int), rmM 2 45)
def mX5_status : MM := (yX5_status, cX5_status, 4, (some .int), rmM 1 22)
def mJ6_bitCount_0f7a4 : MM := (yJ6_bitCount_0f7a4, cJ6_bitCount_0f7a4, 1, (some .int), rmM 0 0)
def mJ9_max_7cf53 : MM := (yJ9_max_7cf53, cJ9_max_7cf53, 2, (some .int), rmM 0 0)
def mJ9_min_7cf53 : MM := (yJ9_min_7cf53, cJ9_min_7cf53, 2, (some .int), rmM 0 0)
def mJ0_length_8abf5 : MM := (yJ0_length_8abf5, cJ0_length_8abf5, 1, (some .int), rmM 1 20)
def mJ0_charAt_5068e : MM := (yJ0_charAt_5068e, cJ0_charAt_5068e, 2, (some .char), rmM 4 85)
def mJ0_coder_7d493 : MM := (yJ0_coder_7d493, cJ0_coder_7d493, 1, (some .byte), rmM 0 0)
def mJ0_isLatin1_aae02 : MM := (yJ0_isLatin1_aae02, cJ0_isLatin1_aae02, 1, (some .boolean), rmM 0 0)
def mJ0_checkIndex_df160 : MM := (yJ0_checkIndex_df160, cJ0_checkIndex_df160, 2, none, rmM 1 22)
def mJ1_charAt_3b067 : MM := (yJ1_charAt_3b067, cJ1_charAt_3b067, 2, (some .char), rmM 2 43)
def mJ2_getChar_3b067 : MM := (yJ2_getChar_3b067, cJ2_getChar_3b067, 2, (some .char), rmM 1 20)
def mJ2_length_9d52b : MM := (yJ2_length_9d52b, cJ2_length_9d52b, 1, (some .int), rmM 0 0)
def mJ2_charAt_3b067 : MM := (yJ2_charAt_3b067, cJ2_charAt_3b067, 2, (some .char), rmM 3 64)
def mJ2_checkIndex_2214a : MM := (yJ2_checkIndex_2214a, cJ2_checkIndex_2214a, 2, none, rmM 2 43)
def mJ7_fill_d0a16 : MM := (yJ7_fill_d0a16, cJ7_fill_d0a16, 5, none, rmM 0 0)
def mJ7_fill_53178 : MM := (yJ7_fill_53178, cJ7_fill_53178, 4, none, rmM 0 0)
def mJ3_checkIndex_8e157 : MM := (yJ3_checkIndex_8e157, cJ3_checkIndex_8e157, 3, (some .int), rmM 0 0)
theorem lk_X0_46 : LnS RX0 46 mJ7_fill_53178 2 := ⟨⟨gTb_at 83 (by decide +kernel) (by decide +kernel), gTb_at 84 (by decide +kernel) (by decide +kernel), gTb_at 57 (by decide +kernel) (by decide +kernel), gTb_at 85 (by decide +kernel) (by decide +kernel)⟩, ⟨by decide +kernel, by decide +kernel, by decide +kernel⟩, rfl, rfl⟩
theorem ml_X0_52 : Cond.methodLink RX0 52 arraycopyName ∈ gTb := gTb_at 390 (by decide +kernel) (by decide +kernel)
theorem lk_X0_58 : LnN RX0 58 mX4_within 3 := ⟨⟨gTb_at 205 (by decide +kernel) (by decide +kernel), gTb_at 55 (by decide +kernel) (by decide +kernel), gTb_at 206 (by decide +kernel) (by decide +kernel)⟩, ⟨by decide +kernel, by decide +kernel, by decide +kernel⟩, rfl, rfl⟩
theorem lk_X0_62 : LnV RX0 62 mX0_sitter 1 := ⟨⟨gTb_at 293 (by decide +kernel) (by decide +kernel), gTb_at 213 (by decide +kernel) (by decide +kernel), gTb_at 214 (by decide +kernel) (by decide +kernel), gTb_at 56 (by decide +kernel) (by decide +kernel), gTb_at 215 (by decide +kernel) (by decide +kernel)⟩, ⟨by decide +kernel, by decide +kernel, by decide +kernel⟩, rfl, rfl⟩
theorem lk_X0_66 : LnV RX0 66 mX0_knownBy 1 := ⟨⟨gTb_at 237 (by decide +kernel) (by decide +kernel), gTb_at 238 (by decide +kernel) (by decide +kernel), gTb_at 239 (by decide +kernel) (by decide +kernel), gTb_at 56 (by decide +kernel) (by decide +kernel), gTb_at 240 (by decide +kernel) (by decide +kernel)⟩, ⟨by decide +kernel, by decide +kernel, by decide +kernel⟩, rfl, rfl⟩
theorem lk_X0_69 : LnS RX0 69 mJ6_bitCount_0f7a4 1 := ⟨⟨gTb_at 241 (by decide +kernel) (by decide +kernel), gTb_at 242 (by decide +kernel) (by decide +kernel), gTb_at 61 (by decide +kernel) (by decide +kernel), gTb_at 243 (by decide +kernel) (by decide +kernel)⟩, ⟨by decide +kernel, by decide +kernel, by decide +kernel⟩, rfl, rfl⟩
theorem lk_X0_76 : LnV RX0 76 mX0_doesKnow 2 := ⟨⟨gTb_at 410 (by decide +kernel) (by decide +kernel), gTb_at 398 (by decide +kernel) (by decide +kernel), gTb_at 399 (by decide +kernel) (by decide +kernel), gTb_at 56 (by decide +kernel) (by decide +kernel), gTb_at 400 (by decide +kernel) (by decide +kernel)⟩, ⟨by decide +kernel, by decide +kernel, by decide +kernel⟩, rfl, rfl⟩
theorem lk_X0_80 : LnS RX0 80 mX1_reach 2 := ⟨⟨gTb_at 292 (by decide +kernel) (by decide +kernel), gTb_at 286 (by decide +kernel) (by decide +kernel), gTb_at 62 (by decide +kernel) (by decide +kernel), gTb_at 287 (by decide +kernel) (by decide +kernel)⟩, ⟨by decide +kernel, by decide +kernel, by decide +kernel⟩, rfl, rfl⟩
theorem lk_X0_84 : LnS RX0 84 mX1_gets 4 := ⟨⟨gTb_at 298 (by decide +kernel) (by decide +kernel), gTb_at 299 (by decide +kernel) (by decide +kernel), gTb_at 62 (by decide +kernel) (by decide +kernel), gTb_at 300 (by decide +kernel) (by decide +kernel)⟩, ⟨by decide +kernel, by decide +kernel, by decide +kernel⟩, rfl, rfl⟩
theorem lk_X0_88 : LnS RX0 88 mX1_tells 2 := ⟨⟨gTb_at 305 (by decide +kernel) (by decide +kernel), gTb_at 306 (by decide +kernel) (by decide +kernel), gTb_at 62 (by decide +kernel) (by decide +kernel), gTb_at 307 (by decide +kernel) (by decide +kernel)⟩, ⟨by decide +kernel, by decide +kernel, by decide +kernel⟩, rfl, rfl⟩
theorem lk_X0_91 : LnV RX0 91 mX0_passNight 0 := ⟨⟨gTb_at 362 (by decide +kernel) (by decide +kernel), gTb_at 363 (by decide +kernel) (by decide +kernel), gTb_at 364 (by decide +kernel) (by decide +kernel), gTb_at 56 (by decide +kernel) (by decide +kernel), gTb_at 365 (by decide +kernel) (by decide +kernel)⟩, ⟨by decide +kernel, by decide +kernel, by decide +kernel⟩, rfl, rfl⟩
theorem lk_X0_94 : LnV RX0 94 mX0_findOut 1 := ⟨⟨gTb_at 366 (by decide +kernel) (by decide +kernel), gTb_at 368 (by decide +kernel) (by decide +kernel), gTb_at 2 (by decide +kernel) (by decide +kernel), gTb_at 56 (by decide +kernel) (by decide +kernel), gTb_at 369 (by decide +kernel) (by decide +kernel)⟩, ⟨by decide +kernel, by decide +kernel, by decide +kernel⟩, rfl, rfl⟩
theorem ml_X0_98 : Cond.methodLink RX0 98 Lib.Math.min.name ∈ gTb := gTb_at 376 (by decide +kernel) (by decide +kernel)
theorem ml_X0_103 : Cond.methodLink RX0 103 Lib.Math.max.name ∈ gTb := gTb_at 379 (by decide +kernel) (by decide +kernel)
theorem lk_X0_106 : LnV RX0 106 mX0_felt 1 := ⟨⟨gTb_at 370 (by decide +kernel) (by decide +kernel), gTb_at 289 (by decide +kernel) (by decide +kernel), gTb_at 290 (by decide +kernel) (by decide +kernel), gTb_at 56 (by decide +kernel) (by decide +kernel), gTb_at 291 (by decide +kernel) (by decide +kernel)⟩, ⟨by decide +kernel, by decide +kernel, by decide +kernel⟩, rfl, rfl⟩
theorem lk_X0_109 : LnV RX0 109 mX0_getsFrom 2 := ⟨⟨gTb_at 371 (by decide +kernel) (by decide +kernel), gTb_at 295 (by decide +kernel) (by decide +kernel), gTb_at 296 (by decide +kernel) (by decide +kernel), gTb_at 56 (by decide +kernel) (by decide +kernel), gTb_at 297 (by decide +kernel) (by decide +kernel)⟩, ⟨by decide +kernel, by decide +kernel, by decide +kernel⟩, rfl, rfl⟩
theorem lk_X0_112 : LnV RX0 112 mX0_told 1 := ⟨⟨gTb_at 372 (by decide +kernel) (by decide +kernel), gTb_at 302 (by decide +kernel) (by decide +kernel), gTb_at 303 (by decide +kernel) (by decide +kernel), gTb_at 56 (by decide +kernel) (by decide +kernel), gTb_at 304 (by decide +kernel) (by decide +kernel)⟩, ⟨by decide +kernel, by decide +kernel, by decide +kernel⟩, rfl, rfl⟩
theorem lk_X0_115 : LnS RX0 115 mX1_tires 2 := ⟨⟨gTb_at 373 (by decide +kernel) (by decide +kernel), gTb_at 374 (by decide +kernel) (by decide +kernel), gTb_at 62 (by decide +kernel) (by decide +kernel), gTb_at 375 (by decide +kernel) (by decide +kernel)⟩, ⟨by decide +kernel, by decide +kernel, by decide +kernel⟩, rfl, rfl⟩
theorem lk_X1_11 : LnS RX1 11 mX1_isKind 1 := ⟨⟨gTb_at 349 (by decide +kernel) (by decide +kernel), gTb_at 265 (by decide +kernel) (by decide +kernel), gTb_at 62 (by decide +kernel) (by decide +kernel), gTb_at 266 (by decide +kernel) (by decide +kernel)⟩, ⟨by decide +kernel, by decide +kernel, by decide +kernel⟩, rfl, rfl⟩
theorem lk_X1_19 : LnS RX1 19 mX1_least 1 := ⟨⟨gTb_at 308 (by decide +kernel) (by decide +kernel), gTb_at 309 (by decide +kernel) (by decide +kernel), gTb_at 62 (by decide +kernel) (by decide +kernel), gTb_at 310 (by decide +kernel) (by decide +kernel)⟩, ⟨by decide +kernel, by decide +kernel, by decide +kernel⟩, rfl, rfl⟩
theorem lk_X1_23 : LnS RX1 23 mX1_greatest 1 := ⟨⟨gTb_at 311 (by decide +kernel) (by decide +kernel), gTb_at 312 (by decide +kernel) (by decide +kernel), gTb_at 62 (by decide +kernel) (by decide +kernel), gTb_at 313 (by decide +kernel) (by decide +kernel)⟩, ⟨by decide +kernel, by decide +kernel, by decide +kernel⟩, rfl, rfl⟩
theorem lk_X1_26 : LnS RX1 26 mJ6_bitCount_0f7a4 1 := ⟨⟨gTb_at 314 (by decide +kernel) (by decide +kernel), gTb_at 242 (by decide +kernel) (by decide +kernel), gTb_at 61 (by decide +kernel) (by decide +kernel), gTb_at 243 (by decide +kernel) (by decide +kernel)⟩, ⟨by decide +kernel, by decide +kernel, by decide +kernel⟩, rfl, rfl⟩
theorem lk_X2_22 : LnS RX2 22 mJ7_fill_d0a16 2 := ⟨⟨gTb_at 594 (by decide +kernel) (by decide +kernel), gTb_at 595 (by decide +kernel) (by decide +kernel), gTb_at 57 (by decide +kernel) (by decide +kernel), gTb_at 596 (by decide +kernel) (by decide +kernel)⟩, ⟨by decide +kernel, by decide +kernel, by decide +kernel⟩, rfl, rfl⟩
theorem lk_X3_33 : LnV RX3 33 mX3_advance 0 := ⟨⟨gTb_at 468 (by decide +kernel) (by decide +kernel), gTb_at 470 (by decide +kernel) (by decide +kernel), gTb_at 3 (by decide +kernel) (by decide +kernel), gTb_at 58 (by decide +kernel) (by decide +kernel), gTb_at 471 (by decide +kernel) (by decide +kernel)⟩, ⟨by decide +kernel, by decide +kernel, by decide +kernel⟩, rfl, rfl⟩
theorem lk_X3_36 : LnV RX3 36 mX3_takesItem 1 := ⟨⟨gTb_at 551 (by decide +kernel) (by decide +kernel), gTb_at 553 (by decide +kernel) (by decide +kernel), gTb_at 7 (by decide +kernel) (by decide +kernel), gTb_at 58 (by decide +kernel) (by decide +kernel), gTb_at 554 (by decide +kernel) (by decide +kernel)⟩, ⟨by decide +kernel, by decide +kernel, by decide +kernel⟩, rfl, rfl⟩
theorem lk_X3_40 : LnV RX3 40 mX3_takesKnows 1 := ⟨⟨gTb_at 555 (by decide +kernel) (by decide +kernel), gTb_at 557 (by decide +kernel) (by decide +kernel), gTb_at 8 (by decide +kernel) (by decide +kernel), gTb_at 58 (by decide +kernel) (by decide +kernel), gTb_at 558 (by decide +kernel) (by decide +kernel)⟩, ⟨by decide +kernel, by decide +kernel, by decide +kernel⟩, rfl, rfl⟩
theorem lk_X3_43 : LnV RX3 43 mX3_takesMove 1 := ⟨⟨gTb_at 564 (by decide +kernel) (by decide +kernel), gTb_at 566 (by decide +kernel) (by decide +kernel), gTb_at 10 (by decide +kernel) (by decide +kernel), gTb_at 58 (by decide +kernel) (by decide +kernel), gTb_at 567 (by decide +kernel) (by decide +kernel)⟩, ⟨by decide +kernel, by decide +kernel, by decide +kernel⟩, rfl, rfl⟩
theorem lk_X3_46 : LnS RX3 46 mX1_isKind 1 := ⟨⟨gTb_at 574 (by decide +kernel) (by decide +kernel), gTb_at 265 (by decide +kernel) (by decide +kernel), gTb_at 62 (by decide +kernel) (by decide +kernel), gTb_at 266 (by decide +kernel) (by decide +kernel)⟩, ⟨by decide +kernel, by decide +kernel, by decide +kernel⟩, rfl, rfl⟩
theorem lk_X3_50 : LnV RX3 50 mX3_takesMember 1 := ⟨⟨gTb_at 575 (by decide +kernel) (by decide +kernel), gTb_at 577 (by decide +kernel) (by decide +kernel), gTb_at 12 (by decide +kernel) (by decide +kernel), gTb_at 58 (by decide +kernel) (by decide +kernel), gTb_at 578 (by decide +kernel) (by decide +kernel)⟩, ⟨by decide +kernel, by decide +kernel, by decide +kernel⟩, rfl, rfl⟩
theorem lk_X3_53 : LnV RX3 53 mX0_isFull 0 := ⟨⟨gTb_at 579 (by decide +kernel) (by decide +kernel), gTb_at 268 (by decide +kernel) (by decide +kernel), gTb_at 269 (by decide +kernel) (by decide +kernel), gTb_at 56 (by decide +kernel) (by decide +kernel), gTb_at 270 (by decide +kernel) (by decide +kernel)⟩, ⟨by decide +kernel, by decide +kernel, by decide +kernel⟩, rfl, rfl⟩
theorem lk_X3_59 : LnV RX3 59 mX3_atEmptySeat 1 := ⟨⟨gTb_at 568 (by decide +kernel) (by decide +kernel), gTb_at 570 (by decide +kernel) (by decide +kernel), gTb_at 11 (by decide +kernel) (by decide +kernel), gTb_at 58 (by decide +kernel) (by decide +kernel), gTb_at 571 (by decide +kernel) (by decide +kernel)⟩, ⟨by decide +kernel, by decide +kernel, by decide +kernel⟩, rfl, rfl⟩
theorem lk_X3_62 : LnV RX3 62 mX3_atNumber 2 := ⟨⟨gTb_at 559 (by decide +kernel) (by decide +kernel), gTb_at 561 (by decide +kernel) (by decide +kernel), gTb_at 9 (by decide +kernel) (by decide +kernel), gTb_at 58 (by decide +kernel) (by decide +kernel), gTb_at 562 (by decide +kernel) (by decide +kernel)⟩, ⟨by decide +kernel, by decide +kernel, by decide +kernel⟩, rfl, rfl⟩
theorem lk_X3_66 : LnV RX3 66 mX0_add 4 := ⟨⟨gTb_at 580 (by decide +kernel) (by decide +kernel), gTb_at 274 (by decide +kernel) (by decide +kernel), gTb_at 275 (by decide +kernel) (by decide +kernel), gTb_at 56 (by decide +kernel) (by decide +kernel), gTb_at 276 (by decide +kernel) (by decide +kernel)⟩, ⟨by decide +kernel, by decide +kernel, by decide +kernel⟩, rfl, rfl⟩
theorem lk_X3_76 : LnV RX3 76 mX0_reseat 2 := ⟨⟨gTb_at 573 (by decide +kernel) (by decide +kernel), gTb_at 335 (by decide +kernel) (by decide +kernel), gTb_at 336 (by decide +kernel) (by decide +kernel), gTb_at 56 (by decide +kernel) (by decide +kernel), gTb_at 337 (by decide +kernel) (by decide +kernel)⟩, ⟨by decide +kernel, by decide +kernel, by decide +kernel⟩, rfl, rfl⟩
theorem lk_X3_80 : LnV RX3 80 mX0_sitter 1 := ⟨⟨gTb_at 572 (by decide +kernel) (by decide +kernel), gTb_at 213 (by decide +kernel) (by decide +kernel), gTb_at 214 (by decide +kernel) (by decide +kernel), gTb_at 56 (by decide +kernel) (by decide +kernel), gTb_at 215 (by decide +kernel) (by decide +kernel)⟩, ⟨by decide +kernel, by decide +kernel, by decide +kernel⟩, rfl, rfl⟩
theorem lk_X3_84 : LnN RX3 84 mX4_within 3 := ⟨⟨gTb_at 205 (by decide +kernel) (by decide +kernel), gTb_at 55 (by decide +kernel) (by decide +kernel), gTb_at 206 (by decide +kernel) (by decide +kernel)⟩, ⟨by decide +kernel, by decide +kernel, by decide +kernel⟩, rfl, rfl⟩
theorem lk_X3_88 : LnS RX3 88 mX3_isLetter 1 := ⟨⟨gTb_at 472 (by decide +kernel) (by decide +kernel), gTb_at 473 (by decide +kernel) (by decide +kernel), gTb_at 58 (by decide +kernel) (by decide +kernel), gTb_at 474 (by decide +kernel) (by decide +kernel)⟩, ⟨by decide +kernel, by decide +kernel, by decide +kernel⟩, rfl, rfl⟩
theorem lk_X3_91 : LnV RX3 91 mX3_takeWord 0 := ⟨⟨gTb_at 475 (by decide +kernel) (by decide +kernel), gTb_at 477 (by decide +kernel) (by decide +kernel), gTb_at 4 (by decide +kernel) (by decide +kernel), gTb_at 58 (by decide +kernel) (by decide +kernel), gTb_at 478 (by decide +kernel) (by decide +kernel)⟩, ⟨by decide +kernel, by decide +kernel, by decide +kernel⟩, rfl, rfl⟩
theorem lk_X3_94 : LnS RX3 94 mX3_isDigit 1 := ⟨⟨gTb_at 543 (by decide +kernel) (by decide +kernel), gTb_at 544 (by decide +kernel) (by decide +kernel), gTb_at 58 (by decide +kernel) (by decide +kernel), gTb_at 545 (by decide +kernel) (by decide +kernel)⟩, ⟨by decide +kernel, by decide +kernel, by decide +kernel⟩, rfl, rfl⟩
theorem lk_X3_97 : LnV RX3 97 mX3_takeNumber 0 := ⟨⟨gTb_at 546 (by decide +kernel) (by decide +kernel), gTb_at 548 (by decide +kernel) (by decide +kernel), gTb_at 6 (by decide +kernel) (by decide +kernel), gTb_at 58 (by decide +kernel) (by decide +kernel), gTb_at 549 (by decide +kernel) (by decide +kernel)⟩, ⟨by decide +kernel, by decide +kernel, by decide +kernel⟩, rfl, rfl⟩
theorem lk_X3_100 : LnS RX3 100 mX3_spelling 1 := ⟨⟨gTb_at 479 (by decide +kernel) (by decide +kernel), gTb_at 480 (by decide +kernel) (by decide +kernel), gTb_at 58 (by decide +kernel) (by decide +kernel), gTb_at 481 (by decide +kernel) (by decide +kernel)⟩, ⟨by decide +kernel, by decide +kernel, by decide +kernel⟩, rfl, rfl⟩
theorem lk_X3_104 : LnV RX3 104 mX3_isWord 1 := ⟨⟨gTb_at 491 (by decide +kernel) (by decide +kernel), gTb_at 493 (by decide +kernel) (by decide +kernel), gTb_at 5 (by decide +kernel) (by decide +kernel), gTb_at 58 (by decide +kernel) (by decide +kernel), gTb_at 494 (by decide +kernel) (by decide +kernel)⟩, ⟨by decide +kernel, by decide +kernel, by decide +kernel⟩, rfl, rfl⟩
theorem ml_X3_108 : Cond.methodLink RX3 108 Lib.Math.min.name ∈ gTb := gTb_at 550 (by decide +kernel) (by decide +kernel)
theorem lk_X3_114 : LnV RX3 114 mJ0_length_8abf5 0 := ⟨⟨gTb_at 495 (by decide +kernel) (by decide +kernel), gTb_at 496 (by decide +kernel) (by decide +kernel), gTb_at 497 (by decide +kernel) (by decide +kernel), gTb_at 65 (by decide +kernel) (by decide +kernel), gTb_at 498 (by decide +kernel) (by decide +kernel)⟩, ⟨by decide +kernel, by decide +kernel, by decide +kernel⟩, rfl, rfl⟩
theorem lk_X3_119 : LnV RX3 119 mJ0_charAt_5068e 1 := ⟨⟨gTb_at 505 (by decide +kernel) (by decide +kernel), gTb_at 506 (by decide +kernel) (by decide +kernel), gTb_at 507 (by decide +kernel) (by decide +kernel), gTb_at 65 (by decide +kernel) (by decide +kernel), gTb_at 508 (by decide +kernel) (by decide +kernel)⟩, ⟨by decide +kernel, by decide +kernel, by decide +kernel⟩, rfl, rfl⟩
theorem lk_X4_44 : LnS RX4 44 mX4_within 3 := ⟨⟨gTb_at 204 (by decide +kernel) (by decide +kernel), gTb_at 205 (by decide +kernel) (by decide +kernel), gTb_at 55 (by decide +kernel) (by decide +kernel), gTb_at 206 (by decide +kernel) (by decide +kernel)⟩, ⟨by decide +kernel, by decide +kernel, by decide +kernel⟩, rfl, rfl⟩
theorem lk_X4_49 : LnV RX4 49 mX4_found 1 := ⟨⟨gTb_at 208 (by decide +kernel) (by decide +kernel), gTb_at 210 (by decide +kernel) (by decide +kernel), gTb_at 0 (by decide +kernel) (by decide +kernel), gTb_at 55 (by decide +kernel) (by decide +kernel), gTb_at 211 (by decide +kernel) (by decide +kernel)⟩, ⟨by decide +kernel, by decide +kernel, by decide +kernel⟩, rfl, rfl⟩
theorem lk_X4_53 : LnV RX4 53 mX0_sitter 1 := ⟨⟨gTb_at 212 (by decide +kernel) (by decide +kernel), gTb_at 213 (by decide +kernel) (by decide +kernel), gTb_at 214 (by decide +kernel) (by decide +kernel), gTb_at 56 (by decide +kernel) (by decide +kernel), gTb_at 215 (by decide +kernel) (by decide +kernel)⟩, ⟨by decide +kernel, by decide +kernel, by decide +kernel⟩, rfl, rfl⟩
theorem lk_X4_60 : LnV RX4 60 mX0_gaps 0 := ⟨⟨gTb_at 221 (by decide +kernel) (by decide +kernel), gTb_at 222 (by decide +kernel) (by decide +kernel), gTb_at 223 (by decide +kernel) (by decide +kernel), gTb_at 56 (by decide +kernel) (by decide +kernel), gTb_at 224 (by decide +kernel) (by decide +kernel)⟩, ⟨by decide +kernel, by decide +kernel, by decide +kernel⟩, rfl, rfl⟩
theorem lk_X4_64 : LnV RX4 64 mX0_versesBorne 0 := ⟨⟨gTb_at 225 (by decide +kernel) (by decide +kernel), gTb_at 226 (by decide +kernel) (by decide +kernel), gTb_at 227 (by decide +kernel) (by decide +kernel), gTb_at 56 (by decide +kernel) (by decide +kernel), gTb_at 228 (by decide +kernel) (by decide +kernel)⟩, ⟨by decide +kernel, by decide +kernel, by decide +kernel⟩, rfl, rfl⟩
theorem lk_X4_67 : LnV RX4 67 mX0_versesKnown 0 := ⟨⟨gTb_at 229 (by decide +kernel) (by decide +kernel), gTb_at 230 (by decide +kernel) (by decide +kernel), gTb_at 231 (by decide +kernel) (by decide +kernel), gTb_at 56 (by decide +kernel) (by decide +kernel), gTb_at 232 (by decide +kernel) (by decide +kernel)⟩, ⟨by decide +kernel, by decide +kernel, by decide +kernel⟩, rfl, rfl⟩
theorem lk_X4_70 : LnV RX4 70 mX0_knownTogether 0 := ⟨⟨gTb_at 233 (by decide +kernel) (by decide +kernel), gTb_at 234 (by decide +kernel) (by decide +kernel), gTb_at 235 (by decide +kernel) (by decide +kernel), gTb_at 56 (by decide +kernel) (by decide +kernel), gTb_at 236 (by decide +kernel) (by decide +kernel)⟩, ⟨by decide +kernel, by decide +kernel, by decide +kernel⟩, rfl, rfl⟩
theorem lk_X4_76 : LnV RX4 76 mX0_sum 1 := ⟨⟨gTb_at 247 (by decide +kernel) (by decide +kernel), gTb_at 248 (by decide +kernel) (by decide +kernel), gTb_at 249 (by decide +kernel) (by decide +kernel), gTb_at 56 (by decide +kernel) (by decide +kernel), gTb_at 250 (by decide +kernel) (by decide +kernel)⟩, ⟨by decide +kernel, by decide +kernel, by decide +kernel⟩, rfl, rfl⟩
theorem lk_X4_80 : LnV RX4 80 mX0_sitterInOrder 1 := ⟨⟨gTb_at 255 (by decide +kernel) (by decide +kernel), gTb_at 256 (by decide +kernel) (by decide +kernel), gTb_at 257 (by decide +kernel) (by decide +kernel), gTb_at 56 (by decide +kernel) (by decide +kernel), gTb_at 258 (by decide +kernel) (by decide +kernel)⟩, ⟨by decide +kernel, by decide +kernel, by decide +kernel⟩, rfl, rfl⟩
theorem lk_X4_87 : LnS RX4 87 mX1_isKind 1 := ⟨⟨gTb_at 264 (by decide +kernel) (by decide +kernel), gTb_at 265 (by decide +kernel) (by decide +kernel), gTb_at 62 (by decide +kernel) (by decide +kernel), gTb_at 266 (by decide +kernel) (by decide +kernel)⟩, ⟨by decide +kernel, by decide +kernel, by decide +kernel⟩, rfl, rfl⟩
theorem lk_X4_93 : LnV RX4 93 mX0_isFull 0 := ⟨⟨gTb_at 267 (by decide +kernel) (by decide +kernel), gTb_at 268 (by decide +kernel) (by decide +kernel), gTb_at 269 (by decide +kernel) (by decide +kernel), gTb_at 56 (by decide +kernel) (by decide +kernel), gTb_at 270 (by decide +kernel) (by decide +kernel)⟩, ⟨by decide +kernel, by decide +kernel, by decide +kernel⟩, rfl, rfl⟩
theorem lk_X4_99 : LnV RX4 99 mX0_add 4 := ⟨⟨gTb_at 273 (by decide +kernel) (by decide +kernel), gTb_at 274 (by decide +kernel) (by decide +kernel), gTb_at 275 (by decide +kernel) (by decide +kernel), gTb_at 56 (by decide +kernel) (by decide +kernel), gTb_at 276 (by decide +kernel) (by decide +kernel)⟩, ⟨by decide +kernel, by decide +kernel, by decide +kernel⟩, rfl, rfl⟩
theorem lk_X4_103 : LnV RX4 103 mX0_has 1 := ⟨⟨gTb_at 281 (by decide +kernel) (by decide +kernel), gTb_at 282 (by decide +kernel) (by decide +kernel), gTb_at 283 (by decide +kernel) (by decide +kernel), gTb_at 56 (by decide +kernel) (by decide +kernel), gTb_at 284 (by decide +kernel) (by decide +kernel)⟩, ⟨by decide +kernel, by decide +kernel, by decide +kernel⟩, rfl, rfl⟩
theorem lk_X4_118 : LnS RX4 118 mX1_reach 2 := ⟨⟨gTb_at 285 (by decide +kernel) (by decide +kernel), gTb_at 286 (by decide +kernel) (by decide +kernel), gTb_at 62 (by decide +kernel) (by decide +kernel), gTb_at 287 (by decide +kernel) (by decide +kernel)⟩, ⟨by decide +kernel, by decide +kernel, by decide +kernel⟩, rfl, rfl⟩
theorem lk_X4_122 : LnV RX4 122 mX0_felt 1 := ⟨⟨gTb_at 288 (by decide +kernel) (by decide +kernel), gTb_at 289 (by decide +kernel) (by decide +kernel), gTb_at 290 (by decide +kernel) (by decide +kernel), gTb_at 56 (by decide +kernel) (by decide +kernel), gTb_at 291 (by decide +kernel) (by decide +kernel)⟩, ⟨by decide +kernel, by decide +kernel, by decide +kernel⟩, rfl, rfl⟩
theorem lk_X4_125 : LnV RX4 125 mX0_getsFrom 2 := ⟨⟨gTb_at 294 (by decide +kernel) (by decide +kernel), gTb_at 295 (by decide +kernel) (by decide +kernel), gTb_at 296 (by decide +kernel) (by decide +kernel), gTb_at 56 (by decide +kernel) (by decide +kernel), gTb_at 297 (by decide +kernel) (by decide +kernel)⟩, ⟨by decide +kernel, by decide +kernel, by decide +kernel⟩, rfl, rfl⟩
theorem lk_X4_129 : LnV RX4 129 mX0_told 1 := ⟨⟨gTb_at 301 (by decide +kernel) (by decide +kernel), gTb_at 302 (by decide +kernel) (by decide +kernel), gTb_at 303 (by decide +kernel) (by decide +kernel), gTb_at 56 (by decide +kernel) (by decide +kernel), gTb_at 304 (by decide +kernel) (by decide +kernel)⟩, ⟨by decide +kernel, by decide +kernel, by decide +kernel⟩, rfl, rfl⟩
theorem lk_X4_132 : LnS RX4 132 mX4_maySet 2 := ⟨⟨gTb_at 319 (by decide +kernel) (by decide +kernel), gTb_at 320 (by decide +kernel) (by decide +kernel), gTb_at 55 (by decide +kernel) (by decide +kernel), gTb_at 321 (by decide +kernel) (by decide +kernel)⟩, ⟨by decide +kernel, by decide +kernel, by decide +kernel⟩, rfl, rfl⟩
theorem lk_X4_135 : LnV RX4 135 mX4_rowOf 1 := ⟨⟨gTb_at 322 (by decide +kernel) (by decide +kernel), gTb_at 324 (by decide +kernel) (by decide +kernel), gTb_at 1 (by decide +kernel) (by decide +kernel), gTb_at 55 (by decide +kernel) (by decide +kernel), gTb_at 325 (by decide +kernel) (by decide +kernel)⟩, ⟨by decide +kernel, by decide +kernel, by decide +kernel⟩, rfl, rfl⟩
theorem lk_X4_139 : LnV RX4 139 mX0_maySit 2 := ⟨⟨gTb_at 330 (by decide +kernel) (by decide +kernel), gTb_at 331 (by decide +kernel) (by decide +kernel), gTb_at 332 (by decide +kernel) (by decide +kernel), gTb_at 56 (by decide +kernel) (by decide +kernel), gTb_at 333 (by decide +kernel) (by decide +kernel)⟩, ⟨by decide +kernel, by decide +kernel, by decide +kernel⟩, rfl, rfl⟩
theorem lk_X4_142 : LnV RX4 142 mX0_reseat 2 := ⟨⟨gTb_at 334 (by decide +kernel) (by decide +kernel), gTb_at 335 (by decide +kernel) (by decide +kernel), gTb_at 336 (by decide +kernel) (by decide +kernel), gTb_at 56 (by decide +kernel) (by decide +kernel), gTb_at 337 (by decide +kernel) (by decide +kernel)⟩, ⟨by decide +kernel, by decide +kernel, by decide +kernel⟩, rfl, rfl⟩
theorem lk_X4_146 : LnS RX4 146 mX1_isUnder 2 := ⟨⟨gTb_at 346 (by decide +kernel) (by decide +kernel), gTb_at 347 (by decide +kernel) (by decide +kernel), gTb_at 62 (by decide +kernel) (by decide +kernel), gTb_at 348 (by decide +kernel) (by decide +kernel)⟩, ⟨by decide +kernel, by decide +kernel, by decide +kernel⟩, rfl, rfl⟩
theorem lk_X4_151 : LnV RX4 151 mX0_passNights 1 := ⟨⟨gTb_at 358 (by decide +kernel) (by decide +kernel), gTb_at 359 (by decide +kernel) (by decide +kernel), gTb_at 360 (by decide +kernel) (by decide +kernel), gTb_at 56 (by decide +kernel) (by decide +kernel), gTb_at 361 (by decide +kernel) (by decide +kernel)⟩, ⟨by decide +kernel, by decide +kernel, by decide +kernel⟩, rfl, rfl⟩
theorem lk_X4_155 : LnV RX4 155 mX0_become 1 := ⟨⟨gTb_at 386 (by decide +kernel) (by decide +kernel), gTb_at 387 (by decide +kernel) (by decide +kernel), gTb_at 388 (by decide +kernel) (by decide +kernel), gTb_at 56 (by decide +kernel) (by decide +kernel), gTb_at 389 (by decide +kernel) (by decide +kernel)⟩, ⟨by decide +kernel, by decide +kernel, by decide +kernel⟩, rfl, rfl⟩
theorem lk_X4_159 : LnV RX4 159 mX0_doesKnow 2 := ⟨⟨gTb_at 397 (by decide +kernel) (by decide +kernel), gTb_at 398 (by decide +kernel) (by decide +kernel), gTb_at 399 (by decide +kernel) (by decide +kernel), gTb_at 56 (by decide +kernel) (by decide +kernel), gTb_at 400 (by decide +kernel) (by decide +kernel)⟩, ⟨by decide +kernel, by decide +kernel, by decide +kernel⟩, rfl, rfl⟩
theorem lk_X4_162 : LnV RX4 162 mX0_passNight 0 := ⟨⟨gTb_at 401 (by decide +kernel) (by decide +kernel), gTb_at 363 (by decide +kernel) (by decide +kernel), gTb_at 364 (by decide +kernel) (by decide +kernel), gTb_at 56 (by decide +kernel) (by decide +kernel), gTb_at 365 (by decide +kernel) (by decide +kernel)⟩, ⟨by decide +kernel, by decide +kernel, by decide +kernel⟩, rfl, rfl⟩
theorem lk_X4_165 : LnV RX4 165 mX0_isSpread 1 := ⟨⟨gTb_at 406 (by decide +kernel) (by decide +kernel), gTb_at 407 (by decide +kernel) (by decide +kernel), gTb_at 408 (by decide +kernel) (by decide +kernel), gTb_at 56 (by decide +kernel) (by decide +kernel), gTb_at 409 (by decide +kernel) (by decide +kernel)⟩, ⟨by decide +kernel, by decide +kernel, by decide +kernel⟩, rfl, rfl⟩
theorem lk_X4_168 : LnV RX4 168 mX0_isHeretical 0 := ⟨⟨gTb_at 415 (by decide +kernel) (by decide +kernel), gTb_at 416 (by decide +kernel) (by decide +kernel), gTb_at 417 (by decide +kernel) (by decide +kernel), gTb_at 56 (by decide +kernel) (by decide +kernel), gTb_at 418 (by decide +kernel) (by decide +kernel)⟩, ⟨by decide +kernel, by decide +kernel, by decide +kernel⟩, rfl, rfl⟩
theorem lk_X4_171 : LnV RX4 171 mX0_knownBy 1 := ⟨⟨gTb_at 423 (by decide +kernel) (by decide +kernel), gTb_at 238 (by decide +kernel) (by decide +kernel), gTb_at 239 (by decide +kernel) (by decide +kernel), gTb_at 56 (by decide +kernel) (by decide +kernel), gTb_at 240 (by decide +kernel) (by decide +kernel)⟩, ⟨by decide +kernel, by decide +kernel, by decide +kernel⟩, rfl, rfl⟩
theorem lk_X4_174 : LnV RX4 174 mX0_leastEmptySeat 0 := ⟨⟨gTb_at 436 (by decide +kernel) (by decide +kernel), gTb_at 437 (by decide +kernel) (by decide +kernel), gTb_at 438 (by decide +kernel) (by decide +kernel), gTb_at 56 (by decide +kernel) (by decide +kernel), gTb_at 439 (by decide +kernel) (by decide +kernel)⟩, ⟨by decide +kernel, by decide +kernel, by decide +kernel⟩, rfl, rfl⟩
theorem lk_X4_183 : LnV RX4 183 mX3_append 1 := ⟨⟨gTb_at 452 (by decide +kernel) (by decide +kernel), gTb_at 453 (by decide +kernel) (by decide +kernel), gTb_at 454 (by decide +kernel) (by decide +kernel), gTb_at 58 (by decide +kernel) (by decide +kernel), gTb_at 455 (by decide +kernel) (by decide +kernel)⟩, ⟨by decide +kernel, by decide +kernel, by decide +kernel⟩, rfl, rfl⟩
theorem lk_X4_186 : LnV RX4 186 mX3_parse 1 := ⟨⟨gTb_at 464 (by decide +kernel) (by decide +kernel), gTb_at 465 (by decide +kernel) (by decide +kernel), gTb_at 466 (by decide +kernel) (by decide +kernel), gTb_at 58 (by decide +kernel) (by decide +kernel), gTb_at 467 (by decide +kernel) (by decide +kernel)⟩, ⟨by decide +kernel, by decide +kernel, by decide +kernel⟩, rfl, rfl⟩
theorem lk_X4_190 : LnS RX4 190 mX4_isSheet 1 := ⟨⟨gTb_at 586 (by decide +kernel) (by decide +kernel), gTb_at 587 (by decide +kernel) (by decide +kernel), gTb_at 55 (by decide +kernel) (by decide +kernel), gTb_at 588 (by decide +kernel) (by decide +kernel)⟩, ⟨by decide +kernel, by decide +kernel, by decide +kernel⟩, rfl, rfl⟩
theorem lk_X4_194 : LnV RX4 194 mX2_lay 2 := ⟨⟨gTb_at 590 (by decide +kernel) (by decide +kernel), gTb_at 591 (by decide +kernel) (by decide +kernel), gTb_at 592 (by decide +kernel) (by decide +kernel), gTb_at 59 (by decide +kernel) (by decide +kernel), gTb_at 593 (by decide +kernel) (by decide +kernel)⟩, ⟨by decide +kernel, by decide +kernel, by decide +kernel⟩, rfl, rfl⟩
theorem lk_X4_198 : LnV RX4 198 mX2_isMissing 0 := ⟨⟨gTb_at 601 (by decide +kernel) (by decide +kernel), gTb_at 602 (by decide +kernel) (by decide +kernel), gTb_at 603 (by decide +kernel) (by decide +kernel), gTb_at 59 (by decide +kernel) (by decide +kernel), gTb_at 604 (by decide +kernel) (by decide +kernel)⟩, ⟨by decide +kernel, by decide +kernel, by decide +kernel⟩, rfl, rfl⟩
theorem lk_X4_206 : LnV RX4 206 mX2_put 2 := ⟨⟨gTb_at 606 (by decide +kernel) (by decide +kernel), gTb_at 607 (by decide +kernel) (by decide +kernel), gTb_at 608 (by decide +kernel) (by decide +kernel), gTb_at 59 (by decide +kernel) (by decide +kernel), gTb_at 609 (by decide +kernel) (by decide +kernel)⟩, ⟨by decide +kernel, by decide +kernel, by decide +kernel⟩, rfl, rfl⟩
theorem lk_X4_213 : LnV RX4 213 mX2_hasPart 2 := ⟨⟨gTb_at 614 (by decide +kernel) (by decide +kernel), gTb_at 615 (by decide +kernel) (by decide +kernel), gTb_at 616 (by decide +kernel) (by decide +kernel), gTb_at 59 (by decide +kernel) (by decide +kernel), gTb_at 617 (by decide +kernel) (by decide +kernel)⟩, ⟨by decide +kernel, by decide +kernel, by decide +kernel⟩, rfl, rfl⟩
theorem ml_X4_216 : Cond.methodLink RX4 216 arraycopyName ∈ gTb := gTb_at 618 (by decide +kernel) (by decide +kernel)
theorem lk_X4_224 : LnV RX4 224 mX4_trialGoesAs 2 := ⟨⟨gTb_at 632 (by decide +kernel) (by decide +kernel), gTb_at 634 (by decide +kernel) (by decide +kernel), gTb_at 13 (by decide +kernel) (by decide +kernel), gTb_at 55 (by decide +kernel) (by decide +kernel), gTb_at 635 (by decide +kernel) (by decide +kernel)⟩, ⟨by decide +kernel, by decide +kernel, by decide +kernel⟩, rfl, rfl⟩
theorem lk_X5_51 : LnS RX5 51 mX5_in 3 := ⟨⟨gTb_at 733 (by decide +kernel) (by decide +kernel), gTb_at 734 (by decide +kernel) (by decide +kernel), gTb_at 60 (by decide +kernel) (by decide +kernel), gTb_at 735 (by decide +kernel) (by decide +kernel)⟩, ⟨by decide +kernel, by decide +kernel, by decide +kernel⟩, rfl, rfl⟩
theorem lk_X5_55 : LnV RX5 55 mX5_its 2 := ⟨⟨gTb_at 740 (by decide +kernel) (by decide +kernel), gTb_at 742 (by decide +kernel) (by decide +kernel), gTb_at 15 (by decide +kernel) (by decide +kernel), gTb_at 60 (by decide +kernel) (by decide +kernel), gTb_at 743 (by decide +kernel) (by decide +kernel)⟩, ⟨by decide +kernel, by decide +kernel, by decide +kernel⟩, rfl, rfl⟩
theorem lk_X5_59 : LnS RX5 59 mX5_isSeat 1 := ⟨⟨gTb_at 730 (by decide +kernel) (by decide +kernel), gTb_at 731 (by decide +kernel) (by decide +kernel), gTb_at 60 (by decide +kernel) (by decide +kernel), gTb_at 732 (by decide +kernel) (by decide +kernel)⟩, ⟨by decide +kernel, by decide +kernel, by decide +kernel⟩, rfl, rfl⟩
theorem lk_X5_63 : LnV RX5 63 mX5_whoIn 1 := ⟨⟨gTb_at 736 (by decide +kernel) (by decide +kernel), gTb_at 738 (by decide +kernel) (by decide +kernel), gTb_at 14 (by decide +kernel) (by decide +kernel), gTb_at 60 (by decide +kernel) (by decide +kernel), gTb_at 739 (by decide +kernel) (by decide +kernel)⟩, ⟨by decide +kernel, by decide +kernel, by decide +kernel⟩, rfl, rfl⟩
theorem lk_X5_67 : LnV RX5 67 mX5_finds 1 := ⟨⟨gTb_at 745 (by decide +kernel) (by decide +kernel), gTb_at 747 (by decide +kernel) (by decide +kernel), gTb_at 16 (by decide +kernel) (by decide +kernel), gTb_at 60 (by decide +kernel) (by decide +kernel), gTb_at 748 (by decide +kernel) (by decide +kernel)⟩, ⟨by decide +kernel, by decide +kernel, by decide +kernel⟩, rfl, rfl⟩
theorem lk_X5_70 : LnV RX5 70 mX5_seatsTaken 0 := ⟨⟨gTb_at 757 (by decide +kernel) (by decide +kernel), gTb_at 759 (by decide +kernel) (by decide +kernel), gTb_at 18 (by decide +kernel) (by decide +kernel), gTb_at 60 (by decide +kernel) (by decide +kernel), gTb_at 760 (by decide +kernel) (by decide +kernel)⟩, ⟨by decide +kernel, by decide +kernel, by decide +kernel⟩, rfl, rfl⟩
theorem lk_X5_74 : LnS RX5 74 mX5_bits 1 := ⟨⟨gTb_at 773 (by decide +kernel) (by decide +kernel), gTb_at 774 (by decide +kernel) (by decide +kernel), gTb_at 60 (by decide +kernel) (by decide +kernel), gTb_at 775 (by decide +kernel) (by decide +kernel)⟩, ⟨by decide +kernel, by decide +kernel, by decide +kernel⟩, rfl, rfl⟩
theorem lk_X5_77 : LnV RX5 77 mX5_gaps 0 := ⟨⟨gTb_at 753 (by decide +kernel) (by decide +kernel), gTb_at 755 (by decide +kernel) (by decide +kernel), gTb_at 17 (by decide +kernel) (by decide +kernel), gTb_at 60 (by decide +kernel) (by decide +kernel), gTb_at 756 (by decide +kernel) (by decide +kernel)⟩, ⟨by decide +kernel, by decide +kernel, by decide +kernel⟩, rfl, rfl⟩
theorem lk_X5_80 : LnV RX5 80 mX5_standing 0 := ⟨⟨gTb_at 761 (by decide +kernel) (by decide +kernel), gTb_at 763 (by decide +kernel) (by decide +kernel), gTb_at 19 (by decide +kernel) (by decide +kernel), gTb_at 60 (by decide +kernel) (by decide +kernel), gTb_at 764 (by decide +kernel) (by decide +kernel)⟩, ⟨by decide +kernel, by decide +kernel, by decide +kernel⟩, rfl, rfl⟩
theorem lk_X5_83 : LnV RX5 83 mX5_known 0 := ⟨⟨gTb_at 765 (by decide +kernel) (by decide +kernel), gTb_at 767 (by decide +kernel) (by decide +kernel), gTb_at 20 (by decide +kernel) (by decide +kernel), gTb_at 60 (by decide +kernel) (by decide +kernel), gTb_at 768 (by decide +kernel) (by decide +kernel)⟩, ⟨by decide +kernel, by decide +kernel, by decide +kernel⟩, rfl, rfl⟩
theorem lk_X5_86 : LnV RX5 86 mX5_knownOfAll 0 := ⟨⟨gTb_at 769 (by decide +kernel) (by decide +kernel), gTb_at 771 (by decide +kernel) (by decide +kernel), gTb_at 21 (by decide +kernel) (by decide +kernel), gTb_at 60 (by decide +kernel) (by decide +kernel), gTb_at 772 (by decide +kernel) (by decide +kernel)⟩, ⟨by decide +kernel, by decide +kernel, by decide +kernel⟩, rfl, rfl⟩
theorem lk_X5_89 : LnV RX5 89 mX5_sumOf 1 := ⟨⟨gTb_at 776 (by decide +kernel) (by decide +kernel), gTb_at 778 (by decide +kernel) (by decide +kernel), gTb_at 22 (by decide +kernel) (by decide +kernel), gTb_at 60 (by decide +kernel) (by decide +kernel), gTb_at 779 (by decide +kernel) (by decide +kernel)⟩, ⟨by decide +kernel, by decide +kernel, by decide +kernel⟩, rfl, rfl⟩
theorem lk_X5_93 : LnV RX5 93 mX5_feels 1 := ⟨⟨gTb_at 813 (by decide +kernel) (by decide +kernel), gTb_at 815 (by decide +kernel) (by decide +kernel), gTb_at 26 (by decide +kernel) (by decide +kernel), gTb_at 60 (by decide +kernel) (by decide +kernel), gTb_at 816 (by decide +kernel) (by decide +kernel)⟩, ⟨by decide +kernel, by decide +kernel, by decide +kernel⟩, rfl, rfl⟩
theorem lk_X5_96 : LnV RX5 96 mX5_felt 1 := ⟨⟨gTb_at 817 (by decide +kernel) (by decide +kernel), gTb_at 819 (by decide +kernel) (by decide +kernel), gTb_at 27 (by decide +kernel) (by decide +kernel), gTb_at 60 (by decide +kernel) (by decide +kernel), gTb_at 820 (by decide +kernel) (by decide +kernel)⟩, ⟨by decide +kernel, by decide +kernel, by decide +kernel⟩, rfl, rfl⟩
theorem lk_X5_99 : LnS RX5 99 mX5_leastOf 1 := ⟨⟨gTb_at 829 (by decide +kernel) (by decide +kernel), gTb_at 830 (by decide +kernel) (by decide +kernel), gTb_at 60 (by decide +kernel) (by decide +kernel), gTb_at 831 (by decide +kernel) (by decide +kernel)⟩, ⟨by decide +kernel, by decide +kernel, by decide +kernel⟩, rfl, rfl⟩
theorem lk_X5_102 : LnS RX5 102 mX5_greatestOf 1 := ⟨⟨gTb_at 832 (by decide +kernel) (by decide +kernel), gTb_at 833 (by decide +kernel) (by decide +kernel), gTb_at 60 (by decide +kernel) (by decide +kernel), gTb_at 834 (by decide +kernel) (by decide +kernel)⟩, ⟨by decide +kernel, by decide +kernel, by decide +kernel⟩, rfl, rfl⟩
theorem lk_X5_105 : LnV RX5 105 mX5_isReading 1 := ⟨⟨gTb_at 821 (by decide +kernel) (by decide +kernel), gTb_at 823 (by decide +kernel) (by decide +kernel), gTb_at 28 (by decide +kernel) (by decide +kernel), gTb_at 60 (by decide +kernel) (by decide +kernel), gTb_at 824 (by decide +kernel) (by decide +kernel)⟩, ⟨by decide +kernel, by decide +kernel, by decide +kernel⟩, rfl, rfl⟩
theorem lk_X5_108 : LnV RX5 108 mX5_puts 3 := ⟨⟨gTb_at 801 (by decide +kernel) (by decide +kernel), gTb_at 803 (by decide +kernel) (by decide +kernel), gTb_at 24 (by decide +kernel) (by decide +kernel), gTb_at 60 (by decide +kernel) (by decide +kernel), gTb_at 804 (by decide +kernel) (by decide +kernel)⟩, ⟨by decide +kernel, by decide +kernel, by decide +kernel⟩, rfl, rfl⟩
theorem lk_X5_112 : LnS RX5 112 mX5_isKind 1 := ⟨⟨gTb_at 789 (by decide +kernel) (by decide +kernel), gTb_at 790 (by decide +kernel) (by decide +kernel), gTb_at 60 (by decide +kernel) (by decide +kernel), gTb_at 791 (by decide +kernel) (by decide +kernel)⟩, ⟨by decide +kernel, by decide +kernel, by decide +kernel⟩, rfl, rfl⟩
theorem lk_X5_115 : LnS RX5 115 mX5_isVerse 1 := ⟨⟨gTb_at 792 (by decide +kernel) (by decide +kernel), gTb_at 793 (by decide +kernel) (by decide +kernel), gTb_at 60 (by decide +kernel) (by decide +kernel), gTb_at 794 (by decide +kernel) (by decide +kernel)⟩, ⟨by decide +kernel, by decide +kernel, by decide +kernel⟩, rfl, rfl⟩
theorem lk_X5_120 : LnV RX5 120 mX5_adds 4 := ⟨⟨gTb_at 797 (by decide +kernel) (by decide +kernel), gTb_at 799 (by decide +kernel) (by decide +kernel), gTb_at 23 (by decide +kernel) (by decide +kernel), gTb_at 60 (by decide +kernel) (by decide +kernel), gTb_at 800 (by decide +kernel) (by decide +kernel)⟩, ⟨by decide +kernel, by decide +kernel, by decide +kernel⟩, rfl, rfl⟩
theorem lk_X5_124 : LnV RX5 124 mX5_isOne 1 := ⟨⟨gTb_at 809 (by decide +kernel) (by decide +kernel), gTb_at 811 (by decide +kernel) (by decide +kernel), gTb_at 25 (by decide +kernel) (by decide +kernel), gTb_at 60 (by decide +kernel) (by decide +kernel), gTb_at 812 (by decide +kernel) (by decide +kernel)⟩, ⟨by decide +kernel, by decide +kernel, by decide +kernel⟩, rfl, rfl⟩
theorem lk_X5_127 : LnV RX5 127 mX5_tells 1 := ⟨⟨gTb_at 825 (by decide +kernel) (by decide +kernel), gTb_at 827 (by decide +kernel) (by decide +kernel), gTb_at 29 (by decide +kernel) (by decide +kernel), gTb_at 60 (by decide +kernel) (by decide +kernel), gTb_at 828 (by decide +kernel) (by decide +kernel)⟩, ⟨by decide +kernel, by decide +kernel, by decide +kernel⟩, rfl, rfl⟩
theorem lk_X5_130 : LnS RX5 130 mX5_isPart 2 := ⟨⟨gTb_at 839 (by decide +kernel) (by decide +kernel), gTb_at 840 (by decide +kernel) (by decide +kernel), gTb_at 60 (by decide +kernel) (by decide +kernel), gTb_at 841 (by decide +kernel) (by decide +kernel)⟩, ⟨by decide +kernel, by decide +kernel, by decide +kernel⟩, rfl, rfl⟩
theorem lk_X5_134 : LnV RX5 134 mX5_becomes 2 := ⟨⟨gTb_at 842 (by decide +kernel) (by decide +kernel), gTb_at 844 (by decide +kernel) (by decide +kernel), gTb_at 30 (by decide +kernel) (by decide +kernel), gTb_at 60 (by decide +kernel) (by decide +kernel), gTb_at 845 (by decide +kernel) (by decide +kernel)⟩, ⟨by decide +kernel, by decide +kernel, by decide +kernel⟩, rfl, rfl⟩
theorem lk_X5_138 : LnV RX5 138 mX5_got 1 := ⟨⟨gTb_at 872 (by decide +kernel) (by decide +kernel), gTb_at 874 (by decide +kernel) (by decide +kernel), gTb_at 33 (by decide +kernel) (by decide +kernel), gTb_at 60 (by decide +kernel) (by decide +kernel), gTb_at 875 (by decide +kernel) (by decide +kernel)⟩, ⟨by decide +kernel, by decide +kernel, by decide +kernel⟩, rfl, rfl⟩
theorem lk_X5_141 : LnV RX5 141 mX5_tires 1 := ⟨⟨gTb_at 876 (by decide +kernel) (by decide +kernel), gTb_at 878 (by decide +kernel) (by decide +kernel), gTb_at 34 (by decide +kernel) (by decide +kernel), gTb_at 60 (by decide +kernel) (by decide +kernel), gTb_at 879 (by decide +kernel) (by decide +kernel)⟩, ⟨by decide +kernel, by decide +kernel, by decide +kernel⟩, rfl, rfl⟩
theorem lk_X5_144 : LnS RX5 144 mX5_held 3 := ⟨⟨gTb_at 880 (by decide +kernel) (by decide +kernel), gTb_at 881 (by decide +kernel) (by decide +kernel), gTb_at 60 (by decide +kernel) (by decide +kernel), gTb_at 882 (by decide +kernel) (by decide +kernel)⟩, ⟨by decide +kernel, by decide +kernel, by decide +kernel⟩, rfl, rfl⟩
theorem lk_X5_148 : LnV RX5 148 mX5_oneNight 0 := ⟨⟨gTb_at 868 (by decide +kernel) (by decide +kernel), gTb_at 870 (by decide +kernel) (by decide +kernel), gTb_at 32 (by decide +kernel) (by decide +kernel), gTb_at 60 (by decide +kernel) (by decide +kernel), gTb_at 871 (by decide +kernel) (by decide +kernel)⟩, ⟨by decide +kernel, by decide +kernel, by decide +kernel⟩, rfl, rfl⟩
theorem lk_X5_152 : LnV RX5 152 mX5_passes 1 := ⟨⟨gTb_at 864 (by decide +kernel) (by decide +kernel), gTb_at 866 (by decide +kernel) (by decide +kernel), gTb_at 31 (by decide +kernel) (by decide +kernel), gTb_at 60 (by decide +kernel) (by decide +kernel), gTb_at 867 (by decide +kernel) (by decide +kernel)⟩, ⟨by decide +kernel, by decide +kernel, by decide +kernel⟩, rfl, rfl⟩
theorem lk_X5_156 : LnV RX5 156 mX5_moveAll 2 := ⟨⟨gTb_at 887 (by decide +kernel) (by decide +kernel), gTb_at 889 (by decide +kernel) (by decide +kernel), gTb_at 35 (by decide +kernel) (by decide +kernel), gTb_at 60 (by decide +kernel) (by decide +kernel), gTb_at 890 (by decide +kernel) (by decide +kernel)⟩, ⟨by decide +kernel, by decide +kernel, by decide +kernel⟩, rfl, rfl⟩
theorem lk_X5_160 : LnV RX5 160 mX5_isKnown 2 := ⟨⟨gTb_at 895 (by decide +kernel) (by decide +kernel), gTb_at 897 (by decide +kernel) (by decide +kernel), gTb_at 36 (by decide +kernel) (by decide +kernel), gTb_at 60 (by decide +kernel) (by decide +kernel), gTb_at 898 (by decide +kernel) (by decide +kernel)⟩, ⟨by decide +kernel, by decide +kernel, by decide +kernel⟩, rfl, rfl⟩
theorem lk_X5_163 : LnV RX5 163 mX5_isSpread 1 := ⟨⟨gTb_at 903 (by decide +kernel) (by decide +kernel), gTb_at 905 (by decide +kernel) (by decide +kernel), gTb_at 37 (by decide +kernel) (by decide +kernel), gTb_at 60 (by decide +kernel) (by decide +kernel), gTb_at 906 (by decide +kernel) (by decide +kernel)⟩, ⟨by decide +kernel, by decide +kernel, by decide +kernel⟩, rfl, rfl⟩
theorem lk_X5_166 : LnV RX5 166 mX5_isHeresy 0 := ⟨⟨gTb_at 911 (by decide +kernel) (by decide +kernel), gTb_at 913 (by decide +kernel) (by decide +kernel), gTb_at 38 (by decide +kernel) (by decide +kernel), gTb_at 60 (by decide +kernel) (by decide +kernel), gTb_at 914 (by decide +kernel) (by decide +kernel)⟩, ⟨by decide +kernel, by decide +kernel, by decide +kernel⟩, rfl, rfl⟩
theorem lk_X5_170 : LnV RX5 170 mX5_knowsBehind 2 := ⟨⟨gTb_at 919 (by decide +kernel) (by decide +kernel), gTb_at 921 (by decide +kernel) (by decide +kernel), gTb_at 39 (by decide +kernel) (by decide +kernel), gTb_at 60 (by decide +kernel) (by decide +kernel), gTb_at 922 (by decide +kernel) (by decide +kernel)⟩, ⟨by decide +kernel, by decide +kernel, by decide +kernel⟩, rfl, rfl⟩
theorem lk_X5_183 : LnV RX5 183 mX5_byteAt 1 := ⟨⟨gTb_at 959 (by decide +kernel) (by decide +kernel), gTb_at 961 (by decide +kernel) (by decide +kernel), gTb_at 41 (by decide +kernel) (by decide +kernel), gTb_at 60 (by decide +kernel) (by decide +kernel), gTb_at 962 (by decide +kernel) (by decide +kernel)⟩, ⟨by decide +kernel, by decide +kernel, by decide +kernel⟩, rfl, rfl⟩
theorem lk_X5_186 : LnS RX5 186 mX5_isLetter 1 := ⟨⟨gTb_at 963 (by decide +kernel) (by decide +kernel), gTb_at 964 (by decide +kernel) (by decide +kernel), gTb_at 60 (by decide +kernel) (by decide +kernel), gTb_at 965 (by decide +kernel) (by decide +kernel)⟩, ⟨by decide +kernel, by decide +kernel, by decide +kernel⟩, rfl, rfl⟩
theorem lk_X5_189 : LnS RX5 189 mX5_isDigit 1 := ⟨⟨gTb_at 966 (by decide +kernel) (by decide +kernel), gTb_at 967 (by decide +kernel) (by decide +kernel), gTb_at 60 (by decide +kernel) (by decide +kernel), gTb_at 968 (by decide +kernel) (by decide +kernel)⟩, ⟨by decide +kernel, by decide +kernel, by decide +kernel⟩, rfl, rfl⟩
theorem lk_X5_210 : LnV RX5 210 mX5_isWord 1 := ⟨⟨gTb_at 981 (by decide +kernel) (by decide +kernel), gTb_at 983 (by decide +kernel) (by decide +kernel), gTb_at 44 (by decide +kernel) (by decide +kernel), gTb_at 60 (by decide +kernel) (by decide +kernel), gTb_at 984 (by decide +kernel) (by decide +kernel)⟩, ⟨by decide +kernel, by decide +kernel, by decide +kernel⟩, rfl, rfl⟩
theorem lk_X5_228 : LnV RX5 228 mX5_advance 0 := ⟨⟨gTb_at 955 (by decide +kernel) (by decide +kernel), gTb_at 957 (by decide +kernel) (by decide +kernel), gTb_at 40 (by decide +kernel) (by decide +kernel), gTb_at 60 (by decide +kernel) (by decide +kernel), gTb_at 958 (by decide +kernel) (by decide +kernel)⟩, ⟨by decide +kernel, by decide +kernel, by decide +kernel⟩, rfl, rfl⟩
theorem lk_X5_231 : LnV RX5 231 mX5_wantNumber 2 := ⟨⟨gTb_at 998 (by decide +kernel) (by decide +kernel), gTb_at 1000 (by decide +kernel) (by decide +kernel), gTb_at 47 (by decide +kernel) (by decide +kernel), gTb_at 60 (by decide +kernel) (by decide +kernel), gTb_at 1001 (by decide +kernel) (by decide +kernel)⟩, ⟨by decide +kernel, by decide +kernel, by decide +kernel⟩, rfl, rfl⟩
theorem lk_X5_234 : LnV RX5 234 mX5_wantSeat 0 := ⟨⟨gTb_at 994 (by decide +kernel) (by decide +kernel), gTb_at 996 (by decide +kernel) (by decide +kernel), gTb_at 46 (by decide +kernel) (by decide +kernel), gTb_at 60 (by decide +kernel) (by decide +kernel), gTb_at 997 (by decide +kernel) (by decide +kernel)⟩, ⟨by decide +kernel, by decide +kernel, by decide +kernel⟩, rfl, rfl⟩
theorem lk_X5_239 : LnV RX5 239 mX5_mayWant 4 := ⟨⟨gTb_at 1003 (by decide +kernel) (by decide +kernel), gTb_at 1005 (by decide +kernel) (by decide +kernel), gTb_at 48 (by decide +kernel) (by decide +kernel), gTb_at 60 (by decide +kernel) (by decide +kernel), gTb_at 1006 (by decide +kernel) (by decide +kernel)⟩, ⟨by decide +kernel, by decide +kernel, by decide +kernel⟩, rfl, rfl⟩
theorem lk_X5_243 : LnV RX5 243 mX5_kindHere 0 := ⟨⟨gTb_at 976 (by decide +kernel) (by decide +kernel), gTb_at 978 (by decide +kernel) (by decide +kernel), gTb_at 43 (by decide +kernel) (by decide +kernel), gTb_at 60 (by decide +kernel) (by decide +kernel), gTb_at 979 (by decide +kernel) (by decide +kernel)⟩, ⟨by decide +kernel, by decide +kernel, by decide +kernel⟩, rfl, rfl⟩
theorem lk_X5_246 : LnV RX5 246 mX5_wantOne 1 := ⟨⟨gTb_at 990 (by decide +kernel) (by decide +kernel), gTb_at 992 (by decide +kernel) (by decide +kernel), gTb_at 45 (by decide +kernel) (by decide +kernel), gTb_at 60 (by decide +kernel) (by decide +kernel), gTb_at 993 (by decide +kernel) (by decide +kernel)⟩, ⟨by decide +kernel, by decide +kernel, by decide +kernel⟩, rfl, rfl⟩
theorem lk_X5_251 : LnV RX5 251 mX5_wantKnowing 0 := ⟨⟨gTb_at 1008 (by decide +kernel) (by decide +kernel), gTb_at 1010 (by decide +kernel) (by decide +kernel), gTb_at 49 (by decide +kernel) (by decide +kernel), gTb_at 60 (by decide +kernel) (by decide +kernel), gTb_at 1011 (by decide +kernel) (by decide +kernel)⟩, ⟨by decide +kernel, by decide +kernel, by decide +kernel⟩, rfl, rfl⟩
theorem lk_X5_256 : LnV RX5 256 mX5_wantMove 0 := ⟨⟨gTb_at 1013 (by decide +kernel) (by decide +kernel), gTb_at 1015 (by decide +kernel) (by decide +kernel), gTb_at 50 (by decide +kernel) (by decide +kernel), gTb_at 60 (by decide +kernel) (by decide +kernel), gTb_at 1016 (by decide +kernel) (by decide +kernel)⟩, ⟨by decide +kernel, by decide +kernel, by decide +kernel⟩, rfl, rfl⟩
theorem lk_X5_259 : LnV RX5 259 mX5_wantItem 0 := ⟨⟨gTb_at 972 (by decide +kernel) (by decide +kernel), gTb_at 974 (by decide +kernel) (by decide +kernel), gTb_at 42 (by decide +kernel) (by decide +kernel), gTb_at 60 (by decide +kernel) (by decide +kernel), gTb_at 975 (by decide +kernel) (by decide +kernel)⟩, ⟨by decide +kernel, by decide +kernel, by decide +kernel⟩, rfl, rfl⟩
theorem lk_X5_262 : LnS RX5 262 mX5_isSheet 1 := ⟨⟨gTb_at 1021 (by decide +kernel) (by decide +kernel), gTb_at 1022 (by decide +kernel) (by decide +kernel), gTb_at 60 (by decide +kernel) (by decide +kernel), gTb_at 1023 (by decide +kernel) (by decide +kernel)⟩, ⟨by decide +kernel, by decide +kernel, by decide +kernel⟩, rfl, rfl⟩
theorem lk_X5_267 : LnS RX5 267 mX5_narrow 2 := ⟨⟨gTb_at 1030 (by decide +kernel) (by decide +kernel), gTb_at 1031 (by decide +kernel) (by decide +kernel), gTb_at 60 (by decide +kernel) (by decide +kernel), gTb_at 1032 (by decide +kernel) (by decide +kernel)⟩, ⟨by decide +kernel, by decide +kernel, by decide +kernel⟩, rfl, rfl⟩
theorem lk_X5_271 : LnV RX5 271 mX5_isPart_ 3 := ⟨⟨gTb_at 1037 (by decide +kernel) (by decide +kernel), gTb_at 1039 (by decide +kernel) (by decide +kernel), gTb_at 51 (by decide +kernel) (by decide +kernel), gTb_at 60 (by decide +kernel) (by decide +kernel), gTb_at 1040 (by decide +kernel) (by decide +kernel)⟩, ⟨by decide +kernel, by decide +kernel, by decide +kernel⟩, rfl, rfl⟩
theorem lk_X5_273 : LnV RX5 273 mX5_badSheet 1 := ⟨⟨gTb_at 1045 (by decide +kernel) (by decide +kernel), gTb_at 1047 (by decide +kernel) (by decide +kernel), gTb_at 52 (by decide +kernel) (by decide +kernel), gTb_at 60 (by decide +kernel) (by decide +kernel), gTb_at 1048 (by decide +kernel) (by decide +kernel)⟩, ⟨by decide +kernel, by decide +kernel, by decide +kernel⟩, rfl, rfl⟩
theorem lk_X5_278 : LnV RX5 278 mX5_isSo 2 := ⟨⟨gTb_at 1058 (by decide +kernel) (by decide +kernel), gTb_at 1060 (by decide +kernel) (by decide +kernel), gTb_at 53 (by decide +kernel) (by decide +kernel), gTb_at 60 (by decide +kernel) (by decide +kernel), gTb_at 1061 (by decide +kernel) (by decide +kernel)⟩, ⟨by decide +kernel, by decide +kernel, by decide +kernel⟩, rfl, rfl⟩
theorem lk_J0_335 : LnV RJ0 335 mJ0_coder_7d493 0 := ⟨⟨gTb_at 499 (by decide +kernel) (by decide +kernel), gTb_at 500 (by decide +kernel) (by decide +kernel), gTb_at 501 (by decide +kernel) (by decide +kernel), gTb_at 65 (by decide +kernel) (by decide +kernel), gTb_at 502 (by decide +kernel) (by decide +kernel)⟩, ⟨by decide +kernel, by decide +kernel, by decide +kernel⟩, rfl, rfl⟩
theorem lk_J0_492 : LnV RJ0 492 mJ0_isLatin1_aae02 0 := ⟨⟨gTb_at 509 (by decide +kernel) (by decide +kernel), gTb_at 510 (by decide +kernel) (by decide +kernel), gTb_at 511 (by decide +kernel) (by decide +kernel), gTb_at 65 (by decide +kernel) (by decide +kernel), gTb_at 512 (by decide +kernel) (by decide +kernel)⟩, ⟨by decide +kernel, by decide +kernel, by decide +kernel⟩, rfl, rfl⟩
theorem lk_J0_495 : LnS RJ0 495 mJ1_charAt_3b067 2 := ⟨⟨gTb_at 513 (by decide +kernel) (by decide +kernel), gTb_at 514 (by decide +kernel) (by decide +kernel), gTb_at 66 (by decide +kernel) (by decide +kernel), gTb_at 515 (by decide +kernel) (by decide +kernel)⟩, ⟨by decide +kernel, by decide +kernel, by decide +kernel⟩, rfl, rfl⟩
theorem lk_J0_498 : LnS RJ0 498 mJ2_charAt_3b067 2 := ⟨⟨gTb_at 524 (by decide +kernel) (by decide +kernel), gTb_at 525 (by decide +kernel) (by decide +kernel), gTb_at 68 (by decide +kernel) (by decide +kernel), gTb_at 526 (by decide +kernel) (by decide +kernel)⟩, ⟨by decide +kernel, by decide +kernel, by decide +kernel⟩, rfl, rfl⟩
theorem lk_J0_1059 : LnS RJ0 1059 mJ3_checkIndex_8e157 3 := ⟨⟨gTb_at 521 (by decide +kernel) (by decide +kernel), gTb_at 522 (by decide +kernel) (by decide +kernel), gTb_at 67 (by decide +kernel) (by decide +kernel), gTb_at 523 (by decide +kernel) (by decide +kernel)⟩, ⟨by decide +kernel, by decide +kernel, by decide +kernel⟩, rfl, rfl⟩
theorem lk_J1_9 : LnS RJ1 9 mJ0_checkIndex_df160 2 := ⟨⟨gTb_at 516 (by decide +kernel) (by decide +kernel), gTb_at 517 (by decide +kernel) (by decide +kernel), gTb_at 65 (by decide +kernel) (by decide +kernel), gTb_at 518 (by decide +kernel) (by decide +kernel)⟩, ⟨by decide +kernel, by decide +kernel, by decide +kernel⟩, rfl, rfl⟩
theorem lk_J2_48 : LnS RJ2 48 mJ2_length_9d52b 1 := ⟨⟨gTb_at 530 (by decide +kernel) (by decide +kernel), gTb_at 531 (by decide +kernel) (by decide +kernel), gTb_at 68 (by decide +kernel) (by decide +kernel), gTb_at 532 (by decide +kernel) (by decide +kernel)⟩, ⟨by decide +kernel, by decide +kernel, by decide +kernel⟩, rfl, rfl⟩
theorem lk_J2_67 : LnS RJ2 67 mJ2_checkIndex_2214a 2 := ⟨⟨gTb_at 527 (by decide +kernel) (by decide +kernel), gTb_at 528 (by decide +kernel) (by decide +kernel), gTb_at 68 (by decide +kernel) (by decide +kernel), gTb_at 529 (by decide +kernel) (by decide +kernel)⟩, ⟨by decide +kernel, by decide +kernel, by decide +kernel⟩, rfl, rfl⟩
theorem lk_J2_71 : LnS RJ2 71 mJ2_getChar_3b067 2 := ⟨⟨gTb_at 534 (by decide +kernel) (by decide +kernel), gTb_at 535 (by decide +kernel) (by decide +kernel), gTb_at 68 (by decide +kernel) (by decide +kernel), gTb_at 536 (by decide +kernel) (by decide +kernel)⟩, ⟨by decide +kernel, by decide +kernel, by decide +kernel⟩, rfl, rfl⟩
theorem lk_J2_414 : LnS RJ2 414 mJ0_checkIndex_df160 2 := ⟨⟨gTb_at 533 (by decide +kernel) (by decide +kernel), gTb_at 517 (by decide +kernel) (by decide +kernel), gTb_at 65 (by decide +kernel) (by decide +kernel), gTb_at 518 (by decide +kernel) (by decide +kernel)⟩, ⟨by decide +kernel, by decide +kernel, by decide +kernel⟩, rfl, rfl⟩
theorem lk_L_13 : LnV RL 13 mX4_seat 1 := ⟨⟨gTb_at 200 (by decide +kernel) (by decide +kernel), gTb_at 201 (by decide +kernel) (by decide +kernel), gTb_at 202 (by decide +kernel) (by decide +kernel), gTb_at 55 (by decide +kernel) (by decide +kernel), gTb_at 203 (by decide +kernel) (by decide +kernel)⟩, ⟨by decide +kernel, by decide +kernel, by decide +kernel⟩, rfl, rfl⟩
theorem lk_L_17 : LnV RL 17 mX5_seat 1 := ⟨⟨gTb_at 726 (by decide +kernel) (by decide +kernel), gTb_at 727 (by decide +kernel) (by decide +kernel), gTb_at 728 (by decide +kernel) (by decide +kernel), gTb_at 60 (by decide +kernel) (by decide +kernel), gTb_at 729 (by decide +kernel) (by decide +kernel)⟩, ⟨by decide +kernel, by decide +kernel, by decide +kernel⟩, rfl, rfl⟩
theorem lk_L_18 : LnV RL 18 mX4_now 1 := ⟨⟨gTb_at 217 (by decide +kernel) (by decide +kernel), gTb_at 218 (by decide +kernel) (by decide +kernel), gTb_at 219 (by decide +kernel) (by decide +kernel), gTb_at 55 (by decide +kernel) (by decide +kernel), gTb_at 220 (by decide +kernel) (by decide +kernel)⟩, ⟨by decide +kernel, by decide +kernel, by decide +kernel⟩, rfl, rfl⟩
theorem lk_L_21 : LnV RL 21 mX5_now 1 := ⟨⟨gTb_at 749 (by decide +kernel) (by decide +kernel), gTb_at 750 (by decide +kernel) (by decide +kernel), gTb_at 751 (by decide +kernel) (by decide +kernel), gTb_at 60 (by decide +kernel) (by decide +kernel), gTb_at 752 (by decide +kernel) (by decide +kernel)⟩, ⟨by decide +kernel, by decide +kernel, by decide +kernel⟩, rfl, rfl⟩
theorem lk_L_22 : LnV RL 22 mX4_verse 1 := ⟨⟨gTb_at 251 (by decide +kernel) (by decide +kernel), gTb_at 252 (by decide +kernel) (by decide +kernel), gTb_at 253 (by decide +kernel) (by decide +kernel), gTb_at 55 (by decide +kernel) (by decide +kernel), gTb_at 254 (by decide +kernel) (by decide +kernel)⟩, ⟨by decide +kernel, by decide +kernel, by decide +kernel⟩, rfl, rfl⟩
theorem lk_L_25 : LnV RL 25 mX5_verse 1 := ⟨⟨gTb_at 780 (by decide +kernel) (by decide +kernel), gTb_at 781 (by decide +kernel) (by decide +kernel), gTb_at 782 (by decide +kernel) (by decide +kernel), gTb_at 60 (by decide +kernel) (by decide +kernel), gTb_at 783 (by decide +kernel) (by decide +kernel)⟩, ⟨by decide +kernel, by decide +kernel, by decide +kernel⟩, rfl, rfl⟩
theorem lk_L_26 : LnV RL 26 mX4_member 3 := ⟨⟨gTb_at 260 (by decide +kernel) (by decide +kernel), gTb_at 261 (by decide +kernel) (by decide +kernel), gTb_at 262 (by decide +kernel) (by decide +kernel), gTb_at 55 (by decide +kernel) (by decide +kernel), gTb_at 263 (by decide +kernel) (by decide +kernel)⟩, ⟨by decide +kernel, by decide +kernel, by decide +kernel⟩, rfl, rfl⟩
theorem lk_L_30 : LnV RL 30 mX5_member 3 := ⟨⟨gTb_at 785 (by decide +kernel) (by decide +kernel), gTb_at 786 (by decide +kernel) (by decide +kernel), gTb_at 787 (by decide +kernel) (by decide +kernel), gTb_at 60 (by decide +kernel) (by decide +kernel), gTb_at 788 (by decide +kernel) (by decide +kernel)⟩, ⟨by decide +kernel, by decide +kernel, by decide +kernel⟩, rfl, rfl⟩
theorem lk_L_31 : LnV RL 31 mX4_of 2 := ⟨⟨gTb_at 277 (by decide +kernel) (by decide +kernel), gTb_at 278 (by decide +kernel) (by decide +kernel), gTb_at 279 (by decide +kernel) (by decide +kernel), gTb_at 55 (by decide +kernel) (by decide +kernel), gTb_at 280 (by decide +kernel) (by decide +kernel)⟩, ⟨by decide +kernel, by decide +kernel, by decide +kernel⟩, rfl, rfl⟩
theorem lk_L_35 : LnV RL 35 mX5_of 2 := ⟨⟨gTb_at 805 (by decide +kernel) (by decide +kernel), gTb_at 806 (by decide +kernel) (by decide +kernel), gTb_at 807 (by decide +kernel) (by decide +kernel), gTb_at 60 (by decide +kernel) (by decide +kernel), gTb_at 808 (by decide +kernel) (by decide +kernel)⟩, ⟨by decide +kernel, by decide +kernel, by decide +kernel⟩, rfl, rfl⟩
theorem lk_L_36 : LnV RL 36 mX4_set 3 := ⟨⟨gTb_at 315 (by decide +kernel) (by decide +kernel), gTb_at 316 (by decide +kernel) (by decide +kernel), gTb_at 317 (by decide +kernel) (by decide +kernel), gTb_at 55 (by decide +kernel) (by decide +kernel), gTb_at 318 (by decide +kernel) (by decide +kernel)⟩, ⟨by decide +kernel, by decide +kernel, by decide +kernel⟩, rfl, rfl⟩
theorem lk_L_39 : LnV RL 39 mX5_set 3 := ⟨⟨gTb_at 835 (by decide +kernel) (by decide +kernel), gTb_at 836 (by decide +kernel) (by decide +kernel), gTb_at 837 (by decide +kernel) (by decide +kernel), gTb_at 60 (by decide +kernel) (by decide +kernel), gTb_at 838 (by decide +kernel) (by decide +kernel)⟩, ⟨by decide +kernel, by decide +kernel, by decide +kernel⟩, rfl, rfl⟩
theorem lk_L_40 : LnV RL 40 mX4_move 2 := ⟨⟨gTb_at 326 (by decide +kernel) (by decide +kernel), gTb_at 327 (by decide +kernel) (by decide +kernel), gTb_at 328 (by decide +kernel) (by decide +kernel), gTb_at 55 (by decide +kernel) (by decide +kernel), gTb_at 329 (by decide +kernel) (by decide +kernel)⟩, ⟨by decide +kernel, by decide +kernel, by decide +kernel⟩, rfl, rfl⟩
theorem lk_L_43 : LnV RL 43 mX5_move 2 := ⟨⟨gTb_at 846 (by decide +kernel) (by decide +kernel), gTb_at 847 (by decide +kernel) (by decide +kernel), gTb_at 848 (by decide +kernel) (by decide +kernel), gTb_at 60 (by decide +kernel) (by decide +kernel), gTb_at 849 (by decide +kernel) (by decide +kernel)⟩, ⟨by decide +kernel, by decide +kernel, by decide +kernel⟩, rfl, rfl⟩
theorem lk_L_44 : LnV RL 44 mX4_turn 2 := ⟨⟨gTb_at 338 (by decide +kernel) (by decide +kernel), gTb_at 339 (by decide +kernel) (by decide +kernel), gTb_at 340 (by decide +kernel) (by decide +kernel), gTb_at 55 (by decide +kernel) (by decide +kernel), gTb_at 341 (by decide +kernel) (by decide +kernel)⟩, ⟨by decide +kernel, by decide +kernel, by decide +kernel⟩, rfl, rfl⟩
theorem lk_L_47 : LnV RL 47 mX5_turn 2 := ⟨⟨gTb_at 850 (by decide +kernel) (by decide +kernel), gTb_at 851 (by decide +kernel) (by decide +kernel), gTb_at 852 (by decide +kernel) (by decide +kernel), gTb_at 60 (by decide +kernel) (by decide +kernel), gTb_at 853 (by decide +kernel) (by decide +kernel)⟩, ⟨by decide +kernel, by decide +kernel, by decide +kernel⟩, rfl, rfl⟩
theorem lk_L_48 : LnV RL 48 mX4_as 2 := ⟨⟨gTb_at 342 (by decide +kernel) (by decide +kernel), gTb_at 343 (by decide +kernel) (by decide +kernel), gTb_at 344 (by decide +kernel) (by decide +kernel), gTb_at 55 (by decide +kernel) (by decide +kernel), gTb_at 345 (by decide +kernel) (by decide +kernel)⟩, ⟨by decide +kernel, by decide +kernel, by decide +kernel⟩, rfl, rfl⟩
theorem lk_L_51 : LnV RL 51 mX5_as 2 := ⟨⟨gTb_at 854 (by decide +kernel) (by decide +kernel), gTb_at 855 (by decide +kernel) (by decide +kernel), gTb_at 856 (by decide +kernel) (by decide +kernel), gTb_at 60 (by decide +kernel) (by decide +kernel), gTb_at 857 (by decide +kernel) (by decide +kernel)⟩, ⟨by decide +kernel, by decide +kernel, by decide +kernel⟩, rfl, rfl⟩
theorem lk_L_52 : LnV RL 52 mX4_nights 1 := ⟨⟨gTb_at 353 (by decide +kernel) (by decide +kernel), gTb_at 354 (by decide +kernel) (by decide +kernel), gTb_at 355 (by decide +kernel) (by decide +kernel), gTb_at 55 (by decide +kernel) (by decide +kernel), gTb_at 356 (by decide +kernel) (by decide +kernel)⟩, ⟨by decide +kernel, by decide +kernel, by decide +kernel⟩, rfl, rfl⟩
theorem lk_L_55 : LnV RL 55 mX5_nights 1 := ⟨⟨gTb_at 859 (by decide +kernel) (by decide +kernel), gTb_at 860 (by decide +kernel) (by decide +kernel), gTb_at 861 (by decide +kernel) (by decide +kernel), gTb_at 60 (by decide +kernel) (by decide +kernel), gTb_at 862 (by decide +kernel) (by decide +kernel)⟩, ⟨by decide +kernel, by decide +kernel, by decide +kernel⟩, rfl, rfl⟩
theorem lk_L_56 : LnV RL 56 mX4_on 3 := ⟨⟨gTb_at 382 (by decide +kernel) (by decide +kernel), gTb_at 383 (by decide +kernel) (by decide +kernel), gTb_at 384 (by decide +kernel) (by decide +kernel), gTb_at 55 (by decide +kernel) (by decide +kernel), gTb_at 385 (by decide +kernel) (by decide +kernel)⟩, ⟨by decide +kernel, by decide +kernel, by decide +kernel⟩, rfl, rfl⟩
theorem lk_L_59 : LnV RL 59 mX5_on 3 := ⟨⟨gTb_at 883 (by decide +kernel) (by decide +kernel), gTb_at 884 (by decide +kernel) (by decide +kernel), gTb_at 885 (by decide +kernel) (by decide +kernel), gTb_at 60 (by decide +kernel) (by decide +kernel), gTb_at 886 (by decide +kernel) (by decide +kernel)⟩, ⟨by decide +kernel, by decide +kernel, by decide +kernel⟩, rfl, rfl⟩
theorem lk_L_60 : LnV RL 60 mX4_learns 2 := ⟨⟨gTb_at 393 (by decide +kernel) (by decide +kernel), gTb_at 394 (by decide +kernel) (by decide +kernel), gTb_at 395 (by decide +kernel) (by decide +kernel), gTb_at 55 (by decide +kernel) (by decide +kernel), gTb_at 396 (by decide +kernel) (by decide +kernel)⟩, ⟨by decide +kernel, by decide +kernel, by decide +kernel⟩, rfl, rfl⟩
theorem lk_L_63 : LnV RL 63 mX5_learns 2 := ⟨⟨gTb_at 891 (by decide +kernel) (by decide +kernel), gTb_at 892 (by decide +kernel) (by decide +kernel), gTb_at 893 (by decide +kernel) (by decide +kernel), gTb_at 60 (by decide +kernel) (by decide +kernel), gTb_at 894 (by decide +kernel) (by decide +kernel)⟩, ⟨by decide +kernel, by decide +kernel, by decide +kernel⟩, rfl, rfl⟩
theorem lk_L_64 : LnV RL 64 mX4_spreads 1 := ⟨⟨gTb_at 402 (by decide +kernel) (by decide +kernel), gTb_at 403 (by decide +kernel) (by decide +kernel), gTb_at 404 (by decide +kernel) (by decide +kernel), gTb_at 55 (by decide +kernel) (by decide +kernel), gTb_at 405 (by decide +kernel) (by decide +kernel)⟩, ⟨by decide +kernel, by decide +kernel, by decide +kernel⟩, rfl, rfl⟩
theorem lk_L_67 : LnV RL 67 mX5_spreads 1 := ⟨⟨gTb_at 899 (by decide +kernel) (by decide +kernel), gTb_at 900 (by decide +kernel) (by decide +kernel), gTb_at 901 (by decide +kernel) (by decide +kernel), gTb_at 60 (by decide +kernel) (by decide +kernel), gTb_at 902 (by decide +kernel) (by decide +kernel)⟩, ⟨by decide +kernel, by decide +kernel, by decide +kernel⟩, rfl, rfl⟩
theorem lk_L_68 : LnV RL 68 mX4_heresy 0 := ⟨⟨gTb_at 411 (by decide +kernel) (by decide +kernel), gTb_at 412 (by decide +kernel) (by decide +kernel), gTb_at 413 (by decide +kernel) (by decide +kernel), gTb_at 55 (by decide +kernel) (by decide +kernel), gTb_at 414 (by decide +kernel) (by decide +kernel)⟩, ⟨by decide +kernel, by decide +kernel, by decide +kernel⟩, rfl, rfl⟩
theorem lk_L_72 : LnV RL 72 mX5_heresy 0 := ⟨⟨gTb_at 907 (by decide +kernel) (by decide +kernel), gTb_at 908 (by decide +kernel) (by decide +kernel), gTb_at 909 (by decide +kernel) (by decide +kernel), gTb_at 60 (by decide +kernel) (by decide +kernel), gTb_at 910 (by decide +kernel) (by decide +kernel)⟩, ⟨by decide +kernel, by decide +kernel, by decide +kernel⟩, rfl, rfl⟩
theorem lk_L_73 : LnV RL 73 mX4_best 2 := ⟨⟨gTb_at 419 (by decide +kernel) (by decide +kernel), gTb_at 420 (by decide +kernel) (by decide +kernel), gTb_at 421 (by decide +kernel) (by decide +kernel), gTb_at 55 (by decide +kernel) (by decide +kernel), gTb_at 422 (by decide +kernel) (by decide +kernel)⟩, ⟨by decide +kernel, by decide +kernel, by decide +kernel⟩, rfl, rfl⟩
theorem lk_L_76 : LnV RL 76 mX5_best 2 := ⟨⟨gTb_at 915 (by decide +kernel) (by decide +kernel), gTb_at 916 (by decide +kernel) (by decide +kernel), gTb_at 917 (by decide +kernel) (by decide +kernel), gTb_at 60 (by decide +kernel) (by decide +kernel), gTb_at 918 (by decide +kernel) (by decide +kernel)⟩, ⟨by decide +kernel, by decide +kernel, by decide +kernel⟩, rfl, rfl⟩
theorem lk_L_77 : LnV RL 77 mX4_kind 2 := ⟨⟨gTb_at 424 (by decide +kernel) (by decide +kernel), gTb_at 425 (by decide +kernel) (by decide +kernel), gTb_at 426 (by decide +kernel) (by decide +kernel), gTb_at 55 (by decide +kernel) (by decide +kernel), gTb_at 427 (by decide +kernel) (by decide +kernel)⟩, ⟨by decide +kernel, by decide +kernel, by decide +kernel⟩, rfl, rfl⟩
theorem lk_L_80 : LnV RL 80 mX5_kind 2 := ⟨⟨gTb_at 923 (by decide +kernel) (by decide +kernel), gTb_at 924 (by decide +kernel) (by decide +kernel), gTb_at 925 (by decide +kernel) (by decide +kernel), gTb_at 60 (by decide +kernel) (by decide +kernel), gTb_at 926 (by decide +kernel) (by decide +kernel)⟩, ⟨by decide +kernel, by decide +kernel, by decide +kernel⟩, rfl, rfl⟩
theorem lk_L_81 : LnV RL 81 mX4_deep 3 := ⟨⟨gTb_at 428 (by decide +kernel) (by decide +kernel), gTb_at 429 (by decide +kernel) (by decide +kernel), gTb_at 430 (by decide +kernel) (by decide +kernel), gTb_at 55 (by decide +kernel) (by decide +kernel), gTb_at 431 (by decide +kernel) (by decide +kernel)⟩, ⟨by decide +kernel, by decide +kernel, by decide +kernel⟩, rfl, rfl⟩
theorem lk_L_84 : LnV RL 84 mX5_deep 3 := ⟨⟨gTb_at 927 (by decide +kernel) (by decide +kernel), gTb_at 928 (by decide +kernel) (by decide +kernel), gTb_at 929 (by decide +kernel) (by decide +kernel), gTb_at 60 (by decide +kernel) (by decide +kernel), gTb_at 930 (by decide +kernel) (by decide +kernel)⟩, ⟨by decide +kernel, by decide +kernel, by decide +kernel⟩, rfl, rfl⟩
theorem lk_L_85 : LnV RL 85 mX4_shift 1 := ⟨⟨gTb_at 432 (by decide +kernel) (by decide +kernel), gTb_at 433 (by decide +kernel) (by decide +kernel), gTb_at 434 (by decide +kernel) (by decide +kernel), gTb_at 55 (by decide +kernel) (by decide +kernel), gTb_at 435 (by decide +kernel) (by decide +kernel)⟩, ⟨by decide +kernel, by decide +kernel, by decide +kernel⟩, rfl, rfl⟩
theorem lk_L_88 : LnV RL 88 mX5_shift 1 := ⟨⟨gTb_at 931 (by decide +kernel) (by decide +kernel), gTb_at 932 (by decide +kernel) (by decide +kernel), gTb_at 933 (by decide +kernel) (by decide +kernel), gTb_at 60 (by decide +kernel) (by decide +kernel), gTb_at 934 (by decide +kernel) (by decide +kernel)⟩, ⟨by decide +kernel, by decide +kernel, by decide +kernel⟩, rfl, rfl⟩
theorem lk_L_89 : LnV RL 89 mX4_bears 3 := ⟨⟨gTb_at 440 (by decide +kernel) (by decide +kernel), gTb_at 441 (by decide +kernel) (by decide +kernel), gTb_at 442 (by decide +kernel) (by decide +kernel), gTb_at 55 (by decide +kernel) (by decide +kernel), gTb_at 443 (by decide +kernel) (by decide +kernel)⟩, ⟨by decide +kernel, by decide +kernel, by decide +kernel⟩, rfl, rfl⟩
theorem lk_L_92 : LnV RL 92 mX5_bears 3 := ⟨⟨gTb_at 935 (by decide +kernel) (by decide +kernel), gTb_at 936 (by decide +kernel) (by decide +kernel), gTb_at 937 (by decide +kernel) (by decide +kernel), gTb_at 60 (by decide +kernel) (by decide +kernel), gTb_at 938 (by decide +kernel) (by decide +kernel)⟩, ⟨by decide +kernel, by decide +kernel, by decide +kernel⟩, rfl, rfl⟩
theorem lk_L_93 : LnV RL 93 mX4_wisest 1 := ⟨⟨gTb_at 444 (by decide +kernel) (by decide +kernel), gTb_at 445 (by decide +kernel) (by decide +kernel), gTb_at 446 (by decide +kernel) (by decide +kernel), gTb_at 55 (by decide +kernel) (by decide +kernel), gTb_at 447 (by decide +kernel) (by decide +kernel)⟩, ⟨by decide +kernel, by decide +kernel, by decide +kernel⟩, rfl, rfl⟩
theorem lk_L_96 : LnV RL 96 mX5_wisest 1 := ⟨⟨gTb_at 939 (by decide +kernel) (by decide +kernel), gTb_at 940 (by decide +kernel) (by decide +kernel), gTb_at 941 (by decide +kernel) (by decide +kernel), gTb_at 60 (by decide +kernel) (by decide +kernel), gTb_at 942 (by decide +kernel) (by decide +kernel)⟩, ⟨by decide +kernel, by decide +kernel, by decide +kernel⟩, rfl, rfl⟩
theorem lk_L_97 : LnV RL 97 mX4_feed 2 := ⟨⟨gTb_at 448 (by decide +kernel) (by decide +kernel), gTb_at 449 (by decide +kernel) (by decide +kernel), gTb_at 450 (by decide +kernel) (by decide +kernel), gTb_at 55 (by decide +kernel) (by decide +kernel), gTb_at 451 (by decide +kernel) (by decide +kernel)⟩, ⟨by decide +kernel, by decide +kernel, by decide +kernel⟩, rfl, rfl⟩
theorem lk_L_100 : LnV RL 100 mX5_feed 2 := ⟨⟨gTb_at 943 (by decide +kernel) (by decide +kernel), gTb_at 944 (by decide +kernel) (by decide +kernel), gTb_at 945 (by decide +kernel) (by decide +kernel), gTb_at 60 (by decide +kernel) (by decide +kernel), gTb_at 946 (by decide +kernel) (by decide +kernel)⟩, ⟨by decide +kernel, by decide +kernel, by decide +kernel⟩, rfl, rfl⟩
theorem lk_L_101 : LnV RL 101 mX4_wipe 0 := ⟨⟨gTb_at 456 (by decide +kernel) (by decide +kernel), gTb_at 457 (by decide +kernel) (by decide +kernel), gTb_at 458 (by decide +kernel) (by decide +kernel), gTb_at 55 (by decide +kernel) (by decide +kernel), gTb_at 459 (by decide +kernel) (by decide +kernel)⟩, ⟨by decide +kernel, by decide +kernel, by decide +kernel⟩, rfl, rfl⟩
theorem lk_L_104 : LnV RL 104 mX5_wipe 0 := ⟨⟨gTb_at 947 (by decide +kernel) (by decide +kernel), gTb_at 948 (by decide +kernel) (by decide +kernel), gTb_at 949 (by decide +kernel) (by decide +kernel), gTb_at 60 (by decide +kernel) (by decide +kernel), gTb_at 950 (by decide +kernel) (by decide +kernel)⟩, ⟨by decide +kernel, by decide +kernel, by decide +kernel⟩, rfl, rfl⟩
theorem lk_L_105 : LnV RL 105 mX4_chapel 0 := ⟨⟨gTb_at 460 (by decide +kernel) (by decide +kernel), gTb_at 461 (by decide +kernel) (by decide +kernel), gTb_at 462 (by decide +kernel) (by decide +kernel), gTb_at 55 (by decide +kernel) (by decide +kernel), gTb_at 463 (by decide +kernel) (by decide +kernel)⟩, ⟨by decide +kernel, by decide +kernel, by decide +kernel⟩, rfl, rfl⟩
theorem lk_L_108 : LnV RL 108 mX5_chapel 0 := ⟨⟨gTb_at 951 (by decide +kernel) (by decide +kernel), gTb_at 952 (by decide +kernel) (by decide +kernel), gTb_at 953 (by decide +kernel) (by decide +kernel), gTb_at 60 (by decide +kernel) (by decide +kernel), gTb_at 954 (by decide +kernel) (by decide +kernel)⟩, ⟨by decide +kernel, by decide +kernel, by decide +kernel⟩, rfl, rfl⟩
theorem lk_L_109 : LnV RL 109 mX4_sheet 3 := ⟨⟨gTb_at 582 (by decide +kernel) (by decide +kernel), gTb_at 583 (by decide +kernel) (by decide +kernel), gTb_at 584 (by decide +kernel) (by decide +kernel), gTb_at 55 (by decide +kernel) (by decide +kernel), gTb_at 585 (by decide +kernel) (by decide +kernel)⟩, ⟨by decide +kernel, by decide +kernel, by decide +kernel⟩, rfl, rfl⟩
theorem lk_L_112 : LnV RL 112 mX5_sheet 3 := ⟨⟨gTb_at 1017 (by decide +kernel) (by decide +kernel), gTb_at 1018 (by decide +kernel) (by decide +kernel), gTb_at 1019 (by decide +kernel) (by decide +kernel), gTb_at 60 (by decide +kernel) (by decide +kernel), gTb_at 1020 (by decide +kernel) (by decide +kernel)⟩, ⟨by decide +kernel, by decide +kernel, by decide +kernel⟩, rfl, rfl⟩
theorem lk_L_115 : LnV RL 115 mX4_write 3 := ⟨⟨gTb_at 597 (by decide +kernel) (by decide +kernel), gTb_at 598 (by decide +kernel) (by decide +kernel), gTb_at 599 (by decide +kernel) (by decide +kernel), gTb_at 55 (by decide +kernel) (by decide +kernel), gTb_at 600 (by decide +kernel) (by decide +kernel)⟩, ⟨by decide +kernel, by decide +kernel, by decide +kernel⟩, rfl, rfl⟩
theorem lk_L_119 : LnV RL 119 mX5_write 3 := ⟨⟨gTb_at 1025 (by decide +kernel) (by decide +kernel), gTb_at 1026 (by decide +kernel) (by decide +kernel), gTb_at 1027 (by decide +kernel) (by decide +kernel), gTb_at 60 (by decide +kernel) (by decide +kernel), gTb_at 1028 (by decide +kernel) (by decide +kernel)⟩, ⟨by decide +kernel, by decide +kernel, by decide +kernel⟩, rfl, rfl⟩
theorem lk_L_120 : LnV RL 120 mX4_copy 5 := ⟨⟨gTb_at 610 (by decide +kernel) (by decide +kernel), gTb_at 611 (by decide +kernel) (by decide +kernel), gTb_at 612 (by decide +kernel) (by decide +kernel), gTb_at 55 (by decide +kernel) (by decide +kernel), gTb_at 613 (by decide +kernel) (by decide +kernel)⟩, ⟨by decide +kernel, by decide +kernel, by decide +kernel⟩, rfl, rfl⟩
theorem lk_L_124 : LnV RL 124 mX5_copy 5 := ⟨⟨gTb_at 1033 (by decide +kernel) (by decide +kernel), gTb_at 1034 (by decide +kernel) (by decide +kernel), gTb_at 1035 (by decide +kernel) (by decide +kernel), gTb_at 60 (by decide +kernel) (by decide +kernel), gTb_at 1036 (by decide +kernel) (by decide +kernel)⟩, ⟨by decide +kernel, by decide +kernel, by decide +kernel⟩, rfl, rfl⟩
theorem lk_L_125 : LnV RL 125 mX4_lays 1 := ⟨⟨gTb_at 619 (by decide +kernel) (by decide +kernel), gTb_at 620 (by decide +kernel) (by decide +kernel), gTb_at 621 (by decide +kernel) (by decide +kernel), gTb_at 55 (by decide +kernel) (by decide +kernel), gTb_at 622 (by decide +kernel) (by decide +kernel)⟩, ⟨by decide +kernel, by decide +kernel, by decide +kernel⟩, rfl, rfl⟩
theorem lk_L_128 : LnV RL 128 mX5_lays 1 := ⟨⟨gTb_at 1041 (by decide +kernel) (by decide +kernel), gTb_at 1042 (by decide +kernel) (by decide +kernel), gTb_at 1043 (by decide +kernel) (by decide +kernel), gTb_at 60 (by decide +kernel) (by decide +kernel), gTb_at 1044 (by decide +kernel) (by decide +kernel)⟩, ⟨by decide +kernel, by decide +kernel, by decide +kernel⟩, rfl, rfl⟩
theorem lk_L_129 : LnV RL 129 mX4_book 2 := ⟨⟨gTb_at 624 (by decide +kernel) (by decide +kernel), gTb_at 625 (by decide +kernel) (by decide +kernel), gTb_at 626 (by decide +kernel) (by decide +kernel), gTb_at 55 (by decide +kernel) (by decide +kernel), gTb_at 627 (by decide +kernel) (by decide +kernel)⟩, ⟨by decide +kernel, by decide +kernel, by decide +kernel⟩, rfl, rfl⟩
theorem lk_L_132 : LnV RL 132 mX5_book 2 := ⟨⟨gTb_at 1050 (by decide +kernel) (by decide +kernel), gTb_at 1051 (by decide +kernel) (by decide +kernel), gTb_at 1052 (by decide +kernel) (by decide +kernel), gTb_at 60 (by decide +kernel) (by decide +kernel), gTb_at 1053 (by decide +kernel) (by decide +kernel)⟩, ⟨by decide +kernel, by decide +kernel, by decide +kernel⟩, rfl, rfl⟩
theorem lk_L_133 : LnV RL 133 mX4_read 3 := ⟨⟨gTb_at 628 (by decide +kernel) (by decide +kernel), gTb_at 629 (by decide +kernel) (by decide +kernel), gTb_at 630 (by decide +kernel) (by decide +kernel), gTb_at 55 (by decide +kernel) (by decide +kernel), gTb_at 631 (by decide +kernel) (by decide +kernel)⟩, ⟨by decide +kernel, by decide +kernel, by decide +kernel⟩, rfl, rfl⟩
theorem lk_L_136 : LnV RL 136 mX5_read 3 := ⟨⟨gTb_at 1054 (by decide +kernel) (by decide +kernel), gTb_at 1055 (by decide +kernel) (by decide +kernel), gTb_at 1056 (by decide +kernel) (by decide +kernel), gTb_at 60 (by decide +kernel) (by decide +kernel), gTb_at 1057 (by decide +kernel) (by decide +kernel)⟩, ⟨by decide +kernel, by decide +kernel, by decide +kernel⟩, rfl, rfl⟩
theorem lk_L_137 : LnV RL 137 mX4_image 0 := ⟨⟨gTb_at 636 (by decide +kernel) (by decide +kernel), gTb_at 637 (by decide +kernel) (by decide +kernel), gTb_at 638 (by decide +kernel) (by decide +kernel), gTb_at 55 (by decide +kernel) (by decide +kernel), gTb_at 639 (by decide +kernel) (by decide +kernel)⟩, ⟨by decide +kernel, by decide +kernel, by decide +kernel⟩, rfl, rfl⟩
theorem lk_L_140 : LnV RL 140 mX5_image 0 := ⟨⟨gTb_at 1062 (by decide +kernel) (by decide +kernel), gTb_at 1063 (by decide +kernel) (by decide +kernel), gTb_at 1064 (by decide +kernel) (by decide +kernel), gTb_at 60 (by decide +kernel) (by decide +kernel), gTb_at 1065 (by decide +kernel) (by decide +kernel)⟩, ⟨by decide +kernel, by decide +kernel, by decide +kernel⟩, rfl, rfl⟩
theorem lk_L_141 : LnV RL 141 mX4_undo 0 := ⟨⟨gTb_at 640 (by decide +kernel) (by decide +kernel), gTb_at 641 (by decide +kernel) (by decide +kernel), gTb_at 642 (by decide +kernel) (by decide +kernel), gTb_at 55 (by decide +kernel) (by decide +kernel), gTb_at 643 (by decide +kernel) (by decide +kernel)⟩, ⟨by decide +kernel, by decide +kernel, by decide +kernel⟩, rfl, rfl⟩
theorem lk_L_144 : LnV RL 144 mX5_undo 0 := ⟨⟨gTb_at 1066 (by decide +kernel) (by decide +kernel), gTb_at 1067 (by decide +kernel) (by decide +kernel), gTb_at 1068 (by decide +kernel) (by decide +kernel), gTb_at 60 (by decide +kernel) (by decide +kernel), gTb_at 1069 (by decide +kernel) (by decide +kernel)⟩, ⟨by decide +kernel, by decide +kernel, by decide +kernel⟩, rfl, rfl⟩
theorem lk_L_145 : LnV RL 145 mX4_tear 0 := ⟨⟨gTb_at 644 (by decide +kernel) (by decide +kernel), gTb_at 645 (by decide +kernel) (by decide +kernel), gTb_at 646 (by decide +kernel) (by decide +kernel), gTb_at 55 (by decide +kernel) (by decide +kernel), gTb_at 647 (by decide +kernel) (by decide +kernel)⟩, ⟨by decide +kernel, by decide +kernel, by decide +kernel⟩, rfl, rfl⟩
theorem lk_L_148 : LnV RL 148 mX5_tear 0 := ⟨⟨gTb_at 1070 (by decide +kernel) (by decide +kernel), gTb_at 1071 (by decide +kernel) (by decide +kernel), gTb_at 1072 (by decide +kernel) (by decide +kernel), gTb_at 60 (by decide +kernel) (by decide +kernel), gTb_at 1073 (by decide +kernel) (by decide +kernel)⟩, ⟨by decide +kernel, by decide +kernel, by decide +kernel⟩, rfl, rfl⟩
theorem lk_L_149 : LnV RL 149 mX4_count 1 := ⟨⟨gTb_at 648 (by decide +kernel) (by decide +kernel), gTb_at 649 (by decide +kernel) (by decide +kernel), gTb_at 650 (by decide +kernel) (by decide +kernel), gTb_at 55 (by decide +kernel) (by decide +kernel), gTb_at 651 (by decide +kernel) (by decide +kernel)⟩, ⟨by decide +kernel, by decide +kernel, by decide +kernel⟩, rfl, rfl⟩
theorem lk_L_152 : LnV RL 152 mX5_count 1 := ⟨⟨gTb_at 1074 (by decide +kernel) (by decide +kernel), gTb_at 1075 (by decide +kernel) (by decide +kernel), gTb_at 1076 (by decide +kernel) (by decide +kernel), gTb_at 60 (by decide +kernel) (by decide +kernel), gTb_at 1077 (by decide +kernel) (by decide +kernel)⟩, ⟨by decide +kernel, by decide +kernel, by decide +kernel⟩, rfl, rfl⟩
theorem lk_L_153 : LnV RL 153 mX4_status 1 := ⟨⟨gTb_at 652 (by decide +kernel) (by decide +kernel), gTb_at 653 (by decide +kernel) (by decide +kernel), gTb_at 654 (by decide +kernel) (by decide +kernel), gTb_at 55 (by decide +kernel) (by decide +kernel), gTb_at 655 (by decide +kernel) (by decide +kernel)⟩, ⟨by decide +kernel, by decide +kernel, by decide +kernel⟩, rfl, rfl⟩
theorem lk_L_156 : LnV RL 156 mX5_status 1 := ⟨⟨gTb_at 1078 (by decide +kernel) (by decide +kernel), gTb_at 1079 (by decide +kernel) (by decide +kernel), gTb_at 1080 (by decide +kernel) (by decide +kernel), gTb_at 60 (by decide +kernel) (by decide +kernel), gTb_at 1081 (by decide +kernel) (by decide +kernel)⟩, ⟨by decide +kernel, by decide +kernel, by decide +kernel⟩, rfl, rfl⟩
theorem ac_w : Cond.native arraycopyName ∈ gTb ∧ Cond.static arraycopyName ∈ gTb ∧ Cond.initialized "java/lang/System" ∈ gTb := ⟨gTb_at 392 (by decide +kernel) (by decide +kernel), gTb_at 391 (by decide +kernel) (by decide +kernel), gTb_at 64 (by decide +kernel) (by decide +kernel)⟩
theorem max_w : Cond.static Lib.Math.max.name ∈ gTb ∧ Cond.initialized "java/lang/Math" ∈ gTb ∧ Cond.code Lib.Math.max.name Lib.Math.max.code 2 (some .int) ∈ gTb := ⟨gTb_at 380 (by decide +kernel) (by decide +kernel), gTb_at 63 (by decide +kernel) (by decide +kernel), gTb_at 381 (by decide +kernel) (by decide +kernel)⟩
theorem min_w : Cond.static Lib.Math.min.name ∈ gTb ∧ Cond.initialized "java/lang/Math" ∈ gTb ∧ Cond.code Lib.Math.min.name Lib.Math.min.code 2 (some .int) ∈ gTb := ⟨gTb_at 377 (by decide +kernel) (by decide +kernel), gTb_at 63 (by decide +kernel) (by decide +kernel), gTb_at 378 (by decide +kernel) (by decide +kernel)⟩
end
section
/-! the state: int rows by their places, long rows, int fields by place and slot, the one long field; the heap is what it says -/
def kdl : List (Nat × Nat × List Nat) := [(3, 3, [3, 13, 23, 0, 33, 35, 44]), (3, 0, [0, 0, 4, 5, 6, 7, 8, 9, 10, 11, 12]), (0, 10, []), (0, 10, []), (0, 10, []), (0, 10, []), (0, 10, []), (0, 10, []), (0, 12, []), (0, 10, []), (0, 10, []), (3, 0, [0, 0, 14, 15, 16, 17, 18, 19, 20, 21, 22]), (0, 10, []), (0, 10, []), (0, 10, []), (0, 10, []), (0, 10, []), (0, 10, []), (0, 12, []), (0, 10, []), (0, 10, []), (3, 0, [0, 0, 24, 25, 26, 27, 28, 29, 30, 31, 32]), (0, 10, []), (0, 10, []), (0, 10, []), (0, 10, []), (0, 10, []), (0, 10, []), (0, 12, []), (0, 10, []), (0, 10, []), (3, 2, [0, 34, 0, 0, 0, 0]), (0, 120, []), (2, 4, []), (3, 1, [0, 0, 37]), (1, 40, []), (3, 1, [0, 0, 39]), (1, 40, []), (3, 1, [0, 0, 41]), (1, 40, []), (3, 1, [0, 0, 43]), (1, 40, []), (0, 7, []), (3, 4, [46, 47, 48, 49, 50, 51, 52, 0, 0, 0, 0, 1, 0, 0, 53, 54, 55, 56, 57, 58, 0]), (0, 62, []), (0, 7, []), (0, 10, []), (0, 10, []), (0, 62, []), (0, 62, []), (0, 120, []), (0, 4, []), (0, 4, []), (1, 160, []), (1, 40, []), (0, 62, []), (0, 62, [])]
def kd (P : Nat) : Nat × Nat × List Nat := kdl.getD P (9, 0, [])
def fldV (g : GG) (f : Nat → Int32) (w : Int64) : List Nat → Nat → List Value
  | [], _ => []
  | 0 :: r, k => .int (f k) :: fldV g f w r (k + 1)
  | 1 :: r, k => .long w :: fldV g f w r (k + 1)
  | (q + 2) :: r, k => .ref (ga g q) :: fldV g f w r (k + 1)
def shF (g : GG) (i : Nat) : Option Nat := if i < 4 then some (ga g (34 + 2 * i)) else none
def cellOf (g : GG) (t : Nat × Nat × List Nat) (i : Nat → Int32) (j : Nat → Int64) (f : Nat → Int32) (w : Int64) : va_E :=
  if t.1 = 0 then ci g t.2.1 i else if t.1 = 1 then cj g t.2.1 j else if t.1 = 2 then cs g t.2.1 (shF g) else co t.2.1 (fldV g f w t.2.2 0)
def hp (g : GG) (I : Nat → Nat → Int32) (J : Nat → Nat → Int64) (F : Nat → Nat → Int32) (w : Int64) : Hp := fun P => cellOf g (kd P) (I P) (J P) (F P) w
theorem fldV_len (g : GG) (f : Nat → Int32) (w : Int64) : ∀ (r : List Nat) (k : Nat), (fldV g f w r k).length = r.length
  | [], _ => rfl
  | 0 :: r, k => by simp [fldV, fldV_len g f w r (k + 1)]
  | 1 :: r, k => by simp [fldV, fldV_len g f w r (k + 1)]
  | (q + 2) :: r, k => by simp [fldV, fldV_len g f w r (k + 1)]
theorem fldV_at (g : GG) (f : Nat → Int32) (w : Int64) : ∀ (r : List Nat) (k i d : Nat), r[i]? = some d → (fldV g f w r k)[i]? = some (match d with | 0 => .int (f (k + i)) | 1 => .long w | q + 2 => .ref (ga g q))
  | [], _, i, d, h => by simp at h
  | a :: r, k, 0, d, h => by
    simp at h
    subst h
    match a with
    | 0 => rfl
    | 1 => rfl
    | q + 2 => rfl
  | a :: r, k, i + 1, d, h => by
    have h2 := fldV_at g f w r (k + 1) i d (by simpa using h)
    rw [show k + 1 + i = k + (i + 1) by omega] at h2
    match a with
    | 0 => simpa [fldV] using h2
    | 1 => simpa [fldV] using h2
    | q + 2 => simpa [fldV] using h2
theorem fldV_congr (g : GG) (f f2 : Nat → Int32) (w : Int64) : ∀ (r : List Nat) (k : Nat), (∀ i, k ≤ i → f i = f2 i) → fldV g f w r k = fldV g f2 w r k
  | [], _, _ => rfl
  | 0 :: r, k, h => by simp only [fldV]; rw [h k (Nat.le_refl k), fldV_congr g f f2 w r (k + 1) (fun i hi => h i (by omega))]
  | 1 :: r, k, h => by simp only [fldV]; rw [fldV_congr g f f2 w r (k + 1) (fun i hi => h i (by omega))]
  | (q + 2) :: r, k, h => by simp only [fldV]; rw [fldV_congr g f f2 w r (k + 1) (fun i hi => h i (by omega))]
theorem fldV_set (g : GG) (f : Nat → Int32) (w : Int64) (v : Int32) : ∀ (r : List Nat) (k i : Nat), r[i]? = some 0 → (fldV g f w r k).set i (.int v) = fldV g (va_up f (k + i) v) w r k
  | [], _, i, h => by simp at h
  | a :: r, k, 0, h => by
    simp at h
    subst h
    simp only [fldV, List.set_cons_zero, Nat.add_zero]
    rw [fldV_congr g f (va_up f k v) w r (k + 1) (fun i hi => by simp [va_up]; omega)]
    simp [va_up]
  | a :: r, k, i + 1, h => by
    have h2 := fldV_set g f w v r (k + 1) i (by simpa using h)
    rw [show k + 1 + i = k + (i + 1) by omega] at h2
    match a with
    | 0 =>
      simp only [fldV, List.set_cons_succ, h2]
      congr 2
      simp [va_up]
    | 1 => simp only [fldV, List.set_cons_succ, h2]
    | q + 2 => simp only [fldV, List.set_cons_succ, h2]
theorem fldV_setL (g : GG) (f : Nat → Int32) (w v : Int64) : ∀ (r : List Nat) (k i : Nat), r[i]? = some 1 → (∀ j : Nat, r[j]? = some 1 → j = i) → (fldV g f w r k).set i (.long v) = fldV g f v r k
  | [], _, i, h, _ => by simp at h
  | a :: r, k, 0, h, hu => by
    simp at h
    subst h
    simp only [fldV, List.set_cons_zero]
    have hn : ∀ j : Nat, r[j]? ≠ some 1 := fun j hj => by
      have := hu (j + 1) (by simpa using hj)
      omega
    have : ∀ (r : List Nat) (k : Nat), (∀ j : Nat, r[j]? ≠ some 1) → fldV g f w r k = fldV g f v r k := by
      intro r
      induction r with
      | nil => intro k _; rfl
      | cons b r ih =>
        intro k hh
        have h1 := ih (k + 1) (fun j hj => hh (j + 1) (by simpa using hj))
        have h0 := hh 0
        match b, h0 with
        | 0, _ => simp only [fldV, h1]
        | 1, h0 => simp at h0
        | q + 2, _ => simp only [fldV, h1]
    rw [this r (k + 1) hn]
  | a :: r, k, i + 1, h, hu => by
    have h2 := fldV_setL g f w v r (k + 1) i (by simpa using h) (fun j hj => by
      have := hu (j + 1) (by simpa using hj)
      omega)
    have h0 : a ≠ 1 := fun z => by
      have := hu 0 (by simp [z])
      omega
    match a, h0 with
    | 0, _ => simp only [fldV, List.set_cons_succ, h2]
    | 1, h0 => exact absurd rfl h0
    | q + 2, _ => simp only [fldV, List.set_cons_succ, h2]
section HP
variable {g : GG} {I : Nat → Nat → Int32} {J : Nat → Nat → Int64} {F : Nat → Nat → Int32} {w : Int64} {P n k : Nat}
def KI (P n : Nat) : Prop := P < 57 ∧ kd P = (0, n, [])
def KJ (P n : Nat) : Prop := P < 57 ∧ kd P = (1, n, [])
def KO (P cn : Nat) (r : List Nat) : Prop := P < 57 ∧ kd P = (3, cn, r)
theorem hp_i (h : KI P n) : hp g I J F w P = ci g n (I P) := by simp [hp, h.2, cellOf]
theorem hp_j (h : KJ P n) : hp g I J F w P = cj g n (J P) := by simp [hp, h.2, cellOf]
theorem hp_o {cn : Nat} {r : List Nat} (h : KO P cn r) : hp g I J F w P = co cn (fldV g (F P) w r 0) := by simp [hp, h.2, cellOf]
theorem hp_s : hp g I J F w 33 = cs g 4 (shF g) := rfl
theorem hp_ui (h : KI P n) (f : Nat → Int32) : va_up (hp g I J F w) P (ci g n f) = hp g (va_up I P f) J F w := by
  funext Q
  by_cases hq : Q = P
  · subst hq
    rw [hp_i h]
    simp [va_up]
  · simp [va_up, hq, hp]
theorem hp_uj (h : KJ P n) (f : Nat → Int64) : va_up (hp g I J F w) P (cj g n f) = hp g I (va_up J P f) F w := by
  funext Q
  by_cases hq : Q = P
  · subst hq
    rw [hp_j h]
    simp [va_up]
  · simp [va_up, hq, hp]
theorem hp_uo {cn : Nat} {r : List Nat} (h : KO P cn r) (hk : r[k]? = some 0) (v : Int32) : va_up (hp g I J F w) P (co cn ((fldV g (F P) w r 0).set k (.int v))) = hp g I J (va_up F P (va_up (F P) k v)) w := by
  funext Q
  by_cases hq : Q = P
  · subst hq
    rw [hp_o h, fldV_set g (F Q) w v r 0 k hk]
    simp [va_up]
  · simp [va_up, hq, hp]
end HP
end
section
theorem hp_uw {g : GG} {I : Nat → Nat → Int32} {J : Nat → Nat → Int64} {F : Nat → Nat → Int32} {w : Int64} {r : List Nat} (h : KO 43 4 r) (hk : r[11]? = some 1) (hu : ∀ j : Nat, r[j]? = some 1 → j = 11) (v : Int64) : va_up (hp g I J F w) 43 (co 4 ((fldV g (F 43) w r 0).set 11 (.long v))) = hp g I J F v := by
  funext Q
  by_cases hq : Q = 43
  · subst hq
    rw [hp_o h, fldV_setL g (F 43) w v r 0 11 hk hu]
    simp [va_up]
  · simp only [va_up, hq, if_false]
    have hno : 1 ∉ (kd Q).2.2 := by
      by_cases h57 : Q < 57
      · have : ∀ Q, Q < 57 → Q ≠ 43 → 1 ∉ (kd Q).2.2 := by decide +kernel
        exact this Q h57 hq
      · have : kd Q = (9, 0, []) := by
          unfold kd
          rw [List.getD_eq_getElem?_getD, List.getElem?_eq_none (by simp [kdl]; omega)]
          rfl
        rw [this]; simp
    have key : ∀ (r : List Nat) (k : Nat), 1 ∉ r → fldV g (F Q) w r k = fldV g (F Q) v r k := by
      intro r
      induction r with
      | nil => intro k _; rfl
      | cons b r ih =>
        intro k hh
        have h1 := ih (k + 1) (fun z => hh (List.mem_cons_of_mem _ z))
        match b, hh with
        | 0, _ => simp only [fldV, h1]
        | 1, hh => exact absurd List.mem_cons_self hh
        | q + 2, _ => simp only [fldV, h1]
    simp only [hp, cellOf, key _ 0 hno]
section SROWS
variable {p : Program} {l : Launch} {e : Env} {R : Room} {s : State} {m : MethodId} {args : Array Value} {below : List Frame} {meth : Method} {c : Code} {g : GG} {A : Nat → Prop} {cc : ByteArray} {nL : Nat} {own : String} {w0 : Cond} {ret : Option FieldType} {cells slots : Nat} {Q : State → Prop} {pc : Nat} {lv : List (Option Value)} {st : List Value} {I : Nat → Nat → Int32} {J : Nat → Nat → Int64} {F : Nat → Nat → Int32} {w : Int64}
theorem s_geti (X : AX p s m args meth c g A cc nL own w0 ret) {idx cn k P : Nat} {r : List Nat} (hd : decode cc pc = .ok (.getfield idx, 3)) (hf : FL own idx cn k) (hk : KO P cn r) (hr : r[k]? = some 0) (kk : AW p l e R s m args below meth c g A nL cells slots Q (pc + 3) (lv) (.int (F P k) :: st) (hp g I J F w)) : AW p l e R s m args below meth c g A nL cells slots Q (pc) (lv) (.ref (ga g P) :: st) (hp g I J F w) := by
  have := fldV_at g (F P) w r 0 k 0 hr
  rw [Nat.zero_add] at this
  exact a_get X hd hf hk.1 (hp_o hk) this kk
theorem s_getr (X : AX p s m args meth c g A cc nL own w0 ret) {idx cn k P q : Nat} {r : List Nat} (hd : decode cc pc = .ok (.getfield idx, 3)) (hf : FL own idx cn k) (hk : KO P cn r) (hr : r[k]? = some (q + 2)) (kk : AW p l e R s m args below meth c g A nL cells slots Q (pc + 3) (lv) (.ref (ga g q) :: st) (hp g I J F w)) : AW p l e R s m args below meth c g A nL cells slots Q (pc) (lv) (.ref (ga g P) :: st) (hp g I J F w) :=
  a_get X hd hf hk.1 (hp_o hk) (fldV_at g (F P) w r 0 k (q + 2) hr) kk
theorem s_getl (X : AX p s m args meth c g A cc nL own w0 ret) {idx cn k P : Nat} {r : List Nat} (hd : decode cc pc = .ok (.getfield idx, 3)) (hf : FL own idx cn k) (hk : KO P cn r) (hr : r[k]? = some 1) (kk : AW p l e R s m args below meth c g A nL cells slots Q (pc + 3) (lv) (.long w :: st) (hp g I J F w)) : AW p l e R s m args below meth c g A nL cells slots Q (pc) (lv) (.ref (ga g P) :: st) (hp g I J F w) :=
  a_get X hd hf hk.1 (hp_o hk) (fldV_at g (F P) w r 0 k 1 hr) kk
theorem s_puti (X : AX p s m args meth c g A cc nL own w0 ret) {idx cn k P : Nat} {r : List Nat} {v : Int32} {ty : FieldType} (hd : decode cc pc = .ok (.putfield idx, 3)) (hf : FP own idx cn k ty) (hk : KO P cn r) (hr : r[k]? = some 0) (hn : narrow ty (.int v) = .int v) (hfit : fits ty (.int v) = true) (kk : AW p l e R s m args below meth c g A nL cells slots Q (pc + 3) (lv) (st) (hp g I J (va_up F P (va_up (F P) k v)) w)) : AW p l e R s m args below meth c g A nL cells slots Q (pc) (lv) (.int v :: .ref (ga g P) :: st) (hp g I J F w) := by
  refine a_put X hd hf hk.1 (hp_o hk) hn hfit ?_ ?_
  · rw [fldV_len]; exact (List.getElem?_eq_some_iff.mp hr).1
  · rw [hp_uo hk hr]; exact kk
theorem s_putl (X : AX p s m args meth c g A cc nL own w0 ret) {idx : Nat} {r : List Nat} {v : Int64} (hd : decode cc pc = .ok (.putfield idx, 3)) (hf : FP own idx 4 11 .long) (hk : KO 43 4 r) (hr : r[11]? = some 1) (hu : ∀ j : Nat, r[j]? = some 1 → j = 11) (kk : AW p l e R s m args below meth c g A nL cells slots Q (pc + 3) (lv) (st) (hp g I J F v)) : AW p l e R s m args below meth c g A nL cells slots Q (pc) (lv) (.long v :: .ref (ga g 43) :: st) (hp g I J F w) := by
  refine a_put X hd hf hk.1 (hp_o hk) rfl rfl ?_ ?_
  · rw [fldV_len]; exact (List.getElem?_eq_some_iff.mp hr).1
  · rw [hp_uw hk hr hu]; exact kk
theorem s_ild (X : AX p s m args meth c g A cc nL own w0 ret) {P n j : Nat} (hd : decode cc pc = .ok (.iaload, 1)) (hk : KI P n) (hj : j < n) (hn : n < 1000) (kk : AW p l e R s m args below meth c g A nL cells slots Q (pc + 1) (lv) (.int (I P j) :: st) (hp g I J F w)) : AW p l e R s m args below meth c g A nL cells slots Q (pc) (lv) (.int (nI j) :: .ref (ga g P) :: st) (hp g I J F w) := by
  refine a_iald X hd hk.1 (hp_i hk) (vp_in_nI hj (by omega)) ?_
  rw [nI_clamp (by omega)]
  exact kk
theorem s_ist (X : AX p s m args meth c g A cc nL own w0 ret) {P n j : Nat} {x : Int32} (hd : decode cc pc = .ok (.iastore, 1)) (hk : KI P n) (hj : j < n) (hn : n < 1000) (kk : AW p l e R s m args below meth c g A nL cells slots Q (pc + 1) (lv) (st) (hp g (va_up I P (upd (I P) j x)) J F w)) : AW p l e R s m args below meth c g A nL cells slots Q (pc) (lv) (.int x :: .int (nI j) :: .ref (ga g P) :: st) (hp g I J F w) := by
  refine a_iast X hd hk.1 (hp_i hk) (vp_in_nI hj (by omega)) ?_
  rw [nI_clamp (by omega), hp_ui hk]
  exact kk
theorem s_lld (X : AX p s m args meth c g A cc nL own w0 ret) {P n j : Nat} (hd : decode cc pc = .ok (.laload, 1)) (hk : KJ P n) (hj : j < n) (hn : n < 1000) (kk : AW p l e R s m args below meth c g A nL cells slots Q (pc + 1) (lv) (.long (J P j) :: st) (hp g I J F w)) : AW p l e R s m args below meth c g A nL cells slots Q (pc) (lv) (.int (nI j) :: .ref (ga g P) :: st) (hp g I J F w) := by
  refine a_lald X hd hk.1 (hp_j hk) (vp_in_nI hj (by omega)) ?_
  rw [nI_clamp (by omega)]
  exact kk
theorem s_lst (X : AX p s m args meth c g A cc nL own w0 ret) {P n j : Nat} {x : Int64} (hd : decode cc pc = .ok (.lastore, 1)) (hk : KJ P n) (hj : j < n) (hn : n < 1000) (kk : AW p l e R s m args below meth c g A nL cells slots Q (pc + 1) (lv) (st) (hp g I (va_up J P (vp_updL (J P) j x)) F w)) : AW p l e R s m args below meth c g A nL cells slots Q (pc) (lv) (.long x :: .int (nI j) :: .ref (ga g P) :: st) (hp g I J F w) := by
  refine a_last X hd hk.1 (hp_j hk) (vp_in_nI hj (by omega)) ?_
  rw [nI_clamp (by omega), hp_uj hk]
  exact kk
theorem s_ald (X : AX p s m args meth c g A cc nL own w0 ret) {j : Nat} (hd : decode cc pc = .ok (.aaload, 1)) (hj : j < 4) (kk : AW p l e R s m args below meth c g A nL cells slots Q (pc + 1) (lv) (.ref (ga g (34 + 2 * j)) :: st) (hp g I J F w)) : AW p l e R s m args below meth c g A nL cells slots Q (pc) (lv) (.int (nI j) :: .ref (ga g 33) :: st) (hp g I J F w) := by
  refine a_aald X hd (by decide) hp_s (vp_in_nI hj (by decide)) ?_ kk
  rw [nI_clamp (by omega)]
  simp [shF, hj]
theorem s_alenI (X : AX p s m args meth c g A cc nL own w0 ret) {P n : Nat} (hd : decode cc pc = .ok (.arraylength, 1)) (hk : KI P n) (kk : AW p l e R s m args below meth c g A nL cells slots Q (pc + 1) (lv) (.int (nI n) :: st) (hp g I J F w)) : AW p l e R s m args below meth c g A nL cells slots Q (pc) (lv) (.ref (ga g P) :: st) (hp g I J F w) := a_alenI X hd hk.1 (hp_i hk) kk
theorem s_alenJ (X : AX p s m args meth c g A cc nL own w0 ret) {P n : Nat} (hd : decode cc pc = .ok (.arraylength, 1)) (hk : KJ P n) (kk : AW p l e R s m args below meth c g A nL cells slots Q (pc + 1) (lv) (.int (nI n) :: st) (hp g I J F w)) : AW p l e R s m args below meth c g A nL cells slots Q (pc) (lv) (.ref (ga g P) :: st) (hp g I J F w) := a_alenJ X hd hk.1 (hp_j hk) kk
theorem s_copyi (X : AX p s m args meth c g A cc nL own w0 ret) {idx P P2 n0 n1 a b n : Nat} (hd : decode cc pc = .ok (.invokestatic idx, 3)) (hw : Cond.methodLink own idx arraycopyName ∈ gTb) (hk : KI P n0) (hk2 : KI P2 n1) (hb : n0 < 1000 ∧ n1 < 1000) (h4 : a + n ≤ n0) (h5 : b + n ≤ n1) (hR : 1 ≤ R.frames ∧ (st.map fun v => v.category).sum + 18 ≤ R.locals) (kk : AW p l e R s m args below meth c g A nL cells slots Q (pc + 3) (lv) (st) (hp g (va_up I P2 (va_cpy (I P) (I P2) a b n)) J F w)) : AW p l e R s m args below meth c g A nL cells slots Q (pc) (lv) (.int (nI n) :: .int (nI b) :: .ref (ga g P2) :: .int (nI a) :: .ref (ga g P) :: st) (hp g I J F w) := by
  have ea : (nI a).toNatClampNeg = a := nI_clamp (by omega)
  have eb : (nI b).toNatClampNeg = b := nI_clamp (by omega)
  have en : (nI n).toNatClampNeg = n := nI_clamp (by omega)
  refine a_copyi X hd hw ac_w hk.1 hk2.1 (hp_i hk) (hp_i hk2) (nI_pos (by omega)) (nI_pos (by omega)) (nI_pos (by omega)) (by rw [ea, en]; exact h4) (by rw [eb, en]; exact h5) hR ?_
  rw [ea, eb, en, hp_ui hk2]
  exact kk
theorem s_copyl (X : AX p s m args meth c g A cc nL own w0 ret) {idx P P2 n0 n1 a b n : Nat} (hd : decode cc pc = .ok (.invokestatic idx, 3)) (hw : Cond.methodLink own idx arraycopyName ∈ gTb) (hk : KJ P n0) (hk2 : KJ P2 n1) (hb : n0 < 1000 ∧ n1 < 1000) (h4 : a + n ≤ n0) (h5 : b + n ≤ n1) (hR : 1 ≤ R.frames ∧ (st.map fun v => v.category).sum + 18 ≤ R.locals) (kk : AW p l e R s m args below meth c g A nL cells slots Q (pc + 3) (lv) (st) (hp g I (va_up J P2 (va_cpy (J P) (J P2) a b n)) F w)) : AW p l e R s m args below meth c g A nL cells slots Q (pc) (lv) (.int (nI n) :: .int (nI b) :: .ref (ga g P2) :: .int (nI a) :: .ref (ga g P) :: st) (hp g I J F w) := by
  have ea : (nI a).toNatClampNeg = a := nI_clamp (by omega)
  have eb : (nI b).toNatClampNeg = b := nI_clamp (by omega)
  have en : (nI n).toNatClampNeg = n := nI_clamp (by omega)
  refine a_copyl X hd hw ac_w hk.1 hk2.1 (hp_j hk) (hp_j hk2) (nI_pos (by omega)) (nI_pos (by omega)) (nI_pos (by omega)) (by rw [ea, en]; exact h4) (by rw [eb, en]; exact h5) hR ?_
  rw [ea, eb, en, hp_uj hk2]
  exact kk
theorem s_iaddN (X : AX p s m args meth c g A cc nL own w0 ret) {a b : Nat} (hd : decode cc pc = .ok (.iadd, 1)) (kk : AW p l e R s m args below meth c g A nL cells slots Q (pc + 1) (lv) (.int (nI (a + b)) :: st) (hp g I J F w)) : AW p l e R s m args below meth c g A nL cells slots Q (pc) (lv) (.int (nI b) :: .int (nI a) :: st) (hp g I J F w) := a_iadd X hd (by rw [nI_add]; exact kk)
theorem s_imulN (X : AX p s m args meth c g A cc nL own w0 ret) {a b : Nat} (hd : decode cc pc = .ok (.imul, 1)) (kk : AW p l e R s m args below meth c g A nL cells slots Q (pc + 1) (lv) (.int (nI (a * b)) :: st) (hp g I J F w)) : AW p l e R s m args below meth c g A nL cells slots Q (pc) (lv) (.int (nI b) :: .int (nI a) :: st) (hp g I J F w) := a_imul X hd (by rw [pk_mul]; exact kk)
theorem s_isubN (X : AX p s m args meth c g A cc nL own w0 ret) {a b : Nat} (hd : decode cc pc = .ok (.isub, 1)) (hab : b ≤ a) (kk : AW p l e R s m args below meth c g A nL cells slots Q (pc + 1) (lv) (.int (nI (a - b)) :: st) (hp g I J F w)) : AW p l e R s m args below meth c g A nL cells slots Q (pc) (lv) (.int (nI b) :: .int (nI a) :: st) (hp g I J F w) := a_isub X hd (by rw [pk_sub hab]; exact kk)
theorem s_to {x y : Int32} (e0 : x = y) (kk : AW p l e R s m args below meth c g A nL cells slots Q (pc) (lv) (.int y :: st) (hp g I J F w)) : AW p l e R s m args below meth c g A nL cells slots Q (pc) (lv) (.int x :: st) (hp g I J F w) := by rw [e0]; exact kk
theorem s_lv {lv2 : List (Option Value)} {st2 : List Value} (e1 : lv = lv2) (e2 : st = st2) (kk : AW p l e R s m args below meth c g A nL cells slots Q (pc) (lv2) (st2) (hp g I J F w)) : AW p l e R s m args below meth c g A nL cells slots Q (pc) (lv) (st) (hp g I J F w) := by rw [e1, e2]; exact kk
/-- forget what a slot holds -/
theorem s_drop {lv2 : List (Option Value)} (hs : ∀ (i : Nat) (v : Value), lv2[i]? = some (some v) → lv[i]? = some (some v)) (kk : AW p l e R s m args below meth c g A nL cells slots Q (pc) (lv2) (st) (hp g I J F w)) : AW p l e R s m args below meth c g A nL cells slots Q (pc) (lv) (st) (hp g I J F w) := fun H locs ls hP hD hS hv => kk H locs ls hP hD hS ⟨hv.1, hv.2.1, fun i v q => hv.2.2 i v (hs i v q)⟩

end SROWS
/-! contracts over the state -/
abbrev TI : Type := Nat → Nat → Int32
abbrev TJ : Type := Nat → Nat → Int64
/-- it answers x, and the state is I2 .. then -/
def UR (l : Launch) (g : GG) (M : MM) (av : List Value) (I : TI) (J : TJ) (F : TI) (w : Int64) (x : Value) (I2 : TI) (J2 : TJ) (F2 : TI) (w2 : Int64) : Prop := CT l g M av (hp g I J F w) (fun v h' => v = some x ∧ h' = hp g I2 J2 F2 w2)
def UV (l : Launch) (g : GG) (M : MM) (av : List Value) (I : TI) (J : TJ) (F : TI) (w : Int64) (I2 : TI) (J2 : TJ) (F2 : TI) (w2 : Int64) : Prop := CT l g M av (hp g I J F w) (fun v h' => v = none ∧ h' = hp g I2 J2 F2 w2)
def RV (l : Launch) (g : GG) (M : MM) (av : List Value) (I : TI) (J : TJ) (F : TI) (w : Int64) (Po : Value → TI → TJ → TI → Int64 → Prop) : Prop := CT l g M av (hp g I J F w) (fun v h' => ∃ x I2 J2 F2 w2, v = some x ∧ h' = hp g I2 J2 F2 w2 ∧ Po x I2 J2 F2 w2)
def VV (l : Launch) (g : GG) (M : MM) (av : List Value) (I : TI) (J : TJ) (F : TI) (w : Int64) (Po : TI → TJ → TI → Int64 → Prop) : Prop := CT l g M av (hp g I J F w) (fun v h' => ∃ I2 J2 F2 w2, v = none ∧ h' = hp g I2 J2 F2 w2 ∧ Po I2 J2 F2 w2)
section SCALL
variable {p : Program} {l : Launch} {e : Env} {R : Room} {s : State} {m : MethodId} {args : Array Value} {below : List Frame} {meth : Method} {c : Code} {g : GG} {A : Nat → Prop} {cc : ByteArray} {nL : Nat} {own : String} {w0 : Cond} {ret : Option FieldType} {cells slots : Nat} {Q : State → Prop} {pc : Nat} {lv : List (Option Value)} {st : List Value} {I : Nat → Nat → Int32} {J : Nat → Nat → Int64} {F : Nat → Nat → Int32} {w : Int64}
theorem s_callS_R (X : AX p s m args meth c g A cc nL own w0 ret) {idx n : Nat} {M : MM} {As rest : List Value} {x : Value} {I2 : TI} {J2 : TJ} {F2 : TI} {w2 : Int64} (hd : decode cc pc = .ok (.invokestatic idx, 3)) (hL : LnS own idx M n) (hM : UR l g M As I J F w x I2 J2 F2 w2) (hR : roomOk R M) (hn : As.length = n) (hst : st = As.reverse ++ rest) (hcat : (rest.map fun v => v.category).sum ≤ 8) (hC : cells ≤ R.cells ∧ slots ≤ R.slots) (kk : AW p l e R s m args below meth c g A nL cells slots Q (pc + 3) (lv) (x :: rest) (hp g I2 J2 F2 w2)) : AW p l e R s m args below meth c g A nL cells slots Q (pc) (lv) (st) (hp g I J F w) := by
  refine a_callS X hd hL hM hR hn hst hcat hC (fun v h' hp' => ?_)
  obtain ⟨rfl, rfl⟩ := hp'
  exact kk
theorem s_callS_V (X : AX p s m args meth c g A cc nL own w0 ret) {idx n : Nat} {M : MM} {As rest : List Value} {I2 : TI} {J2 : TJ} {F2 : TI} {w2 : Int64} (hd : decode cc pc = .ok (.invokestatic idx, 3)) (hL : LnS own idx M n) (hM : UV l g M As I J F w I2 J2 F2 w2) (hR : roomOk R M) (hn : As.length = n) (hst : st = As.reverse ++ rest) (hcat : (rest.map fun v => v.category).sum ≤ 8) (hC : cells ≤ R.cells ∧ slots ≤ R.slots) (kk : AW p l e R s m args below meth c g A nL cells slots Q (pc + 3) (lv) (rest) (hp g I2 J2 F2 w2)) : AW p l e R s m args below meth c g A nL cells slots Q (pc) (lv) (st) (hp g I J F w) := by
  refine a_callS X hd hL hM hR hn hst hcat hC (fun v h' hp' => ?_)
  obtain ⟨rfl, rfl⟩ := hp'
  exact kk
theorem s_callS_X (X : AX p s m args meth c g A cc nL own w0 ret) {idx n : Nat} {M : MM} {As rest : List Value} {Po : Value → TI → TJ → TI → Int64 → Prop} (hd : decode cc pc = .ok (.invokestatic idx, 3)) (hL : LnS own idx M n) (hM : RV l g M As I J F w Po) (hR : roomOk R M) (hn : As.length = n) (hst : st = As.reverse ++ rest) (hcat : (rest.map fun v => v.category).sum ≤ 8) (hC : cells ≤ R.cells ∧ slots ≤ R.slots) (kk : ∀ (x : Value) (I2 : TI) (J2 : TJ) (F2 : TI) (w2 : Int64), Po x I2 J2 F2 w2 → AW p l e R s m args below meth c g A nL cells slots Q (pc + 3) (lv) (x :: rest) (hp g I2 J2 F2 w2)) : AW p l e R s m args below meth c g A nL cells slots Q (pc) (lv) (st) (hp g I J F w) := by
  refine a_callS X hd hL hM hR hn hst hcat hC (fun v h' hp' => ?_)
  obtain ⟨x, I2, J2, F2, w2, rfl, rfl, hq⟩ := hp'
  exact kk x I2 J2 F2 w2 hq
theorem s_callS_Y (X : AX p s m args meth c g A cc nL own w0 ret) {idx n : Nat} {M : MM} {As rest : List Value} {Po : TI → TJ → TI → Int64 → Prop} (hd : decode cc pc = .ok (.invokestatic idx, 3)) (hL : LnS own idx M n) (hM : VV l g M As I J F w Po) (hR : roomOk R M) (hn : As.length = n) (hst : st = As.reverse ++ rest) (hcat : (rest.map fun v => v.category).sum ≤ 8) (hC : cells ≤ R.cells ∧ slots ≤ R.slots) (kk : ∀ (I2 : TI) (J2 : TJ) (F2 : TI) (w2 : Int64), Po I2 J2 F2 w2 → AW p l e R s m args below meth c g A nL cells slots Q (pc + 3) (lv) (rest) (hp g I2 J2 F2 w2)) : AW p l e R s m args below meth c g A nL cells slots Q (pc) (lv) (st) (hp g I J F w) := by
  refine a_callS X hd hL hM hR hn hst hcat hC (fun v h' hp' => ?_)
  obtain ⟨I2, J2, F2, w2, rfl, rfl, hq⟩ := hp'
  exact kk I2 J2 F2 w2 hq
theorem s_callN_R (X : AX p s m args meth c g A cc nL own w0 ret) {idx n : Nat} {host : String} {M : MM} {As rest : List Value} {x : Value} {I2 : TI} {J2 : TJ} {F2 : TI} {w2 : Int64} (hd : decode cc pc = .ok (.invokestatic idx, 3)) (hL : LnN own idx M n) (hN : va_Nw (.methodLinkNest own idx M.1 host) s) (hM : UR l g M As I J F w x I2 J2 F2 w2) (hR : roomOk R M) (hn : As.length = n) (hst : st = As.reverse ++ rest) (hcat : (rest.map fun v => v.category).sum ≤ 8) (hC : cells ≤ R.cells ∧ slots ≤ R.slots) (kk : AW p l e R s m args below meth c g A nL cells slots Q (pc + 3) (lv) (x :: rest) (hp g I2 J2 F2 w2)) : AW p l e R s m args below meth c g A nL cells slots Q (pc) (lv) (st) (hp g I J F w) := by
  refine a_callSN X hd hL hN hM hR hn hst hcat hC (fun v h' hp' => ?_)
  obtain ⟨rfl, rfl⟩ := hp'
  exact kk
theorem s_callN_V (X : AX p s m args meth c g A cc nL own w0 ret) {idx n : Nat} {host : String} {M : MM} {As rest : List Value} {I2 : TI} {J2 : TJ} {F2 : TI} {w2 : Int64} (hd : decode cc pc = .ok (.invokestatic idx, 3)) (hL : LnN own idx M n) (hN : va_Nw (.methodLinkNest own idx M.1 host) s) (hM : UV l g M As I J F w I2 J2 F2 w2) (hR : roomOk R M) (hn : As.length = n) (hst : st = As.reverse ++ rest) (hcat : (rest.map fun v => v.category).sum ≤ 8) (hC : cells ≤ R.cells ∧ slots ≤ R.slots) (kk : AW p l e R s m args below meth c g A nL cells slots Q (pc + 3) (lv) (rest) (hp g I2 J2 F2 w2)) : AW p l e R s m args below meth c g A nL cells slots Q (pc) (lv) (st) (hp g I J F w) := by
  refine a_callSN X hd hL hN hM hR hn hst hcat hC (fun v h' hp' => ?_)
  obtain ⟨rfl, rfl⟩ := hp'
  exact kk
theorem s_callN_X (X : AX p s m args meth c g A cc nL own w0 ret) {idx n : Nat} {host : String} {M : MM} {As rest : List Value} {Po : Value → TI → TJ → TI → Int64 → Prop} (hd : decode cc pc = .ok (.invokestatic idx, 3)) (hL : LnN own idx M n) (hN : va_Nw (.methodLinkNest own idx M.1 host) s) (hM : RV l g M As I J F w Po) (hR : roomOk R M) (hn : As.length = n) (hst : st = As.reverse ++ rest) (hcat : (rest.map fun v => v.category).sum ≤ 8) (hC : cells ≤ R.cells ∧ slots ≤ R.slots) (kk : ∀ (x : Value) (I2 : TI) (J2 : TJ) (F2 : TI) (w2 : Int64), Po x I2 J2 F2 w2 → AW p l e R s m args below meth c g A nL cells slots Q (pc + 3) (lv) (x :: rest) (hp g I2 J2 F2 w2)) : AW p l e R s m args below meth c g A nL cells slots Q (pc) (lv) (st) (hp g I J F w) := by
  refine a_callSN X hd hL hN hM hR hn hst hcat hC (fun v h' hp' => ?_)
  obtain ⟨x, I2, J2, F2, w2, rfl, rfl, hq⟩ := hp'
  exact kk x I2 J2 F2 w2 hq
theorem s_callN_Y (X : AX p s m args meth c g A cc nL own w0 ret) {idx n : Nat} {host : String} {M : MM} {As rest : List Value} {Po : TI → TJ → TI → Int64 → Prop} (hd : decode cc pc = .ok (.invokestatic idx, 3)) (hL : LnN own idx M n) (hN : va_Nw (.methodLinkNest own idx M.1 host) s) (hM : VV l g M As I J F w Po) (hR : roomOk R M) (hn : As.length = n) (hst : st = As.reverse ++ rest) (hcat : (rest.map fun v => v.category).sum ≤ 8) (hC : cells ≤ R.cells ∧ slots ≤ R.slots) (kk : ∀ (I2 : TI) (J2 : TJ) (F2 : TI) (w2 : Int64), Po I2 J2 F2 w2 → AW p l e R s m args below meth c g A nL cells slots Q (pc + 3) (lv) (rest) (hp g I2 J2 F2 w2)) : AW p l e R s m args below meth c g A nL cells slots Q (pc) (lv) (st) (hp g I J F w) := by
  refine a_callSN X hd hL hN hM hR hn hst hcat hC (fun v h' hp' => ?_)
  obtain ⟨I2, J2, F2, w2, rfl, rfl, hq⟩ := hp'
  exact kk I2 J2 F2 w2 hq
theorem s_callV_R (X : AX p s m args meth c g A cc nL own w0 ret) {idx n : Nat} {P cn : Nat} {r : List Nat} {q0 : vw_C} {M : MM} {As rest : List Value} {x : Value} {I2 : TI} {J2 : TJ} {F2 : TI} {w2 : Int64} (hd : decode cc pc = .ok (.invokevirtual idx, 3)) (hL : LnV own idx M n) (hk : KO P cn r) (hc : vwCl[cn]? = some q0) (hcl : q0.1 = M.1.cls) (hM : UR l g M (.ref (ga g P) :: As) I J F w x I2 J2 F2 w2) (hR : roomOk R M) (hn : As.length = n) (hst : st = As.reverse ++ .ref (ga g P) :: rest) (hcat : (rest.map fun v => v.category).sum ≤ 8) (hC : cells ≤ R.cells ∧ slots ≤ R.slots) (kk : AW p l e R s m args below meth c g A nL cells slots Q (pc + 3) (lv) (x :: rest) (hp g I2 J2 F2 w2)) : AW p l e R s m args below meth c g A nL cells slots Q (pc) (lv) (st) (hp g I J F w) := by
  refine a_callV X hd hL hk.1 (hp_o hk) hc hcl hM hR hn hst hcat hC (fun v h' hp' => ?_)
  obtain ⟨rfl, rfl⟩ := hp'
  exact kk
theorem s_callV_V (X : AX p s m args meth c g A cc nL own w0 ret) {idx n : Nat} {P cn : Nat} {r : List Nat} {q0 : vw_C} {M : MM} {As rest : List Value} {I2 : TI} {J2 : TJ} {F2 : TI} {w2 : Int64} (hd : decode cc pc = .ok (.invokevirtual idx, 3)) (hL : LnV own idx M n) (hk : KO P cn r) (hc : vwCl[cn]? = some q0) (hcl : q0.1 = M.1.cls) (hM : UV l g M (.ref (ga g P) :: As) I J F w I2 J2 F2 w2) (hR : roomOk R M) (hn : As.length = n) (hst : st = As.reverse ++ .ref (ga g P) :: rest) (hcat : (rest.map fun v => v.category).sum ≤ 8) (hC : cells ≤ R.cells ∧ slots ≤ R.slots) (kk : AW p l e R s m args below meth c g A nL cells slots Q (pc + 3) (lv) (rest) (hp g I2 J2 F2 w2)) : AW p l e R s m args below meth c g A nL cells slots Q (pc) (lv) (st) (hp g I J F w) := by
  refine a_callV X hd hL hk.1 (hp_o hk) hc hcl hM hR hn hst hcat hC (fun v h' hp' => ?_)
  obtain ⟨rfl, rfl⟩ := hp'
  exact kk
theorem s_callV_X (X : AX p s m args meth c g A cc nL own w0 ret) {idx n : Nat} {P cn : Nat} {r : List Nat} {q0 : vw_C} {M : MM} {As rest : List Value} {Po : Value → TI → TJ → TI → Int64 → Prop} (hd : decode cc pc = .ok (.invokevirtual idx, 3)) (hL : LnV own idx M n) (hk : KO P cn r) (hc : vwCl[cn]? = some q0) (hcl : q0.1 = M.1.cls) (hM : RV l g M (.ref (ga g P) :: As) I J F w Po) (hR : roomOk R M) (hn : As.length = n) (hst : st = As.reverse ++ .ref (ga g P) :: rest) (hcat : (rest.map fun v => v.category).sum ≤ 8) (hC : cells ≤ R.cells ∧ slots ≤ R.slots) (kk : ∀ (x : Value) (I2 : TI) (J2 : TJ) (F2 : TI) (w2 : Int64), Po x I2 J2 F2 w2 → AW p l e R s m args below meth c g A nL cells slots Q (pc + 3) (lv) (x :: rest) (hp g I2 J2 F2 w2)) : AW p l e R s m args below meth c g A nL cells slots Q (pc) (lv) (st) (hp g I J F w) := by
  refine a_callV X hd hL hk.1 (hp_o hk) hc hcl hM hR hn hst hcat hC (fun v h' hp' => ?_)
  obtain ⟨x, I2, J2, F2, w2, rfl, rfl, hq⟩ := hp'
  exact kk x I2 J2 F2 w2 hq
theorem s_callV_Y (X : AX p s m args meth c g A cc nL own w0 ret) {idx n : Nat} {P cn : Nat} {r : List Nat} {q0 : vw_C} {M : MM} {As rest : List Value} {Po : TI → TJ → TI → Int64 → Prop} (hd : decode cc pc = .ok (.invokevirtual idx, 3)) (hL : LnV own idx M n) (hk : KO P cn r) (hc : vwCl[cn]? = some q0) (hcl : q0.1 = M.1.cls) (hM : VV l g M (.ref (ga g P) :: As) I J F w Po) (hR : roomOk R M) (hn : As.length = n) (hst : st = As.reverse ++ .ref (ga g P) :: rest) (hcat : (rest.map fun v => v.category).sum ≤ 8) (hC : cells ≤ R.cells ∧ slots ≤ R.slots) (kk : ∀ (I2 : TI) (J2 : TJ) (F2 : TI) (w2 : Int64), Po I2 J2 F2 w2 → AW p l e R s m args below meth c g A nL cells slots Q (pc + 3) (lv) (rest) (hp g I2 J2 F2 w2)) : AW p l e R s m args below meth c g A nL cells slots Q (pc) (lv) (st) (hp g I J F w) := by
  refine a_callV X hd hL hk.1 (hp_o hk) hc hcl hM hR hn hst hcat hC (fun v h' hp' => ?_)
  obtain ⟨I2, J2, F2, w2, rfl, rfl, hq⟩ := hp'
  exact kk I2 J2 F2 w2 hq
end SCALL
theorem ko_0 : KO 0 3 [3, 13, 23, 0, 33, 35, 44] := ⟨by decide, rfl⟩
theorem ko_1 : KO 1 0 [0, 0, 4, 5, 6, 7, 8, 9, 10, 11, 12] := ⟨by decide, rfl⟩
theorem ki_2 : KI 2 10 := ⟨by decide, rfl⟩
theorem ki_3 : KI 3 10 := ⟨by decide, rfl⟩
theorem ki_4 : KI 4 10 := ⟨by decide, rfl⟩
theorem ki_5 : KI 5 10 := ⟨by decide, rfl⟩
theorem ki_6 : KI 6 10 := ⟨by decide, rfl⟩
theorem ki_7 : KI 7 10 := ⟨by decide, rfl⟩
theorem ki_8 : KI 8 12 := ⟨by decide, rfl⟩
theorem ki_9 : KI 9 10 := ⟨by decide, rfl⟩
theorem ki_10 : KI 10 10 := ⟨by decide, rfl⟩
theorem ko_11 : KO 11 0 [0, 0, 14, 15, 16, 17, 18, 19, 20, 21, 22] := ⟨by decide, rfl⟩
theorem ki_12 : KI 12 10 := ⟨by decide, rfl⟩
theorem ki_13 : KI 13 10 := ⟨by decide, rfl⟩
theorem ki_14 : KI 14 10 := ⟨by decide, rfl⟩
theorem ki_15 : KI 15 10 := ⟨by decide, rfl⟩
theorem ki_16 : KI 16 10 := ⟨by decide, rfl⟩
theorem ki_17 : KI 17 10 := ⟨by decide, rfl⟩
theorem ki_18 : KI 18 12 := ⟨by decide, rfl⟩
theorem ki_19 : KI 19 10 := ⟨by decide, rfl⟩
theorem ki_20 : KI 20 10 := ⟨by decide, rfl⟩
theorem ko_21 : KO 21 0 [0, 0, 24, 25, 26, 27, 28, 29, 30, 31, 32] := ⟨by decide, rfl⟩
theorem ki_22 : KI 22 10 := ⟨by decide, rfl⟩
theorem ki_23 : KI 23 10 := ⟨by decide, rfl⟩
theorem ki_24 : KI 24 10 := ⟨by decide, rfl⟩
theorem ki_25 : KI 25 10 := ⟨by decide, rfl⟩
theorem ki_26 : KI 26 10 := ⟨by decide, rfl⟩
theorem ki_27 : KI 27 10 := ⟨by decide, rfl⟩
theorem ki_28 : KI 28 12 := ⟨by decide, rfl⟩
theorem ki_29 : KI 29 10 := ⟨by decide, rfl⟩
theorem ki_30 : KI 30 10 := ⟨by decide, rfl⟩
theorem ko_31 : KO 31 2 [0, 34, 0, 0, 0, 0] := ⟨by decide, rfl⟩
theorem ki_32 : KI 32 120 := ⟨by decide, rfl⟩
theorem ko_34 : KO 34 1 [0, 0, 37] := ⟨by decide, rfl⟩
theorem kj_35 : KJ 35 40 := ⟨by decide, rfl⟩
theorem ko_36 : KO 36 1 [0, 0, 39] := ⟨by decide, rfl⟩
theorem kj_37 : KJ 37 40 := ⟨by decide, rfl⟩
theorem ko_38 : KO 38 1 [0, 0, 41] := ⟨by decide, rfl⟩
theorem kj_39 : KJ 39 40 := ⟨by decide, rfl⟩
theorem ko_40 : KO 40 1 [0, 0, 43] := ⟨by decide, rfl⟩
theorem kj_41 : KJ 41 40 := ⟨by decide, rfl⟩
theorem ki_42 : KI 42 7 := ⟨by decide, rfl⟩
theorem ko_43 : KO 43 4 [46, 47, 48, 49, 50, 51, 52, 0, 0, 0, 0, 1, 0, 0, 53, 54, 55, 56, 57, 58, 0] := ⟨by decide, rfl⟩
theorem ki_44 : KI 44 62 := ⟨by decide, rfl⟩
theorem ki_45 : KI 45 7 := ⟨by decide, rfl⟩
theorem ki_46 : KI 46 10 := ⟨by decide, rfl⟩
theorem ki_47 : KI 47 10 := ⟨by decide, rfl⟩
theorem ki_48 : KI 48 62 := ⟨by decide, rfl⟩
theorem ki_49 : KI 49 62 := ⟨by decide, rfl⟩
theorem ki_50 : KI 50 120 := ⟨by decide, rfl⟩
theorem ki_51 : KI 51 4 := ⟨by decide, rfl⟩
theorem ki_52 : KI 52 4 := ⟨by decide, rfl⟩
theorem kj_53 : KJ 53 160 := ⟨by decide, rfl⟩
theorem kj_54 : KJ 54 40 := ⟨by decide, rfl⟩
theorem ki_55 : KI 55 62 := ⟨by decide, rfl⟩
theorem ki_56 : KI 56 62 := ⟨by decide, rfl⟩
def isB (b : Nat) : Prop := b = 1 ∨ b = 11 ∨ b = 21
theorem ko_b {b : Nat} (hb : isB b) : KO b 0 [0, 0, b + 1 + 2, b + 2 + 2, b + 3 + 2, b + 4 + 2, b + 5 + 2, b + 6 + 2, b + 7 + 2, b + 8 + 2, b + 9 + 2] := by rcases hb with rfl | rfl | rfl <;> exact ⟨by decide, rfl⟩
theorem ki_b1 {b : Nat} (hb : isB b) : KI (b + 1) 10 := by rcases hb with rfl | rfl | rfl <;> exact ⟨by decide, rfl⟩
theorem ki_b2 {b : Nat} (hb : isB b) : KI (b + 2) 10 := by rcases hb with rfl | rfl | rfl <;> exact ⟨by decide, rfl⟩
theorem ki_b3 {b : Nat} (hb : isB b) : KI (b + 3) 10 := by rcases hb with rfl | rfl | rfl <;> exact ⟨by decide, rfl⟩
theorem ki_b4 {b : Nat} (hb : isB b) : KI (b + 4) 10 := by rcases hb with rfl | rfl | rfl <;> exact ⟨by decide, rfl⟩
theorem ki_b5 {b : Nat} (hb : isB b) : KI (b + 5) 10 := by rcases hb with rfl | rfl | rfl <;> exact ⟨by decide, rfl⟩
theorem ki_b6 {b : Nat} (hb : isB b) : KI (b + 6) 10 := by rcases hb with rfl | rfl | rfl <;> exact ⟨by decide, rfl⟩
theorem ki_b7 {b : Nat} (hb : isB b) : KI (b + 7) 12 := by rcases hb with rfl | rfl | rfl <;> exact ⟨by decide, rfl⟩
theorem ki_b8 {b : Nat} (hb : isB b) : KI (b + 8) 10 := by rcases hb with rfl | rfl | rfl <;> exact ⟨by decide, rfl⟩
theorem ki_b9 {b : Nat} (hb : isB b) : KI (b + 9) 10 := by rcases hb with rfl | rfl | rfl <;> exact ⟨by decide, rfl⟩
theorem ko_sh {j : Nat} (hj : j < 4) : KO (34 + 2 * j) 1 [0, 0, 35 + 2 * j + 2] := by match j, hj with | 0, _ => exact ⟨by decide, rfl⟩ | 1, _ => exact ⟨by decide, rfl⟩ | 2, _ => exact ⟨by decide, rfl⟩ | 3, _ => exact ⟨by decide, rfl⟩
theorem kj_sh {j : Nat} (hj : j < 4) : KJ (35 + 2 * j) 40 := by match j, hj with | 0, _ => exact ⟨by decide, rfl⟩ | 1, _ => exact ⟨by decide, rfl⟩ | 2, _ => exact ⟨by decide, rfl⟩ | 3, _ => exact ⟨by decide, rfl⟩
end
section
/-! plain numbers -/
def bI (b : Bool) : Int32 := if b = true then 1 else 0
theorem bI_0 {b : Bool} : bI b = 0 ↔ b = false := by cases b <;> decide +kernel
theorem bI_n0 {b : Bool} : ¬ bI b = 0 ↔ b = true := by cases b <;> decide +kernel
theorem nar_bI (b : Bool) : narrow .boolean (.int (bI b)) = .int (bI b) := by cases b <;> decide +kernel
theorem bI_t : bI true = nI 1 := by decide +kernel
theorem bI_f : bI false = nI 0 := by decide +kernel
theorem ofI (n : Nat) : Int32.ofInt (n : Int) = nI n := by
  apply Int32.toBitVec_inj.mp
  simp [nI]
theorem iincN (a n : Nat) : nI a + Int32.ofInt (n : Int) = nI (a + n) := by rw [ofI, nI_add]
theorem iincD {a : Nat} (h : 1 ≤ a) : nI a + Int32.ofInt (-1) = nI (a - 1) := by
  rw [show Int32.ofInt (-1) = -1 from by decide +kernel]
  exact sb_m1 h
def inB (v lo hi : Int32) : Bool := decide (lo ≤ v) && decide (v ≤ hi)
theorem inB_N {v : Nat} {lo hi : Nat} (hv : v < 2 ^ 31) (hl : lo < 2 ^ 31) (hh : hi < 2 ^ 31) : inB (nI v) (nI lo) (nI hi) = (decide (lo ≤ v) && decide (v ≤ hi)) := by
  simp [inB, nI_leI hl hv, nI_leI hv hh]
theorem inB_t {v : Int32} {hi : Nat} (hh : hi < 2 ^ 31) (h : inB v (nI 0) (nI hi) = true) : ∃ j : Nat, j ≤ hi ∧ v = nI j := by
  simp only [inB, Bool.and_eq_true, decide_eq_true_eq] at h
  rw [nI_0] at h
  have h0 : ¬ v < 0 := by
    rw [Int32.lt_iff_toInt_lt]
    have := Int32.le_iff_toInt_le.mp h.1
    omega
  obtain ⟨j, hj, rfl⟩ := nI_of h0
  exact ⟨j, (nI_leI hj hh).mp h.2, rfl⟩
/-- the findings: BEYOND less k -/
def fnd (I : TI) (P k : Nat) : TI := va_up I P (upd (I P) k (I P k + 1))
theorem up_s {α : Type} (f : Nat → α) (k : Nat) (v : α) : va_up f k v k = v := by simp [va_up]
theorem up_n {α : Type} (f : Nat → α) {k j : Nat} (v : α) (h : j ≠ k) : va_up f k v j = f j := by simp [va_up, h]
theorem hu_43 : ∀ j : Nat, ([46, 47, 48, 49, 50, 51, 52, 0, 0, 0, 0, 1, 0, 0, 53, 54, 55, 56, 57, 58, 0] : List Nat)[j]? = some 1 → j = 11 := by
  intro j hj
  have hl := (List.getElem?_eq_some_iff.mp hj).1
  have : ∀ j, j < 21 → ([46, 47, 48, 49, 50, 51, 52, 0, 0, 0, 0, 1, 0, 0, 53, 54, 55, 56, 57, 58, 0] : List Nat)[j]? = some 1 → j = 11 := by decide +kernel
  exact this j (by simpa using hl) hj
section NB
variable {p : Program} {l : Launch} {e : Env} {R : Room} {s : State} {m : MethodId} {args : Array Value} {below : List Frame} {meth : Method} {c : Code} {g : GG} {A : Nat → Prop} {cc : ByteArray} {nL : Nat} {own : String} {w0 : Cond} {ret : Option FieldType} {cells slots : Nat} {Q : State → Prop} {pc : Nat} {lv : List (Option Value)} {st : List Value} {h : Hp}
theorem s_dropAt (i : Nat) (kk : AW p l e R s m args below meth c g A nL cells slots Q pc (lv.set i none) st h) : AW p l e R s m args below meth c g A nL cells slots Q pc lv st h := fun H locs ls hP hD hS hv => kk H locs ls hP hD hS ⟨hv.1, hv.2.1, fun j v q => hv.2.2 j v (by
  by_cases hj : j = i
  · subst hj
    have hl : j < lv.length := by
      have := (List.getElem?_eq_some_iff.mp q).1
      simpa using this
    rw [List.getElem?_set_self hl] at q
    cases q
  · rw [List.getElem?_set_ne (fun z => hj z.symm)] at q
    exact q)⟩
theorem s_name {x : Int32} (kk : ∀ y : Int32, y = x → AW p l e R s m args below meth c g A nL cells slots Q pc lv (.int y :: st) h) : AW p l e R s m args below meth c g A nL cells slots Q pc lv (.int x :: st) h := kk x rfl
theorem s_icmp_eqN (X : AX p s m args meth c g A cc nL own w0 ret) {a b : Nat} {off : Int} {tgt : Nat} (hd : decode cc pc = .ok (.if_icmp .eq off, 3)) (ht : (pc : Int) + off = (tgt : Int)) (ha : a < 2 ^ 31) (hb : b < 2 ^ 31) (kt : a = b → AW p l e R s m args below meth c g A nL cells slots Q tgt lv st h) (kf : ¬ a = b → AW p l e R s m args below meth c g A nL cells slots Q (pc + 3) lv st h) : AW p l e R s m args below meth c g A nL cells slots Q pc lv (.int (nI b) :: .int (nI a) :: st) h :=
  a_icmp_eq X hd ht (fun q => kt ((nI_eq ha hb).mp q)) (fun q => kf (fun z => q ((nI_eq ha hb).mpr z)))
theorem s_icmp_neN (X : AX p s m args meth c g A cc nL own w0 ret) {a b : Nat} {off : Int} {tgt : Nat} (hd : decode cc pc = .ok (.if_icmp .ne off, 3)) (ht : (pc : Int) + off = (tgt : Int)) (ha : a < 2 ^ 31) (hb : b < 2 ^ 31) (kt : ¬ a = b → AW p l e R s m args below meth c g A nL cells slots Q tgt lv st h) (kf : a = b → AW p l e R s m args below meth c g A nL cells slots Q (pc + 3) lv st h) : AW p l e R s m args below meth c g A nL cells slots Q pc lv (.int (nI b) :: .int (nI a) :: st) h :=
  a_icmp_ne X hd ht (fun q => kt (fun z => q ((nI_eq ha hb).mpr z))) (fun q => kf ((nI_eq ha hb).mp q))
theorem s_icmp_ltN (X : AX p s m args meth c g A cc nL own w0 ret) {a b : Nat} {off : Int} {tgt : Nat} (hd : decode cc pc = .ok (.if_icmp .lt off, 3)) (ht : (pc : Int) + off = (tgt : Int)) (ha : a < 2 ^ 31) (hb : b < 2 ^ 31) (kt : a < b → AW p l e R s m args below meth c g A nL cells slots Q tgt lv st h) (kf : ¬ a < b → AW p l e R s m args below meth c g A nL cells slots Q (pc + 3) lv st h) : AW p l e R s m args below meth c g A nL cells slots Q pc lv (.int (nI b) :: .int (nI a) :: st) h :=
  a_icmp_lt X hd ht (fun q => kt ((nI_ltI ha hb).mp q)) (fun q => kf (fun z => q ((nI_ltI ha hb).mpr z)))
theorem s_icmp_geN (X : AX p s m args meth c g A cc nL own w0 ret) {a b : Nat} {off : Int} {tgt : Nat} (hd : decode cc pc = .ok (.if_icmp .ge off, 3)) (ht : (pc : Int) + off = (tgt : Int)) (ha : a < 2 ^ 31) (hb : b < 2 ^ 31) (kt : b ≤ a → AW p l e R s m args below meth c g A nL cells slots Q tgt lv st h) (kf : ¬ b ≤ a → AW p l e R s m args below meth c g A nL cells slots Q (pc + 3) lv st h) : AW p l e R s m args below meth c g A nL cells slots Q pc lv (.int (nI b) :: .int (nI a) :: st) h :=
  a_icmp_ge X hd ht (fun q => kt ((nI_leI hb ha).mp q)) (fun q => kf (fun z => q ((nI_leI hb ha).mpr z)))
theorem s_icmp_gtN (X : AX p s m args meth c g A cc nL own w0 ret) {a b : Nat} {off : Int} {tgt : Nat} (hd : decode cc pc = .ok (.if_icmp .gt off, 3)) (ht : (pc : Int) + off = (tgt : Int)) (ha : a < 2 ^ 31) (hb : b < 2 ^ 31) (kt : b < a → AW p l e R s m args below meth c g A nL cells slots Q tgt lv st h) (kf : ¬ b < a → AW p l e R s m args below meth c g A nL cells slots Q (pc + 3) lv st h) : AW p l e R s m args below meth c g A nL cells slots Q pc lv (.int (nI b) :: .int (nI a) :: st) h :=
  a_icmp_gt X hd ht (fun q => kt ((nI_ltI hb ha).mp q)) (fun q => kf (fun z => q ((nI_ltI hb ha).mpr z)))
theorem s_icmp_leN (X : AX p s m args meth c g A cc nL own w0 ret) {a b : Nat} {off : Int} {tgt : Nat} (hd : decode cc pc = .ok (.if_icmp .le off, 3)) (ht : (pc : Int) + off = (tgt : Int)) (ha : a < 2 ^ 31) (hb : b < 2 ^ 31) (kt : a ≤ b → AW p l e R s m args below meth c g A nL cells slots Q tgt lv st h) (kf : ¬ a ≤ b → AW p l e R s m args below meth c g A nL cells slots Q (pc + 3) lv st h) : AW p l e R s m args below meth c g A nL cells slots Q pc lv (.int (nI b) :: .int (nI a) :: st) h :=
  a_icmp_le X hd ht (fun q => kt ((nI_leI ha hb).mp q)) (fun q => kf (fun z => q ((nI_leI ha hb).mpr z)))
end NB
/-! sets of verses -/
def pcn (a : Nat) : Nat := a % 2 + a / 2 % 2 + a / 4 % 2 + a / 8 % 2 + a / 16 % 2 + a / 32 % 2 + a / 64 % 2 + a / 128 % 2 + a / 256 % 2 + a / 512 % 2
def grn (a : Nat) : Nat := if 512 ≤ a then 512 else if 256 ≤ a then 256 else if 128 ≤ a then 128 else if 64 ≤ a then 64 else if 32 ≤ a then 32 else if 16 ≤ a then 16 else if 8 ≤ a then 8 else if 4 ≤ a then 4 else if 2 ≤ a then 2 else a
set_option maxRecDepth 100000 in
theorem set_step : ∀ a, a < 1024 → a ≠ 0 → (nI a &&& (nI a - nI 1)) = nI (a &&& (a - 1)) ∧ a &&& (a - 1) < a ∧ pcn (a &&& (a - 1)) + 1 = pcn a ∧ (¬ a &&& (a - 1) = 0 → grn (a &&& (a - 1)) = grn a) ∧ (a &&& (a - 1) = 0 → grn a = a) := by decide +kernel
theorem inB_lt {v lo hi : Int32} (h : v < lo) : inB v lo hi = false := by
  simp only [inB, Bool.and_eq_false_iff, decide_eq_false_iff_not]
  exact Or.inl (Int32.not_le.mpr h)
theorem inB_gt {v lo hi : Int32} (h : hi < v) : inB v lo hi = false := by
  simp only [inB, Bool.and_eq_false_iff, decide_eq_false_iff_not]
  exact Or.inr (Int32.not_le.mpr h)
theorem inB_ok {v lo hi : Int32} (h : ¬ v < lo) (h2 : ¬ hi < v) : inB v lo hi = true := by
  simp only [inB, Bool.and_eq_true, decide_eq_true_eq]
  exact ⟨Int32.not_lt.mp h, Int32.not_lt.mp h2⟩
def isM (n : Nat) (x : Int32) : Bool := inB x (nI 0) (nI n - nI 1)
theorem isM_t {n : Nat} {x : Int32} (hn : n < 1000) (h : isM n x = true) : ∃ j : Nat, j < n ∧ x = nI j := by
  cases n with
  | zero =>
    exfalso
    simp only [isM, inB, Bool.and_eq_true, decide_eq_true_eq] at h
    have h1 := Int32.le_iff_toInt_le.mp h.1
    have h2 := Int32.le_iff_toInt_le.mp h.2
    rw [show (nI 0 - nI 1).toInt = -1 by decide +kernel] at h2
    rw [show (nI 0).toInt = 0 by decide +kernel] at h1
    omega
  | succ k =>
    have e : nI (k + 1) - nI 1 = nI k := by rw [pk_sub (by omega)]; rfl
    unfold isM at h
    rw [e] at h
    obtain ⟨j, hj, rfl⟩ := inB_t (by omega) h
    exact ⟨j, by omega, rfl⟩
theorem isM_N {n j : Nat} (hn : n < 1000) (hj : j < n) : isM n (nI j) = true := by
  have e : nI n - nI 1 = nI (n - 1) := pk_sub (by omega)
  unfold isM
  rw [e, inB_N (by omega) (by decide) (by omega)]
  simp; omega
/-! the row of numbers, by plain numbers -/
def nr (R : Nat → Nat) : Nat → Int32 := fun k => nI (R k)
theorem nr_up (R : Nat → Nat) (k v : Nat) : upd (nr R) k (nI v) = nr (va_up R k v) := by
  funext j
  by_cases h : j = k
  · subst h; simp [pk_us, nr, va_up]
  · rw [pk_un h]; simp [nr, va_up, h]
/-! who sits where -/
def who (R : Nat → Nat) (s : Nat) : Nat → Option Nat
  | 0 => none
  | m + 1 => if R (2 + 6 * m + 1) = s then some m else who R s m
def wI : Option Nat → Int32
  | none => -1
  | some m => nI m
theorem wI_neg : wI none < 0 := by decide +kernel
theorem wI_pos {m : Nat} (h : m < 1000) : ¬ wI (some m) < 0 := nI_pos (by omega)
theorem who_lt {R : Nat → Nat} {s : Nat} : ∀ {n m : Nat}, who R s n = some m → m < n ∧ R (2 + 6 * m + 1) = s
  | 0, m, h => by simp [who] at h
  | n + 1, m, h => by
    simp only [who] at h
    split at h
    · cases h; exact ⟨by omega, by assumption⟩
    · have := who_lt h; exact ⟨by omega, this.2⟩
theorem who_none {R : Nat → Nat} {s : Nat} : ∀ {n : Nat}, who R s n = none → ∀ m, m < n → R (2 + 6 * m + 1) ≠ s
  | 0, _, m, hm => by omega
  | n + 1, h, m, hm => by
    simp only [who] at h
    split at h
    · cases h
    · rename_i hne
      by_cases e : m = n
      · subst e; exact hne
      · exact who_none h m (by omega)
def orF (f : Nat → Int32) : Nat → Int32
  | 0 => nI 0
  | m + 1 => orF f m ||| f m
def sumF (f : Nat → Int32) : Nat → Int32
  | 0 => nI 0
  | m + 1 => sumF f m + f m
theorem orF_congr {f f2 : Nat → Int32} : ∀ {n : Nat}, (∀ m, m < n → f m = f2 m) → orF f n = orF f2 n
  | 0, _ => rfl
  | n + 1, h => by simp only [orF]; rw [orF_congr (fun m hm => h m (by omega)), h n (by omega)]
theorem sumF_congr {f f2 : Nat → Int32} : ∀ {n : Nat}, (∀ m, m < n → f m = f2 m) → sumF f n = sumF f2 n
  | 0, _ => rfl
  | n + 1, h => by simp only [sumF]; rw [sumF_congr (fun m hm => h m (by omega)), h n (by omega)]
def gapB (t : Int32) (s : Nat) : Bool := decide ((t >>> (nI s &&& 31)) &&& nI 1 = 0) && (!decide (t &&& ((nI 1 <<< (nI s &&& 31)) - nI 1) = 0) && !decide (t >>> (nI (s + 1) &&& 31) = 0))
def gapF (t : Int32) : Nat → Int32
  | 0 => nI 0
  | s + 1 => gapF t s ||| (if gapB t s = true then nI 1 <<< (nI s &&& 31) else nI 0)
theorem fl1 {x y : Int32} (h : ¬ x = y) : nI 1 = bI (!decide (x = y)) := by simp [h]; rfl
theorem fl0 {x y : Int32} (h : x = y) : nI 0 = bI (!decide (x = y)) := by simp [h]; rfl
theorem gap_step {t x4 x5 : Int32} {k : Nat} (h4 : x4 = bI (!decide (t &&& ((nI 1 <<< (nI k &&& 31)) - nI 1) = 0))) (h5 : x5 = bI (!decide (t >>> (nI (k + 1) &&& 31) = 0))) :
    gapF t (k + 1) = gapF t k ||| (if (t >>> (nI k &&& 31)) &&& nI 1 = 0 ∧ ¬ x4 = 0 ∧ ¬ x5 = 0 then nI 1 <<< (nI k &&& 31) else nI 0) := by
  simp only [gapF, h4, h5, bI_n0]
  congr 1
  simp only [gapB, Bool.and_eq_true, decide_eq_true_eq]
def heldI (v lo hi : Int32) : Int32 := if v < lo then lo else if hi < v then hi else v
/-! what each kind does -/
def fe (k t : Nat) : Nat := if k = 3 then 0 else if k = 1 then 2 else if k = 4 then 2 else if k = 5 then (if t < 10 then 2 else 1) else 1
def felN (R : Nat → Nat) (n m : Nat) : Option Nat :=
  if fe (R (2 + 6 * m + 0)) (R (2 + 6 * m + 5)) = 0 then none else if fe (R (2 + 6 * m + 0)) (R (2 + 6 * m + 5)) = 1 then who R (R (2 + 6 * m + 1) + 1) n
  else (who R (R (2 + 6 * m + 1) + 1) n).or (who R (R (2 + 6 * m + 1) + 2) n)
def boyB (d t : Nat) : Bool := decide (7 ≤ d + t % 4)
def rdK (k d t : Nat) : Bool := if k = 1 then decide (3 ≤ d) else if k = 4 then decide (3 ≤ d) else if k = 2 then boyB d t else if k = 5 then boyB d t || decide (d = 9) else decide (5 ≤ d)
def redO (R : Nat → Nat) (m : Nat) : Option Nat → Bool
  | none => false
  | some o => if 60 ≤ R (2 + 6 * m + 5) then false else rdK (R (2 + 6 * m + 0)) (R (2 + 6 * o + 3)) (R 0)
def redN (R : Nat → Nat) (n m : Nat) : Bool := redO R m (felN R n m)
def lsn (q : Nat) : Nat := q - (q &&& (q - 1))
def tel (k q : Nat) : Nat := if k = 1 then lsn q else if k = 4 then (if 4 ≤ pcn q then grn q else lsn q) else if k = 2 then q - grn q else if k = 5 then q - grn q else if k = 3 then q else 0
def tirI (k : Nat) (rd : Bool) : Int32 := if k = 1 then (if rd = true then nI 3 else (-5)) + nI 2 else if k = 4 then (if rd = true then nI 3 else (-5)) + nI 5 else if k = 2 then nI 2 * (if rd = true then nI 3 else (-5)) else if k = 5 then nI 2 * (if rd = true then nI 3 else (-5)) else if k = 3 then nI 0 else (if rd = true then nI 3 else (-5))
def clt (t k : Nat) (rd : Bool) : Nat := (heldI (nI t + tirI k rd) (nI 0) (nI 99)).toNatClampNeg
set_option maxRecDepth 100000 in
theorem clt_ok : ∀ t, t < 100 → ∀ k, k < 6 → ∀ rd, heldI (nI t + tirI k rd) (nI 0) (nI 99) = nI (clt t k rd) ∧ clt t k rd < 100 := by decide +kernel
def rdV (R : Nat → Nat) : Option Nat → Nat
  | none => 0
  | some o => 2 ^ R (2 + 6 * o + 2)
def toldO (R : Nat → Nat) : Option Nat → Nat
  | none => 0
  | some f => tel (R (2 + 6 * f + 0)) (R (2 + 6 * f + 4))
def clr (x v : Nat) : Nat := x &&& (1023 - 2 ^ v)
def gotX (R : Nat → Nat) (n m : Nat) : Nat := (if redN R n m = true then rdV R (felN R n m) else 0) ||| toldO R (who R (R (2 + 6 * m + 1) + 1) n)
def gotN (R : Nat → Nat) (n m : Nat) : Nat := if R (2 + 6 * m + 0) = 4 then gotX R n m else clr (gotX R n m) (R (2 + 6 * m + 2))
set_option maxRecDepth 100000 in
theorem set_ls : ∀ q, q < 1024 → nI q &&& (-(nI q)) = nI (lsn q) ∧ lsn q < 1024 := by decide +kernel
set_option maxRecDepth 100000 in
theorem set_gr : ∀ q, q < 1024 → nI q &&& ((nI (grn q)) ^^^ (-1)) = nI (q - grn q) ∧ grn q < 1024 := by decide +kernel
set_option maxRecDepth 100000 in
theorem shl_v : ∀ v, v < 10 → nI 1 <<< (nI v &&& 31) = nI (2 ^ v) ∧ 2 ^ v < 1024 := by decide +kernel
set_option maxRecDepth 100000 in
theorem set_clr : ∀ v, v < 10 → ∀ x, x < 1024 → nI x &&& ((nI (2 ^ v)) ^^^ (-1)) = nI (clr x v) := by decide +kernel
theorem clr_lt (x v : Nat) : clr x v < 1024 := by
  unfold clr
  exact Nat.lt_of_le_of_lt (Nat.and_le_right (n := x) (m := 1023 - 2 ^ v)) (Nat.lt_of_le_of_lt (Nat.sub_le _ _) (by decide))
theorem or_lt {a b : Nat} (ha : a < 1024) (hb : b < 1024) : a ||| b < 1024 := Nat.or_lt_two_pow (n := 10) ha hb
theorem tel_lt {k q : Nat} (h : q < 1024) : tel k q < 1024 := by
  have h1 := (set_ls q h).2
  have h2 := (set_gr q h).2
  unfold tel
  repeat' split
  all_goals omega
def okR (R : Nat → Nat) : Prop := R 1 ≤ 10 ∧ (∀ m, m < R 1 → R (2 + 6 * m + 0) < 6 ∧ R (2 + 6 * m + 1) < 12 ∧ R (2 + 6 * m + 2) < 10 ∧ (1 ≤ R (2 + 6 * m + 3) ∧ R (2 + 6 * m + 3) ≤ 9) ∧ R (2 + 6 * m + 4) < 1024 ∧ R (2 + 6 * m + 5) < 100) ∧ ∀ m k, m < R 1 → k < R 1 → R (2 + 6 * m + 1) = R (2 + 6 * k + 1) → m = k
theorem felN_lt {R : Nat → Nat} {n m o : Nat} (h : felN R n m = some o) : o < n := by
  unfold felN at h
  split at h
  · cases h
  · split at h
    · exact (who_lt h).1
    · cases hw : who R (R (2 + 6 * m + 1) + 1) n with
      | none => rw [hw] at h; exact (who_lt (by simpa using h)).1
      | some q => rw [hw] at h; simp at h; subst h; exact (who_lt hw).1
theorem gotX_lt {R : Nat → Nat} (h : okR R) (m : Nat) : gotX R (R 1) m < 1024 := by
  unfold gotX
  refine or_lt ?_ ?_
  · split
    · cases hf : felN R (R 1) m with
      | none => simp [rdV]
      | some o => exact (shl_v _ (h.2.1 o (felN_lt hf)).2.2.1).2
    · omega
  · cases hw : who R (R (2 + 6 * m + 1) + 1) (R 1) with
    | none => simp [toldO]
    | some f => exact tel_lt (h.2.1 f (who_lt hw).1).2.2.2.2.1
theorem gotN_lt {R : Nat → Nat} (h : okR R) (m : Nat) : gotN R (R 1) m < 1024 := by
  unfold gotN
  split
  · exact gotX_lt h m
  · exact clr_lt _ _
/-- a night -/
def nigN (R : Nat → Nat) : Nat → Nat := fun k => if k = 0 then R 0 + 1 else if 2 ≤ k ∧ (k - 2) / 6 < R 1 then (if (k - 2) % 6 = 4 then R k ||| gotN R (R 1) ((k - 2) / 6) else if (k - 2) % 6 = 5 then clt (R k) (R (2 + 6 * ((k - 2) / 6) + 0)) (redN R (R 1) ((k - 2) / 6)) else R k) else R k
def pasN (R : Nat → Nat) : Nat → (Nat → Nat)
  | 0 => R
  | k + 1 => nigN (pasN R k)
theorem nig_0 (R : Nat → Nat) : nigN R 0 = R 0 + 1 := by simp [nigN]
theorem nig_1 (R : Nat → Nat) : nigN R 1 = R 1 := by simp [nigN]
theorem nig_j (R : Nat → Nat) {m j : Nat} (hj : j < 4) : nigN R (2 + 6 * m + j) = R (2 + 6 * m + j) := by
  have e2 : (2 + 6 * m + j - 2) % 6 = j := by omega
  unfold nigN
  rw [if_neg (by omega), e2, if_neg (show ¬ j = 4 by omega), if_neg (show ¬ j = 5 by omega)]
  split <;> rfl
theorem nig_4 (R : Nat → Nat) {m : Nat} (hm : m < R 1) : nigN R (2 + 6 * m + 4) = R (2 + 6 * m + 4) ||| gotN R (R 1) m := by
  have e1 : (2 + 6 * m + 4 - 2) / 6 = m := by omega
  have e2 : (2 + 6 * m + 4 - 2) % 6 = 4 := by omega
  unfold nigN
  rw [if_neg (by omega), e1, e2, if_pos ⟨by omega, hm⟩, if_pos rfl]
theorem nig_5 (R : Nat → Nat) {m : Nat} (hm : m < R 1) : nigN R (2 + 6 * m + 5) = clt (R (2 + 6 * m + 5)) (R (2 + 6 * m + 0)) (redN R (R 1) m) := by
  have e1 : (2 + 6 * m + 5 - 2) / 6 = m := by omega
  have e2 : (2 + 6 * m + 5 - 2) % 6 = 5 := by omega
  unfold nigN
  rw [if_neg (by omega), e1, e2, if_pos ⟨by omega, hm⟩, if_neg (by omega), if_pos rfl]
theorem okR_nig {R : Nat → Nat} (h : okR R) : okR (nigN R) := by
  obtain ⟨h1, h2, h3⟩ := h
  have hh : okR R := ⟨h1, h2, h3⟩
  refine ⟨by rw [nig_1]; exact h1, fun m hm => ?_, fun m k hm hk he => ?_⟩
  · rw [nig_1] at hm
    obtain ⟨a0, a1, a2, a3, a4, a5⟩ := h2 m hm
    rw [nig_j R (by omega), nig_j R (by omega), nig_j R (by omega), nig_j R (by omega), nig_4 R hm, nig_5 R hm]
    exact ⟨a0, a1, a2, a3, or_lt a4 (gotN_lt hh m), (clt_ok _ a5 _ a0 _).2⟩
  · rw [nig_1] at hm hk
    rw [nig_j R (by omega), nig_j R (by omega)] at he
    exact h3 m k hm hk he
theorem okR_pas {R : Nat → Nat} (h : okR R) : ∀ k, okR (pasN R k)
  | 0 => h
  | k + 1 => okR_nig (okR_pas h k)
theorem pas_1 (R : Nat → Nat) : ∀ k, pasN R k 1 = R 1
  | 0 => rfl
  | k + 1 => by rw [pasN, nig_1, pas_1 R k]
theorem pas_0 (R : Nat → Nat) : ∀ k, pasN R k 0 = R 0 + k
  | 0 => rfl
  | k + 1 => by rw [pasN, nig_0, pas_0 R k]; omega
end
section
set_option maxRecDepth 100000 in
set_option maxHeartbeats 4000000 in
theorem c_X5_in {l : Launch} {g : GG} {I : TI} {J : TJ} {F : TI} {w : Int64} {v lo hi : Int32} : UR l g mX5_in [.int v, .int lo, .int hi] I J F w (.int (bI (inB v lo hi))) I J F w := by
  refine ct_start (M := mX5_in) (by decide +kernel) (Nat.le_of_ble_eq_true rfl) ?_
  intro p e s m args below meth c A X hA
  have X : AX p s m args meth c g A cX5_in 3 RX5 (Cond.code yX5_in cX5_in 3 (some .boolean)) (some .boolean) := X
  show AW p l e (rmM 0 0) s m args below meth c g A 3 0 0 (MQ below (CQ g (hp g I J F w) s.heap.size (fun vv0 hh0 => vv0 = some (.int (bI (inB v lo hi))) ∧ hh0 = hp g I J F w)) args s 0 0 A) 0 [some (.int v), some (.int lo), some (.int hi)] [] (hp g I J F w)
  refine a_iload_n X dX5_in_0 (i := 0) rfl rfl ?_
  refine a_iload_n X dX5_in_1 (i := 1) rfl rfl ?_
  refine a_icmp_lt X dX5_in_2 (tgt := 14) (by decide) (fun hc2 => ?_) (fun hc2 => ?_)
  · skip
    refine a_iconst X dX5_in_14 (v := nI 0) (by decide +kernel) ?_
    refine a_zret X hA dX5_in_15 (by decide +kernel) ⟨?_, ?_⟩
    · first | (rw [inB_lt hc2]; rfl) | (rw [inB_gt hc7]; rfl) | (rw [inB_ok hc2 hc7]; rfl)
    · rfl
  · skip
    refine a_iload_n X dX5_in_5 (i := 0) rfl rfl ?_
    refine a_iload_n X dX5_in_6 (i := 2) rfl rfl ?_
    refine a_icmp_gt X dX5_in_7 (tgt := 14) (by decide) (fun hc7 => ?_) (fun hc7 => ?_)
    · skip
      refine a_iconst X dX5_in_14 (v := nI 0) (by decide +kernel) ?_
      refine a_zret X hA dX5_in_15 (by decide +kernel) ⟨?_, ?_⟩
      · first | (rw [inB_lt hc2]; rfl) | (rw [inB_gt hc7]; rfl) | (rw [inB_ok hc2 hc7]; rfl)
      · rfl
    · skip
      refine a_iconst X dX5_in_10 (v := nI 1) (by decide +kernel) ?_
      refine a_goto X dX5_in_11 (tgt := 15) (by decide) ?_
      refine a_zret X hA dX5_in_15 (by decide +kernel) ⟨?_, ?_⟩
      · first | (rw [inB_lt hc2]; rfl) | (rw [inB_gt hc7]; rfl) | (rw [inB_ok hc2 hc7]; rfl)
      · rfl
set_option maxRecDepth 100000 in
set_option maxHeartbeats 4000000 in
theorem c_X5_held {l : Launch} {g : GG} {I : TI} {J : TJ} {F : TI} {w : Int64} {v lo hi : Int32} : UR l g mX5_held [.int v, .int lo, .int hi] I J F w (.int (heldI v lo hi)) I J F w := by
  refine ct_start (M := mX5_held) (by decide +kernel) (Nat.le_of_ble_eq_true rfl) ?_
  intro p e s m args below meth c A X hA
  have X : AX p s m args meth c g A cX5_held 3 RX5 (Cond.code yX5_held cX5_held 3 (some .int)) (some .int) := X
  show AW p l e (rmM 0 0) s m args below meth c g A 3 0 0 (MQ below (CQ g (hp g I J F w) s.heap.size (fun vv0 hh0 => vv0 = some (.int (heldI v lo hi)) ∧ hh0 = hp g I J F w)) args s 0 0 A) 0 [some (.int v), some (.int lo), some (.int hi)] [] (hp g I J F w)
  refine a_iload_n X dX5_held_0 (i := 0) rfl rfl ?_
  refine a_iload_n X dX5_held_1 (i := 1) rfl rfl ?_
  refine a_icmp_ge X dX5_held_2 (tgt := 9) (by decide) (fun hc2 => ?_) (fun hc2 => ?_)
  · skip
    refine a_iload_n X dX5_held_9 (i := 0) rfl rfl ?_
    refine a_iload_n X dX5_held_10 (i := 2) rfl rfl ?_
    refine a_icmp_le X dX5_held_11 (tgt := 18) (by decide) (fun hc11 => ?_) (fun hc11 => ?_)
    · skip
      refine a_iload_n X dX5_held_18 (i := 0) rfl rfl ?_
      refine a_iret X hA dX5_held_19 ⟨?_, ?_⟩
      · congr 2; unfold heldI; first | rw [if_pos (Int32.not_le.mp hc2)] | rw [if_neg (Int32.not_lt.mpr hc2), if_neg (Int32.not_lt.mpr hc11)] | rw [if_neg (Int32.not_lt.mpr hc2), if_pos (Int32.not_le.mp hc11)]
      · rfl
    · skip
      refine a_iload_n X dX5_held_14 (i := 2) rfl rfl ?_
      refine a_goto X dX5_held_15 (tgt := 19) (by decide) ?_
      refine a_iret X hA dX5_held_19 ⟨?_, ?_⟩
      · congr 2; unfold heldI; first | rw [if_pos (Int32.not_le.mp hc2)] | rw [if_neg (Int32.not_lt.mpr hc2), if_neg (Int32.not_lt.mpr hc11)] | rw [if_neg (Int32.not_lt.mpr hc2), if_pos (Int32.not_le.mp hc11)]
      · rfl
  · skip
    refine a_iload_n X dX5_held_5 (i := 1) rfl rfl ?_
    refine a_goto X dX5_held_6 (tgt := 19) (by decide) ?_
    refine a_iret X hA dX5_held_19 ⟨?_, ?_⟩
    · congr 2; unfold heldI; first | rw [if_pos (Int32.not_le.mp hc2)] | rw [if_neg (Int32.not_lt.mpr hc2), if_neg (Int32.not_lt.mpr hc11)] | rw [if_neg (Int32.not_lt.mpr hc2), if_pos (Int32.not_le.mp hc11)]
    · rfl
set_option maxRecDepth 100000 in
set_option maxHeartbeats 4000000 in
theorem c_X5_finds {l : Launch} {g : GG} {I : TI} {J : TJ} {F : TI} {w : Int64} {x : Int32} {k : Nat} (hk : k < 7) (hx : (-1000000001) - x = nI k) : UR l g mX5_finds [.ref (ga g 43), .int x] I J F w (.int x) (fnd I 45 k) J F w := by
  refine ct_start (M := mX5_finds) (by decide +kernel) (Nat.le_of_ble_eq_true rfl) ?_
  intro p e s m args below meth c A X hA
  have X : AX p s m args meth c g A cX5_finds 2 RX5 (Cond.code yX5_finds cX5_finds 2 (some .int)) (some .int) := X
  show AW p l e (rmM 0 0) s m args below meth c g A 2 0 0 (MQ below (CQ g (hp g I J F w) s.heap.size (fun vv0 hh0 => vv0 = some (.int x) ∧ hh0 = hp g (fnd I 45 k) J F w)) args s 0 0 A) 0 [some (.ref (ga g 43)), some (.int x)] [] (hp g I J F w)
  refine a_aload_n X dX5_finds_0 (i := 0) rfl rfl ?_
  refine s_getr X dX5_finds_1 fl_X5_13 ko_43 rfl ?_
  refine a_ldc X dX5_finds_4 kc_X5_50 ?_
  refine a_iload_n X dX5_finds_6 (i := 1) rfl rfl ?_
  refine a_isub X dX5_finds_7 ?_
  rw [hx]
  refine a_dup2 X dX5_finds_8 rfl rfl ?_
  refine s_ild X dX5_finds_9 ki_45 (by omega) (by decide) ?_
  refine a_iconst X dX5_finds_10 (v := nI 1) (by decide +kernel) ?_
  refine a_iadd X dX5_finds_11 ?_
  refine s_ist X dX5_finds_12 ki_45 (by omega) (by decide) ?_
  refine a_iload_n X dX5_finds_13 (i := 1) rfl rfl ?_
  refine a_iret X hA dX5_finds_14 ⟨?_, ?_⟩
  · rfl
  · rfl
set_option maxRecDepth 100000 in
set_option maxHeartbeats 4000000 in
theorem c_X5_its {l : Launch} {g : GG} {I : TI} {J : TJ} {F : TI} {w : Int64} {R : Nat → Nat} (hR : I 44 = nr R) {a b : Nat} (hab : 2 + 6 * a + b < 62) : UR l g mX5_its [.ref (ga g 43), .int (nI a), .int (nI b)] I J F w (.int (nI (R (2 + 6 * a + b)))) I J F w := by
  refine ct_start (M := mX5_its) (by decide +kernel) (Nat.le_of_ble_eq_true rfl) ?_
  intro p e s m args below meth c A X hA
  have X : AX p s m args meth c g A cX5_its 3 RX5 (Cond.code yX5_its cX5_its 3 (some .int)) (some .int) := X
  show AW p l e (rmM 0 0) s m args below meth c g A 3 0 0 (MQ below (CQ g (hp g I J F w) s.heap.size (fun vv0 hh0 => vv0 = some (.int (nI (R (2 + 6 * a + b)))) ∧ hh0 = hp g I J F w)) args s 0 0 A) 0 [some (.ref (ga g 43)), some (.int (nI a)), some (.int (nI b))] [] (hp g I J F w)
  refine a_aload_n X dX5_its_0 (i := 0) rfl rfl ?_
  refine s_getr X dX5_its_1 fl_X5_7 ko_43 rfl ?_
  refine a_iconst X dX5_its_4 (v := nI 2) (by decide +kernel) ?_
  refine a_bipush X dX5_its_5 (v := nI 6) (by decide +kernel) ?_
  refine a_iload_n X dX5_its_7 (i := 1) rfl rfl ?_
  refine s_imulN X dX5_its_8 ?_
  refine s_iaddN X dX5_its_9 ?_
  refine a_iload_n X dX5_its_10 (i := 2) rfl rfl ?_
  refine s_iaddN X dX5_its_11 ?_
  refine s_ild X dX5_its_12 ki_44 (by omega) (by decide) ?_
  refine a_iret X hA dX5_its_13 ⟨?_, ?_⟩
  · rw [hR]; rfl
  · rfl
set_option maxRecDepth 100000 in
set_option maxHeartbeats 4000000 in
theorem c_X5_puts {l : Launch} {g : GG} {I : TI} {J : TJ} {F : TI} {w : Int64} {R : Nat → Nat} (hR : I 44 = nr R) {a b v : Nat} (hab : 2 + 6 * a + b < 62) : UV l g mX5_puts [.ref (ga g 43), .int (nI a), .int (nI b), .int (nI v)] I J F w (va_up I 44 (nr (va_up R (2 + 6 * a + b) v))) J F w := by
  refine ct_start (M := mX5_puts) (by decide +kernel) (Nat.le_of_ble_eq_true rfl) ?_
  intro p e s m args below meth c A X hA
  have X : AX p s m args meth c g A cX5_puts 4 RX5 (Cond.code yX5_puts cX5_puts 4 none) none := X
  show AW p l e (rmM 0 0) s m args below meth c g A 4 0 0 (MQ below (CQ g (hp g I J F w) s.heap.size (fun vv0 hh0 => vv0 = none ∧ hh0 = hp g (va_up I 44 (nr (va_up R (2 + 6 * a + b) v))) J F w)) args s 0 0 A) 0 [some (.ref (ga g 43)), some (.int (nI a)), some (.int (nI b)), some (.int (nI v))] [] (hp g I J F w)
  refine a_aload_n X dX5_puts_0 (i := 0) rfl rfl ?_
  refine s_getr X dX5_puts_1 fl_X5_7 ko_43 rfl ?_
  refine a_iconst X dX5_puts_4 (v := nI 2) (by decide +kernel) ?_
  refine a_bipush X dX5_puts_5 (v := nI 6) (by decide +kernel) ?_
  refine a_iload_n X dX5_puts_7 (i := 1) rfl rfl ?_
  refine s_imulN X dX5_puts_8 ?_
  refine s_iaddN X dX5_puts_9 ?_
  refine a_iload_n X dX5_puts_10 (i := 2) rfl rfl ?_
  refine s_iaddN X dX5_puts_11 ?_
  refine a_iload_n X dX5_puts_12 (i := 3) rfl rfl ?_
  refine s_ist X dX5_puts_13 ki_44 (by omega) (by decide) ?_
  refine a_vret X hA dX5_puts_14 ⟨?_, ?_⟩
  · rfl
  · rw [hR, nr_up]
set_option maxRecDepth 100000 in
set_option maxHeartbeats 4000000 in
theorem c_X5_becomes {l : Launch} {g : GG} {I : TI} {J : TJ} {F : TI} {w : Int64} {R : Nat → Nat} (hR : I 44 = nr R) {a v : Nat} (ha : a < 62) : UR l g mX5_becomes [.ref (ga g 43), .int (nI a), .int (nI v)] I J F w (.int (nI (R a))) (va_up I 44 (nr (va_up R a v))) J F w := by
  refine ct_start (M := mX5_becomes) (by decide +kernel) (Nat.le_of_ble_eq_true rfl) ?_
  intro p e s m args below meth c A X hA
  have X : AX p s m args meth c g A cX5_becomes 4 RX5 (Cond.code yX5_becomes cX5_becomes 4 (some .int)) (some .int) := X
  show AW p l e (rmM 0 0) s m args below meth c g A 4 0 0 (MQ below (CQ g (hp g I J F w) s.heap.size (fun vv0 hh0 => vv0 = some (.int (nI (R a))) ∧ hh0 = hp g (va_up I 44 (nr (va_up R a v))) J F w)) args s 0 0 A) 0 [some (.ref (ga g 43)), some (.int (nI a)), some (.int (nI v)), none] [] (hp g I J F w)
  refine a_aload_n X dX5_becomes_0 (i := 0) rfl rfl ?_
  refine s_getr X dX5_becomes_1 fl_X5_7 ko_43 rfl ?_
  refine a_iload_n X dX5_becomes_4 (i := 1) rfl rfl ?_
  refine s_ild X dX5_becomes_5 ki_44 (by omega) (by decide) ?_
  refine a_istore_n X dX5_becomes_6 (i := 3) rfl (by decide) rfl ?_
  refine a_aload_n X dX5_becomes_7 (i := 0) rfl rfl ?_
  refine s_getr X dX5_becomes_8 fl_X5_7 ko_43 rfl ?_
  refine a_iload_n X dX5_becomes_11 (i := 1) rfl rfl ?_
  refine a_iload_n X dX5_becomes_12 (i := 2) rfl rfl ?_
  refine s_ist X dX5_becomes_13 ki_44 (by omega) (by decide) ?_
  refine a_iload_n X dX5_becomes_14 (i := 3) rfl rfl ?_
  refine a_iret X hA dX5_becomes_15 ⟨?_, ?_⟩
  · rw [hR]; rfl
  · rw [hR, nr_up]
set_option maxRecDepth 100000 in
set_option maxHeartbeats 4000000 in
theorem c_X5_isOne {l : Launch} {g : GG} {I : TI} {J : TJ} {F : TI} {w : Int64} {R : Nat → Nat} (hR : I 44 = nr R) {x : Int32} : UR l g mX5_isOne [.ref (ga g 43), .int x] I J F w (.int (bI (isM (R 1) x))) I J F w := by
  refine ct_start (M := mX5_isOne) (by decide +kernel) (Nat.le_of_ble_eq_true rfl) ?_
  intro p e s m args below meth c A X hA
  have X : AX p s m args meth c g A cX5_isOne 2 RX5 (Cond.code yX5_isOne cX5_isOne 2 (some .boolean)) (some .boolean) := X
  show AW p l e (rmM 1 22) s m args below meth c g A 2 0 0 (MQ below (CQ g (hp g I J F w) s.heap.size (fun vv0 hh0 => vv0 = some (.int (bI (isM (R 1) x))) ∧ hh0 = hp g I J F w)) args s 0 0 A) 0 [some (.ref (ga g 43)), some (.int x)] [] (hp g I J F w)
  refine a_iload_n X dX5_isOne_0 (i := 1) rfl rfl ?_
  refine a_iconst X dX5_isOne_1 (v := nI 0) (by decide +kernel) ?_
  refine a_aload_n X dX5_isOne_2 (i := 0) rfl rfl ?_
  refine s_getr X dX5_isOne_3 fl_X5_7 ko_43 rfl ?_
  refine a_iconst X dX5_isOne_6 (v := nI 1) (by decide +kernel) ?_
  refine s_ild X dX5_isOne_7 ki_44 (by omega) (by decide) ?_
  rw [hR]
  refine a_iconst X dX5_isOne_8 (v := nI 1) (by decide +kernel) ?_
  refine a_isub X dX5_isOne_9 ?_
  refine s_callS_R X dX5_isOne_10 lk_X5_51 c_X5_in ⟨Nat.le_of_ble_eq_true rfl, Nat.le_of_ble_eq_true rfl⟩ rfl rfl (Nat.le_of_ble_eq_true rfl) ⟨Nat.le_of_ble_eq_true rfl, Nat.le_of_ble_eq_true rfl⟩ ?_
  exact a_zret X hA dX5_isOne_13 (by first | exact nar_bI _ | decide +kernel) ⟨rfl, rfl⟩
set_option maxRecDepth 100000 in
set_option maxHeartbeats 4000000 in
theorem c_X5_isKind {l : Launch} {g : GG} {I : TI} {J : TJ} {F : TI} {w : Int64} {v : Int32} : UR l g mX5_isKind [.int v] I J F w (.int (bI (inB v (nI 0) (nI 5)))) I J F w := by
  refine ct_start (M := mX5_isKind) (by decide +kernel) (Nat.le_of_ble_eq_true rfl) ?_
  intro p e s m args below meth c A X hA
  have X : AX p s m args meth c g A cX5_isKind 1 RX5 (Cond.code yX5_isKind cX5_isKind 1 (some .boolean)) (some .boolean) := X
  show AW p l e (rmM 1 22) s m args below meth c g A 1 0 0 (MQ below (CQ g (hp g I J F w) s.heap.size (fun vv0 hh0 => vv0 = some (.int (bI (inB v (nI 0) (nI 5)))) ∧ hh0 = hp g I J F w)) args s 0 0 A) 0 [some (.int v)] [] (hp g I J F w)
  refine a_iload_n X dX5_isKind_0 (i := 0) rfl rfl ?_
  refine a_iconst X dX5_isKind_1 (v := nI 0) (by decide +kernel) ?_
  refine a_iconst X dX5_isKind_2 (v := nI 5) (by decide +kernel) ?_
  refine s_callS_R X dX5_isKind_3 lk_X5_51 c_X5_in ⟨Nat.le_of_ble_eq_true rfl, Nat.le_of_ble_eq_true rfl⟩ rfl rfl (Nat.le_of_ble_eq_true rfl) ⟨Nat.le_of_ble_eq_true rfl, Nat.le_of_ble_eq_true rfl⟩ ?_
  exact a_zret X hA dX5_isKind_6 (by first | exact nar_bI _ | decide +kernel) ⟨rfl, rfl⟩
set_option maxRecDepth 100000 in
set_option maxHeartbeats 4000000 in
theorem c_X5_isSeat {l : Launch} {g : GG} {I : TI} {J : TJ} {F : TI} {w : Int64} {v : Int32} : UR l g mX5_isSeat [.int v] I J F w (.int (bI (inB v (nI 0) (nI 11)))) I J F w := by
  refine ct_start (M := mX5_isSeat) (by decide +kernel) (Nat.le_of_ble_eq_true rfl) ?_
  intro p e s m args below meth c A X hA
  have X : AX p s m args meth c g A cX5_isSeat 1 RX5 (Cond.code yX5_isSeat cX5_isSeat 1 (some .boolean)) (some .boolean) := X
  show AW p l e (rmM 1 22) s m args below meth c g A 1 0 0 (MQ below (CQ g (hp g I J F w) s.heap.size (fun vv0 hh0 => vv0 = some (.int (bI (inB v (nI 0) (nI 11)))) ∧ hh0 = hp g I J F w)) args s 0 0 A) 0 [some (.int v)] [] (hp g I J F w)
  refine a_iload_n X dX5_isSeat_0 (i := 0) rfl rfl ?_
  refine a_iconst X dX5_isSeat_1 (v := nI 0) (by decide +kernel) ?_
  refine a_bipush X dX5_isSeat_2 (v := nI 11) (by decide +kernel) ?_
  refine s_callS_R X dX5_isSeat_4 lk_X5_51 c_X5_in ⟨Nat.le_of_ble_eq_true rfl, Nat.le_of_ble_eq_true rfl⟩ rfl rfl (Nat.le_of_ble_eq_true rfl) ⟨Nat.le_of_ble_eq_true rfl, Nat.le_of_ble_eq_true rfl⟩ ?_
  exact a_zret X hA dX5_isSeat_7 (by first | exact nar_bI _ | decide +kernel) ⟨rfl, rfl⟩
set_option maxRecDepth 100000 in
set_option maxHeartbeats 4000000 in
theorem c_X5_isVerse {l : Launch} {g : GG} {I : TI} {J : TJ} {F : TI} {w : Int64} {v : Int32} : UR l g mX5_isVerse [.int v] I J F w (.int (bI (inB v (nI 0) (nI 9)))) I J F w := by
  refine ct_start (M := mX5_isVerse) (by decide +kernel) (Nat.le_of_ble_eq_true rfl) ?_
  intro p e s m args below meth c A X hA
  have X : AX p s m args meth c g A cX5_isVerse 1 RX5 (Cond.code yX5_isVerse cX5_isVerse 1 (some .boolean)) (some .boolean) := X
  show AW p l e (rmM 1 22) s m args below meth c g A 1 0 0 (MQ below (CQ g (hp g I J F w) s.heap.size (fun vv0 hh0 => vv0 = some (.int (bI (inB v (nI 0) (nI 9)))) ∧ hh0 = hp g I J F w)) args s 0 0 A) 0 [some (.int v)] [] (hp g I J F w)
  refine a_iload_n X dX5_isVerse_0 (i := 0) rfl rfl ?_
  refine a_iconst X dX5_isVerse_1 (v := nI 0) (by decide +kernel) ?_
  refine a_bipush X dX5_isVerse_2 (v := nI 9) (by decide +kernel) ?_
  refine s_callS_R X dX5_isVerse_4 lk_X5_51 c_X5_in ⟨Nat.le_of_ble_eq_true rfl, Nat.le_of_ble_eq_true rfl⟩ rfl rfl (Nat.le_of_ble_eq_true rfl) ⟨Nat.le_of_ble_eq_true rfl, Nat.le_of_ble_eq_true rfl⟩ ?_
  exact a_zret X hA dX5_isVerse_7 (by first | exact nar_bI _ | decide +kernel) ⟨rfl, rfl⟩
set_option maxRecDepth 100000 in
set_option maxHeartbeats 4000000 in
theorem c_X5_isSheet {l : Launch} {g : GG} {I : TI} {J : TJ} {F : TI} {w : Int64} {v : Int32} : UR l g mX5_isSheet [.int v] I J F w (.int (bI (inB v (nI 0) (nI 3)))) I J F w := by
  refine ct_start (M := mX5_isSheet) (by decide +kernel) (Nat.le_of_ble_eq_true rfl) ?_
  intro p e s m args below meth c A X hA
  have X : AX p s m args meth c g A cX5_isSheet 1 RX5 (Cond.code yX5_isSheet cX5_isSheet 1 (some .boolean)) (some .boolean) := X
  show AW p l e (rmM 1 22) s m args below meth c g A 1 0 0 (MQ below (CQ g (hp g I J F w) s.heap.size (fun vv0 hh0 => vv0 = some (.int (bI (inB v (nI 0) (nI 3)))) ∧ hh0 = hp g I J F w)) args s 0 0 A) 0 [some (.int v)] [] (hp g I J F w)
  refine a_iload_n X dX5_isSheet_0 (i := 0) rfl rfl ?_
  refine a_iconst X dX5_isSheet_1 (v := nI 0) (by decide +kernel) ?_
  refine a_iconst X dX5_isSheet_2 (v := nI 3) (by decide +kernel) ?_
  refine s_callS_R X dX5_isSheet_3 lk_X5_51 c_X5_in ⟨Nat.le_of_ble_eq_true rfl, Nat.le_of_ble_eq_true rfl⟩ rfl rfl (Nat.le_of_ble_eq_true rfl) ⟨Nat.le_of_ble_eq_true rfl, Nat.le_of_ble_eq_true rfl⟩ ?_
  exact a_zret X hA dX5_isSheet_6 (by first | exact nar_bI _ | decide +kernel) ⟨rfl, rfl⟩
set_option maxRecDepth 100000 in
set_option maxHeartbeats 4000000 in
theorem c_X5_isLetter {l : Launch} {g : GG} {I : TI} {J : TJ} {F : TI} {w : Int64} {v : Int32} : UR l g mX5_isLetter [.int v] I J F w (.int (bI (inB v (nI 97) (nI 122)))) I J F w := by
  refine ct_start (M := mX5_isLetter) (by decide +kernel) (Nat.le_of_ble_eq_true rfl) ?_
  intro p e s m args below meth c A X hA
  have X : AX p s m args meth c g A cX5_isLetter 1 RX5 (Cond.code yX5_isLetter cX5_isLetter 1 (some .boolean)) (some .boolean) := X
  show AW p l e (rmM 1 22) s m args below meth c g A 1 0 0 (MQ below (CQ g (hp g I J F w) s.heap.size (fun vv0 hh0 => vv0 = some (.int (bI (inB v (nI 97) (nI 122)))) ∧ hh0 = hp g I J F w)) args s 0 0 A) 0 [some (.int v)] [] (hp g I J F w)
  refine a_iload_n X dX5_isLetter_0 (i := 0) rfl rfl ?_
  refine a_bipush X dX5_isLetter_1 (v := nI 97) (by decide +kernel) ?_
  refine a_bipush X dX5_isLetter_3 (v := nI 122) (by decide +kernel) ?_
  refine s_callS_R X dX5_isLetter_5 lk_X5_51 c_X5_in ⟨Nat.le_of_ble_eq_true rfl, Nat.le_of_ble_eq_true rfl⟩ rfl rfl (Nat.le_of_ble_eq_true rfl) ⟨Nat.le_of_ble_eq_true rfl, Nat.le_of_ble_eq_true rfl⟩ ?_
  exact a_zret X hA dX5_isLetter_8 (by first | exact nar_bI _ | decide +kernel) ⟨rfl, rfl⟩
set_option maxRecDepth 100000 in
set_option maxHeartbeats 4000000 in
theorem c_X5_isDigit {l : Launch} {g : GG} {I : TI} {J : TJ} {F : TI} {w : Int64} {v : Int32} : UR l g mX5_isDigit [.int v] I J F w (.int (bI (inB v (nI 48) (nI 57)))) I J F w := by
  refine ct_start (M := mX5_isDigit) (by decide +kernel) (Nat.le_of_ble_eq_true rfl) ?_
  intro p e s m args below meth c A X hA
  have X : AX p s m args meth c g A cX5_isDigit 1 RX5 (Cond.code yX5_isDigit cX5_isDigit 1 (some .boolean)) (some .boolean) := X
  show AW p l e (rmM 1 22) s m args below meth c g A 1 0 0 (MQ below (CQ g (hp g I J F w) s.heap.size (fun vv0 hh0 => vv0 = some (.int (bI (inB v (nI 48) (nI 57)))) ∧ hh0 = hp g I J F w)) args s 0 0 A) 0 [some (.int v)] [] (hp g I J F w)
  refine a_iload_n X dX5_isDigit_0 (i := 0) rfl rfl ?_
  refine a_bipush X dX5_isDigit_1 (v := nI 48) (by decide +kernel) ?_
  refine a_bipush X dX5_isDigit_3 (v := nI 57) (by decide +kernel) ?_
  refine s_callS_R X dX5_isDigit_5 lk_X5_51 c_X5_in ⟨Nat.le_of_ble_eq_true rfl, Nat.le_of_ble_eq_true rfl⟩ rfl rfl (Nat.le_of_ble_eq_true rfl) ⟨Nat.le_of_ble_eq_true rfl, Nat.le_of_ble_eq_true rfl⟩ ?_
  exact a_zret X hA dX5_isDigit_8 (by first | exact nar_bI _ | decide +kernel) ⟨rfl, rfl⟩
set_option maxRecDepth 100000 in
set_option maxHeartbeats 4000000 in
theorem c_X5_bits {l : Launch} {g : GG} {I : TI} {J : TJ} {F : TI} {w : Int64} {a : Nat} (ha : a < 1024) : UR l g mX5_bits [.int (nI a)] I J F w (.int (nI (pcn a))) I J F w := by
  refine ct_start (M := mX5_bits) (by decide +kernel) (Nat.le_of_ble_eq_true rfl) ?_
  intro p e s m args below meth c A X hA
  have X : AX p s m args meth c g A cX5_bits 3 RX5 (Cond.code yX5_bits cX5_bits 3 (some .int)) (some .int) := X
  show AW p l e (rmM 0 0) s m args below meth c g A 3 0 0 (MQ below (CQ g (hp g I J F w) s.heap.size (fun vv0 hh0 => vv0 = some (.int (nI (pcn a))) ∧ hh0 = hp g I J F w)) args s 0 0 A) 0 [some (.int (nI a)), none, none] [] (hp g I J F w)
  have L4 : ∀ (fu : Nat) (k : Nat) (q : Nat), q < fu → (q < 1024) → (k + pcn q = pcn a) → AW p l e (rmM 0 0) s m args below meth c g A 3 0 0 (MQ below (CQ g (hp g I J F w) s.heap.size (fun vv0 hh0 => vv0 = some (.int (nI (pcn a))) ∧ hh0 = hp g I J F w)) args s 0 0 A) 4 [some (.int (nI a)), some (.int (nI k)), some (.int (nI q))] [] (hp g I J F w) := by
    intro fu
    induction fu with
    | zero => intro k q hfu; exact absurd hfu (by omega)
    | succ fu ih =>
      intro k q hfu hq hk
      refine a_iload_n X dX5_bits_4 (i := 2) rfl rfl ?_
      refine a_if_eq X dX5_bits_5 (tgt := 20) (by decide) (fun hc5 => ?_) (fun hc5 => ?_)
      · skip
        have hq0 : q = 0 := (nI_eq (by omega) (by decide)).mp (hc5.trans nI_0.symm)
        subst hq0
        refine a_iload_n X dX5_bits_20 (i := 1) rfl rfl ?_
        refine a_iret X hA dX5_bits_21 ⟨?_, ?_⟩
        · congr 2; rw [← hk]; rfl
        · rfl
      · skip
        have hq0 : q ≠ 0 := fun z => hc5 (by rw [z]; exact nI_0)
        obtain ⟨e1, e2, e3, -⟩ := set_step q hq hq0
        refine a_iinc X dX5_bits_8 rfl (v := nI (_ + 1)) (iincN _ 1) (by decide) rfl ?_
        refine a_iload_n X dX5_bits_11 (i := 2) rfl rfl ?_
        refine a_iload_n X dX5_bits_12 (i := 2) rfl rfl ?_
        refine a_iconst X dX5_bits_13 (v := nI 1) (by decide +kernel) ?_
        refine a_isub X dX5_bits_14 ?_
        refine a_iand X dX5_bits_15 ?_
        rw [e1]
        refine a_istore_n X dX5_bits_16 (i := 2) rfl (by decide) rfl ?_
        refine a_goto X dX5_bits_17 (tgt := 4) (by decide) ?_
        exact ih (k + 1) (q &&& (q - 1)) (by omega) (by omega) (by omega)
  refine a_iconst X dX5_bits_0 (v := nI 0) (by decide +kernel) ?_
  refine a_istore_n X dX5_bits_1 (i := 1) rfl (by decide) rfl ?_
  refine a_iload_n X dX5_bits_2 (i := 0) rfl rfl ?_
  refine a_istore_n X dX5_bits_3 (i := 2) rfl (by decide) rfl ?_
  exact L4 (a + 1) 0 a (by omega) ha (by omega)
set_option maxRecDepth 100000 in
set_option maxHeartbeats 4000000 in
theorem c_X5_greatestOf {l : Launch} {g : GG} {I : TI} {J : TJ} {F : TI} {w : Int64} {a : Nat} (ha : a < 1024) : UR l g mX5_greatestOf [.int (nI a)] I J F w (.int (nI (grn a))) I J F w := by
  refine ct_start (M := mX5_greatestOf) (by decide +kernel) (Nat.le_of_ble_eq_true rfl) ?_
  intro p e s m args below meth c A X hA
  have X : AX p s m args meth c g A cX5_greatestOf 2 RX5 (Cond.code yX5_greatestOf cX5_greatestOf 2 (some .int)) (some .int) := X
  show AW p l e (rmM 0 0) s m args below meth c g A 2 0 0 (MQ below (CQ g (hp g I J F w) s.heap.size (fun vv0 hh0 => vv0 = some (.int (nI (grn a))) ∧ hh0 = hp g I J F w)) args s 0 0 A) 0 [some (.int (nI a)), none] [] (hp g I J F w)
  have L2 : ∀ (fu : Nat) (q : Nat), q < fu → (q < 1024) → (grn q = grn a) → AW p l e (rmM 0 0) s m args below meth c g A 2 0 0 (MQ below (CQ g (hp g I J F w) s.heap.size (fun vv0 hh0 => vv0 = some (.int (nI (grn a))) ∧ hh0 = hp g I J F w)) args s 0 0 A) 2 [some (.int (nI a)), some (.int (nI q))] [] (hp g I J F w) := by
    intro fu
    induction fu with
    | zero => intro q hfu; exact absurd hfu (by omega)
    | succ fu ih =>
      intro q hfu hq hk
      by_cases hq0 : q = 0
      · subst hq0
        have e0 : nI 0 &&& (nI 0 - nI 1) = 0 := by decide +kernel
        refine a_iload_n X dX5_greatestOf_2 (i := 1) rfl rfl ?_
        refine a_iload_n X dX5_greatestOf_3 (i := 1) rfl rfl ?_
        refine a_iconst X dX5_greatestOf_4 (v := nI 1) (by decide +kernel) ?_
        refine a_isub X dX5_greatestOf_5 ?_
        refine a_iand X dX5_greatestOf_6 ?_
        refine a_if_eq X dX5_greatestOf_7 (tgt := 19) (by decide) (fun _ => ?_) (fun z => absurd e0 z)
        refine a_iload_n X dX5_greatestOf_19 (i := 1) rfl rfl ?_
        exact a_iret X hA dX5_greatestOf_20 ⟨by rw [← hk]; rfl, rfl⟩
      obtain ⟨e1, e2, e3, e4, e5⟩ := set_step q hq hq0
      refine a_iload_n X dX5_greatestOf_2 (i := 1) rfl rfl ?_
      refine a_iload_n X dX5_greatestOf_3 (i := 1) rfl rfl ?_
      refine a_iconst X dX5_greatestOf_4 (v := nI 1) (by decide +kernel) ?_
      refine a_isub X dX5_greatestOf_5 ?_
      refine a_iand X dX5_greatestOf_6 ?_
      rw [e1]
      refine a_if_eq X dX5_greatestOf_7 (tgt := 19) (by decide) (fun hc7 => ?_) (fun hc7 => ?_)
      · skip
        have hz : q &&& (q - 1) = 0 := (nI_eq (by omega) (by decide)).mp (hc7.trans nI_0.symm)
        refine a_iload_n X dX5_greatestOf_19 (i := 1) rfl rfl ?_
        refine a_iret X hA dX5_greatestOf_20 ⟨?_, ?_⟩
        · congr 2; rw [← hk, e5 hz]
        · rfl
      · skip
        refine a_iload_n X dX5_greatestOf_10 (i := 1) rfl rfl ?_
        refine a_iload_n X dX5_greatestOf_11 (i := 1) rfl rfl ?_
        refine a_iconst X dX5_greatestOf_12 (v := nI 1) (by decide +kernel) ?_
        refine a_isub X dX5_greatestOf_13 ?_
        refine a_iand X dX5_greatestOf_14 ?_
        rw [e1]
        refine a_istore_n X dX5_greatestOf_15 (i := 1) rfl (by decide) rfl ?_
        refine a_goto X dX5_greatestOf_16 (tgt := 2) (by decide) ?_
        exact ih (q &&& (q - 1)) (by omega) (by omega) ((e4 (fun z => hc7 (by rw [z]; exact nI_0))).trans hk)
  refine a_iload_n X dX5_greatestOf_0 (i := 0) rfl rfl ?_
  refine a_istore_n X dX5_greatestOf_1 (i := 1) rfl (by decide) rfl ?_
  exact L2 (a + 1) a (by omega) ha rfl
set_option maxRecDepth 100000 in
set_option maxHeartbeats 4000000 in
theorem c_X5_leastOf {l : Launch} {g : GG} {I : TI} {J : TJ} {F : TI} {w : Int64} {a : Nat} (ha : a < 1024) : UR l g mX5_leastOf [.int (nI a)] I J F w (.int (nI (lsn a))) I J F w := by
  refine ct_start (M := mX5_leastOf) (by decide +kernel) (Nat.le_of_ble_eq_true rfl) ?_
  intro p e s m args below meth c A X hA
  have X : AX p s m args meth c g A cX5_leastOf 1 RX5 (Cond.code yX5_leastOf cX5_leastOf 1 (some .int)) (some .int) := X
  show AW p l e (rmM 0 0) s m args below meth c g A 1 0 0 (MQ below (CQ g (hp g I J F w) s.heap.size (fun vv0 hh0 => vv0 = some (.int (nI (lsn a))) ∧ hh0 = hp g I J F w)) args s 0 0 A) 0 [some (.int (nI a))] [] (hp g I J F w)
  refine a_iload_n X dX5_leastOf_0 (i := 0) rfl rfl ?_
  refine a_iload_n X dX5_leastOf_1 (i := 0) rfl rfl ?_
  refine a_ineg X dX5_leastOf_2 ?_
  refine a_iand X dX5_leastOf_3 ?_
  refine a_iret X hA dX5_leastOf_4 ⟨?_, ?_⟩
  · rw [(set_ls a ha).1]
  · rfl
set_option maxRecDepth 100000 in
set_option maxHeartbeats 4000000 in
theorem c_X5_whoIn {l : Launch} {g : GG} {I : TI} {J : TJ} {F : TI} {w : Int64} {R : Nat → Nat} (hR : I 44 = nr R) {a : Nat} (hn : R 1 ≤ 10) (ha : a < 2 ^ 31) (hs : ∀ m, m < R 1 → R (2 + 6 * m + 1) < 2 ^ 31) : UR l g mX5_whoIn [.ref (ga g 43), .int (nI a)] I J F w (.int (wI (who R a (R 1)))) I J F w := by
  have h1 : I 44 1 = nI (R 1) := by rw [hR]; rfl
  refine ct_start (M := mX5_whoIn) (by decide +kernel) (Nat.le_of_ble_eq_true rfl) ?_
  intro p e s m args below meth c A X hA
  have X : AX p s m args meth c g A cX5_whoIn 4 RX5 (Cond.code yX5_whoIn cX5_whoIn 4 (some .int)) (some .int) := X
  show AW p l e (rmM 1 22) s m args below meth c g A 4 0 0 (MQ below (CQ g (hp g I J F w) s.heap.size (fun vv0 hh0 => vv0 = some (.int (wI (who R a (R 1)))) ∧ hh0 = hp g I J F w)) args s 0 0 A) 0 [some (.ref (ga g 43)), some (.int (nI a)), none, none] [] (hp g I J F w)
  have L4 : ∀ (fu : Nat) (k : Nat), R 1 - k < fu → (k ≤ R 1) → AW p l e (rmM 1 22) s m args below meth c g A 4 0 0 (MQ below (CQ g (hp g I J F w) s.heap.size (fun vv0 hh0 => vv0 = some (.int (wI (who R a (R 1)))) ∧ hh0 = hp g I J F w)) args s 0 0 A) 4 [some (.ref (ga g 43)), some (.int (nI a)), some (.int (wI (who R a k))), some (.int (nI k))] [] (hp g I J F w) := by
    intro fu
    induction fu with
    | zero => intro k hfu; exact absurd hfu (by omega)
    | succ fu ih =>
      intro k hfu hk
      refine a_iload_n X dX5_whoIn_4 (i := 3) rfl rfl ?_
      refine a_aload_n X dX5_whoIn_5 (i := 0) rfl rfl ?_
      refine s_getr X dX5_whoIn_6 fl_X5_7 ko_43 rfl ?_
      refine a_iconst X dX5_whoIn_9 (v := nI 1) (by decide +kernel) ?_
      refine s_ild X dX5_whoIn_10 ki_44 (by omega) (by decide) ?_
      rw [h1]
      refine s_icmp_geN X dX5_whoIn_11 (tgt := 36) (by decide) (by omega) (by omega) (fun hc11 => ?_) (fun hc11 => ?_)
      · skip
        have hk2 : k = R 1 := by omega
        subst hk2
        refine a_iload_n X dX5_whoIn_36 (i := 2) rfl rfl ?_
        exact a_iret X hA dX5_whoIn_37 ⟨rfl, rfl⟩
      · skip
        refine a_aload_n X dX5_whoIn_14 (i := 0) rfl rfl ?_
        refine a_iload_n X dX5_whoIn_15 (i := 3) rfl rfl ?_
        refine a_iconst X dX5_whoIn_16 (v := nI 1) (by decide +kernel) ?_
        refine s_callV_R X dX5_whoIn_17 lk_X5_55 ko_43 rfl rfl (c_X5_its hR (by omega)) ⟨Nat.le_of_ble_eq_true rfl, Nat.le_of_ble_eq_true rfl⟩ rfl rfl (Nat.le_of_ble_eq_true rfl) ⟨Nat.le_of_ble_eq_true rfl, Nat.le_of_ble_eq_true rfl⟩ ?_
        refine a_iload_n X dX5_whoIn_20 (i := 1) rfl rfl ?_
        refine s_icmp_neN X dX5_whoIn_21 (tgt := 28) (by decide) (hs k (by omega)) ha (fun hc21 => ?_) (fun hc21 => ?_)
        · skip
          refine a_iload_n X dX5_whoIn_28 (i := 2) rfl rfl ?_
          refine a_istore_n X dX5_whoIn_29 (i := 2) rfl (by decide) rfl ?_
          refine a_iinc X dX5_whoIn_30 rfl (v := nI (_ + 1)) (iincN _ 1) (by decide) rfl ?_
          refine a_goto X dX5_whoIn_33 (tgt := 4) (by decide) ?_
          exact (by have := ih (k + 1) (by omega) (by omega); simpa [who, wI, *] using this)
        · skip
          refine a_iload_n X dX5_whoIn_24 (i := 3) rfl rfl ?_
          refine a_goto X dX5_whoIn_25 (tgt := 29) (by decide) ?_
          refine a_istore_n X dX5_whoIn_29 (i := 2) rfl (by decide) rfl ?_
          refine a_iinc X dX5_whoIn_30 rfl (v := nI (_ + 1)) (iincN _ 1) (by decide) rfl ?_
          refine a_goto X dX5_whoIn_33 (tgt := 4) (by decide) ?_
          exact (by have := ih (k + 1) (by omega) (by omega); simpa [who, wI, *] using this)
  refine a_iconst X dX5_whoIn_0 (v := (-1)) (by decide +kernel) ?_
  refine a_istore_n X dX5_whoIn_1 (i := 2) rfl (by decide) rfl ?_
  refine a_iconst X dX5_whoIn_2 (v := nI 0) (by decide +kernel) ?_
  refine a_istore_n X dX5_whoIn_3 (i := 3) rfl (by decide) rfl ?_
  exact L4 (R 1 + 1) 0 (by omega) (by omega)
set_option maxRecDepth 100000 in
set_option maxHeartbeats 4000000 in
theorem c_X5_seatsTaken {l : Launch} {g : GG} {I : TI} {J : TJ} {F : TI} {w : Int64} {R : Nat → Nat} (hR : I 44 = nr R) (hn : R 1 ≤ 10) : UR l g mX5_seatsTaken [.ref (ga g 43)] I J F w (.int (orF (fun m => nI 1 <<< (nI (R (2 + 6 * m + 1)) &&& 31)) (R 1))) I J F w := by
  have h1 : I 44 1 = nI (R 1) := by rw [hR]; rfl
  refine ct_start (M := mX5_seatsTaken) (by decide +kernel) (Nat.le_of_ble_eq_true rfl) ?_
  intro p e s m args below meth c A X hA
  have X : AX p s m args meth c g A cX5_seatsTaken 3 RX5 (Cond.code yX5_seatsTaken cX5_seatsTaken 3 (some .int)) (some .int) := X
  show AW p l e (rmM 1 22) s m args below meth c g A 3 0 0 (MQ below (CQ g (hp g I J F w) s.heap.size (fun vv0 hh0 => vv0 = some (.int (orF (fun m => nI 1 <<< (nI (R (2 + 6 * m + 1)) &&& 31)) (R 1))) ∧ hh0 = hp g I J F w)) args s 0 0 A) 0 [some (.ref (ga g 43)), none, none] [] (hp g I J F w)
  have L4 : ∀ (fu : Nat) (k : Nat), R 1 - k < fu → (k ≤ R 1) → AW p l e (rmM 1 22) s m args below meth c g A 3 0 0 (MQ below (CQ g (hp g I J F w) s.heap.size (fun vv0 hh0 => vv0 = some (.int (orF (fun m => nI 1 <<< (nI (R (2 + 6 * m + 1)) &&& 31)) (R 1))) ∧ hh0 = hp g I J F w)) args s 0 0 A) 4 [some (.ref (ga g 43)), some (.int (orF (fun m => nI 1 <<< (nI (R (2 + 6 * m + 1)) &&& 31)) k)), some (.int (nI k))] [] (hp g I J F w) := by
    intro fu
    induction fu with
    | zero => intro k hfu; exact absurd hfu (by omega)
    | succ fu ih =>
      intro k hfu hk
      refine a_iload_n X dX5_seatsTaken_4 (i := 2) rfl rfl ?_
      refine a_aload_n X dX5_seatsTaken_5 (i := 0) rfl rfl ?_
      refine s_getr X dX5_seatsTaken_6 fl_X5_7 ko_43 rfl ?_
      refine a_iconst X dX5_seatsTaken_9 (v := nI 1) (by decide +kernel) ?_
      refine s_ild X dX5_seatsTaken_10 ki_44 (by omega) (by decide) ?_
      rw [h1]
      refine s_icmp_geN X dX5_seatsTaken_11 (tgt := 31) (by decide) (by omega) (by omega) (fun hc11 => ?_) (fun hc11 => ?_)
      · skip
        have hk2 : k = R 1 := by omega
        subst hk2
        refine a_iload_n X dX5_seatsTaken_31 (i := 1) rfl rfl ?_
        exact a_iret X hA dX5_seatsTaken_32 ⟨rfl, rfl⟩
      · skip
        refine a_iload_n X dX5_seatsTaken_14 (i := 1) rfl rfl ?_
        refine a_iconst X dX5_seatsTaken_15 (v := nI 1) (by decide +kernel) ?_
        refine a_aload_n X dX5_seatsTaken_16 (i := 0) rfl rfl ?_
        refine a_iload_n X dX5_seatsTaken_17 (i := 2) rfl rfl ?_
        refine a_iconst X dX5_seatsTaken_18 (v := nI 1) (by decide +kernel) ?_
        refine s_callV_R X dX5_seatsTaken_19 lk_X5_55 ko_43 rfl rfl (c_X5_its hR (by omega)) ⟨Nat.le_of_ble_eq_true rfl, Nat.le_of_ble_eq_true rfl⟩ rfl rfl (Nat.le_of_ble_eq_true rfl) ⟨Nat.le_of_ble_eq_true rfl, Nat.le_of_ble_eq_true rfl⟩ ?_
        refine a_ishl X dX5_seatsTaken_22 ?_
        refine a_ior X dX5_seatsTaken_23 ?_
        refine a_istore_n X dX5_seatsTaken_24 (i := 1) rfl (by decide) rfl ?_
        refine a_iinc X dX5_seatsTaken_25 rfl (v := nI (_ + 1)) (iincN _ 1) (by decide) rfl ?_
        refine a_goto X dX5_seatsTaken_28 (tgt := 4) (by decide) ?_
        exact ih (k + 1) (by omega) (by omega)
  refine a_iconst X dX5_seatsTaken_0 (v := nI 0) (by decide +kernel) ?_
  refine a_istore_n X dX5_seatsTaken_1 (i := 1) rfl (by decide) rfl ?_
  refine a_iconst X dX5_seatsTaken_2 (v := nI 0) (by decide +kernel) ?_
  refine a_istore_n X dX5_seatsTaken_3 (i := 2) rfl (by decide) rfl ?_
  exact L4 (R 1 + 1) 0 (by omega) (by omega)
set_option maxRecDepth 100000 in
set_option maxHeartbeats 4000000 in
theorem c_X5_standing {l : Launch} {g : GG} {I : TI} {J : TJ} {F : TI} {w : Int64} {R : Nat → Nat} (hR : I 44 = nr R) (hn : R 1 ≤ 10) : UR l g mX5_standing [.ref (ga g 43)] I J F w (.int (orF (fun m => nI 1 <<< (nI (R (2 + 6 * m + 2)) &&& 31)) (R 1))) I J F w := by
  have h1 : I 44 1 = nI (R 1) := by rw [hR]; rfl
  refine ct_start (M := mX5_standing) (by decide +kernel) (Nat.le_of_ble_eq_true rfl) ?_
  intro p e s m args below meth c A X hA
  have X : AX p s m args meth c g A cX5_standing 3 RX5 (Cond.code yX5_standing cX5_standing 3 (some .int)) (some .int) := X
  show AW p l e (rmM 1 22) s m args below meth c g A 3 0 0 (MQ below (CQ g (hp g I J F w) s.heap.size (fun vv0 hh0 => vv0 = some (.int (orF (fun m => nI 1 <<< (nI (R (2 + 6 * m + 2)) &&& 31)) (R 1))) ∧ hh0 = hp g I J F w)) args s 0 0 A) 0 [some (.ref (ga g 43)), none, none] [] (hp g I J F w)
  have L4 : ∀ (fu : Nat) (k : Nat), R 1 - k < fu → (k ≤ R 1) → AW p l e (rmM 1 22) s m args below meth c g A 3 0 0 (MQ below (CQ g (hp g I J F w) s.heap.size (fun vv0 hh0 => vv0 = some (.int (orF (fun m => nI 1 <<< (nI (R (2 + 6 * m + 2)) &&& 31)) (R 1))) ∧ hh0 = hp g I J F w)) args s 0 0 A) 4 [some (.ref (ga g 43)), some (.int (orF (fun m => nI 1 <<< (nI (R (2 + 6 * m + 2)) &&& 31)) k)), some (.int (nI k))] [] (hp g I J F w) := by
    intro fu
    induction fu with
    | zero => intro k hfu; exact absurd hfu (by omega)
    | succ fu ih =>
      intro k hfu hk
      refine a_iload_n X dX5_standing_4 (i := 2) rfl rfl ?_
      refine a_aload_n X dX5_standing_5 (i := 0) rfl rfl ?_
      refine s_getr X dX5_standing_6 fl_X5_7 ko_43 rfl ?_
      refine a_iconst X dX5_standing_9 (v := nI 1) (by decide +kernel) ?_
      refine s_ild X dX5_standing_10 ki_44 (by omega) (by decide) ?_
      rw [h1]
      refine s_icmp_geN X dX5_standing_11 (tgt := 31) (by decide) (by omega) (by omega) (fun hc11 => ?_) (fun hc11 => ?_)
      · skip
        have hk2 : k = R 1 := by omega
        subst hk2
        refine a_iload_n X dX5_standing_31 (i := 1) rfl rfl ?_
        exact a_iret X hA dX5_standing_32 ⟨rfl, rfl⟩
      · skip
        refine a_iload_n X dX5_standing_14 (i := 1) rfl rfl ?_
        refine a_iconst X dX5_standing_15 (v := nI 1) (by decide +kernel) ?_
        refine a_aload_n X dX5_standing_16 (i := 0) rfl rfl ?_
        refine a_iload_n X dX5_standing_17 (i := 2) rfl rfl ?_
        refine a_iconst X dX5_standing_18 (v := nI 2) (by decide +kernel) ?_
        refine s_callV_R X dX5_standing_19 lk_X5_55 ko_43 rfl rfl (c_X5_its hR (by omega)) ⟨Nat.le_of_ble_eq_true rfl, Nat.le_of_ble_eq_true rfl⟩ rfl rfl (Nat.le_of_ble_eq_true rfl) ⟨Nat.le_of_ble_eq_true rfl, Nat.le_of_ble_eq_true rfl⟩ ?_
        refine a_ishl X dX5_standing_22 ?_
        refine a_ior X dX5_standing_23 ?_
        refine a_istore_n X dX5_standing_24 (i := 1) rfl (by decide) rfl ?_
        refine a_iinc X dX5_standing_25 rfl (v := nI (_ + 1)) (iincN _ 1) (by decide) rfl ?_
        refine a_goto X dX5_standing_28 (tgt := 4) (by decide) ?_
        exact ih (k + 1) (by omega) (by omega)
  refine a_iconst X dX5_standing_0 (v := nI 0) (by decide +kernel) ?_
  refine a_istore_n X dX5_standing_1 (i := 1) rfl (by decide) rfl ?_
  refine a_iconst X dX5_standing_2 (v := nI 0) (by decide +kernel) ?_
  refine a_istore_n X dX5_standing_3 (i := 2) rfl (by decide) rfl ?_
  exact L4 (R 1 + 1) 0 (by omega) (by omega)
set_option maxRecDepth 100000 in
set_option maxHeartbeats 4000000 in
theorem c_X5_known {l : Launch} {g : GG} {I : TI} {J : TJ} {F : TI} {w : Int64} {R : Nat → Nat} (hR : I 44 = nr R) (hn : R 1 ≤ 10) : UR l g mX5_known [.ref (ga g 43)] I J F w (.int (orF (fun m => nI (R (2 + 6 * m + 4))) (R 1))) I J F w := by
  have h1 : I 44 1 = nI (R 1) := by rw [hR]; rfl
  refine ct_start (M := mX5_known) (by decide +kernel) (Nat.le_of_ble_eq_true rfl) ?_
  intro p e s m args below meth c A X hA
  have X : AX p s m args meth c g A cX5_known 3 RX5 (Cond.code yX5_known cX5_known 3 (some .int)) (some .int) := X
  show AW p l e (rmM 1 22) s m args below meth c g A 3 0 0 (MQ below (CQ g (hp g I J F w) s.heap.size (fun vv0 hh0 => vv0 = some (.int (orF (fun m => nI (R (2 + 6 * m + 4))) (R 1))) ∧ hh0 = hp g I J F w)) args s 0 0 A) 0 [some (.ref (ga g 43)), none, none] [] (hp g I J F w)
  have L4 : ∀ (fu : Nat) (k : Nat), R 1 - k < fu → (k ≤ R 1) → AW p l e (rmM 1 22) s m args below meth c g A 3 0 0 (MQ below (CQ g (hp g I J F w) s.heap.size (fun vv0 hh0 => vv0 = some (.int (orF (fun m => nI (R (2 + 6 * m + 4))) (R 1))) ∧ hh0 = hp g I J F w)) args s 0 0 A) 4 [some (.ref (ga g 43)), some (.int (orF (fun m => nI (R (2 + 6 * m + 4))) k)), some (.int (nI k))] [] (hp g I J F w) := by
    intro fu
    induction fu with
    | zero => intro k hfu; exact absurd hfu (by omega)
    | succ fu ih =>
      intro k hfu hk
      refine a_iload_n X dX5_known_4 (i := 2) rfl rfl ?_
      refine a_aload_n X dX5_known_5 (i := 0) rfl rfl ?_
      refine s_getr X dX5_known_6 fl_X5_7 ko_43 rfl ?_
      refine a_iconst X dX5_known_9 (v := nI 1) (by decide +kernel) ?_
      refine s_ild X dX5_known_10 ki_44 (by omega) (by decide) ?_
      rw [h1]
      refine s_icmp_geN X dX5_known_11 (tgt := 29) (by decide) (by omega) (by omega) (fun hc11 => ?_) (fun hc11 => ?_)
      · skip
        have hk2 : k = R 1 := by omega
        subst hk2
        refine a_iload_n X dX5_known_29 (i := 1) rfl rfl ?_
        exact a_iret X hA dX5_known_30 ⟨rfl, rfl⟩
      · skip
        refine a_iload_n X dX5_known_14 (i := 1) rfl rfl ?_
        refine a_aload_n X dX5_known_15 (i := 0) rfl rfl ?_
        refine a_iload_n X dX5_known_16 (i := 2) rfl rfl ?_
        refine a_iconst X dX5_known_17 (v := nI 4) (by decide +kernel) ?_
        refine s_callV_R X dX5_known_18 lk_X5_55 ko_43 rfl rfl (c_X5_its hR (by omega)) ⟨Nat.le_of_ble_eq_true rfl, Nat.le_of_ble_eq_true rfl⟩ rfl rfl (Nat.le_of_ble_eq_true rfl) ⟨Nat.le_of_ble_eq_true rfl, Nat.le_of_ble_eq_true rfl⟩ ?_
        refine a_ior X dX5_known_21 ?_
        refine a_istore_n X dX5_known_22 (i := 1) rfl (by decide) rfl ?_
        refine a_iinc X dX5_known_23 rfl (v := nI (_ + 1)) (iincN _ 1) (by decide) rfl ?_
        refine a_goto X dX5_known_26 (tgt := 4) (by decide) ?_
        exact ih (k + 1) (by omega) (by omega)
  refine a_iconst X dX5_known_0 (v := nI 0) (by decide +kernel) ?_
  refine a_istore_n X dX5_known_1 (i := 1) rfl (by decide) rfl ?_
  refine a_iconst X dX5_known_2 (v := nI 0) (by decide +kernel) ?_
  refine a_istore_n X dX5_known_3 (i := 2) rfl (by decide) rfl ?_
  exact L4 (R 1 + 1) 0 (by omega) (by omega)
set_option maxRecDepth 100000 in
set_option maxHeartbeats 4000000 in
theorem c_X5_knownOfAll {l : Launch} {g : GG} {I : TI} {J : TJ} {F : TI} {w : Int64} {R : Nat → Nat} (hR : I 44 = nr R) (hq : ∀ m, m < R 1 → R (2 + 6 * m + 4) < 1024) (hn : R 1 ≤ 10) : UR l g mX5_knownOfAll [.ref (ga g 43)] I J F w (.int (sumF (fun m => nI (pcn (R (2 + 6 * m + 4)))) (R 1))) I J F w := by
  have h1 : I 44 1 = nI (R 1) := by rw [hR]; rfl
  refine ct_start (M := mX5_knownOfAll) (by decide +kernel) (Nat.le_of_ble_eq_true rfl) ?_
  intro p e s m args below meth c A X hA
  have X : AX p s m args meth c g A cX5_knownOfAll 3 RX5 (Cond.code yX5_knownOfAll cX5_knownOfAll 3 (some .int)) (some .int) := X
  show AW p l e (rmM 1 22) s m args below meth c g A 3 0 0 (MQ below (CQ g (hp g I J F w) s.heap.size (fun vv0 hh0 => vv0 = some (.int (sumF (fun m => nI (pcn (R (2 + 6 * m + 4)))) (R 1))) ∧ hh0 = hp g I J F w)) args s 0 0 A) 0 [some (.ref (ga g 43)), none, none] [] (hp g I J F w)
  have L4 : ∀ (fu : Nat) (k : Nat), R 1 - k < fu → (k ≤ R 1) → AW p l e (rmM 1 22) s m args below meth c g A 3 0 0 (MQ below (CQ g (hp g I J F w) s.heap.size (fun vv0 hh0 => vv0 = some (.int (sumF (fun m => nI (pcn (R (2 + 6 * m + 4)))) (R 1))) ∧ hh0 = hp g I J F w)) args s 0 0 A) 4 [some (.ref (ga g 43)), some (.int (sumF (fun m => nI (pcn (R (2 + 6 * m + 4)))) k)), some (.int (nI k))] [] (hp g I J F w) := by
    intro fu
    induction fu with
    | zero => intro k hfu; exact absurd hfu (by omega)
    | succ fu ih =>
      intro k hfu hk
      refine a_iload_n X dX5_knownOfAll_4 (i := 2) rfl rfl ?_
      refine a_aload_n X dX5_knownOfAll_5 (i := 0) rfl rfl ?_
      refine s_getr X dX5_knownOfAll_6 fl_X5_7 ko_43 rfl ?_
      refine a_iconst X dX5_knownOfAll_9 (v := nI 1) (by decide +kernel) ?_
      refine s_ild X dX5_knownOfAll_10 ki_44 (by omega) (by decide) ?_
      rw [h1]
      refine s_icmp_geN X dX5_knownOfAll_11 (tgt := 32) (by decide) (by omega) (by omega) (fun hc11 => ?_) (fun hc11 => ?_)
      · skip
        have hk2 : k = R 1 := by omega
        subst hk2
        refine a_iload_n X dX5_knownOfAll_32 (i := 1) rfl rfl ?_
        exact a_iret X hA dX5_knownOfAll_33 ⟨rfl, rfl⟩
      · skip
        refine a_iload_n X dX5_knownOfAll_14 (i := 1) rfl rfl ?_
        refine a_aload_n X dX5_knownOfAll_15 (i := 0) rfl rfl ?_
        refine a_iload_n X dX5_knownOfAll_16 (i := 2) rfl rfl ?_
        refine a_iconst X dX5_knownOfAll_17 (v := nI 4) (by decide +kernel) ?_
        refine s_callV_R X dX5_knownOfAll_18 lk_X5_55 ko_43 rfl rfl (c_X5_its hR (by omega)) ⟨Nat.le_of_ble_eq_true rfl, Nat.le_of_ble_eq_true rfl⟩ rfl rfl (Nat.le_of_ble_eq_true rfl) ⟨Nat.le_of_ble_eq_true rfl, Nat.le_of_ble_eq_true rfl⟩ ?_
        refine s_callS_R X dX5_knownOfAll_21 lk_X5_74 (c_X5_bits (hq k (by omega))) ⟨Nat.le_of_ble_eq_true rfl, Nat.le_of_ble_eq_true rfl⟩ rfl rfl (Nat.le_of_ble_eq_true rfl) ⟨Nat.le_of_ble_eq_true rfl, Nat.le_of_ble_eq_true rfl⟩ ?_
        refine a_iadd X dX5_knownOfAll_24 ?_
        refine a_istore_n X dX5_knownOfAll_25 (i := 1) rfl (by decide) rfl ?_
        refine a_iinc X dX5_knownOfAll_26 rfl (v := nI (_ + 1)) (iincN _ 1) (by decide) rfl ?_
        refine a_goto X dX5_knownOfAll_29 (tgt := 4) (by decide) ?_
        exact ih (k + 1) (by omega) (by omega)
  refine a_iconst X dX5_knownOfAll_0 (v := nI 0) (by decide +kernel) ?_
  refine a_istore_n X dX5_knownOfAll_1 (i := 1) rfl (by decide) rfl ?_
  refine a_iconst X dX5_knownOfAll_2 (v := nI 0) (by decide +kernel) ?_
  refine a_istore_n X dX5_knownOfAll_3 (i := 2) rfl (by decide) rfl ?_
  exact L4 (R 1 + 1) 0 (by omega) (by omega)
set_option maxRecDepth 100000 in
set_option maxHeartbeats 4000000 in
theorem c_X5_sumOf {l : Launch} {g : GG} {I : TI} {J : TJ} {F : TI} {w : Int64} {R : Nat → Nat} (hR : I 44 = nr R) {j : Nat} (hj : j < 6) (hn : R 1 ≤ 10) : UR l g mX5_sumOf [.ref (ga g 43), .int (nI j)] I J F w (.int (sumF (fun m => nI (R (2 + 6 * m + j))) (R 1))) I J F w := by
  have h1 : I 44 1 = nI (R 1) := by rw [hR]; rfl
  refine ct_start (M := mX5_sumOf) (by decide +kernel) (Nat.le_of_ble_eq_true rfl) ?_
  intro p e s m args below meth c A X hA
  have X : AX p s m args meth c g A cX5_sumOf 4 RX5 (Cond.code yX5_sumOf cX5_sumOf 4 (some .int)) (some .int) := X
  show AW p l e (rmM 1 22) s m args below meth c g A 4 0 0 (MQ below (CQ g (hp g I J F w) s.heap.size (fun vv0 hh0 => vv0 = some (.int (sumF (fun m => nI (R (2 + 6 * m + j))) (R 1))) ∧ hh0 = hp g I J F w)) args s 0 0 A) 0 [some (.ref (ga g 43)), some (.int (nI j)), none, none] [] (hp g I J F w)
  have L4 : ∀ (fu : Nat) (k : Nat), R 1 - k < fu → (k ≤ R 1) → AW p l e (rmM 1 22) s m args below meth c g A 4 0 0 (MQ below (CQ g (hp g I J F w) s.heap.size (fun vv0 hh0 => vv0 = some (.int (sumF (fun m => nI (R (2 + 6 * m + j))) (R 1))) ∧ hh0 = hp g I J F w)) args s 0 0 A) 4 [some (.ref (ga g 43)), some (.int (nI j)), some (.int (sumF (fun m => nI (R (2 + 6 * m + j))) k)), some (.int (nI k))] [] (hp g I J F w) := by
    intro fu
    induction fu with
    | zero => intro k hfu; exact absurd hfu (by omega)
    | succ fu ih =>
      intro k hfu hk
      refine a_iload_n X dX5_sumOf_4 (i := 3) rfl rfl ?_
      refine a_aload_n X dX5_sumOf_5 (i := 0) rfl rfl ?_
      refine s_getr X dX5_sumOf_6 fl_X5_7 ko_43 rfl ?_
      refine a_iconst X dX5_sumOf_9 (v := nI 1) (by decide +kernel) ?_
      refine s_ild X dX5_sumOf_10 ki_44 (by omega) (by decide) ?_
      rw [h1]
      refine s_icmp_geN X dX5_sumOf_11 (tgt := 29) (by decide) (by omega) (by omega) (fun hc11 => ?_) (fun hc11 => ?_)
      · skip
        have hk2 : k = R 1 := by omega
        subst hk2
        refine a_iload_n X dX5_sumOf_29 (i := 2) rfl rfl ?_
        exact a_iret X hA dX5_sumOf_30 ⟨rfl, rfl⟩
      · skip
        refine a_iload_n X dX5_sumOf_14 (i := 2) rfl rfl ?_
        refine a_aload_n X dX5_sumOf_15 (i := 0) rfl rfl ?_
        refine a_iload_n X dX5_sumOf_16 (i := 3) rfl rfl ?_
        refine a_iload_n X dX5_sumOf_17 (i := 1) rfl rfl ?_
        refine s_callV_R X dX5_sumOf_18 lk_X5_55 ko_43 rfl rfl (c_X5_its hR (by omega)) ⟨Nat.le_of_ble_eq_true rfl, Nat.le_of_ble_eq_true rfl⟩ rfl rfl (Nat.le_of_ble_eq_true rfl) ⟨Nat.le_of_ble_eq_true rfl, Nat.le_of_ble_eq_true rfl⟩ ?_
        refine a_iadd X dX5_sumOf_21 ?_
        refine a_istore_n X dX5_sumOf_22 (i := 2) rfl (by decide) rfl ?_
        refine a_iinc X dX5_sumOf_23 rfl (v := nI (_ + 1)) (iincN _ 1) (by decide) rfl ?_
        refine a_goto X dX5_sumOf_26 (tgt := 4) (by decide) ?_
        exact ih (k + 1) (by omega) (by omega)
  refine a_iconst X dX5_sumOf_0 (v := nI 0) (by decide +kernel) ?_
  refine a_istore_n X dX5_sumOf_1 (i := 2) rfl (by decide) rfl ?_
  refine a_iconst X dX5_sumOf_2 (v := nI 0) (by decide +kernel) ?_
  refine a_istore_n X dX5_sumOf_3 (i := 3) rfl (by decide) rfl ?_
  exact L4 (R 1 + 1) 0 (by omega) (by omega)
set_option maxRecDepth 100000 in
set_option maxHeartbeats 4000000 in
theorem c_X5_gaps {l : Launch} {g : GG} {I : TI} {J : TJ} {F : TI} {w : Int64} {R : Nat → Nat} (hR : I 44 = nr R) (hn : R 1 ≤ 10) : UR l g mX5_gaps [.ref (ga g 43)] I J F w (.int (gapF (orF (fun m => nI 1 <<< (nI (R (2 + 6 * m + 1)) &&& 31)) (R 1)) 12)) I J F w := by
  refine ct_start (M := mX5_gaps) (by decide +kernel) (Nat.le_of_ble_eq_true rfl) ?_
  intro p e s m args below meth c A X hA
  have X : AX p s m args meth c g A cX5_gaps 6 RX5 (Cond.code yX5_gaps cX5_gaps 6 (some .int)) (some .int) := X
  show AW p l e (rmM 2 44) s m args below meth c g A 6 0 0 (MQ below (CQ g (hp g I J F w) s.heap.size (fun vv0 hh0 => vv0 = some (.int (gapF (orF (fun m => nI 1 <<< (nI (R (2 + 6 * m + 1)) &&& 31)) (R 1)) 12)) ∧ hh0 = hp g I J F w)) args s 0 0 A) 0 [some (.ref (ga g 43)), none, none, none, none, none] [] (hp g I J F w)
  have L47 : ∀ (t : Int32) (k : Nat) (x4 : Int32) (x5 : Int32), (k < 12) → (AW p l e (rmM 2 44) s m args below meth c g A 6 0 0 (MQ below (CQ g (hp g I J F w) s.heap.size (fun vv0 hh0 => vv0 = some (.int (gapF (orF (fun m => nI 1 <<< (nI (R (2 + 6 * m + 1)) &&& 31)) (R 1)) 12)) ∧ hh0 = hp g I J F w)) args s 0 0 A) 9 [some (.ref (ga g 43)), some (.int t), some (.int (gapF t k ||| (if (t >>> (nI k &&& 31)) &&& nI 1 = 0 ∧ ¬ x4 = 0 ∧ ¬ x5 = 0 then nI 1 <<< (nI k &&& 31) else nI 0))), some (.int (nI (k + 1))), some (.int x4), some (.int x5)] [] (hp g I J F w)) → AW p l e (rmM 2 44) s m args below meth c g A 6 0 0 (MQ below (CQ g (hp g I J F w) s.heap.size (fun vv0 hh0 => vv0 = some (.int (gapF (orF (fun m => nI 1 <<< (nI (R (2 + 6 * m + 1)) &&& 31)) (R 1)) 12)) ∧ hh0 = hp g I J F w)) args s 0 0 A) 47 [some (.ref (ga g 43)), some (.int t), some (.int (gapF t k)), some (.int (nI k)), some (.int x4), some (.int x5)] [] (hp g I J F w) := by
    intro t k x4 x5 hk hnx
    refine a_iload_n X dX5_gaps_47 (i := 2) rfl rfl ?_
    refine a_iload_n X dX5_gaps_48 (i := 1) rfl rfl ?_
    refine a_iload_n X dX5_gaps_49 (i := 3) rfl rfl ?_
    refine a_ishr X dX5_gaps_50 ?_
    refine a_iconst X dX5_gaps_51 (v := nI 1) (by decide +kernel) ?_
    refine a_iand X dX5_gaps_52 ?_
    refine a_if_ne X dX5_gaps_53 (tgt := 72) (by decide) (fun hc53 => ?_) (fun hc53 => ?_)
    · skip
      refine a_iconst X dX5_gaps_72 (v := nI 0) (by decide +kernel) ?_
      refine a_ior X dX5_gaps_73 ?_
      refine a_istore_n X dX5_gaps_74 (i := 2) rfl (by decide) rfl ?_
      refine a_iinc X dX5_gaps_75 rfl (v := nI (_ + 1)) (iincN _ 1) (by decide) rfl ?_
      refine a_goto X dX5_gaps_78 (tgt := 9) (by decide) ?_
      exact (by first | (simpa [hc53] using hnx) | (simpa [hc53, hc58] using hnx) | (simpa [hc53, hc58, hc63] using hnx))
    · skip
      refine a_iload X dX5_gaps_56 rfl ?_
      refine a_if_eq X dX5_gaps_58 (tgt := 72) (by decide) (fun hc58 => ?_) (fun hc58 => ?_)
      · skip
        refine a_iconst X dX5_gaps_72 (v := nI 0) (by decide +kernel) ?_
        refine a_ior X dX5_gaps_73 ?_
        refine a_istore_n X dX5_gaps_74 (i := 2) rfl (by decide) rfl ?_
        refine a_iinc X dX5_gaps_75 rfl (v := nI (_ + 1)) (iincN _ 1) (by decide) rfl ?_
        refine a_goto X dX5_gaps_78 (tgt := 9) (by decide) ?_
        exact (by first | (simpa [hc53] using hnx) | (simpa [hc53, hc58] using hnx) | (simpa [hc53, hc58, hc63] using hnx))
      · skip
        refine a_iload X dX5_gaps_61 rfl ?_
        refine a_if_eq X dX5_gaps_63 (tgt := 72) (by decide) (fun hc63 => ?_) (fun hc63 => ?_)
        · skip
          refine a_iconst X dX5_gaps_72 (v := nI 0) (by decide +kernel) ?_
          refine a_ior X dX5_gaps_73 ?_
          refine a_istore_n X dX5_gaps_74 (i := 2) rfl (by decide) rfl ?_
          refine a_iinc X dX5_gaps_75 rfl (v := nI (_ + 1)) (iincN _ 1) (by decide) rfl ?_
          refine a_goto X dX5_gaps_78 (tgt := 9) (by decide) ?_
          exact (by first | (simpa [hc53] using hnx) | (simpa [hc53, hc58] using hnx) | (simpa [hc53, hc58, hc63] using hnx))
        · skip
          refine a_iconst X dX5_gaps_66 (v := nI 1) (by decide +kernel) ?_
          refine a_iload_n X dX5_gaps_67 (i := 3) rfl rfl ?_
          refine a_ishl X dX5_gaps_68 ?_
          refine a_goto X dX5_gaps_69 (tgt := 73) (by decide) ?_
          refine a_ior X dX5_gaps_73 ?_
          refine a_istore_n X dX5_gaps_74 (i := 2) rfl (by decide) rfl ?_
          refine a_iinc X dX5_gaps_75 rfl (v := nI (_ + 1)) (iincN _ 1) (by decide) rfl ?_
          refine a_goto X dX5_gaps_78 (tgt := 9) (by decide) ?_
          exact (by first | (simpa [hc53] using hnx) | (simpa [hc53, hc58] using hnx) | (simpa [hc53, hc58, hc63] using hnx))
  have L9 : ∀ (fu : Nat) (t : Int32) (k : Nat), 12 - k < fu → (t = orF (fun m => nI 1 <<< (nI (R (2 + 6 * m + 1)) &&& 31)) (R 1)) → (k ≤ 12) → AW p l e (rmM 2 44) s m args below meth c g A 6 0 0 (MQ below (CQ g (hp g I J F w) s.heap.size (fun vv0 hh0 => vv0 = some (.int (gapF (orF (fun m => nI 1 <<< (nI (R (2 + 6 * m + 1)) &&& 31)) (R 1)) 12)) ∧ hh0 = hp g I J F w)) args s 0 0 A) 9 [some (.ref (ga g 43)), some (.int t), some (.int (gapF t k)), some (.int (nI k)), none, none] [] (hp g I J F w) := by
    intro fu
    induction fu with
    | zero => intro t k hfu; exact absurd hfu (by omega)
    | succ fu ih =>
      intro t k hfu ht hk
      refine a_iload_n X dX5_gaps_9 (i := 3) rfl rfl ?_
      refine a_bipush X dX5_gaps_10 (v := nI 12) (by decide +kernel) ?_
      refine s_icmp_geN X dX5_gaps_12 (tgt := 81) (by decide) (by omega) (by omega) (fun hc12 => ?_) (fun hc12 => ?_)
      · skip
        have hk2 : k = 12 := by omega
        subst hk2
        refine a_iload_n X dX5_gaps_81 (i := 2) rfl rfl ?_
        refine a_iret X hA dX5_gaps_82 ⟨?_, ?_⟩
        · rw [ht]
        · rfl
      · skip
        refine a_iload_n X dX5_gaps_15 (i := 1) rfl rfl ?_
        refine a_iconst X dX5_gaps_16 (v := nI 1) (by decide +kernel) ?_
        refine a_iload_n X dX5_gaps_17 (i := 3) rfl rfl ?_
        refine a_ishl X dX5_gaps_18 ?_
        refine a_iconst X dX5_gaps_19 (v := nI 1) (by decide +kernel) ?_
        refine a_isub X dX5_gaps_20 ?_
        refine a_iand X dX5_gaps_21 ?_
        refine a_if_eq X dX5_gaps_22 (tgt := 29) (by decide) (fun hc22 => ?_) (fun hc22 => ?_)
        · skip
          refine a_iconst X dX5_gaps_29 (v := nI 0) (by decide +kernel) ?_
          refine a_istore X dX5_gaps_30 (by decide) rfl ?_
          refine a_iload_n X dX5_gaps_32 (i := 1) rfl rfl ?_
          refine a_iload_n X dX5_gaps_33 (i := 3) rfl rfl ?_
          refine a_iconst X dX5_gaps_34 (v := nI 1) (by decide +kernel) ?_
          refine s_iaddN X dX5_gaps_35 ?_
          refine a_ishr X dX5_gaps_36 ?_
          refine a_if_eq X dX5_gaps_37 (tgt := 44) (by decide) (fun hc37 => ?_) (fun hc37 => ?_)
          · skip
            refine a_iconst X dX5_gaps_44 (v := nI 0) (by decide +kernel) ?_
            refine a_istore X dX5_gaps_45 (by decide) rfl ?_
            exact L47 t k _ _ (by omega) (by
        rw [← gap_step (by first | exact fl1 hc22 | exact fl0 hc22) (by first | exact fl1 hc37 | exact fl0 hc37)]
        exact s_dropAt 4 (s_dropAt 5 (ih t (k + 1) (by omega) ht (by omega))))
          · skip
            refine a_iconst X dX5_gaps_40 (v := nI 1) (by decide +kernel) ?_
            refine a_goto X dX5_gaps_41 (tgt := 45) (by decide) ?_
            refine a_istore X dX5_gaps_45 (by decide) rfl ?_
            exact L47 t k _ _ (by omega) (by
        rw [← gap_step (by first | exact fl1 hc22 | exact fl0 hc22) (by first | exact fl1 hc37 | exact fl0 hc37)]
        exact s_dropAt 4 (s_dropAt 5 (ih t (k + 1) (by omega) ht (by omega))))
        · skip
          refine a_iconst X dX5_gaps_25 (v := nI 1) (by decide +kernel) ?_
          refine a_goto X dX5_gaps_26 (tgt := 30) (by decide) ?_
          refine a_istore X dX5_gaps_30 (by decide) rfl ?_
          refine a_iload_n X dX5_gaps_32 (i := 1) rfl rfl ?_
          refine a_iload_n X dX5_gaps_33 (i := 3) rfl rfl ?_
          refine a_iconst X dX5_gaps_34 (v := nI 1) (by decide +kernel) ?_
          refine s_iaddN X dX5_gaps_35 ?_
          refine a_ishr X dX5_gaps_36 ?_
          refine a_if_eq X dX5_gaps_37 (tgt := 44) (by decide) (fun hc37 => ?_) (fun hc37 => ?_)
          · skip
            refine a_iconst X dX5_gaps_44 (v := nI 0) (by decide +kernel) ?_
            refine a_istore X dX5_gaps_45 (by decide) rfl ?_
            exact L47 t k _ _ (by omega) (by
        rw [← gap_step (by first | exact fl1 hc22 | exact fl0 hc22) (by first | exact fl1 hc37 | exact fl0 hc37)]
        exact s_dropAt 4 (s_dropAt 5 (ih t (k + 1) (by omega) ht (by omega))))
          · skip
            refine a_iconst X dX5_gaps_40 (v := nI 1) (by decide +kernel) ?_
            refine a_goto X dX5_gaps_41 (tgt := 45) (by decide) ?_
            refine a_istore X dX5_gaps_45 (by decide) rfl ?_
            exact L47 t k _ _ (by omega) (by
        rw [← gap_step (by first | exact fl1 hc22 | exact fl0 hc22) (by first | exact fl1 hc37 | exact fl0 hc37)]
        exact s_dropAt 4 (s_dropAt 5 (ih t (k + 1) (by omega) ht (by omega))))
  refine a_aload_n X dX5_gaps_0 (i := 0) rfl rfl ?_
  refine s_callV_R X dX5_gaps_1 lk_X5_70 ko_43 rfl rfl (c_X5_seatsTaken hR hn) ⟨Nat.le_of_ble_eq_true rfl, Nat.le_of_ble_eq_true rfl⟩ rfl rfl (Nat.le_of_ble_eq_true rfl) ⟨Nat.le_of_ble_eq_true rfl, Nat.le_of_ble_eq_true rfl⟩ ?_
  refine a_istore_n X dX5_gaps_4 (i := 1) rfl (by decide) rfl ?_
  refine a_iconst X dX5_gaps_5 (v := nI 0) (by decide +kernel) ?_
  refine a_istore_n X dX5_gaps_6 (i := 2) rfl (by decide) rfl ?_
  refine a_iconst X dX5_gaps_7 (v := nI 0) (by decide +kernel) ?_
  refine a_istore_n X dX5_gaps_8 (i := 3) rfl (by decide) rfl ?_
  exact L9 13 _ 0 (by omega) rfl (by omega)
end
