section
-- ===== PART A: goes FIRST, ahead of the names: the tables' words, and 'selects' of the private methods out of them =====
/-- a private method of a class that the tables say can be made, by its rows of tables_1 -/
def lw_okq (q : MethodName × Nat) : Prop := (q.1.cls ≠ "java/lang/invoke/MethodHandle" ∧ q.1.cls ≠ "java/lang/invoke/VarHandle") ∧ Cond.instantiable q.1.cls q.2 ∈ tables_1 ∧ Cond.privateMethod q.1 ∈ tables_1 ∧ Cond.instanceMethod q.1 ∈ tables_1
theorem lw_p0 : lw_okq (⟨"PulseBoard", "forgetPlaces", "()V"⟩, 5) := ⟨⟨by decide +kernel, by decide +kernel⟩, List.mem_of_getElem? (i := 13) (by decide +kernel), List.mem_of_getElem? (i := 234) (by decide +kernel), List.mem_of_getElem? (i := 235) (by decide +kernel)⟩
theorem lw_p1 : lw_okq (⟨"PulseBoard", "reason", "()I"⟩, 5) := ⟨⟨by decide +kernel, by decide +kernel⟩, List.mem_of_getElem? (i := 13) (by decide +kernel), List.mem_of_getElem? (i := 307) (by decide +kernel), List.mem_of_getElem? (i := 308) (by decide +kernel)⟩
theorem lw_p2 : lw_okq (⟨"PulseBoard$Plan", "timesStep", "(ILPulseBoard$Sum;I)I"⟩, 2) := ⟨⟨by decide +kernel, by decide +kernel⟩, List.mem_of_getElem? (i := 75) (by decide +kernel), List.mem_of_getElem? (i := 326) (by decide +kernel), List.mem_of_getElem? (i := 327) (by decide +kernel)⟩
theorem lw_p3 : lw_okq (⟨"PulseBoard", "settle", "()V"⟩, 5) := ⟨⟨by decide +kernel, by decide +kernel⟩, List.mem_of_getElem? (i := 13) (by decide +kernel), List.mem_of_getElem? (i := 339) (by decide +kernel), List.mem_of_getElem? (i := 340) (by decide +kernel)⟩
theorem lw_p4 : lw_okq (⟨"PulseBoard$Places", "layPoints", "(LPulseBoard$Sum;LPulseBoard$Plan;)V"⟩, 11) := ⟨⟨by decide +kernel, by decide +kernel⟩, List.mem_of_getElem? (i := 92) (by decide +kernel), List.mem_of_getElem? (i := 347) (by decide +kernel), List.mem_of_getElem? (i := 348) (by decide +kernel)⟩
theorem lw_p5 : lw_okq (⟨"PulseBoard$Places", "link", "(I)V"⟩, 11) := ⟨⟨by decide +kernel, by decide +kernel⟩, List.mem_of_getElem? (i := 92) (by decide +kernel), List.mem_of_getElem? (i := 369) (by decide +kernel), List.mem_of_getElem? (i := 370) (by decide +kernel)⟩
theorem lw_p6 : lw_okq (⟨"PulseBoard$Places", "cellKey", "(I)I"⟩, 11) := ⟨⟨by decide +kernel, by decide +kernel⟩, List.mem_of_getElem? (i := 92) (by decide +kernel), List.mem_of_getElem? (i := 373) (by decide +kernel), List.mem_of_getElem? (i := 374) (by decide +kernel)⟩
theorem lw_p7 : lw_okq (⟨"PulseBoard$Places", "metBy", "(I)I"⟩, 11) := ⟨⟨by decide +kernel, by decide +kernel⟩, List.mem_of_getElem? (i := 92) (by decide +kernel), List.mem_of_getElem? (i := 377) (by decide +kernel), List.mem_of_getElem? (i := 378) (by decide +kernel)⟩
theorem lw_p8 : lw_okq (⟨"PulseBoard", "culprit", "(I)I"⟩, 5) := ⟨⟨by decide +kernel, by decide +kernel⟩, List.mem_of_getElem? (i := 13) (by decide +kernel), List.mem_of_getElem? (i := 381) (by decide +kernel), List.mem_of_getElem? (i := 382) (by decide +kernel)⟩
theorem lw_p9 : lw_okq (⟨"PulseBoard$Places", "markBetween", "(I)V"⟩, 11) := ⟨⟨by decide +kernel, by decide +kernel⟩, List.mem_of_getElem? (i := 92) (by decide +kernel), List.mem_of_getElem? (i := 398) (by decide +kernel), List.mem_of_getElem? (i := 399) (by decide +kernel)⟩
theorem lw_p10 : lw_okq (⟨"PulseBoard$Places", "isFree", "(I)Z"⟩, 11) := ⟨⟨by decide +kernel, by decide +kernel⟩, List.mem_of_getElem? (i := 92) (by decide +kernel), List.mem_of_getElem? (i := 403) (by decide +kernel), List.mem_of_getElem? (i := 404) (by decide +kernel)⟩
theorem lw_p11 : lw_okq (⟨"PulseBoard$Search", "spell", "(III)V"⟩, 6) := ⟨⟨by decide +kernel, by decide +kernel⟩, List.mem_of_getElem? (i := 144) (by decide +kernel), List.mem_of_getElem? (i := 426) (by decide +kernel), List.mem_of_getElem? (i := 427) (by decide +kernel)⟩
theorem lw_p12 : lw_okq (⟨"PulseBoard$Search", "tryLines", "(LPulseBoard$Sum;III)V"⟩, 6) := ⟨⟨by decide +kernel, by decide +kernel⟩, List.mem_of_getElem? (i := 144) (by decide +kernel), List.mem_of_getElem? (i := 437) (by decide +kernel), List.mem_of_getElem? (i := 438) (by decide +kernel)⟩
theorem lw_p13 : lw_okq (⟨"PulseBoard$Search", "consider", "(LPulseBoard$Sum;I)V"⟩, 6) := ⟨⟨by decide +kernel, by decide +kernel⟩, List.mem_of_getElem? (i := 144) (by decide +kernel), List.mem_of_getElem? (i := 441) (by decide +kernel), List.mem_of_getElem? (i := 442) (by decide +kernel)⟩
theorem lw_p14 : lw_okq (⟨"PulseBoard$Search", "countCells", "(LPulseBoard$Sum;)I"⟩, 6) := ⟨⟨by decide +kernel, by decide +kernel⟩, List.mem_of_getElem? (i := 144) (by decide +kernel), List.mem_of_getElem? (i := 446) (by decide +kernel), List.mem_of_getElem? (i := 447) (by decide +kernel)⟩
theorem lw_p15 : lw_okq (⟨"PulseBoard$Search", "findAcross", "(II)Z"⟩, 6) := ⟨⟨by decide +kernel, by decide +kernel⟩, List.mem_of_getElem? (i := 144) (by decide +kernel), List.mem_of_getElem? (i := 450) (by decide +kernel), List.mem_of_getElem? (i := 451) (by decide +kernel)⟩
def lw_privs_1 : List (MethodName × Nat) := [(⟨"PulseBoard", "forgetPlaces", "()V"⟩, 5), (⟨"PulseBoard", "reason", "()I"⟩, 5), (⟨"PulseBoard$Plan", "timesStep", "(ILPulseBoard$Sum;I)I"⟩, 2), (⟨"PulseBoard", "settle", "()V"⟩, 5), (⟨"PulseBoard$Places", "layPoints", "(LPulseBoard$Sum;LPulseBoard$Plan;)V"⟩, 11), (⟨"PulseBoard$Places", "link", "(I)V"⟩, 11), (⟨"PulseBoard$Places", "cellKey", "(I)I"⟩, 11), (⟨"PulseBoard$Places", "metBy", "(I)I"⟩, 11), (⟨"PulseBoard", "culprit", "(I)I"⟩, 5), (⟨"PulseBoard$Places", "markBetween", "(I)V"⟩, 11), (⟨"PulseBoard$Places", "isFree", "(I)Z"⟩, 11), (⟨"PulseBoard$Search", "spell", "(III)V"⟩, 6), (⟨"PulseBoard$Search", "tryLines", "(LPulseBoard$Sum;III)V"⟩, 6), (⟨"PulseBoard$Search", "consider", "(LPulseBoard$Sum;I)V"⟩, 6), (⟨"PulseBoard$Search", "countCells", "(LPulseBoard$Sum;)I"⟩, 6), (⟨"PulseBoard$Search", "findAcross", "(II)Z"⟩, 6)]
theorem lw_r1 : ∀ q ∈ lw_privs_1, lw_okq q := List.forall_mem_cons.mpr ⟨lw_p0, List.forall_mem_cons.mpr ⟨lw_p1, List.forall_mem_cons.mpr ⟨lw_p2, List.forall_mem_cons.mpr ⟨lw_p3, List.forall_mem_cons.mpr ⟨lw_p4, List.forall_mem_cons.mpr ⟨lw_p5, List.forall_mem_cons.mpr ⟨lw_p6, List.forall_mem_cons.mpr ⟨lw_p7, List.forall_mem_cons.mpr ⟨lw_p8, List.forall_mem_cons.mpr ⟨lw_p9, List.forall_mem_cons.mpr ⟨lw_p10, List.forall_mem_cons.mpr ⟨lw_p11, List.forall_mem_cons.mpr ⟨lw_p12, List.forall_mem_cons.mpr ⟨lw_p13, List.forall_mem_cons.mpr ⟨lw_p14, List.forall_mem_cons.mpr ⟨lw_p15, fun _ h => absurd h List.not_mem_nil⟩⟩⟩⟩⟩⟩⟩⟩⟩⟩⟩⟩⟩⟩⟩⟩
theorem lw_p16 : lw_okq (⟨"PulseBoard$Search", "countBehind", "(LPulseBoard$Sum;)I"⟩, 6) := ⟨⟨by decide +kernel, by decide +kernel⟩, List.mem_of_getElem? (i := 144) (by decide +kernel), List.mem_of_getElem? (i := 458) (by decide +kernel), List.mem_of_getElem? (i := 459) (by decide +kernel)⟩
theorem lw_p17 : lw_okq (⟨"PulseBoard$Search", "countLine", "(LPulseBoard$Sum;)I"⟩, 6) := ⟨⟨by decide +kernel, by decide +kernel⟩, List.mem_of_getElem? (i := 144) (by decide +kernel), List.mem_of_getElem? (i := 462) (by decide +kernel), List.mem_of_getElem? (i := 463) (by decide +kernel)⟩
theorem lw_p18 : lw_okq (⟨"PulseBoard$Search", "partsAll", "(LPulseBoard$Sum;I)Z"⟩, 6) := ⟨⟨by decide +kernel, by decide +kernel⟩, List.mem_of_getElem? (i := 144) (by decide +kernel), List.mem_of_getElem? (i := 472) (by decide +kernel), List.mem_of_getElem? (i := 473) (by decide +kernel)⟩
theorem lw_p19 : lw_okq (⟨"PulseBoard$Run", "sortByBeat", "(LPulseBoard$Sum;LPulseBoard$Places;)V"⟩, 6) := ⟨⟨by decide +kernel, by decide +kernel⟩, List.mem_of_getElem? (i := 172) (by decide +kernel), List.mem_of_getElem? (i := 497) (by decide +kernel), List.mem_of_getElem? (i := 498) (by decide +kernel)⟩
theorem lw_p20 : lw_okq (⟨"PulseBoard$Sum", "comes", "([III)I"⟩, 11) := ⟨⟨by decide +kernel, by decide +kernel⟩, List.mem_of_getElem? (i := 21) (by decide +kernel), List.mem_of_getElem? (i := 506) (by decide +kernel), List.mem_of_getElem? (i := 507) (by decide +kernel)⟩
theorem lw_p21 : lw_okq (⟨"PulseBoard$Run", "countHeld", "(LPulseBoard$Sum;LPulseBoard$Places;)V"⟩, 6) := ⟨⟨by decide +kernel, by decide +kernel⟩, List.mem_of_getElem? (i := 172) (by decide +kernel), List.mem_of_getElem? (i := 519) (by decide +kernel), List.mem_of_getElem? (i := 520) (by decide +kernel)⟩
theorem lw_p22 : lw_okq (⟨"PulseBoardModel", "noEdges", "()V"⟩, 16) := ⟨⟨by decide +kernel, by decide +kernel⟩, List.mem_of_getElem? (i := 565) (by decide +kernel), List.mem_of_getElem? (i := 628) (by decide +kernel), List.mem_of_getElem? (i := 629) (by decide +kernel)⟩
theorem lw_p23 : lw_okq (⟨"PulseBoardModel", "isVariable", "(I)Z"⟩, 16) := ⟨⟨by decide +kernel, by decide +kernel⟩, List.mem_of_getElem? (i := 565) (by decide +kernel), List.mem_of_getElem? (i := 640) (by decide +kernel), List.mem_of_getElem? (i := 641) (by decide +kernel)⟩
theorem lw_p24 : lw_okq (⟨"PulseBoardModel", "isPoint", "(III)Z"⟩, 16) := ⟨⟨by decide +kernel, by decide +kernel⟩, List.mem_of_getElem? (i := 565) (by decide +kernel), List.mem_of_getElem? (i := 648) (by decide +kernel), List.mem_of_getElem? (i := 649) (by decide +kernel)⟩
theorem lw_p25 : lw_okq (⟨"PulseBoardModel", "wrongDelay", "()I"⟩, 16) := ⟨⟨by decide +kernel, by decide +kernel⟩, List.mem_of_getElem? (i := 565) (by decide +kernel), List.mem_of_getElem? (i := 668) (by decide +kernel), List.mem_of_getElem? (i := 669) (by decide +kernel)⟩
theorem lw_p26 : lw_okq (⟨"PulseBoardModel", "isNeeded", "(I)Z"⟩, 16) := ⟨⟨by decide +kernel, by decide +kernel⟩, List.mem_of_getElem? (i := 565) (by decide +kernel), List.mem_of_getElem? (i := 672) (by decide +kernel), List.mem_of_getElem? (i := 673) (by decide +kernel)⟩
theorem lw_p27 : lw_okq (⟨"PulseBoardModel", "delayOf", "(I)I"⟩, 16) := ⟨⟨by decide +kernel, by decide +kernel⟩, List.mem_of_getElem? (i := 565) (by decide +kernel), List.mem_of_getElem? (i := 679) (by decide +kernel), List.mem_of_getElem? (i := 680) (by decide +kernel)⟩
theorem lw_p28 : lw_okq (⟨"PulseBoardModel", "stepBy", "(II)I"⟩, 16) := ⟨⟨by decide +kernel, by decide +kernel⟩, List.mem_of_getElem? (i := 565) (by decide +kernel), List.mem_of_getElem? (i := 683) (by decide +kernel), List.mem_of_getElem? (i := 684) (by decide +kernel)⟩
theorem lw_p29 : lw_okq (⟨"PulseBoardModel", "wrongWay", "()I"⟩, 16) := ⟨⟨by decide +kernel, by decide +kernel⟩, List.mem_of_getElem? (i := 565) (by decide +kernel), List.mem_of_getElem? (i := 687) (by decide +kernel), List.mem_of_getElem? (i := 688) (by decide +kernel)⟩
theorem lw_p30 : lw_okq (⟨"PulseBoardModel", "wayOf", "(I)I"⟩, 16) := ⟨⟨by decide +kernel, by decide +kernel⟩, List.mem_of_getElem? (i := 565) (by decide +kernel), List.mem_of_getElem? (i := 691) (by decide +kernel), List.mem_of_getElem? (i := 692) (by decide +kernel)⟩
theorem lw_p31 : lw_okq (⟨"PulseBoardModel", "meets", "()Z"⟩, 16) := ⟨⟨by decide +kernel, by decide +kernel⟩, List.mem_of_getElem? (i := 565) (by decide +kernel), List.mem_of_getElem? (i := 695) (by decide +kernel), List.mem_of_getElem? (i := 696) (by decide +kernel)⟩
def lw_privs_2 : List (MethodName × Nat) := [(⟨"PulseBoard$Search", "countBehind", "(LPulseBoard$Sum;)I"⟩, 6), (⟨"PulseBoard$Search", "countLine", "(LPulseBoard$Sum;)I"⟩, 6), (⟨"PulseBoard$Search", "partsAll", "(LPulseBoard$Sum;I)Z"⟩, 6), (⟨"PulseBoard$Run", "sortByBeat", "(LPulseBoard$Sum;LPulseBoard$Places;)V"⟩, 6), (⟨"PulseBoard$Sum", "comes", "([III)I"⟩, 11), (⟨"PulseBoard$Run", "countHeld", "(LPulseBoard$Sum;LPulseBoard$Places;)V"⟩, 6), (⟨"PulseBoardModel", "noEdges", "()V"⟩, 16), (⟨"PulseBoardModel", "isVariable", "(I)Z"⟩, 16), (⟨"PulseBoardModel", "isPoint", "(III)Z"⟩, 16), (⟨"PulseBoardModel", "wrongDelay", "()I"⟩, 16), (⟨"PulseBoardModel", "isNeeded", "(I)Z"⟩, 16), (⟨"PulseBoardModel", "delayOf", "(I)I"⟩, 16), (⟨"PulseBoardModel", "stepBy", "(II)I"⟩, 16), (⟨"PulseBoardModel", "wrongWay", "()I"⟩, 16), (⟨"PulseBoardModel", "wayOf", "(I)I"⟩, 16), (⟨"PulseBoardModel", "meets", "()Z"⟩, 16)]
theorem lw_r2 : ∀ q ∈ lw_privs_2, lw_okq q := List.forall_mem_cons.mpr ⟨lw_p16, List.forall_mem_cons.mpr ⟨lw_p17, List.forall_mem_cons.mpr ⟨lw_p18, List.forall_mem_cons.mpr ⟨lw_p19, List.forall_mem_cons.mpr ⟨lw_p20, List.forall_mem_cons.mpr ⟨lw_p21, List.forall_mem_cons.mpr ⟨lw_p22, List.forall_mem_cons.mpr ⟨lw_p23, List.forall_mem_cons.mpr ⟨lw_p24, List.forall_mem_cons.mpr ⟨lw_p25, List.forall_mem_cons.mpr ⟨lw_p26, List.forall_mem_cons.mpr ⟨lw_p27, List.forall_mem_cons.mpr ⟨lw_p28, List.forall_mem_cons.mpr ⟨lw_p29, List.forall_mem_cons.mpr ⟨lw_p30, List.forall_mem_cons.mpr ⟨lw_p31, fun _ h => absurd h List.not_mem_nil⟩⟩⟩⟩⟩⟩⟩⟩⟩⟩⟩⟩⟩⟩⟩⟩
theorem lw_p32 : lw_okq (⟨"PulseBoardModel", "isPointNumber", "(I)Z"⟩, 16) := ⟨⟨by decide +kernel, by decide +kernel⟩, List.mem_of_getElem? (i := 565) (by decide +kernel), List.mem_of_getElem? (i := 699) (by decide +kernel), List.mem_of_getElem? (i := 700) (by decide +kernel)⟩
theorem lw_p33 : lw_okq (⟨"PulseBoardModel", "sameAs", "(I)I"⟩, 16) := ⟨⟨by decide +kernel, by decide +kernel⟩, List.mem_of_getElem? (i := 565) (by decide +kernel), List.mem_of_getElem? (i := 703) (by decide +kernel), List.mem_of_getElem? (i := 704) (by decide +kernel)⟩
theorem lw_p34 : lw_okq (⟨"PulseBoardModel", "at", "(II)I"⟩, 16) := ⟨⟨by decide +kernel, by decide +kernel⟩, List.mem_of_getElem? (i := 565) (by decide +kernel), List.mem_of_getElem? (i := 707) (by decide +kernel), List.mem_of_getElem? (i := 708) (by decide +kernel)⟩
theorem lw_p35 : lw_okq (⟨"PulseBoardModel", "beats", "()I"⟩, 16) := ⟨⟨by decide +kernel, by decide +kernel⟩, List.mem_of_getElem? (i := 565) (by decide +kernel), List.mem_of_getElem? (i := 715) (by decide +kernel), List.mem_of_getElem? (i := 716) (by decide +kernel)⟩
theorem lw_p36 : lw_okq (⟨"PulseBoardModel", "beatOf", "(I)I"⟩, 16) := ⟨⟨by decide +kernel, by decide +kernel⟩, List.mem_of_getElem? (i := 565) (by decide +kernel), List.mem_of_getElem? (i := 719) (by decide +kernel), List.mem_of_getElem? (i := 720) (by decide +kernel)⟩
theorem lw_p37 : lw_okq (⟨"PulseBoardModel", "cells", "()I"⟩, 16) := ⟨⟨by decide +kernel, by decide +kernel⟩, List.mem_of_getElem? (i := 565) (by decide +kernel), List.mem_of_getElem? (i := 723) (by decide +kernel), List.mem_of_getElem? (i := 724) (by decide +kernel)⟩
theorem lw_p38 : lw_okq (⟨"PulseBoardModel", "cellOf", "(I)I"⟩, 16) := ⟨⟨by decide +kernel, by decide +kernel⟩, List.mem_of_getElem? (i := 565) (by decide +kernel), List.mem_of_getElem? (i := 727) (by decide +kernel), List.mem_of_getElem? (i := 728) (by decide +kernel)⟩
theorem lw_p39 : lw_okq (⟨"PulseBoardModel", "points", "()I"⟩, 16) := ⟨⟨by decide +kernel, by decide +kernel⟩, List.mem_of_getElem? (i := 565) (by decide +kernel), List.mem_of_getElem? (i := 731) (by decide +kernel), List.mem_of_getElem? (i := 732) (by decide +kernel)⟩
theorem lw_p40 : lw_okq (⟨"PulseBoardModel", "apart", "()I"⟩, 16) := ⟨⟨by decide +kernel, by decide +kernel⟩, List.mem_of_getElem? (i := 565) (by decide +kernel), List.mem_of_getElem? (i := 735) (by decide +kernel), List.mem_of_getElem? (i := 736) (by decide +kernel)⟩
theorem lw_p41 : lw_okq (⟨"PulseBoardModel", "divides", "(I)Z"⟩, 16) := ⟨⟨by decide +kernel, by decide +kernel⟩, List.mem_of_getElem? (i := 565) (by decide +kernel), List.mem_of_getElem? (i := 739) (by decide +kernel), List.mem_of_getElem? (i := 740) (by decide +kernel)⟩
theorem lw_p42 : lw_okq (⟨"PulseBoardModel", "numbers", "(III)V"⟩, 16) := ⟨⟨by decide +kernel, by decide +kernel⟩, List.mem_of_getElem? (i := 565) (by decide +kernel), List.mem_of_getElem? (i := 755) (by decide +kernel), List.mem_of_getElem? (i := 756) (by decide +kernel)⟩
theorem lw_p43 : lw_okq (⟨"PulseBoardModel", "isRight", "()Z"⟩, 16) := ⟨⟨by decide +kernel, by decide +kernel⟩, List.mem_of_getElem? (i := 565) (by decide +kernel), List.mem_of_getElem? (i := 759) (by decide +kernel), List.mem_of_getElem? (i := 760) (by decide +kernel)⟩
theorem lw_p44 : lw_okq (⟨"PulseBoardModel", "work", "([II)V"⟩, 16) := ⟨⟨by decide +kernel, by decide +kernel⟩, List.mem_of_getElem? (i := 565) (by decide +kernel), List.mem_of_getElem? (i := 771) (by decide +kernel), List.mem_of_getElem? (i := 772) (by decide +kernel)⟩
theorem lw_p45 : lw_okq (⟨"PulseBoardModel", "comes", "([III)I"⟩, 16) := ⟨⟨by decide +kernel, by decide +kernel⟩, List.mem_of_getElem? (i := 565) (by decide +kernel), List.mem_of_getElem? (i := 775) (by decide +kernel), List.mem_of_getElem? (i := 776) (by decide +kernel)⟩
theorem lw_p46 : lw_okq (⟨"PulseBoardModel", "ahead", "(II)I"⟩, 16) := ⟨⟨by decide +kernel, by decide +kernel⟩, List.mem_of_getElem? (i := 565) (by decide +kernel), List.mem_of_getElem? (i := 779) (by decide +kernel), List.mem_of_getElem? (i := 780) (by decide +kernel)⟩
theorem lw_p47 : lw_okq (⟨"PulseBoardModel", "behind", "(II)I"⟩, 16) := ⟨⟨by decide +kernel, by decide +kernel⟩, List.mem_of_getElem? (i := 565) (by decide +kernel), List.mem_of_getElem? (i := 794) (by decide +kernel), List.mem_of_getElem? (i := 795) (by decide +kernel)⟩
def lw_privs_3 : List (MethodName × Nat) := [(⟨"PulseBoardModel", "isPointNumber", "(I)Z"⟩, 16), (⟨"PulseBoardModel", "sameAs", "(I)I"⟩, 16), (⟨"PulseBoardModel", "at", "(II)I"⟩, 16), (⟨"PulseBoardModel", "beats", "()I"⟩, 16), (⟨"PulseBoardModel", "beatOf", "(I)I"⟩, 16), (⟨"PulseBoardModel", "cells", "()I"⟩, 16), (⟨"PulseBoardModel", "cellOf", "(I)I"⟩, 16), (⟨"PulseBoardModel", "points", "()I"⟩, 16), (⟨"PulseBoardModel", "apart", "()I"⟩, 16), (⟨"PulseBoardModel", "divides", "(I)Z"⟩, 16), (⟨"PulseBoardModel", "numbers", "(III)V"⟩, 16), (⟨"PulseBoardModel", "isRight", "()Z"⟩, 16), (⟨"PulseBoardModel", "work", "([II)V"⟩, 16), (⟨"PulseBoardModel", "comes", "([III)I"⟩, 16), (⟨"PulseBoardModel", "ahead", "(II)I"⟩, 16), (⟨"PulseBoardModel", "behind", "(II)I"⟩, 16)]
theorem lw_r3 : ∀ q ∈ lw_privs_3, lw_okq q := List.forall_mem_cons.mpr ⟨lw_p32, List.forall_mem_cons.mpr ⟨lw_p33, List.forall_mem_cons.mpr ⟨lw_p34, List.forall_mem_cons.mpr ⟨lw_p35, List.forall_mem_cons.mpr ⟨lw_p36, List.forall_mem_cons.mpr ⟨lw_p37, List.forall_mem_cons.mpr ⟨lw_p38, List.forall_mem_cons.mpr ⟨lw_p39, List.forall_mem_cons.mpr ⟨lw_p40, List.forall_mem_cons.mpr ⟨lw_p41, List.forall_mem_cons.mpr ⟨lw_p42, List.forall_mem_cons.mpr ⟨lw_p43, List.forall_mem_cons.mpr ⟨lw_p44, List.forall_mem_cons.mpr ⟨lw_p45, List.forall_mem_cons.mpr ⟨lw_p46, List.forall_mem_cons.mpr ⟨lw_p47, fun _ h => absurd h List.not_mem_nil⟩⟩⟩⟩⟩⟩⟩⟩⟩⟩⟩⟩⟩⟩⟩⟩
theorem lw_p48 : lw_okq (⟨"PulseBoardModel", "plainly", "()V"⟩, 16) := ⟨⟨by decide +kernel, by decide +kernel⟩, List.mem_of_getElem? (i := 565) (by decide +kernel), List.mem_of_getElem? (i := 806) (by decide +kernel), List.mem_of_getElem? (i := 807) (by decide +kernel)⟩
def lw_privs_4 : List (MethodName × Nat) := [(⟨"PulseBoardModel", "plainly", "()V"⟩, 16)]
theorem lw_r4 : ∀ q ∈ lw_privs_4, lw_okq q := List.forall_mem_cons.mpr ⟨lw_p48, fun _ h => absurd h List.not_mem_nil⟩
def lw_privs : List (MethodName × Nat) := lw_privs_1 ++ (lw_privs_2 ++ (lw_privs_3 ++ (lw_privs_4)))
def lw_tbl : List Cond := k2_sels lw_privs ++ tables_1
theorem lw_privs_ok : ∀ q ∈ lw_privs, lw_okq q := by
  show ∀ q ∈ lw_privs_1 ++ (lw_privs_2 ++ (lw_privs_3 ++ (lw_privs_4))), lw_okq q
  exact List.forall_mem_append.mpr ⟨lw_r1, List.forall_mem_append.mpr ⟨lw_r2, List.forall_mem_append.mpr ⟨lw_r3, lw_r4⟩⟩⟩
end
section
/-! ===== BEGIN words of one list among another's, by their places ===== -/
theorem goodIn_r {big : List Cond} (ws : List Cond) (ps : List Nat) (hp : ws = ps.filterMap (fun i => big[i]?)) (h : ws.all goodWord = true) : GoodIn big ws := by
  intro w hw
  have h1 := List.all_eq_true.mp h w hw
  rw [hp] at hw
  obtain ⟨i, -, hi⟩ := List.mem_filterMap.mp hw
  have hm : w ∈ big := by first | exact List.mem_of_getElem? hi | exact List.getElem?_mem hi
  exact ⟨hm, good_of_word h1⟩
theorem goodIn_app {big a b : List Cond} (ha : GoodIn big a) (hb : GoodIn big b) : GoodIn big (a ++ b) := fun w h => (List.mem_append.mp h).elim (ha w) (hb w)
theorem goodIn_ca {big a b : List Cond} {c : Cond} (ha : GoodIn big (c :: a)) (hb : GoodIn big b) : GoodIn big (c :: (a ++ b)) := fun w h => (List.mem_cons.mp h).elim (fun e => ha w (List.mem_cons.mpr (Or.inl e))) (fun h => (List.mem_append.mp h).elim (fun h => ha w (List.mem_cons.mpr (Or.inr h))) (hb w))
theorem goodIn_sub {big ws : List Cond} (hm : ∀ w ∈ ws, w ∈ big) (h : ws.all goodWord = true) : GoodIn big ws := fun w hw => ⟨hm w hw, good_of_word (List.all_eq_true.mp h w hw)⟩
/-! ===== END ===== -/

/-! ===== BEGIN printed: names, fields, word lists, decode rows ===== -/
def RX0 : String := "PulseBoard$Places"
def TX0 : u_T := fun k => match k with
  | 0 => ("PulseBoard$Places", "beat", "[I", true)
  | 1 => ("PulseBoard$Places", "cell", "[I", true)
  | 2 => ("PulseBoard$Places", "second", "[I", true)
  | 3 => ("PulseBoard$Places", "known", "Z", false)
  | 4 => ("PulseBoard$Places", "beats", "I", false)
  | 5 => ("PulseBoard$Places", "cells", "I", false)
  | 6 => ("PulseBoard$Places", "later", "I", false)
  | 7 => ("PulseBoard$Places", "earlier", "I", false)
  | 8 => ("PulseBoard$Places", "last", "[I", true)
  | 9 => ("PulseBoard$Places", "ahead", "[I", true)
  | _ => ("PulseBoard$Places", "between", "[I", true)
def tyX0 : Nat → FieldType := fun k => match k with
  | 0 => .array .int
  | 1 => .array .int
  | 2 => .array .int
  | 3 => .boolean
  | 4 => .int
  | 5 => .int
  | 6 => .int
  | 7 => .int
  | 8 => .array .int
  | 9 => .array .int
  | _ => .array .int
abbrev wsX00 : List Cond := u_ws RX0 TX0 11
theorem nmX0 : ∀ a, a < 11 → ∀ b, b < 11 → a ≠ b → (TX0 a).2.1 ≠ (TX0 b).2.1 := by decide +kernel
theorem tyX0_ok : ∀ k, k < 11 → parseFieldDescriptor (TX0 k).2.2.1 = some (tyX0 k) := by decide +kernel
abbrev cX0_init : ByteArray := prog_2_method_1_code
def yX0_init : MethodName := ⟨RX0, "<init>", "()V"⟩
abbrev cX0_place : ByteArray := prog_2_method_2_code
def yX0_place : MethodName := ⟨RX0, "place", "(LPulseBoard$Sum;LPulseBoard$Plan;)V"⟩
abbrev cX0_layPoints : ByteArray := prog_2_method_3_code
def yX0_layPoints : MethodName := ⟨RX0, "layPoints", "(LPulseBoard$Sum;LPulseBoard$Plan;)V"⟩
abbrev cX0_cellKey : ByteArray := prog_2_method_4_code
def yX0_cellKey : MethodName := ⟨RX0, "cellKey", "(I)I"⟩
abbrev cX0_link : ByteArray := prog_2_method_5_code
def yX0_link : MethodName := ⟨RX0, "link", "(I)V"⟩
abbrev cX0_metBy : ByteArray := prog_2_method_6_code
def yX0_metBy : MethodName := ⟨RX0, "metBy", "(I)I"⟩
abbrev cX0_use : ByteArray := prog_2_method_7_code
def yX0_use : MethodName := ⟨RX0, "use", "(LPulseBoard$Sum;)I"⟩
abbrev cX0_apart : ByteArray := prog_2_method_8_code
def yX0_apart : MethodName := ⟨RX0, "apart", "(LPulseBoard$Sum;)I"⟩
abbrev cX0_markBetween : ByteArray := prog_2_method_9_code
def yX0_markBetween : MethodName := ⟨RX0, "markBetween", "(I)V"⟩
abbrev cX0_isFree : ByteArray := prog_2_method_10_code
def yX0_isFree : MethodName := ⟨RX0, "isFree", "(I)Z"⟩
def RX1 : String := "PulseBoard$Plan"
def TX1 : u_T := fun k => match k with
  | 0 => ("PulseBoard$Plan", "numbers", "[I", true)
  | _ => ("PulseBoard$Plan", "fold", "I", false)
def tyX1 : Nat → FieldType := fun k => match k with
  | 0 => .array .int
  | _ => .int
abbrev wsX10 : List Cond := u_ws RX1 TX1 2
theorem nmX1 : ∀ a, a < 2 → ∀ b, b < 2 → a ≠ b → (TX1 a).2.1 ≠ (TX1 b).2.1 := by decide +kernel
theorem tyX1_ok : ∀ k, k < 2 → parseFieldDescriptor (TX1 k).2.2.1 = some (tyX1 k) := by decide +kernel
abbrev cX1_init : ByteArray := prog_3_method_1_code
def yX1_init : MethodName := ⟨RX1, "<init>", "()V"⟩
abbrev cX1_put : ByteArray := prog_3_method_2_code
def yX1_put : MethodName := ⟨RX1, "put", "(IIII)V"⟩
abbrev cX1_takeNumbers : ByteArray := prog_3_method_3_code
def yX1_takeNumbers : MethodName := ⟨RX1, "takeNumbers", "(LPulseBoard$Plan;)V"⟩
abbrev cX1_times : ByteArray := prog_3_method_4_code
def yX1_times : MethodName := ⟨RX1, "times", "(IIII)I"⟩
abbrev cX1_timesCode : ByteArray := prog_3_method_5_code
def yX1_timesCode : MethodName := ⟨RX1, "timesCode", "(II)I"⟩
abbrev cX1_least : ByteArray := prog_3_method_6_code
def yX1_least : MethodName := ⟨RX1, "least", "(ILPulseBoard$Sum;)I"⟩
abbrev cX1_beatsUnfolded : ByteArray := prog_3_method_7_code
def yX1_beatsUnfolded : MethodName := ⟨RX1, "beatsUnfolded", "(LPulseBoard$Sum;)I"⟩
abbrev cX1_delay : ByteArray := prog_3_method_8_code
def yX1_delay : MethodName := ⟨RX1, "delay", "(LPulseBoard$Sum;I)I"⟩
abbrev cX1_way : ByteArray := prog_3_method_9_code
def yX1_way : MethodName := ⟨RX1, "way", "(LPulseBoard$Sum;I)I"⟩
abbrev cX1_timesStep : ByteArray := prog_3_method_10_code
def yX1_timesStep : MethodName := ⟨RX1, "timesStep", "(ILPulseBoard$Sum;I)I"⟩
abbrev cX1_tooEarly : ByteArray := prog_3_method_11_code
def yX1_tooEarly : MethodName := ⟨RX1, "tooEarly", "(LPulseBoard$Sum;)I"⟩
abbrev cX1_tooFar : ByteArray := prog_3_method_12_code
def yX1_tooFar : MethodName := ⟨RX1, "tooFar", "(LPulseBoard$Sum;)I"⟩
def RX2 : String := "PulseBoard$Run"
def TX2 : u_T := fun k => match k with
  | 0 => ("PulseBoard$Run", "there", "Z", false)
  | 1 => ("PulseBoard$Run", "values", "[I", true)
  | 2 => ("PulseBoard$Run", "held", "[I", true)
  | 3 => ("PulseBoard$Run", "beats", "I", false)
  | 4 => ("PulseBoard$Run", "order", "[I", true)
  | _ => ("PulseBoard$Run", "start", "[I", true)
def tyX2 : Nat → FieldType := fun k => match k with
  | 0 => .boolean
  | 1 => .array .int
  | 2 => .array .int
  | 3 => .int
  | 4 => .array .int
  | _ => .array .int
abbrev wsX20 : List Cond := u_ws RX2 TX2 6
theorem nmX2 : ∀ a, a < 6 → ∀ b, b < 6 → a ≠ b → (TX2 a).2.1 ≠ (TX2 b).2.1 := by decide +kernel
theorem tyX2_ok : ∀ k, k < 6 → parseFieldDescriptor (TX2 k).2.2.1 = some (tyX2 k) := by decide +kernel
abbrev cX2_init : ByteArray := prog_4_method_1_code
def yX2_init : MethodName := ⟨RX2, "<init>", "()V"⟩
abbrev cX2_work : ByteArray := prog_4_method_2_code
def yX2_work : MethodName := ⟨RX2, "work", "(LPulseBoard$Sum;LPulseBoard$Places;)I"⟩
abbrev cX2_sortByBeat : ByteArray := prog_4_method_3_code
def yX2_sortByBeat : MethodName := ⟨RX2, "sortByBeat", "(LPulseBoard$Sum;LPulseBoard$Places;)V"⟩
abbrev cX2_countHeld : ByteArray := prog_4_method_4_code
def yX2_countHeld : MethodName := ⟨RX2, "countHeld", "(LPulseBoard$Sum;LPulseBoard$Places;)V"⟩
abbrev cX2_hasBeat : ByteArray := prog_4_method_5_code
def yX2_hasBeat : MethodName := ⟨RX2, "hasBeat", "(I)Z"⟩
abbrev cX2_pointAt : ByteArray := prog_4_method_6_code
def yX2_pointAt : MethodName := ⟨RX2, "pointAt", "(LPulseBoard$Places;III)I"⟩
def RX3 : String := "PulseBoard$Search"
def TX3 : u_T := fun k => match k with
  | 0 => ("PulseBoard$Search", "winner", "LPulseBoard$Plan;", true)
  | 1 => ("PulseBoard$Search", "fewestBeats", "I", false)
  | 2 => ("PulseBoard$Search", "fewestCells", "I", false)
  | 3 => ("PulseBoard$Search", "found", "Z", false)
  | 4 => ("PulseBoard$Search", "trial", "LPulseBoard$Plan;", true)
  | _ => ("PulseBoard$Search", "across", "[I", true)
def tyX3 : Nat → FieldType := fun k => match k with
  | 0 => .object "PulseBoard$Plan"
  | 1 => .int
  | 2 => .int
  | 3 => .boolean
  | 4 => .object "PulseBoard$Plan"
  | _ => .array .int
abbrev wsX30 : List Cond := u_ws RX3 TX3 6
theorem nmX3 : ∀ a, a < 6 → ∀ b, b < 6 → a ≠ b → (TX3 a).2.1 ≠ (TX3 b).2.1 := by decide +kernel
theorem tyX3_ok : ∀ k, k < 6 → parseFieldDescriptor (TX3 k).2.2.1 = some (tyX3 k) := by decide +kernel
abbrev cX3_init : ByteArray := prog_5_method_1_code
def yX3_init : MethodName := ⟨RX3, "<init>", "()V"⟩
abbrev cX3_find : ByteArray := prog_5_method_2_code
def yX3_find : MethodName := ⟨RX3, "find", "(LPulseBoard$Sum;II)Z"⟩
abbrev cX3_tryLines : ByteArray := prog_5_method_3_code
def yX3_tryLines : MethodName := ⟨RX3, "tryLines", "(LPulseBoard$Sum;III)V"⟩
abbrev cX3_consider : ByteArray := prog_5_method_4_code
def yX3_consider : MethodName := ⟨RX3, "consider", "(LPulseBoard$Sum;I)V"⟩
abbrev cX3_spell : ByteArray := prog_5_method_5_code
def yX3_spell : MethodName := ⟨RX3, "spell", "(III)V"⟩
abbrev cX3_partsAll : ByteArray := prog_5_method_6_code
def yX3_partsAll : MethodName := ⟨RX3, "partsAll", "(LPulseBoard$Sum;I)Z"⟩
abbrev cX3_countCells : ByteArray := prog_5_method_7_code
def yX3_countCells : MethodName := ⟨RX3, "countCells", "(LPulseBoard$Sum;)I"⟩
abbrev cX3_findAcross : ByteArray := prog_5_method_8_code
def yX3_findAcross : MethodName := ⟨RX3, "findAcross", "(II)Z"⟩
abbrev cX3_countBehind : ByteArray := prog_5_method_9_code
def yX3_countBehind : MethodName := ⟨RX3, "countBehind", "(LPulseBoard$Sum;)I"⟩
abbrev cX3_countLine : ByteArray := prog_5_method_10_code
def yX3_countLine : MethodName := ⟨RX3, "countLine", "(LPulseBoard$Sum;)I"⟩
abbrev cX3_commonDivisor : ByteArray := prog_5_method_11_code
def yX3_commonDivisor : MethodName := ⟨RX3, "commonDivisor", "(II)I"⟩
def RX4 : String := "PulseBoard$Sum"
def TX4 : u_T := fun k => match k with
  | 0 => ("PulseBoard$Sum", "size", "[I", true)
  | 1 => ("PulseBoard$Sum", "codes", "[I", true)
  | 2 => ("PulseBoard$Sum", "points", "I", false)
  | 3 => ("PulseBoard$Sum", "variables", "I", false)
  | 4 => ("PulseBoard$Sum", "step", "[I", true)
  | 5 => ("PulseBoard$Sum", "acts", "[I", true)
  | 6 => ("PulseBoard$Sum", "left", "[I", true)
  | 7 => ("PulseBoard$Sum", "right", "[I", true)
  | 8 => ("PulseBoard$Sum", "edges", "[I", true)
  | 9 => ("PulseBoard$Sum", "values", "[I", true)
  | _ => ("PulseBoard$Sum", "valuesKnown", "Z", false)
def tyX4 : Nat → FieldType := fun k => match k with
  | 0 => .array .int
  | 1 => .array .int
  | 2 => .int
  | 3 => .int
  | 4 => .array .int
  | 5 => .array .int
  | 6 => .array .int
  | 7 => .array .int
  | 8 => .array .int
  | 9 => .array .int
  | _ => .boolean
abbrev wsX40 : List Cond := u_ws RX4 TX4 11
theorem nmX4 : ∀ a, a < 11 → ∀ b, b < 11 → a ≠ b → (TX4 a).2.1 ≠ (TX4 b).2.1 := by decide +kernel
theorem tyX4_ok : ∀ k, k < 11 → parseFieldDescriptor (TX4 k).2.2.1 = some (tyX4 k) := by decide +kernel
abbrev cX4_init : ByteArray := prog_6_method_1_code
def yX4_init : MethodName := ⟨RX4, "<init>", "()V"⟩
abbrev cX4_resize : ByteArray := prog_6_method_2_code
def yX4_resize : MethodName := ⟨RX4, "resize", "(III)V"⟩
abbrev cX4_addVariable : ByteArray := prog_6_method_3_code
def yX4_addVariable : MethodName := ⟨RX4, "addVariable", "(III)I"⟩
abbrev cX4_setAct : ByteArray := prog_6_method_4_code
def yX4_setAct : MethodName := ⟨RX4, "setAct", "(IIII)V"⟩
abbrev cX4_setEdge : ByteArray := prog_6_method_5_code
def yX4_setEdge : MethodName := ⟨RX4, "setEdge", "(III)V"⟩
abbrev cX4_dropVariables : ByteArray := prog_6_method_6_code
def yX4_dropVariables : MethodName := ⟨RX4, "dropVariables", "()V"⟩
abbrev cX4_has : ByteArray := prog_6_method_7_code
def yX4_has : MethodName := ⟨RX4, "has", "(I)Z"⟩
abbrev cX4_codeOf : ByteArray := prog_6_method_8_code
def yX4_codeOf : MethodName := ⟨RX4, "codeOf", "(III)I"⟩
abbrev cX4_isNeeded : ByteArray := prog_6_method_9_code
def yX4_isNeeded : MethodName := ⟨RX4, "isNeeded", "(I)Z"⟩
abbrev cX4_stepped : ByteArray := prog_6_method_10_code
def yX4_stepped : MethodName := ⟨RX4, "stepped", "(III)I"⟩
abbrev cX4_workPoint : ByteArray := prog_6_method_11_code
def yX4_workPoint : MethodName := ⟨RX4, "workPoint", "([II)V"⟩
abbrev cX4_comes : ByteArray := prog_6_method_12_code
def yX4_comes : MethodName := ⟨RX4, "comes", "([III)I"⟩
abbrev cX4_made : ByteArray := prog_6_method_13_code
def yX4_made : MethodName := ⟨RX4, "made", "(IIII)I"⟩
abbrev cX4_plainValue : ByteArray := prog_6_method_14_code
def yX4_plainValue : MethodName := ⟨RX4, "plainValue", "(II)I"⟩
abbrev cX4_resultCode : ByteArray := prog_6_method_15_code
def yX4_resultCode : MethodName := ⟨RX4, "resultCode", "(II)I"⟩
def RX5 : String := "PulseBoard"
def TX5 : u_T := fun k => match k with
  | 0 => ("PulseBoard", "sum", "LPulseBoard$Sum;", true)
  | 1 => ("PulseBoard", "plan", "LPulseBoard$Plan;", true)
  | 2 => ("PulseBoard", "places", "LPulseBoard$Places;", true)
  | 3 => ("PulseBoard", "search", "LPulseBoard$Search;", true)
  | _ => ("PulseBoard", "latest", "LPulseBoard$Run;", true)
def tyX5 : Nat → FieldType := fun k => match k with
  | 0 => .object "PulseBoard$Sum"
  | 1 => .object "PulseBoard$Plan"
  | 2 => .object "PulseBoard$Places"
  | 3 => .object "PulseBoard$Search"
  | _ => .object "PulseBoard$Run"
abbrev wsX50 : List Cond := u_ws RX5 TX5 5
theorem nmX5 : ∀ a, a < 5 → ∀ b, b < 5 → a ≠ b → (TX5 a).2.1 ≠ (TX5 b).2.1 := by decide +kernel
theorem tyX5_ok : ∀ k, k < 5 → parseFieldDescriptor (TX5 k).2.2.1 = some (tyX5 k) := by decide +kernel
abbrev cX5_init : ByteArray := prog_1_method_1_code
def yX5_init : MethodName := ⟨RX5, "<init>", "()V"⟩
abbrev cX5_sizes : ByteArray := prog_1_method_2_code
def yX5_sizes : MethodName := ⟨RX5, "sizes", "(III)Z"⟩
abbrev cX5_variable : ByteArray := prog_1_method_3_code
def yX5_variable : MethodName := ⟨RX5, "variable", "(III)I"⟩
abbrev cX5_act : ByteArray := prog_1_method_4_code
def yX5_act : MethodName := ⟨RX5, "act", "(IIII)Z"⟩
abbrev cX5_edge : ByteArray := prog_1_method_5_code
def yX5_edge : MethodName := ⟨RX5, "edge", "(IIIII)Z"⟩
abbrev cX5_clear : ByteArray := prog_1_method_6_code
def yX5_clear : MethodName := ⟨RX5, "clear", "()V"⟩
abbrev cX5_lay : ByteArray := prog_1_method_7_code
def yX5_lay : MethodName := ⟨RX5, "lay", "(IIII)Z"⟩
abbrev cX5_fold : ByteArray := prog_1_method_8_code
def yX5_fold : MethodName := ⟨RX5, "fold", "(I)Z"⟩
abbrev cX5_why : ByteArray := prog_1_method_9_code
def yX5_why : MethodName := ⟨RX5, "why", "(I)I"⟩
abbrev cX5_laid : ByteArray := prog_1_method_10_code
def yX5_laid : MethodName := ⟨RX5, "laid", "(I)I"⟩
abbrev cX5_where : ByteArray := prog_1_method_11_code
def yX5_where : MethodName := ⟨RX5, "where", "(IIII)I"⟩
abbrev cX5_needs : ByteArray := prog_1_method_12_code
def yX5_needs : MethodName := ⟨RX5, "needs", "(II)I"⟩
abbrev cX5_best : ByteArray := prog_1_method_13_code
def yX5_best : MethodName := ⟨RX5, "best", "(II)I"⟩
abbrev cX5_laying : ByteArray := prog_1_method_14_code
def yX5_laying : MethodName := ⟨RX5, "laying", "(II)I"⟩
abbrev cX5_run : ByteArray := prog_1_method_15_code
def yX5_run : MethodName := ⟨RX5, "run", "()I"⟩
abbrev cX5_worked : ByteArray := prog_1_method_16_code
def yX5_worked : MethodName := ⟨RX5, "worked", "(III)I"⟩
abbrev cX5_held : ByteArray := prog_1_method_17_code
def yX5_held : MethodName := ⟨RX5, "held", "(I)I"⟩
abbrev cX5_value : ByteArray := prog_1_method_18_code
def yX5_value : MethodName := ⟨RX5, "value", "(IIII)I"⟩
abbrev cX5_plain : ByteArray := prog_1_method_19_code
def yX5_plain : MethodName := ⟨RX5, "plain", "(IIII)I"⟩
abbrev cX5_result : ByteArray := prog_1_method_20_code
def yX5_result : MethodName := ⟨RX5, "result", "(III)I"⟩
abbrev cX5_about : ByteArray := prog_1_method_21_code
def yX5_about : MethodName := ⟨RX5, "about", "(I)I"⟩
abbrev cX5_forgetPlaces : ByteArray := prog_1_method_22_code
def yX5_forgetPlaces : MethodName := ⟨RX5, "forgetPlaces", "()V"⟩
abbrev cX5_settle : ByteArray := prog_1_method_23_code
def yX5_settle : MethodName := ⟨RX5, "settle", "()V"⟩
abbrev cX5_reason : ByteArray := prog_1_method_24_code
def yX5_reason : MethodName := ⟨RX5, "reason", "()I"⟩
abbrev cX5_culprit : ByteArray := prog_1_method_25_code
def yX5_culprit : MethodName := ⟨RX5, "culprit", "(I)I"⟩
abbrev cX5_isSize : ByteArray := prog_1_method_26_code
def yX5_isSize : MethodName := ⟨RX5, "isSize", "(I)Z"⟩
abbrev cX5_isIndex : ByteArray := prog_1_method_27_code
def yX5_isIndex : MethodName := ⟨RX5, "isIndex", "(I)Z"⟩
abbrev cX5_within : ByteArray := prog_1_method_28_code
def yX5_within : MethodName := ⟨RX5, "within", "(IIII)Z"⟩
abbrev cX5_areZeros : ByteArray := prog_1_method_29_code
def yX5_areZeros : MethodName := ⟨RX5, "areZeros", "(III)Z"⟩
abbrev cX5_isStep : ByteArray := prog_1_method_30_code
def yX5_isStep : MethodName := ⟨RX5, "isStep", "(III)Z"⟩
abbrev cX5_leadsUp : ByteArray := prog_1_method_31_code
def yX5_leadsUp : MethodName := ⟨RX5, "leadsUp", "(III)Z"⟩
def RX6 : String := "PulseBoardModel"
def TX6 : u_T := fun k => match k with
  | 0 => ("PulseBoardModel", "size", "[I", true)
  | 1 => ("PulseBoardModel", "variables", "I", false)
  | 2 => ("PulseBoardModel", "step", "[I", true)
  | 3 => ("PulseBoardModel", "act", "[I", true)
  | 4 => ("PulseBoardModel", "first", "[I", true)
  | 5 => ("PulseBoardModel", "second", "[I", true)
  | 6 => ("PulseBoardModel", "edge", "[I", true)
  | 7 => ("PulseBoardModel", "numbers", "[I", true)
  | 8 => ("PulseBoardModel", "fold", "I", false)
  | 9 => ("PulseBoardModel", "hasRun", "Z", false)
  | 10 => ("PulseBoardModel", "kept", "[I", true)
  | 11 => ("PulseBoardModel", "plain", "[I", true)
  | 12 => ("PulseBoardModel", "isCell", "[Z", true)
  | 13 => ("PulseBoardModel", "isApart", "[Z", true)
  | 14 => ("PulseBoardModel", "had", "[I", true)
  | _ => ("PulseBoardModel", "found", "[I", true)
def tyX6 : Nat → FieldType := fun k => match k with
  | 0 => .array .int
  | 1 => .int
  | 2 => .array .int
  | 3 => .array .int
  | 4 => .array .int
  | 5 => .array .int
  | 6 => .array .int
  | 7 => .array .int
  | 8 => .int
  | 9 => .boolean
  | 10 => .array .int
  | 11 => .array .int
  | 12 => .array .boolean
  | 13 => .array .boolean
  | 14 => .array .int
  | _ => .array .int
abbrev wsX60 : List Cond := u_ws RX6 TX6 16
theorem nmX6 : ∀ a, a < 16 → ∀ b, b < 16 → a ≠ b → (TX6 a).2.1 ≠ (TX6 b).2.1 := by decide +kernel
theorem tyX6_ok : ∀ k, k < 16 → parseFieldDescriptor (TX6 k).2.2.1 = some (tyX6 k) := by decide +kernel
abbrev cX6_init : ByteArray := prog_8_method_1_code
def yX6_init : MethodName := ⟨RX6, "<init>", "()V"⟩
abbrev cX6_in : ByteArray := prog_8_method_2_code
def yX6_in : MethodName := ⟨RX6, "in", "(III)Z"⟩
abbrev cX6_absolute : ByteArray := prog_8_method_3_code
def yX6_absolute : MethodName := ⟨RX6, "absolute", "(I)I"⟩
abbrev cX6_isPoint : ByteArray := prog_8_method_4_code
def yX6_isPoint : MethodName := ⟨RX6, "isPoint", "(III)Z"⟩
abbrev cX6_isVariable : ByteArray := prog_8_method_5_code
def yX6_isVariable : MethodName := ⟨RX6, "isVariable", "(I)Z"⟩
abbrev cX6_ahead : ByteArray := prog_8_method_6_code
def yX6_ahead : MethodName := ⟨RX6, "ahead", "(II)I"⟩
abbrev cX6_behind : ByteArray := prog_8_method_7_code
def yX6_behind : MethodName := ⟨RX6, "behind", "(II)I"⟩
abbrev cX6_isPointNumber : ByteArray := prog_8_method_8_code
def yX6_isPointNumber : MethodName := ⟨RX6, "isPointNumber", "(I)Z"⟩
abbrev cX6_points : ByteArray := prog_8_method_9_code
def yX6_points : MethodName := ⟨RX6, "points", "()I"⟩
abbrev cX6_sizes : ByteArray := prog_8_method_10_code
def yX6_sizes : MethodName := ⟨RX6, "sizes", "(III)Z"⟩
abbrev cX6_noEdges : ByteArray := prog_8_method_11_code
def yX6_noEdges : MethodName := ⟨RX6, "noEdges", "()V"⟩
abbrev cX6_variable : ByteArray := prog_8_method_12_code
def yX6_variable : MethodName := ⟨RX6, "variable", "(III)I"⟩
abbrev cX6_act : ByteArray := prog_8_method_13_code
def yX6_act : MethodName := ⟨RX6, "act", "(IIII)Z"⟩
abbrev cX6_edge : ByteArray := prog_8_method_14_code
def yX6_edge : MethodName := ⟨RX6, "edge", "(IIIII)Z"⟩
abbrev cX6_clear : ByteArray := prog_8_method_15_code
def yX6_clear : MethodName := ⟨RX6, "clear", "()V"⟩
abbrev cX6_lay : ByteArray := prog_8_method_16_code
def yX6_lay : MethodName := ⟨RX6, "lay", "(IIII)Z"⟩
abbrev cX6_fold : ByteArray := prog_8_method_17_code
def yX6_fold : MethodName := ⟨RX6, "fold", "(I)Z"⟩
abbrev cX6_at : ByteArray := prog_8_method_18_code
def yX6_at : MethodName := ⟨RX6, "at", "(II)I"⟩
abbrev cX6_beatOf : ByteArray := prog_8_method_19_code
def yX6_beatOf : MethodName := ⟨RX6, "beatOf", "(I)I"⟩
abbrev cX6_cellOf : ByteArray := prog_8_method_20_code
def yX6_cellOf : MethodName := ⟨RX6, "cellOf", "(I)I"⟩
abbrev cX6_stepBy : ByteArray := prog_8_method_21_code
def yX6_stepBy : MethodName := ⟨RX6, "stepBy", "(II)I"⟩
abbrev cX6_delayOf : ByteArray := prog_8_method_22_code
def yX6_delayOf : MethodName := ⟨RX6, "delayOf", "(I)I"⟩
abbrev cX6_wayOf : ByteArray := prog_8_method_23_code
def yX6_wayOf : MethodName := ⟨RX6, "wayOf", "(I)I"⟩
abbrev cX6_isNeeded : ByteArray := prog_8_method_24_code
def yX6_isNeeded : MethodName := ⟨RX6, "isNeeded", "(I)Z"⟩
abbrev cX6_meets : ByteArray := prog_8_method_25_code
def yX6_meets : MethodName := ⟨RX6, "meets", "()Z"⟩
abbrev cX6_wrongDelay : ByteArray := prog_8_method_26_code
def yX6_wrongDelay : MethodName := ⟨RX6, "wrongDelay", "()I"⟩
abbrev cX6_wrongWay : ByteArray := prog_8_method_27_code
def yX6_wrongWay : MethodName := ⟨RX6, "wrongWay", "()I"⟩
abbrev cX6_isRight : ByteArray := prog_8_method_28_code
def yX6_isRight : MethodName := ⟨RX6, "isRight", "()Z"⟩
abbrev cX6_sameAs : ByteArray := prog_8_method_29_code
def yX6_sameAs : MethodName := ⟨RX6, "sameAs", "(I)I"⟩
abbrev cX6_why : ByteArray := prog_8_method_30_code
def yX6_why : MethodName := ⟨RX6, "why", "(I)I"⟩
abbrev cX6_beats : ByteArray := prog_8_method_31_code
def yX6_beats : MethodName := ⟨RX6, "beats", "()I"⟩
abbrev cX6_cells : ByteArray := prog_8_method_32_code
def yX6_cells : MethodName := ⟨RX6, "cells", "()I"⟩
abbrev cX6_apart : ByteArray := prog_8_method_33_code
def yX6_apart : MethodName := ⟨RX6, "apart", "()I"⟩
abbrev cX6_divides : ByteArray := prog_8_method_34_code
def yX6_divides : MethodName := ⟨RX6, "divides", "(I)Z"⟩
abbrev cX6_laid : ByteArray := prog_8_method_35_code
def yX6_laid : MethodName := ⟨RX6, "laid", "(I)I"⟩
abbrev cX6_where : ByteArray := prog_8_method_36_code
def yX6_where : MethodName := ⟨RX6, "where", "(IIII)I"⟩
abbrev cX6_needs : ByteArray := prog_8_method_37_code
def yX6_needs : MethodName := ⟨RX6, "needs", "(II)I"⟩
abbrev cX6_numbers : ByteArray := prog_8_method_38_code
def yX6_numbers : MethodName := ⟨RX6, "numbers", "(III)V"⟩
abbrev cX6_best : ByteArray := prog_8_method_39_code
def yX6_best : MethodName := ⟨RX6, "best", "(II)I"⟩
abbrev cX6_laying : ByteArray := prog_8_method_40_code
def yX6_laying : MethodName := ⟨RX6, "laying", "(II)I"⟩
abbrev cX6_comes : ByteArray := prog_8_method_41_code
def yX6_comes : MethodName := ⟨RX6, "comes", "([III)I"⟩
abbrev cX6_work : ByteArray := prog_8_method_42_code
def yX6_work : MethodName := ⟨RX6, "work", "([II)V"⟩
abbrev cX6_made : ByteArray := prog_8_method_43_code
def yX6_made : MethodName := ⟨RX6, "made", "(IIII)I"⟩
abbrev cX6_run : ByteArray := prog_8_method_44_code
def yX6_run : MethodName := ⟨RX6, "run", "()I"⟩
abbrev cX6_worked : ByteArray := prog_8_method_45_code
def yX6_worked : MethodName := ⟨RX6, "worked", "(III)I"⟩
abbrev cX6_held : ByteArray := prog_8_method_46_code
def yX6_held : MethodName := ⟨RX6, "held", "(I)I"⟩
abbrev cX6_value : ByteArray := prog_8_method_47_code
def yX6_value : MethodName := ⟨RX6, "value", "(IIII)I"⟩
abbrev cX6_plainly : ByteArray := prog_8_method_48_code
def yX6_plainly : MethodName := ⟨RX6, "plainly", "()V"⟩
abbrev cX6_plain : ByteArray := prog_8_method_49_code
def yX6_plain : MethodName := ⟨RX6, "plain", "(IIII)I"⟩
abbrev cX6_result : ByteArray := prog_8_method_50_code
def yX6_result : MethodName := ⟨RX6, "result", "(III)I"⟩
abbrev cX6_about : ByteArray := prog_8_method_51_code
def yX6_about : MethodName := ⟨RX6, "about", "(I)I"⟩
def RJ13 : String := "java/lang/Long"
def TJ13 : u_T := fun k => match k with
  | _ => ("", "", "", false)
def tyJ13 : Nat → FieldType := fun k => match k with
  | _ => .int
abbrev wsJ130 : List Cond := u_ws RJ13 TJ13 0
theorem nmJ13 : ∀ a, a < 0 → ∀ b, b < 0 → a ≠ b → (TJ13 a).2.1 ≠ (TJ13 b).2.1 := by decide +kernel
theorem tyJ13_ok : ∀ k, k < 0 → parseFieldDescriptor (TJ13 k).2.2.1 = some (tyJ13 k) := by decide +kernel
abbrev cJ13_bitCount_95d88 : ByteArray := prog_9_method_50_code
def yJ13_bitCount_95d88 : MethodName := ⟨RJ13, "bitCount", "(J)I"⟩
def RJ9 : String := "java/lang/Math"
def TJ9 : u_T := fun k => match k with
  | _ => ("", "", "", false)
def tyJ9 : Nat → FieldType := fun k => match k with
  | _ => .int
abbrev wsJ90 : List Cond := u_ws RJ9 TJ9 0
theorem nmJ9 : ∀ a, a < 0 → ∀ b, b < 0 → a ≠ b → (TJ9 a).2.1 ≠ (TJ9 b).2.1 := by decide +kernel
theorem tyJ9_ok : ∀ k, k < 0 → parseFieldDescriptor (TJ9 k).2.2.1 = some (tyJ9 k) := by decide +kernel
abbrev cJ9_abs_0f7a4 : ByteArray := prog_10_method_59_code
def yJ9_abs_0f7a4 : MethodName := ⟨RJ9, "abs", "(I)I"⟩
abbrev cJ9_max_7cf53 : ByteArray := prog_10_method_65_code
def yJ9_max_7cf53 : MethodName := ⟨RJ9, "max", "(II)I"⟩
abbrev cJ9_min_7cf53 : ByteArray := prog_10_method_69_code
def yJ9_min_7cf53 : MethodName := ⟨RJ9, "min", "(II)I"⟩
def RJ10 : String := "java/lang/System"
def TJ10 : u_T := fun k => match k with
  | _ => ("", "", "", false)
def tyJ10 : Nat → FieldType := fun k => match k with
  | _ => .int
abbrev wsJ100 : List Cond := u_ws RJ10 TJ10 0
theorem nmJ10 : ∀ a, a < 0 → ∀ b, b < 0 → a ≠ b → (TJ10 a).2.1 ≠ (TJ10 b).2.1 := by decide +kernel
theorem tyJ10_ok : ∀ k, k < 0 → parseFieldDescriptor (TJ10 k).2.2.1 = some (tyJ10 k) := by decide +kernel
def RJ7 : String := "java/util/Arrays"
def TJ7 : u_T := fun k => match k with
  | _ => ("", "", "", false)
def tyJ7 : Nat → FieldType := fun k => match k with
  | _ => .int
abbrev wsJ70 : List Cond := u_ws RJ7 TJ7 0
theorem nmJ7 : ∀ a, a < 0 → ∀ b, b < 0 → a ≠ b → (TJ7 a).2.1 ≠ (TJ7 b).2.1 := by decide +kernel
theorem tyJ7_ok : ∀ k, k < 0 → parseFieldDescriptor (TJ7 k).2.2.1 = some (tyJ7 k) := by decide +kernel
abbrev cJ7_fill_53178 : ByteArray := prog_12_method_103_code
def yJ7_fill_53178 : MethodName := ⟨RJ7, "fill", "([II)V"⟩
def RL : String := "PulseBoardLaw"
abbrev cL_law : ByteArray := code
def yL_law : MethodName := ⟨RL, "law", "([I)Z"⟩
def wsL_law_r1 : List Cond := [Cond.classLink RL 7 RX5, Cond.instantiable RX5 5, Cond.initialized RX5, Cond.classLink RL 10 RX6, Cond.instantiable RX6 16, Cond.initialized RX6, Cond.methodLink RL 9 yX5_init, Cond.instanceMethod yX5_init, Cond.code yX5_init cX5_init 1 none, Cond.methodLink RX5 3 objectInit, Cond.instanceMethod objectInit, Cond.code objectInit ⟨#[0xb1]⟩ 1 none, Cond.classLink RX5 9 RX4, Cond.instantiable RX4 11, Cond.initialized RX4, Cond.fieldLink RX5 12 "PulseBoard" "sum" "LPulseBoard$Sum;", Cond.classLink RX5 16 RX1, Cond.instantiable RX1 2, Cond.initialized RX1, Cond.fieldLink RX5 19 "PulseBoard" "plan" "LPulseBoard$Plan;", Cond.classLink RX5 23 RX0, Cond.instantiable RX0 11, Cond.initialized RX0, Cond.fieldLink RX5 26 "PulseBoard" "places" "LPulseBoard$Places;"]
def wsL_law_r2 : List Cond := [Cond.classLink RX5 30 RX3, Cond.instantiable RX3 6, Cond.initialized RX3, Cond.fieldLink RX5 33 "PulseBoard" "search" "LPulseBoard$Search;", Cond.classLink RX5 37 RX2, Cond.instantiable RX2 6, Cond.initialized RX2, Cond.fieldLink RX5 40 "PulseBoard" "latest" "LPulseBoard$Run;", Cond.instanceMethod yX4_init, Cond.code yX4_init cX4_init 1 none, Cond.methodLink RX4 3 objectInit, Cond.arrayClass .int, Cond.fieldLink RX4 9 "PulseBoard$Sum" "size" "[I", Cond.fieldLink RX4 15 "PulseBoard$Sum" "codes" "[I", Cond.fieldLink RX4 18 "PulseBoard$Sum" "points" "I", Cond.fieldLink RX4 22 "PulseBoard$Sum" "variables" "I", Cond.fieldLink RX4 25 "PulseBoard$Sum" "step" "[I", Cond.fieldLink RX4 28 "PulseBoard$Sum" "acts" "[I", Cond.fieldLink RX4 31 "PulseBoard$Sum" "left" "[I", Cond.fieldLink RX4 34 "PulseBoard$Sum" "right" "[I", Cond.fieldLink RX4 37 "PulseBoard$Sum" "edges" "[I", Cond.fieldLink RX4 40 "PulseBoard$Sum" "values" "[I", Cond.fieldLink RX4 43 "PulseBoard$Sum" "valuesKnown" "Z", Cond.instanceMethod yX1_init]
def wsL_law_r3 : List Cond := [Cond.code yX1_init cX1_init 1 none, Cond.methodLink RX1 3 objectInit, Cond.fieldLink RX1 9 "PulseBoard$Plan" "numbers" "[I", Cond.fieldLink RX1 15 "PulseBoard$Plan" "fold" "I", Cond.instanceMethod yX0_init, Cond.code yX0_init cX0_init 1 none, Cond.methodLink RX0 3 objectInit, Cond.fieldLink RX0 9 "PulseBoard$Places" "beat" "[I", Cond.fieldLink RX0 15 "PulseBoard$Places" "cell" "[I", Cond.fieldLink RX0 18 "PulseBoard$Places" "second" "[I", Cond.fieldLink RX0 21 "PulseBoard$Places" "known" "Z", Cond.fieldLink RX0 25 "PulseBoard$Places" "later" "I", Cond.fieldLink RX0 29 "PulseBoard$Places" "earlier" "I", Cond.fieldLink RX0 32 "PulseBoard$Places" "last" "[I", Cond.fieldLink RX0 35 "PulseBoard$Places" "ahead" "[I", Cond.fieldLink RX0 38 "PulseBoard$Places" "between" "[I", Cond.instanceMethod yX3_init, Cond.code yX3_init cX3_init 1 none, Cond.methodLink RX3 3 objectInit, Cond.classLink RX3 9 RX1, Cond.fieldLink RX3 12 "PulseBoard$Search" "winner" "LPulseBoard$Plan;", Cond.fieldLink RX3 18 "PulseBoard$Search" "fewestBeats" "I", Cond.fieldLink RX3 22 "PulseBoard$Search" "fewestCells" "I", Cond.fieldLink RX3 25 "PulseBoard$Search" "found" "Z"]
def wsL_law_r4 : List Cond := [Cond.fieldLink RX3 29 "PulseBoard$Search" "trial" "LPulseBoard$Plan;", Cond.fieldLink RX3 32 "PulseBoard$Search" "across" "[I", Cond.instanceMethod yX2_init, Cond.code yX2_init cX2_init 1 none, Cond.methodLink RX2 3 objectInit, Cond.fieldLink RX2 9 "PulseBoard$Run" "there" "Z", Cond.fieldLink RX2 15 "PulseBoard$Run" "values" "[I", Cond.fieldLink RX2 19 "PulseBoard$Run" "held" "[I", Cond.fieldLink RX2 22 "PulseBoard$Run" "beats" "I", Cond.fieldLink RX2 26 "PulseBoard$Run" "order" "[I", Cond.fieldLink RX2 29 "PulseBoard$Run" "start" "[I", Cond.methodLink RL 12 yX6_init, Cond.instanceMethod yX6_init, Cond.code yX6_init cX6_init 1 none, Cond.methodLink RX6 1 objectInit, Cond.fieldLink RX6 7 "PulseBoardModel" "size" "[I", Cond.fieldLink RX6 13 "PulseBoardModel" "step" "[I", Cond.fieldLink RX6 16 "PulseBoardModel" "act" "[I", Cond.fieldLink RX6 19 "PulseBoardModel" "first" "[I", Cond.fieldLink RX6 22 "PulseBoardModel" "second" "[I", Cond.fieldLink RX6 25 "PulseBoardModel" "edge" "[I", Cond.fieldLink RX6 28 "PulseBoardModel" "numbers" "[I", Cond.fieldLink RX6 31 "PulseBoardModel" "fold" "I", Cond.fieldLink RX6 35 "PulseBoardModel" "kept" "[I"]
def wsL_law_r5 : List Cond := [Cond.fieldLink RX6 38 "PulseBoardModel" "plain" "[I", Cond.arrayClass .boolean, Cond.fieldLink RX6 41 "PulseBoardModel" "isCell" "[Z", Cond.fieldLink RX6 45 "PulseBoardModel" "isApart" "[Z", Cond.fieldLink RX6 48 "PulseBoardModel" "had" "[I", Cond.fieldLink RX6 51 "PulseBoardModel" "found" "[I", Cond.methodLink RL 13 yX5_sizes, Cond.instanceMethod yX5_sizes, Cond.selects RX5 yX5_sizes yX5_sizes, Cond.code yX5_sizes cX5_sizes 4 (some .boolean), Cond.methodLink RX5 44 yX5_isSize, Cond.static yX5_isSize, Cond.code yX5_isSize cX5_isSize 1 (some .boolean), Cond.methodLink RX5 48 yX4_resize, Cond.instanceMethod yX4_resize, Cond.selects RX4 yX4_resize yX4_resize, Cond.code yX4_resize cX4_resize 5 none, Cond.methodLink RX4 47 yX4_codeOf, Cond.instanceMethod yX4_codeOf, Cond.selects RX4 yX4_codeOf yX4_codeOf, Cond.code yX4_codeOf cX4_codeOf 4 (some .int), Cond.methodLink RX4 51 yJ7_fill_53178, Cond.static yJ7_fill_53178, Cond.initialized RJ7]
def wsL_law_r6 : List Cond := [Cond.code yJ7_fill_53178 cJ7_fill_53178 4 none, Cond.methodLink RX5 52 yX5_forgetPlaces, Cond.instanceMethod yX5_forgetPlaces, Cond.selects RX5 yX5_forgetPlaces yX5_forgetPlaces, Cond.code yX5_forgetPlaces cX5_forgetPlaces 1 none, Cond.fieldLink RX5 194 "PulseBoard$Places" "known" "Z", Cond.fieldLink RX5 63 "PulseBoard$Run" "there" "Z", Cond.methodLink RL 17 yX6_sizes, Cond.instanceMethod yX6_sizes, Cond.selects RX6 yX6_sizes yX6_sizes, Cond.code yX6_sizes cX6_sizes 4 (some .boolean), Cond.fieldLink RX6 67 "PulseBoardModel" "hasRun" "Z", Cond.methodLink RX6 54 yX6_in, Cond.static yX6_in, Cond.code yX6_in cX6_in 3 (some .boolean), Cond.methodLink RX6 64 yX6_noEdges, Cond.instanceMethod yX6_noEdges, Cond.selects RX6 yX6_noEdges yX6_noEdges, Cond.code yX6_noEdges cX6_noEdges 2 none, Cond.methodLink RL 18 yX5_variable, Cond.instanceMethod yX5_variable, Cond.selects RX5 yX5_variable yX5_variable, Cond.code yX5_variable cX5_variable 4 (some .int), Cond.fieldLink RX5 55 "PulseBoard$Sum" "variables" "I"]
def wsL_law_r7 : List Cond := [Cond.methodLink RX5 59 yX5_isStep, Cond.static yX5_isStep, Cond.code yX5_isStep cX5_isStep 3 (some .boolean), Cond.methodLink RX5 90 yX5_within, Cond.static yX5_within, Cond.code yX5_within cX5_within 4 (some .boolean), Cond.methodLink RX5 210 yX5_leadsUp, Cond.static yX5_leadsUp, Cond.code yX5_leadsUp cX5_leadsUp 3 (some .boolean), Cond.methodLink RX5 67 yX4_addVariable, Cond.instanceMethod yX4_addVariable, Cond.selects RX4 yX4_addVariable yX4_addVariable, Cond.code yX4_addVariable cX4_addVariable 5 (some .int), Cond.methodLink RX4 57 yX4_setAct, Cond.instanceMethod yX4_setAct, Cond.selects RX4 yX4_setAct yX4_setAct, Cond.code yX4_setAct cX4_setAct 5 none, Cond.methodLink RL 22 yX6_variable, Cond.instanceMethod yX6_variable, Cond.selects RX6 yX6_variable yX6_variable, Cond.code yX6_variable cX6_variable 6 (some .int), Cond.fieldLink RX6 58 "PulseBoardModel" "variables" "I", Cond.methodLink RL 23 yX5_act, Cond.instanceMethod yX5_act]
def wsL_law_r8 : List Cond := [Cond.selects RX5 yX5_act yX5_act, Cond.code yX5_act cX5_act 5 (some .boolean), Cond.methodLink RX5 71 yX4_has, Cond.instanceMethod yX4_has, Cond.selects RX4 yX4_has yX4_has, Cond.code yX4_has cX4_has 2 (some .boolean), Cond.methodLink RX5 74 yX4_setAct, Cond.methodLink RL 27 yX6_act, Cond.instanceMethod yX6_act, Cond.selects RX6 yX6_act yX6_act, Cond.code yX6_act cX6_act 5 (some .boolean), Cond.methodLink RX6 71 yX6_isVariable, Cond.instanceMethod yX6_isVariable, Cond.selects RX6 yX6_isVariable yX6_isVariable, Cond.code yX6_isVariable cX6_isVariable 2 (some .boolean), Cond.methodLink RL 28 yX5_edge, Cond.instanceMethod yX5_edge, Cond.selects RX5 yX5_edge yX5_edge, Cond.code yX5_edge cX5_edge 7 (some .boolean), Cond.methodLink RX5 78 yX4_codeOf, Cond.methodLink RX5 81 yX4_setEdge, Cond.instanceMethod yX4_setEdge, Cond.selects RX4 yX4_setEdge yX4_setEdge, Cond.code yX4_setEdge cX4_setEdge 4 none]
def wsL_law_r9 : List Cond := [Cond.methodLink RL 32 yX6_edge, Cond.instanceMethod yX6_edge, Cond.selects RX6 yX6_edge yX6_edge, Cond.code yX6_edge cX6_edge 6 (some .boolean), Cond.methodLink RX6 61 yX6_isPoint, Cond.instanceMethod yX6_isPoint, Cond.selects RX6 yX6_isPoint yX6_isPoint, Cond.code yX6_isPoint cX6_isPoint 4 (some .boolean), Cond.methodLink RL 33 yX5_clear, Cond.instanceMethod yX5_clear, Cond.selects RX5 yX5_clear yX5_clear, Cond.code yX5_clear cX5_clear 1 none, Cond.methodLink RX5 84 yX4_dropVariables, Cond.instanceMethod yX4_dropVariables, Cond.selects RX4 yX4_dropVariables yX4_dropVariables, Cond.code yX4_dropVariables cX4_dropVariables 1 none, Cond.methodLink RL 36 yX6_clear, Cond.instanceMethod yX6_clear, Cond.selects RX6 yX6_clear yX6_clear, Cond.code yX6_clear cX6_clear 1 none, Cond.methodLink RL 37 yX5_lay, Cond.instanceMethod yX5_lay, Cond.selects RX5 yX5_lay yX5_lay, Cond.code yX5_lay cX5_lay 5 (some .boolean)]
def wsL_law_r10 : List Cond := [Cond.methodLink RX5 87 yX5_isIndex, Cond.static yX5_isIndex, Cond.code yX5_isIndex cX5_isIndex 1 (some .boolean), Cond.methodLink RX5 94 yX5_areZeros, Cond.static yX5_areZeros, Cond.code yX5_areZeros cX5_areZeros 3 (some .boolean), Cond.methodLink RX5 97 yX1_put, Cond.instanceMethod yX1_put, Cond.selects RX1 yX1_put yX1_put, Cond.code yX1_put cX1_put 5 none, Cond.methodLink RL 40 yX6_lay, Cond.instanceMethod yX6_lay, Cond.selects RX6 yX6_lay yX6_lay, Cond.code yX6_lay cX6_lay 6 (some .boolean), Cond.methodLink RL 41 yX5_fold, Cond.instanceMethod yX5_fold, Cond.selects RX5 yX5_fold yX5_fold, Cond.code yX5_fold cX5_fold 2 (some .boolean), Cond.fieldLink RX5 100 "PulseBoard$Plan" "fold" "I", Cond.methodLink RL 45 yX6_fold, Cond.instanceMethod yX6_fold, Cond.selects RX6 yX6_fold yX6_fold, Cond.code yX6_fold cX6_fold 2 (some .boolean), Cond.methodLink RL 46 yX5_why]
def wsL_law_r11 : List Cond := [Cond.instanceMethod yX5_why, Cond.selects RX5 yX5_why yX5_why, Cond.code yX5_why cX5_why 3 (some .int), Cond.fieldLink RX5 111 "PulseBoard$Places" "earlier" "I", Cond.methodLink RX5 103 yX5_reason, Cond.instanceMethod yX5_reason, Cond.selects RX5 yX5_reason yX5_reason, Cond.code yX5_reason cX5_reason 1 (some .int), Cond.fieldLink RX5 207 "PulseBoard$Places" "later" "I", Cond.methodLink RX5 201 yX1_tooEarly, Cond.instanceMethod yX1_tooEarly, Cond.selects RX1 yX1_tooEarly yX1_tooEarly, Cond.code yX1_tooEarly cX1_tooEarly 3 (some .int), Cond.fieldLink RX1 51 "PulseBoard$Sum" "variables" "I", Cond.methodLink RX1 54 yX4_isNeeded, Cond.instanceMethod yX4_isNeeded, Cond.selects RX4 yX4_isNeeded yX4_isNeeded, Cond.code yX4_isNeeded cX4_isNeeded 3 (some .boolean), Cond.methodLink RX4 61 Lib.Math.abs.name, Cond.static Lib.Math.abs.name, Cond.initialized "java/lang/Math", Cond.code Lib.Math.abs.name Lib.Math.abs.code 1 (some .int), Cond.methodLink RX1 58 yX1_delay, Cond.instanceMethod yX1_delay]
def wsL_law_r12 : List Cond := [Cond.selects RX1 yX1_delay yX1_delay, Cond.code yX1_delay cX1_delay 3 (some .int), Cond.methodLink RX1 44 yX1_timesStep, Cond.instanceMethod yX1_timesStep, Cond.selects RX1 yX1_timesStep yX1_timesStep, Cond.code yX1_timesStep cX1_timesStep 6 (some .int), Cond.fieldLink RX1 48 "PulseBoard$Sum" "step" "[I", Cond.methodLink RX5 204 yX1_tooFar, Cond.instanceMethod yX1_tooFar, Cond.selects RX1 yX1_tooFar yX1_tooFar, Cond.code yX1_tooFar cX1_tooFar 3 (some .int), Cond.methodLink RX1 62 yX1_way, Cond.instanceMethod yX1_way, Cond.selects RX1 yX1_way yX1_way, Cond.code yX1_way cX1_way 3 (some .int), Cond.methodLink RX1 40 Lib.Math.abs.name, Cond.methodLink RX5 114 yX5_settle, Cond.instanceMethod yX5_settle, Cond.selects RX5 yX5_settle yX5_settle, Cond.code yX5_settle cX5_settle 1 none, Cond.methodLink RX5 197 yX0_place, Cond.instanceMethod yX0_place, Cond.selects RX0 yX0_place yX0_place, Cond.code yX0_place cX0_place 5 none]
def wsL_law_r13 : List Cond := [Cond.fieldLink RX0 45 "PulseBoard$Places" "beats" "I", Cond.fieldLink RX0 48 "PulseBoard$Places" "cells" "I", Cond.fieldLink RX0 51 "PulseBoard$Sum" "points" "I", Cond.fieldLink RX0 56 "PulseBoard$Sum" "codes" "[I", Cond.methodLink RX0 59 Lib.Math.max.name, Cond.static Lib.Math.max.name, Cond.code Lib.Math.max.name Lib.Math.max.code 2 (some .int), Cond.methodLink RX0 41 yX0_layPoints, Cond.instanceMethod yX0_layPoints, Cond.selects RX0 yX0_layPoints yX0_layPoints, Cond.code yX0_layPoints cX0_layPoints 10 none, Cond.fieldLink RX0 82 "PulseBoard$Plan" "fold" "I", Cond.methodLink RX0 76 yX1_least, Cond.instanceMethod yX1_least, Cond.selects RX1 yX1_least yX1_least, Cond.code yX1_least cX1_least 5 (some .int), Cond.fieldLink RX1 29 "PulseBoard$Sum" "size" "[I", Cond.methodLink RX1 34 Lib.Math.min.name, Cond.static Lib.Math.min.name, Cond.code Lib.Math.min.name Lib.Math.min.code 2 (some .int), Cond.methodLink RX0 85 yX1_timesCode, Cond.instanceMethod yX1_timesCode, Cond.selects RX1 yX1_timesCode yX1_timesCode, Cond.code yX1_timesCode cX1_timesCode 3 (some .int)]
def wsL_law_r14 : List Cond := [Cond.methodLink RX1 25 yX1_times, Cond.instanceMethod yX1_times, Cond.selects RX1 yX1_times yX1_times, Cond.code yX1_times cX1_times 6 (some .int), Cond.methodLink RX0 65 yX0_link, Cond.instanceMethod yX0_link, Cond.selects RX0 yX0_link yX0_link, Cond.code yX0_link cX0_link 3 none, Cond.methodLink RX0 73 yX0_cellKey, Cond.instanceMethod yX0_cellKey, Cond.selects RX0 yX0_cellKey yX0_cellKey, Cond.code yX0_cellKey cX0_cellKey 2 (some .int), Cond.methodLink RX0 69 yX0_metBy, Cond.instanceMethod yX0_metBy, Cond.selects RX0 yX0_metBy yX0_metBy, Cond.code yX0_metBy cX0_metBy 4 (some .int), Cond.methodLink RX5 107 yX5_culprit, Cond.instanceMethod yX5_culprit, Cond.selects RX5 yX5_culprit yX5_culprit, Cond.code yX5_culprit cX5_culprit 2 (some .int), Cond.methodLink RL 50 yX6_why, Cond.instanceMethod yX6_why, Cond.selects RX6 yX6_why yX6_why, Cond.code yX6_why cX6_why 5 (some .int)]
def wsL_law_r15 : List Cond := [Cond.methodLink RX6 95 yX6_wrongDelay, Cond.instanceMethod yX6_wrongDelay, Cond.selects RX6 yX6_wrongDelay yX6_wrongDelay, Cond.code yX6_wrongDelay cX6_wrongDelay 3 (some .int), Cond.methodLink RX6 86 yX6_isNeeded, Cond.instanceMethod yX6_isNeeded, Cond.selects RX6 yX6_isNeeded yX6_isNeeded, Cond.code yX6_isNeeded cX6_isNeeded 2 (some .boolean), Cond.methodLink RX6 82 yX6_absolute, Cond.static yX6_absolute, Cond.code yX6_absolute cX6_absolute 1 (some .int), Cond.methodLink RX6 89 yX6_delayOf, Cond.instanceMethod yX6_delayOf, Cond.selects RX6 yX6_delayOf yX6_delayOf, Cond.code yX6_delayOf cX6_delayOf 2 (some .int), Cond.methodLink RX6 79 yX6_stepBy, Cond.instanceMethod yX6_stepBy, Cond.selects RX6 yX6_stepBy yX6_stepBy, Cond.code yX6_stepBy cX6_stepBy 3 (some .int), Cond.methodLink RX6 99 yX6_wrongWay, Cond.instanceMethod yX6_wrongWay, Cond.selects RX6 yX6_wrongWay yX6_wrongWay, Cond.code yX6_wrongWay cX6_wrongWay 3 (some .int), Cond.methodLink RX6 92 yX6_wayOf]
def wsL_law_r16 : List Cond := [Cond.instanceMethod yX6_wayOf, Cond.selects RX6 yX6_wayOf yX6_wayOf, Cond.code yX6_wayOf cX6_wayOf 2 (some .int), Cond.methodLink RX6 102 yX6_meets, Cond.instanceMethod yX6_meets, Cond.selects RX6 yX6_meets yX6_meets, Cond.code yX6_meets cX6_meets 6 (some .boolean), Cond.methodLink RX6 106 yX6_isPointNumber, Cond.instanceMethod yX6_isPointNumber, Cond.selects RX6 yX6_isPointNumber yX6_isPointNumber, Cond.code yX6_isPointNumber cX6_isPointNumber 2 (some .boolean), Cond.methodLink RX6 109 yX6_sameAs, Cond.instanceMethod yX6_sameAs, Cond.selects RX6 yX6_sameAs yX6_sameAs, Cond.code yX6_sameAs cX6_sameAs 3 (some .int), Cond.methodLink RX6 75 yX6_at, Cond.instanceMethod yX6_at, Cond.selects RX6 yX6_at yX6_at, Cond.code yX6_at cX6_at 6 (some .int), Cond.methodLink RL 51 yX5_laid, Cond.instanceMethod yX5_laid, Cond.selects RX5 yX5_laid yX5_laid, Cond.code yX5_laid cX5_laid 2 (some .int), Cond.fieldLink RX5 117 "PulseBoard$Places" "beats" "I"]
def wsL_law_r17 : List Cond := [Cond.fieldLink RX5 120 "PulseBoard$Places" "cells" "I", Cond.methodLink RX5 123 yX0_use, Cond.instanceMethod yX0_use, Cond.selects RX0 yX0_use yX0_use, Cond.code yX0_use cX0_use 3 (some .int), Cond.methodLink RX5 127 yX0_apart, Cond.instanceMethod yX0_apart, Cond.selects RX0 yX0_apart yX0_apart, Cond.code yX0_apart cX0_apart 3 (some .int), Cond.methodLink RX0 88 yJ7_fill_53178, Cond.methodLink RX0 94 yX0_markBetween, Cond.instanceMethod yX0_markBetween, Cond.selects RX0 yX0_markBetween yX0_markBetween, Cond.code yX0_markBetween cX0_markBetween 4 none, Cond.methodLink RX0 101 Lib.Math.abs.name, Cond.methodLink RX0 97 yX0_isFree, Cond.instanceMethod yX0_isFree, Cond.selects RX0 yX0_isFree yX0_isFree, Cond.code yX0_isFree cX0_isFree 3 (some .boolean), Cond.methodLink RL 54 yX6_laid, Cond.instanceMethod yX6_laid, Cond.selects RX6 yX6_laid yX6_laid, Cond.code yX6_laid cX6_laid 2 (some .int), Cond.methodLink RX6 121 yX6_beats]
def wsL_law_r18 : List Cond := [Cond.instanceMethod yX6_beats, Cond.selects RX6 yX6_beats yX6_beats, Cond.code yX6_beats cX6_beats 4 (some .int), Cond.methodLink RX6 112 yX6_beatOf, Cond.instanceMethod yX6_beatOf, Cond.selects RX6 yX6_beatOf yX6_beatOf, Cond.code yX6_beatOf cX6_beatOf 2 (some .int), Cond.methodLink RX6 124 yX6_cells, Cond.instanceMethod yX6_cells, Cond.selects RX6 yX6_cells yX6_cells, Cond.code yX6_cells cX6_cells 4 (some .int), Cond.methodLink RX6 115 yX6_cellOf, Cond.instanceMethod yX6_cellOf, Cond.selects RX6 yX6_cellOf yX6_cellOf, Cond.code yX6_cellOf cX6_cellOf 2 (some .int), Cond.methodLink RX6 127 yX6_points, Cond.instanceMethod yX6_points, Cond.selects RX6 yX6_points yX6_points, Cond.code yX6_points cX6_points 1 (some .int), Cond.methodLink RX6 130 yX6_apart, Cond.instanceMethod yX6_apart, Cond.selects RX6 yX6_apart yX6_apart, Cond.code yX6_apart cX6_apart 3 (some .int), Cond.methodLink RX6 118 yX6_divides]
def wsL_law_r19 : List Cond := [Cond.instanceMethod yX6_divides, Cond.selects RX6 yX6_divides yX6_divides, Cond.code yX6_divides cX6_divides 4 (some .boolean), Cond.methodLink RL 55 yX5_where, Cond.instanceMethod yX5_where, Cond.selects RX5 yX5_where yX5_where, Cond.code yX5_where cX5_where 6 (some .int), Cond.fieldLink RX5 130 "PulseBoard$Places" "beat" "[I", Cond.fieldLink RX5 134 "PulseBoard$Places" "cell" "[I", Cond.fieldLink RX5 137 "PulseBoard$Places" "second" "[I", Cond.methodLink RL 59 yX6_where, Cond.instanceMethod yX6_where, Cond.selects RX6 yX6_where yX6_where, Cond.code yX6_where cX6_where 6 (some .int), Cond.methodLink RL 60 yX5_needs, Cond.instanceMethod yX5_needs, Cond.selects RX5 yX5_needs yX5_needs, Cond.code yX5_needs cX5_needs 3 (some .int), Cond.methodLink RX5 140 yX1_delay, Cond.methodLink RX5 144 yX1_way, Cond.methodLink RX5 147 yX4_isNeeded, Cond.methodLink RL 64 yX6_needs, Cond.instanceMethod yX6_needs, Cond.selects RX6 yX6_needs yX6_needs]
def wsL_law_r20 : List Cond := [Cond.code yX6_needs cX6_needs 3 (some .int), Cond.methodLink RL 65 yX5_best, Cond.instanceMethod yX5_best, Cond.selects RX5 yX5_best yX5_best, Cond.code yX5_best cX5_best 5 (some .int), Cond.fieldLink RX5 154 "PulseBoard$Search" "winner" "LPulseBoard$Plan;", Cond.methodLink RX5 150 yX3_find, Cond.instanceMethod yX3_find, Cond.selects RX3 yX3_find yX3_find, Cond.code yX3_find cX3_find 8 (some .boolean), Cond.methodLink RX3 36 yX3_spell, Cond.instanceMethod yX3_spell, Cond.selects RX3 yX3_spell yX3_spell, Cond.code yX3_spell cX3_spell 5 none, Cond.methodLink RX3 69 Lib.Math.max.name, Cond.methodLink RX3 75 yX1_put, Cond.methodLink RX3 40 yX1_beatsUnfolded, Cond.instanceMethod yX1_beatsUnfolded, Cond.selects RX1 yX1_beatsUnfolded yX1_beatsUnfolded, Cond.code yX1_beatsUnfolded cX1_beatsUnfolded 4 (some .int), Cond.methodLink RX3 44 yX1_tooEarly, Cond.methodLink RX3 47 yX3_tryLines, Cond.instanceMethod yX3_tryLines, Cond.selects RX3 yX3_tryLines yX3_tryLines]
def wsL_law_r21 : List Cond := [Cond.code yX3_tryLines cX3_tryLines 11 none, Cond.methodLink RX3 51 yX3_consider, Cond.instanceMethod yX3_consider, Cond.selects RX3 yX3_consider yX3_consider, Cond.code yX3_consider cX3_consider 5 none, Cond.methodLink RX3 55 yX1_tooFar, Cond.methodLink RX3 58 yX3_countCells, Cond.instanceMethod yX3_countCells, Cond.selects RX3 yX3_countCells yX3_countCells, Cond.code yX3_countCells cX3_countCells 2 (some .int), Cond.fieldLink RX3 83 "PulseBoard$Sum" "points" "I", Cond.methodLink RX3 79 yX3_findAcross, Cond.instanceMethod yX3_findAcross, Cond.selects RX3 yX3_findAcross yX3_findAcross, Cond.code yX3_findAcross cX3_findAcross 10 (some .boolean), Cond.fieldLink RX3 98 "PulseBoard$Plan" "numbers" "[I", Cond.methodLink RX3 101 Lib.Math.abs.name, Cond.methodLink RX3 105 yX3_commonDivisor, Cond.static yX3_commonDivisor, Cond.code yX3_commonDivisor cX3_commonDivisor 6 (some .int), Cond.methodLink RX3 88 yX3_countBehind, Cond.instanceMethod yX3_countBehind, Cond.selects RX3 yX3_countBehind yX3_countBehind, Cond.code yX3_countBehind cX3_countBehind 4 (some .int)]
def wsL_law_r22 : List Cond := [Cond.fieldLink RX3 108 "PulseBoard$Sum" "size" "[I", Cond.methodLink RX3 95 yX3_countLine, Cond.instanceMethod yX3_countLine, Cond.selects RX3 yX3_countLine yX3_countLine, Cond.code yX3_countLine cX3_countLine 7 (some .int), Cond.methodLink RX3 111 yJ13_bitCount_95d88, Cond.static yJ13_bitCount_95d88, Cond.initialized RJ13, Cond.code yJ13_bitCount_95d88 cJ13_bitCount_95d88 2 (some .int), Cond.constantLong RJ13 314 (6148914691236517205), Cond.constantLong RJ13 316 (3689348814741910323), Cond.constantLong RJ13 318 (1085102592571150095), Cond.methodLink RX3 61 yX3_partsAll, Cond.instanceMethod yX3_partsAll, Cond.selects RX3 yX3_partsAll yX3_partsAll, Cond.code yX3_partsAll cX3_partsAll 3 (some .boolean), Cond.methodLink RX3 91 yX1_times, Cond.methodLink RX3 65 yX1_takeNumbers, Cond.instanceMethod yX1_takeNumbers, Cond.selects RX1 yX1_takeNumbers yX1_takeNumbers, Cond.code yX1_takeNumbers cX1_takeNumbers 2 none, Cond.methodLink RX1 19 arraycopyName, Cond.native arraycopyName, Cond.static arraycopyName]
def wsL_law_r23 : List Cond := [Cond.initialized "java/lang/System", Cond.methodLink RX5 157 yX1_takeNumbers, Cond.methodLink RL 68 yX6_best, Cond.instanceMethod yX6_best, Cond.selects RX6 yX6_best yX6_best, Cond.code yX6_best cX6_best 14 (some .int), Cond.methodLink RX6 133 yX6_numbers, Cond.instanceMethod yX6_numbers, Cond.selects RX6 yX6_numbers yX6_numbers, Cond.code yX6_numbers cX6_numbers 5 none, Cond.methodLink RX6 136 yX6_isRight, Cond.instanceMethod yX6_isRight, Cond.selects RX6 yX6_isRight yX6_isRight, Cond.code yX6_isRight cX6_isRight 1 (some .boolean), Cond.methodLink RL 69 yX5_laying, Cond.instanceMethod yX5_laying, Cond.selects RX5 yX5_laying yX5_laying, Cond.code yX5_laying cX5_laying 3 (some .int), Cond.fieldLink RX5 161 "PulseBoard$Plan" "numbers" "[I", Cond.methodLink RL 72 yX6_laying, Cond.instanceMethod yX6_laying, Cond.selects RX6 yX6_laying yX6_laying, Cond.code yX6_laying cX6_laying 3 (some .int), Cond.methodLink RL 73 yX5_run]
def wsL_law_r24 : List Cond := [Cond.instanceMethod yX5_run, Cond.selects RX5 yX5_run yX5_run, Cond.code yX5_run cX5_run 1 (some .int), Cond.methodLink RX5 164 yX2_work, Cond.instanceMethod yX2_work, Cond.selects RX2 yX2_work yX2_work, Cond.code yX2_work cX2_work 6 (some .int), Cond.fieldLink RX2 32 "PulseBoard$Places" "beats" "I", Cond.methodLink RX2 35 yX2_sortByBeat, Cond.instanceMethod yX2_sortByBeat, Cond.selects RX2 yX2_sortByBeat yX2_sortByBeat, Cond.code yX2_sortByBeat cX2_sortByBeat 6 none, Cond.fieldLink RX2 53 "PulseBoard$Sum" "points" "I", Cond.fieldLink RX2 56 "PulseBoard$Places" "beat" "[I", Cond.fieldLink RX2 59 "PulseBoard$Sum" "codes" "[I", Cond.methodLink RX2 48 yJ7_fill_53178, Cond.methodLink RX2 39 yX4_workPoint, Cond.instanceMethod yX4_workPoint, Cond.selects RX4 yX4_workPoint yX4_workPoint, Cond.code yX4_workPoint cX4_workPoint 7 none, Cond.methodLink RX4 67 yX4_comes, Cond.instanceMethod yX4_comes, Cond.selects RX4 yX4_comes yX4_comes, Cond.code yX4_comes cX4_comes 5 (some .int)]
def wsL_law_r25 : List Cond := [Cond.methodLink RX4 75 yX4_stepped, Cond.instanceMethod yX4_stepped, Cond.selects RX4 yX4_stepped yX4_stepped, Cond.code yX4_stepped cX4_stepped 7 (some .int), Cond.methodLink RX4 71 yX4_made, Cond.static yX4_made, Cond.code yX4_made cX4_made 4 (some .int), Cond.methodLink RX4 78 Lib.Math.min.name, Cond.methodLink RX4 82 Lib.Math.max.name, Cond.methodLink RX2 45 yX2_countHeld, Cond.instanceMethod yX2_countHeld, Cond.selects RX2 yX2_countHeld yX2_countHeld, Cond.code yX2_countHeld cX2_countHeld 6 none, Cond.fieldLink RX2 62 "PulseBoard$Sum" "variables" "I", Cond.methodLink RX2 65 yX4_stepped, Cond.methodLink RL 77 yX6_run, Cond.instanceMethod yX6_run, Cond.selects RX6 yX6_run yX6_run, Cond.code yX6_run cX6_run 4 (some .int), Cond.methodLink RX6 150 yX6_work, Cond.instanceMethod yX6_work, Cond.selects RX6 yX6_work yX6_work, Cond.code yX6_work cX6_work 7 none, Cond.methodLink RX6 142 yX6_comes]
def wsL_law_r26 : List Cond := [Cond.instanceMethod yX6_comes, Cond.selects RX6 yX6_comes yX6_comes, Cond.code yX6_comes cX6_comes 5 (some .int), Cond.methodLink RX6 139 yX6_ahead, Cond.instanceMethod yX6_ahead, Cond.selects RX6 yX6_ahead yX6_ahead, Cond.code yX6_ahead cX6_ahead 6 (some .int), Cond.methodLink RX6 146 yX6_made, Cond.static yX6_made, Cond.code yX6_made cX6_made 4 (some .int), Cond.methodLink RL 78 yX5_worked, Cond.instanceMethod yX5_worked, Cond.selects RX5 yX5_worked yX5_worked, Cond.code yX5_worked cX5_worked 4 (some .int), Cond.methodLink RX5 168 yX2_hasBeat, Cond.instanceMethod yX2_hasBeat, Cond.selects RX2 yX2_hasBeat yX2_hasBeat, Cond.code yX2_hasBeat cX2_hasBeat 2 (some .boolean), Cond.methodLink RX5 171 yX2_pointAt, Cond.instanceMethod yX2_pointAt, Cond.selects RX2 yX2_pointAt yX2_pointAt, Cond.code yX2_pointAt cX2_pointAt 7 (some .int), Cond.fieldLink RX2 69 "PulseBoard$Places" "cell" "[I", Cond.fieldLink RX2 72 "PulseBoard$Places" "second" "[I"]
def wsL_law_r27 : List Cond := [Cond.methodLink RL 81 yX6_worked, Cond.instanceMethod yX6_worked, Cond.selects RX6 yX6_worked yX6_worked, Cond.code yX6_worked cX6_worked 5 (some .int), Cond.methodLink RL 82 yX5_held, Cond.instanceMethod yX5_held, Cond.selects RX5 yX5_held yX5_held, Cond.code yX5_held cX5_held 2 (some .int), Cond.fieldLink RX5 175 "PulseBoard$Run" "held" "[I", Cond.methodLink RL 85 yX6_held, Cond.instanceMethod yX6_held, Cond.selects RX6 yX6_held yX6_held, Cond.code yX6_held cX6_held 6 (some .int), Cond.methodLink RX6 154 yX6_behind, Cond.instanceMethod yX6_behind, Cond.selects RX6 yX6_behind yX6_behind, Cond.code yX6_behind cX6_behind 6 (some .int), Cond.methodLink RL 86 yX5_value, Cond.instanceMethod yX5_value, Cond.selects RX5 yX5_value yX5_value, Cond.code yX5_value cX5_value 6 (some .int), Cond.fieldLink RX5 178 "PulseBoard$Run" "values" "[I", Cond.methodLink RL 89 yX6_value, Cond.instanceMethod yX6_value]
def wsL_law_r28 : List Cond := [Cond.selects RX6 yX6_value yX6_value, Cond.code yX6_value cX6_value 5 (some .int), Cond.methodLink RL 90 yX5_plain, Cond.instanceMethod yX5_plain, Cond.selects RX5 yX5_plain yX5_plain, Cond.code yX5_plain cX5_plain 6 (some .int), Cond.methodLink RX5 181 yX4_plainValue, Cond.instanceMethod yX4_plainValue, Cond.selects RX4 yX4_plainValue yX4_plainValue, Cond.code yX4_plainValue cX4_plainValue 4 (some .int), Cond.methodLink RX4 85 yX4_workPoint, Cond.methodLink RL 93 yX6_plain, Cond.instanceMethod yX6_plain, Cond.selects RX6 yX6_plain yX6_plain, Cond.code yX6_plain cX6_plain 5 (some .int), Cond.methodLink RX6 157 yX6_plainly, Cond.instanceMethod yX6_plainly, Cond.selects RX6 yX6_plainly yX6_plainly, Cond.code yX6_plainly cX6_plainly 2 none, Cond.methodLink RL 94 yX5_result, Cond.instanceMethod yX5_result, Cond.selects RX5 yX5_result yX5_result, Cond.code yX5_result cX5_result 5 (some .int), Cond.methodLink RX5 185 yX4_resultCode]
def wsL_law_r29 : List Cond := [Cond.instanceMethod yX4_resultCode, Cond.selects RX4 yX4_resultCode yX4_resultCode, Cond.code yX4_resultCode cX4_resultCode 5 (some .int), Cond.methodLink RL 97 yX6_result, Cond.instanceMethod yX6_result, Cond.selects RX6 yX6_result yX6_result, Cond.code yX6_result cX6_result 6 (some .int), Cond.methodLink RL 98 yX5_about, Cond.instanceMethod yX5_about, Cond.selects RX5 yX5_about yX5_about, Cond.code yX5_about cX5_about 2 (some .int), Cond.fieldLink RX5 188 "PulseBoard$Sum" "points" "I", Cond.fieldLink RX5 191 "PulseBoard$Sum" "size" "[I", Cond.methodLink RL 101 yX6_about, Cond.instanceMethod yX6_about, Cond.selects RX6 yX6_about yX6_about, Cond.code yX6_about cX6_about 2 (some .int)]
def wsL_law : List Cond := (wsL_law_r1 ++ (wsL_law_r2 ++ (wsL_law_r3 ++ (wsL_law_r4 ++ (wsL_law_r5 ++ (wsL_law_r6 ++ (wsL_law_r7 ++ (wsL_law_r8 ++ (wsL_law_r9 ++ (wsL_law_r10 ++ (wsL_law_r11 ++ (wsL_law_r12 ++ (wsL_law_r13 ++ (wsL_law_r14 ++ (wsL_law_r15 ++ (wsL_law_r16 ++ (wsL_law_r17 ++ (wsL_law_r18 ++ (wsL_law_r19 ++ (wsL_law_r20 ++ (wsL_law_r21 ++ (wsL_law_r22 ++ (wsL_law_r23 ++ (wsL_law_r24 ++ (wsL_law_r25 ++ (wsL_law_r26 ++ (wsL_law_r27 ++ (wsL_law_r28 ++ wsL_law_r29)))))))))))))))))))))))))))) ++ wsX50 ++ wsX60 ++ wsX40 ++ wsX10 ++ wsX00 ++ wsX30 ++ wsX20 ++ ([] : List Cond)
theorem inlX0 : ∀ w ∈ wsX00, w ∈ wsL_law := fun _ h => List.mem_append_left _ (List.mem_append_left _ (List.mem_append_left _ (List.mem_append_right _ h)))
theorem inlX1 : ∀ w ∈ wsX10, w ∈ wsL_law := fun _ h => List.mem_append_left _ (List.mem_append_left _ (List.mem_append_left _ (List.mem_append_left _ (List.mem_append_right _ h))))
theorem inlX2 : ∀ w ∈ wsX20, w ∈ wsL_law := fun _ h => List.mem_append_left _ (List.mem_append_right _ h)
theorem inlX3 : ∀ w ∈ wsX30, w ∈ wsL_law := fun _ h => List.mem_append_left _ (List.mem_append_left _ (List.mem_append_right _ h))
theorem inlX4 : ∀ w ∈ wsX40, w ∈ wsL_law := fun _ h => List.mem_append_left _ (List.mem_append_left _ (List.mem_append_left _ (List.mem_append_left _ (List.mem_append_left _ (List.mem_append_right _ h)))))
theorem inlX5 : ∀ w ∈ wsX50, w ∈ wsL_law := fun _ h => List.mem_append_left _ (List.mem_append_left _ (List.mem_append_left _ (List.mem_append_left _ (List.mem_append_left _ (List.mem_append_left _ (List.mem_append_left _ (List.mem_append_right _ h)))))))
theorem inlX6 : ∀ w ∈ wsX60, w ∈ wsL_law := fun _ h => List.mem_append_left _ (List.mem_append_left _ (List.mem_append_left _ (List.mem_append_left _ (List.mem_append_left _ (List.mem_append_left _ (List.mem_append_right _ h))))))
theorem inJ13 : ∀ w ∈ wsJ130, w ∈ lw_tbl := by decide +kernel
theorem inJ9 : ∀ w ∈ wsJ90, w ∈ lw_tbl := by decide +kernel
theorem inJ10 : ∀ w ∈ wsJ100, w ∈ lw_tbl := by decide +kernel
theorem inJ7 : ∀ w ∈ wsJ70, w ∈ lw_tbl := by decide +kernel
abbrev vwCl : List vw_C := [(RX0, TX0, 11), (RX1, TX1, 2), (RX2, TX2, 6), (RX3, TX3, 6), (RX4, TX4, 11), (RX5, TX5, 5), (RX6, TX6, 16)]
end
section
set_option maxRecDepth 20000 in
theorem wsLg_1 : GoodIn lw_tbl wsL_law_r1 := goodIn_p _ [65, 68] (by decide +kernel) (by decide +kernel)
set_option maxRecDepth 20000 in
theorem wsLg_2 : GoodIn lw_tbl wsL_law_r2 := goodIn_p _ [73] (by decide +kernel) (by decide +kernel)
set_option maxRecDepth 20000 in
theorem wsLg_3 : GoodIn lw_tbl wsL_law_r3 := goodIn_p _ [127, 144, 196] (by decide +kernel) (by decide +kernel)
set_option maxRecDepth 20000 in
theorem wsLg_4 : GoodIn lw_tbl wsL_law_r4 := goodIn_p _ [224, 617] (by decide +kernel) (by decide +kernel)
set_option maxRecDepth 20000 in
theorem wsLg_5 : GoodIn lw_tbl wsL_law_r5 := goodIn_p _ [267, 270, 274, 278] (by decide +kernel) (by decide +kernel)
set_option maxRecDepth 20000 in
theorem wsLg_6 : GoodIn lw_tbl wsL_law_r6 := goodIn_p _ [281, 285, 672, 675, 679, 289] (by decide +kernel) (by decide +kernel)
end
section
set_option maxRecDepth 20000 in
theorem wsLg_7 : GoodIn lw_tbl wsL_law_r7 := goodIn_p _ [292, 295, 298, 302, 306, 683] (by decide +kernel) (by decide +kernel)
set_option maxRecDepth 20000 in
theorem wsLg_8 : GoodIn lw_tbl wsL_law_r8 := goodIn_p _ [310, 314, 687, 691, 319, 324] (by decide +kernel) (by decide +kernel)
set_option maxRecDepth 20000 in
theorem wsLg_9 : GoodIn lw_tbl wsL_law_r9 := goodIn_p _ [695, 699, 328, 332, 703, 336] (by decide +kernel) (by decide +kernel)
set_option maxRecDepth 20000 in
theorem wsLg_10 : GoodIn lw_tbl wsL_law_r10 := goodIn_p _ [339, 342, 346, 707, 350, 711] (by decide +kernel) (by decide +kernel)
set_option maxRecDepth 20000 in
theorem wsLg_11 : GoodIn lw_tbl wsL_law_r11 := goodIn_p _ [354, 358, 362, 366, 369] (by decide +kernel) (by decide +kernel)
set_option maxRecDepth 20000 in
theorem wsLg_12 : GoodIn lw_tbl wsL_law_r12 := goodIn_p _ [373, 377, 381, 385, 390, 394] (by decide +kernel) (by decide +kernel)
end
section
set_option maxRecDepth 20000 in
theorem wsLg_13 : GoodIn lw_tbl wsL_law_r13 := goodIn_p _ [408, 398, 402, 405, 412] (by decide +kernel) (by decide +kernel)
set_option maxRecDepth 20000 in
theorem wsLg_14 : GoodIn lw_tbl wsL_law_r14 := goodIn_p _ [416, 420, 424, 428, 432, 715] (by decide +kernel) (by decide +kernel)
set_option maxRecDepth 20000 in
theorem wsLg_15 : GoodIn lw_tbl wsL_law_r15 := goodIn_p _ [719, 723, 726, 730, 734, 738] (by decide +kernel) (by decide +kernel)
set_option maxRecDepth 20000 in
theorem wsLg_16 : GoodIn lw_tbl wsL_law_r16 := goodIn_p _ [742, 746, 750, 754, 758, 436] (by decide +kernel) (by decide +kernel)
set_option maxRecDepth 20000 in
theorem wsLg_17 : GoodIn lw_tbl wsL_law_r17 := goodIn_p _ [440, 444, 449, 454, 762] (by decide +kernel) (by decide +kernel)
set_option maxRecDepth 20000 in
theorem wsLg_18 : GoodIn lw_tbl wsL_law_r18 := goodIn_p _ [766, 770, 774, 778, 782, 786] (by decide +kernel) (by decide +kernel)
end
section
set_option maxRecDepth 20000 in
theorem wsLg_19 : GoodIn lw_tbl wsL_law_r19 := goodIn_p _ [790, 458, 794, 462] (by decide +kernel) (by decide +kernel)
set_option maxRecDepth 20000 in
theorem wsLg_20 : GoodIn lw_tbl wsL_law_r20 := goodIn_p _ [798, 469, 473, 477, 483] (by decide +kernel) (by decide +kernel)
set_option maxRecDepth 20000 in
theorem wsLg_21 : GoodIn lw_tbl wsL_law_r21 := goodIn_p _ [488, 492, 497, 501, 505, 509] (by decide +kernel) (by decide +kernel)
set_option maxRecDepth 20000 in
theorem wsLg_22 : GoodIn lw_tbl wsL_law_r22 := goodIn_p _ [513, 516, 523, 528] (by decide +kernel) (by decide +kernel)
set_option maxRecDepth 20000 in
theorem wsLg_23 : GoodIn lw_tbl wsL_law_r23 := goodIn_p _ [802, 806, 810, 536, 814] (by decide +kernel) (by decide +kernel)
set_option maxRecDepth 20000 in
theorem wsLg_24 : GoodIn lw_tbl wsL_law_r24 := goodIn_p _ [540, 544, 548, 553, 557] (by decide +kernel) (by decide +kernel)
end
section
set_option maxRecDepth 20000 in
theorem wsLg_25 : GoodIn lw_tbl wsL_law_r25 := goodIn_p _ [561, 564, 570, 818, 822] (by decide +kernel) (by decide +kernel)
set_option maxRecDepth 20000 in
theorem wsLg_26 : GoodIn lw_tbl wsL_law_r26 := goodIn_p _ [826, 830, 833, 575, 579, 583] (by decide +kernel) (by decide +kernel)
set_option maxRecDepth 20000 in
theorem wsLg_27 : GoodIn lw_tbl wsL_law_r27 := goodIn_p _ [837, 587, 841, 845, 591] (by decide +kernel) (by decide +kernel)
set_option maxRecDepth 20000 in
theorem wsLg_28 : GoodIn lw_tbl wsL_law_r28 := goodIn_p _ [849, 595, 599, 853, 857, 604] (by decide +kernel) (by decide +kernel)
set_option maxRecDepth 20000 in
theorem wsLg_29 : GoodIn lw_tbl wsL_law_r29 := goodIn_p _ [608, 861, 612, 865] (by decide +kernel) (by decide +kernel)
set_option maxRecDepth 20000 in
theorem wsLg_X5 : GoodIn lw_tbl wsX50 := goodIn_p _ [] (by decide +kernel) (by decide +kernel)
end
section
set_option maxRecDepth 20000 in
theorem wsLg_X6 : GoodIn lw_tbl wsX60 := goodIn_p _ [] (by decide +kernel) (by decide +kernel)
set_option maxRecDepth 20000 in
theorem wsLg_X4 : GoodIn lw_tbl wsX40 := goodIn_p _ [] (by decide +kernel) (by decide +kernel)
set_option maxRecDepth 20000 in
theorem wsLg_X1 : GoodIn lw_tbl wsX10 := goodIn_p _ [] (by decide +kernel) (by decide +kernel)
set_option maxRecDepth 20000 in
theorem wsLg_X0 : GoodIn lw_tbl wsX00 := goodIn_p _ [] (by decide +kernel) (by decide +kernel)
set_option maxRecDepth 20000 in
theorem wsLg_X3 : GoodIn lw_tbl wsX30 := goodIn_p _ [] (by decide +kernel) (by decide +kernel)
set_option maxRecDepth 20000 in
theorem wsLg_X2 : GoodIn lw_tbl wsX20 := goodIn_p _ [] (by decide +kernel) (by decide +kernel)
end
section
theorem wsL_all : GoodIn lw_tbl wsL_law := goodIn_app (goodIn_app (goodIn_app (goodIn_app (goodIn_app (goodIn_app (goodIn_app (goodIn_app (goodIn_app wsLg_1 (goodIn_app wsLg_2 (goodIn_app wsLg_3 (goodIn_app wsLg_4 (goodIn_app wsLg_5 (goodIn_app wsLg_6 (goodIn_app wsLg_7 (goodIn_app wsLg_8 (goodIn_app wsLg_9 (goodIn_app wsLg_10 (goodIn_app wsLg_11 (goodIn_app wsLg_12 (goodIn_app wsLg_13 (goodIn_app wsLg_14 (goodIn_app wsLg_15 (goodIn_app wsLg_16 (goodIn_app wsLg_17 (goodIn_app wsLg_18 (goodIn_app wsLg_19 (goodIn_app wsLg_20 (goodIn_app wsLg_21 (goodIn_app wsLg_22 (goodIn_app wsLg_23 (goodIn_app wsLg_24 (goodIn_app wsLg_25 (goodIn_app wsLg_26 (goodIn_app wsLg_27 (goodIn_app wsLg_28 (wsLg_29))))))))))))))))))))))))))))) wsLg_X5) wsLg_X6) wsLg_X4) wsLg_X1) wsLg_X0) wsLg_X3) wsLg_X2) (fun w h => absurd h List.not_mem_nil)
theorem wsLr_1 : ∀ w ∈ wsL_law_r1, w ∈ wsL_law := fun w h => List.mem_append_left _ (List.mem_append_left _ (List.mem_append_left _ (List.mem_append_left _ (List.mem_append_left _ (List.mem_append_left _ (List.mem_append_left _ (List.mem_append_left _ (List.mem_append_left _ h))))))))
theorem wsLr_2 : ∀ w ∈ wsL_law_r2, w ∈ wsL_law := fun w h => List.mem_append_left _ (List.mem_append_left _ (List.mem_append_left _ (List.mem_append_left _ (List.mem_append_left _ (List.mem_append_left _ (List.mem_append_left _ (List.mem_append_left _ (List.mem_append_right _ (List.mem_append_left _ h)))))))))
theorem wsLr_3 : ∀ w ∈ wsL_law_r3, w ∈ wsL_law := fun w h => List.mem_append_left _ (List.mem_append_left _ (List.mem_append_left _ (List.mem_append_left _ (List.mem_append_left _ (List.mem_append_left _ (List.mem_append_left _ (List.mem_append_left _ (List.mem_append_right _ (List.mem_append_right _ (List.mem_append_left _ h))))))))))
theorem wsLr_4 : ∀ w ∈ wsL_law_r4, w ∈ wsL_law := fun w h => List.mem_append_left _ (List.mem_append_left _ (List.mem_append_left _ (List.mem_append_left _ (List.mem_append_left _ (List.mem_append_left _ (List.mem_append_left _ (List.mem_append_left _ (List.mem_append_right _ (List.mem_append_right _ (List.mem_append_right _ (List.mem_append_left _ h)))))))))))
theorem wsLr_5 : ∀ w ∈ wsL_law_r5, w ∈ wsL_law := fun w h => List.mem_append_left _ (List.mem_append_left _ (List.mem_append_left _ (List.mem_append_left _ (List.mem_append_left _ (List.mem_append_left _ (List.mem_append_left _ (List.mem_append_left _ (List.mem_append_right _ (List.mem_append_right _ (List.mem_append_right _ (List.mem_append_right _ (List.mem_append_left _ h))))))))))))
theorem wsLr_6 : ∀ w ∈ wsL_law_r6, w ∈ wsL_law := fun w h => List.mem_append_left _ (List.mem_append_left _ (List.mem_append_left _ (List.mem_append_left _ (List.mem_append_left _ (List.mem_append_left _ (List.mem_append_left _ (List.mem_append_left _ (List.mem_append_right _ (List.mem_append_right _ (List.mem_append_right _ (List.mem_append_right _ (List.mem_append_right _ (List.mem_append_left _ h)))))))))))))
theorem wsLr_7 : ∀ w ∈ wsL_law_r7, w ∈ wsL_law := fun w h => List.mem_append_left _ (List.mem_append_left _ (List.mem_append_left _ (List.mem_append_left _ (List.mem_append_left _ (List.mem_append_left _ (List.mem_append_left _ (List.mem_append_left _ (List.mem_append_right _ (List.mem_append_right _ (List.mem_append_right _ (List.mem_append_right _ (List.mem_append_right _ (List.mem_append_right _ (List.mem_append_left _ h))))))))))))))
theorem wsLr_8 : ∀ w ∈ wsL_law_r8, w ∈ wsL_law := fun w h => List.mem_append_left _ (List.mem_append_left _ (List.mem_append_left _ (List.mem_append_left _ (List.mem_append_left _ (List.mem_append_left _ (List.mem_append_left _ (List.mem_append_left _ (List.mem_append_right _ (List.mem_append_right _ (List.mem_append_right _ (List.mem_append_right _ (List.mem_append_right _ (List.mem_append_right _ (List.mem_append_right _ (List.mem_append_left _ h)))))))))))))))
theorem wsLr_9 : ∀ w ∈ wsL_law_r9, w ∈ wsL_law := fun w h => List.mem_append_left _ (List.mem_append_left _ (List.mem_append_left _ (List.mem_append_left _ (List.mem_append_left _ (List.mem_append_left _ (List.mem_append_left _ (List.mem_append_left _ (List.mem_append_right _ (List.mem_append_right _ (List.mem_append_right _ (List.mem_append_right _ (List.mem_append_right _ (List.mem_append_right _ (List.mem_append_right _ (List.mem_append_right _ (List.mem_append_left _ h))))))))))))))))
theorem wsLr_10 : ∀ w ∈ wsL_law_r10, w ∈ wsL_law := fun w h => List.mem_append_left _ (List.mem_append_left _ (List.mem_append_left _ (List.mem_append_left _ (List.mem_append_left _ (List.mem_append_left _ (List.mem_append_left _ (List.mem_append_left _ (List.mem_append_right _ (List.mem_append_right _ (List.mem_append_right _ (List.mem_append_right _ (List.mem_append_right _ (List.mem_append_right _ (List.mem_append_right _ (List.mem_append_right _ (List.mem_append_right _ (List.mem_append_left _ h)))))))))))))))))
theorem wsLr_11 : ∀ w ∈ wsL_law_r11, w ∈ wsL_law := fun w h => List.mem_append_left _ (List.mem_append_left _ (List.mem_append_left _ (List.mem_append_left _ (List.mem_append_left _ (List.mem_append_left _ (List.mem_append_left _ (List.mem_append_left _ (List.mem_append_right _ (List.mem_append_right _ (List.mem_append_right _ (List.mem_append_right _ (List.mem_append_right _ (List.mem_append_right _ (List.mem_append_right _ (List.mem_append_right _ (List.mem_append_right _ (List.mem_append_right _ (List.mem_append_left _ h))))))))))))))))))
theorem wsLr_12 : ∀ w ∈ wsL_law_r12, w ∈ wsL_law := fun w h => List.mem_append_left _ (List.mem_append_left _ (List.mem_append_left _ (List.mem_append_left _ (List.mem_append_left _ (List.mem_append_left _ (List.mem_append_left _ (List.mem_append_left _ (List.mem_append_right _ (List.mem_append_right _ (List.mem_append_right _ (List.mem_append_right _ (List.mem_append_right _ (List.mem_append_right _ (List.mem_append_right _ (List.mem_append_right _ (List.mem_append_right _ (List.mem_append_right _ (List.mem_append_right _ (List.mem_append_left _ h)))))))))))))))))))
theorem wsLr_13 : ∀ w ∈ wsL_law_r13, w ∈ wsL_law := fun w h => List.mem_append_left _ (List.mem_append_left _ (List.mem_append_left _ (List.mem_append_left _ (List.mem_append_left _ (List.mem_append_left _ (List.mem_append_left _ (List.mem_append_left _ (List.mem_append_right _ (List.mem_append_right _ (List.mem_append_right _ (List.mem_append_right _ (List.mem_append_right _ (List.mem_append_right _ (List.mem_append_right _ (List.mem_append_right _ (List.mem_append_right _ (List.mem_append_right _ (List.mem_append_right _ (List.mem_append_right _ (List.mem_append_left _ h))))))))))))))))))))
theorem wsLr_14 : ∀ w ∈ wsL_law_r14, w ∈ wsL_law := fun w h => List.mem_append_left _ (List.mem_append_left _ (List.mem_append_left _ (List.mem_append_left _ (List.mem_append_left _ (List.mem_append_left _ (List.mem_append_left _ (List.mem_append_left _ (List.mem_append_right _ (List.mem_append_right _ (List.mem_append_right _ (List.mem_append_right _ (List.mem_append_right _ (List.mem_append_right _ (List.mem_append_right _ (List.mem_append_right _ (List.mem_append_right _ (List.mem_append_right _ (List.mem_append_right _ (List.mem_append_right _ (List.mem_append_right _ (List.mem_append_left _ h)))))))))))))))))))))
theorem wsLr_15 : ∀ w ∈ wsL_law_r15, w ∈ wsL_law := fun w h => List.mem_append_left _ (List.mem_append_left _ (List.mem_append_left _ (List.mem_append_left _ (List.mem_append_left _ (List.mem_append_left _ (List.mem_append_left _ (List.mem_append_left _ (List.mem_append_right _ (List.mem_append_right _ (List.mem_append_right _ (List.mem_append_right _ (List.mem_append_right _ (List.mem_append_right _ (List.mem_append_right _ (List.mem_append_right _ (List.mem_append_right _ (List.mem_append_right _ (List.mem_append_right _ (List.mem_append_right _ (List.mem_append_right _ (List.mem_append_right _ (List.mem_append_left _ h))))))))))))))))))))))
theorem wsLr_16 : ∀ w ∈ wsL_law_r16, w ∈ wsL_law := fun w h => List.mem_append_left _ (List.mem_append_left _ (List.mem_append_left _ (List.mem_append_left _ (List.mem_append_left _ (List.mem_append_left _ (List.mem_append_left _ (List.mem_append_left _ (List.mem_append_right _ (List.mem_append_right _ (List.mem_append_right _ (List.mem_append_right _ (List.mem_append_right _ (List.mem_append_right _ (List.mem_append_right _ (List.mem_append_right _ (List.mem_append_right _ (List.mem_append_right _ (List.mem_append_right _ (List.mem_append_right _ (List.mem_append_right _ (List.mem_append_right _ (List.mem_append_right _ (List.mem_append_left _ h)))))))))))))))))))))))
theorem wsLr_17 : ∀ w ∈ wsL_law_r17, w ∈ wsL_law := fun w h => List.mem_append_left _ (List.mem_append_left _ (List.mem_append_left _ (List.mem_append_left _ (List.mem_append_left _ (List.mem_append_left _ (List.mem_append_left _ (List.mem_append_left _ (List.mem_append_right _ (List.mem_append_right _ (List.mem_append_right _ (List.mem_append_right _ (List.mem_append_right _ (List.mem_append_right _ (List.mem_append_right _ (List.mem_append_right _ (List.mem_append_right _ (List.mem_append_right _ (List.mem_append_right _ (List.mem_append_right _ (List.mem_append_right _ (List.mem_append_right _ (List.mem_append_right _ (List.mem_append_right _ (List.mem_append_left _ h))))))))))))))))))))))))
theorem wsLr_18 : ∀ w ∈ wsL_law_r18, w ∈ wsL_law := fun w h => List.mem_append_left _ (List.mem_append_left _ (List.mem_append_left _ (List.mem_append_left _ (List.mem_append_left _ (List.mem_append_left _ (List.mem_append_left _ (List.mem_append_left _ (List.mem_append_right _ (List.mem_append_right _ (List.mem_append_right _ (List.mem_append_right _ (List.mem_append_right _ (List.mem_append_right _ (List.mem_append_right _ (List.mem_append_right _ (List.mem_append_right _ (List.mem_append_right _ (List.mem_append_right _ (List.mem_append_right _ (List.mem_append_right _ (List.mem_append_right _ (List.mem_append_right _ (List.mem_append_right _ (List.mem_append_right _ (List.mem_append_left _ h)))))))))))))))))))))))))
theorem wsLr_19 : ∀ w ∈ wsL_law_r19, w ∈ wsL_law := fun w h => List.mem_append_left _ (List.mem_append_left _ (List.mem_append_left _ (List.mem_append_left _ (List.mem_append_left _ (List.mem_append_left _ (List.mem_append_left _ (List.mem_append_left _ (List.mem_append_right _ (List.mem_append_right _ (List.mem_append_right _ (List.mem_append_right _ (List.mem_append_right _ (List.mem_append_right _ (List.mem_append_right _ (List.mem_append_right _ (List.mem_append_right _ (List.mem_append_right _ (List.mem_append_right _ (List.mem_append_right _ (List.mem_append_right _ (List.mem_append_right _ (List.mem_append_right _ (List.mem_append_right _ (List.mem_append_right _ (List.mem_append_right _ (List.mem_append_left _ h))))))))))))))))))))))))))
theorem wsLr_20 : ∀ w ∈ wsL_law_r20, w ∈ wsL_law := fun w h => List.mem_append_left _ (List.mem_append_left _ (List.mem_append_left _ (List.mem_append_left _ (List.mem_append_left _ (List.mem_append_left _ (List.mem_append_left _ (List.mem_append_left _ (List.mem_append_right _ (List.mem_append_right _ (List.mem_append_right _ (List.mem_append_right _ (List.mem_append_right _ (List.mem_append_right _ (List.mem_append_right _ (List.mem_append_right _ (List.mem_append_right _ (List.mem_append_right _ (List.mem_append_right _ (List.mem_append_right _ (List.mem_append_right _ (List.mem_append_right _ (List.mem_append_right _ (List.mem_append_right _ (List.mem_append_right _ (List.mem_append_right _ (List.mem_append_right _ (List.mem_append_left _ h)))))))))))))))))))))))))))
theorem wsLr_21 : ∀ w ∈ wsL_law_r21, w ∈ wsL_law := fun w h => List.mem_append_left _ (List.mem_append_left _ (List.mem_append_left _ (List.mem_append_left _ (List.mem_append_left _ (List.mem_append_left _ (List.mem_append_left _ (List.mem_append_left _ (List.mem_append_right _ (List.mem_append_right _ (List.mem_append_right _ (List.mem_append_right _ (List.mem_append_right _ (List.mem_append_right _ (List.mem_append_right _ (List.mem_append_right _ (List.mem_append_right _ (List.mem_append_right _ (List.mem_append_right _ (List.mem_append_right _ (List.mem_append_right _ (List.mem_append_right _ (List.mem_append_right _ (List.mem_append_right _ (List.mem_append_right _ (List.mem_append_right _ (List.mem_append_right _ (List.mem_append_right _ (List.mem_append_left _ h))))))))))))))))))))))))))))
theorem wsLr_22 : ∀ w ∈ wsL_law_r22, w ∈ wsL_law := fun w h => List.mem_append_left _ (List.mem_append_left _ (List.mem_append_left _ (List.mem_append_left _ (List.mem_append_left _ (List.mem_append_left _ (List.mem_append_left _ (List.mem_append_left _ (List.mem_append_right _ (List.mem_append_right _ (List.mem_append_right _ (List.mem_append_right _ (List.mem_append_right _ (List.mem_append_right _ (List.mem_append_right _ (List.mem_append_right _ (List.mem_append_right _ (List.mem_append_right _ (List.mem_append_right _ (List.mem_append_right _ (List.mem_append_right _ (List.mem_append_right _ (List.mem_append_right _ (List.mem_append_right _ (List.mem_append_right _ (List.mem_append_right _ (List.mem_append_right _ (List.mem_append_right _ (List.mem_append_right _ (List.mem_append_left _ h)))))))))))))))))))))))))))))
theorem wsLr_23 : ∀ w ∈ wsL_law_r23, w ∈ wsL_law := fun w h => List.mem_append_left _ (List.mem_append_left _ (List.mem_append_left _ (List.mem_append_left _ (List.mem_append_left _ (List.mem_append_left _ (List.mem_append_left _ (List.mem_append_left _ (List.mem_append_right _ (List.mem_append_right _ (List.mem_append_right _ (List.mem_append_right _ (List.mem_append_right _ (List.mem_append_right _ (List.mem_append_right _ (List.mem_append_right _ (List.mem_append_right _ (List.mem_append_right _ (List.mem_append_right _ (List.mem_append_right _ (List.mem_append_right _ (List.mem_append_right _ (List.mem_append_right _ (List.mem_append_right _ (List.mem_append_right _ (List.mem_append_right _ (List.mem_append_right _ (List.mem_append_right _ (List.mem_append_right _ (List.mem_append_right _ (List.mem_append_left _ h))))))))))))))))))))))))))))))
theorem wsLr_24 : ∀ w ∈ wsL_law_r24, w ∈ wsL_law := fun w h => List.mem_append_left _ (List.mem_append_left _ (List.mem_append_left _ (List.mem_append_left _ (List.mem_append_left _ (List.mem_append_left _ (List.mem_append_left _ (List.mem_append_left _ (List.mem_append_right _ (List.mem_append_right _ (List.mem_append_right _ (List.mem_append_right _ (List.mem_append_right _ (List.mem_append_right _ (List.mem_append_right _ (List.mem_append_right _ (List.mem_append_right _ (List.mem_append_right _ (List.mem_append_right _ (List.mem_append_right _ (List.mem_append_right _ (List.mem_append_right _ (List.mem_append_right _ (List.mem_append_right _ (List.mem_append_right _ (List.mem_append_right _ (List.mem_append_right _ (List.mem_append_right _ (List.mem_append_right _ (List.mem_append_right _ (List.mem_append_right _ (List.mem_append_left _ h)))))))))))))))))))))))))))))))
theorem wsLr_25 : ∀ w ∈ wsL_law_r25, w ∈ wsL_law := fun w h => List.mem_append_left _ (List.mem_append_left _ (List.mem_append_left _ (List.mem_append_left _ (List.mem_append_left _ (List.mem_append_left _ (List.mem_append_left _ (List.mem_append_left _ (List.mem_append_right _ (List.mem_append_right _ (List.mem_append_right _ (List.mem_append_right _ (List.mem_append_right _ (List.mem_append_right _ (List.mem_append_right _ (List.mem_append_right _ (List.mem_append_right _ (List.mem_append_right _ (List.mem_append_right _ (List.mem_append_right _ (List.mem_append_right _ (List.mem_append_right _ (List.mem_append_right _ (List.mem_append_right _ (List.mem_append_right _ (List.mem_append_right _ (List.mem_append_right _ (List.mem_append_right _ (List.mem_append_right _ (List.mem_append_right _ (List.mem_append_right _ (List.mem_append_right _ (List.mem_append_left _ h))))))))))))))))))))))))))))))))
theorem wsLr_26 : ∀ w ∈ wsL_law_r26, w ∈ wsL_law := fun w h => List.mem_append_left _ (List.mem_append_left _ (List.mem_append_left _ (List.mem_append_left _ (List.mem_append_left _ (List.mem_append_left _ (List.mem_append_left _ (List.mem_append_left _ (List.mem_append_right _ (List.mem_append_right _ (List.mem_append_right _ (List.mem_append_right _ (List.mem_append_right _ (List.mem_append_right _ (List.mem_append_right _ (List.mem_append_right _ (List.mem_append_right _ (List.mem_append_right _ (List.mem_append_right _ (List.mem_append_right _ (List.mem_append_right _ (List.mem_append_right _ (List.mem_append_right _ (List.mem_append_right _ (List.mem_append_right _ (List.mem_append_right _ (List.mem_append_right _ (List.mem_append_right _ (List.mem_append_right _ (List.mem_append_right _ (List.mem_append_right _ (List.mem_append_right _ (List.mem_append_right _ (List.mem_append_left _ h)))))))))))))))))))))))))))))))))
theorem wsLr_27 : ∀ w ∈ wsL_law_r27, w ∈ wsL_law := fun w h => List.mem_append_left _ (List.mem_append_left _ (List.mem_append_left _ (List.mem_append_left _ (List.mem_append_left _ (List.mem_append_left _ (List.mem_append_left _ (List.mem_append_left _ (List.mem_append_right _ (List.mem_append_right _ (List.mem_append_right _ (List.mem_append_right _ (List.mem_append_right _ (List.mem_append_right _ (List.mem_append_right _ (List.mem_append_right _ (List.mem_append_right _ (List.mem_append_right _ (List.mem_append_right _ (List.mem_append_right _ (List.mem_append_right _ (List.mem_append_right _ (List.mem_append_right _ (List.mem_append_right _ (List.mem_append_right _ (List.mem_append_right _ (List.mem_append_right _ (List.mem_append_right _ (List.mem_append_right _ (List.mem_append_right _ (List.mem_append_right _ (List.mem_append_right _ (List.mem_append_right _ (List.mem_append_right _ (List.mem_append_left _ h))))))))))))))))))))))))))))))))))
theorem wsLr_28 : ∀ w ∈ wsL_law_r28, w ∈ wsL_law := fun w h => List.mem_append_left _ (List.mem_append_left _ (List.mem_append_left _ (List.mem_append_left _ (List.mem_append_left _ (List.mem_append_left _ (List.mem_append_left _ (List.mem_append_left _ (List.mem_append_right _ (List.mem_append_right _ (List.mem_append_right _ (List.mem_append_right _ (List.mem_append_right _ (List.mem_append_right _ (List.mem_append_right _ (List.mem_append_right _ (List.mem_append_right _ (List.mem_append_right _ (List.mem_append_right _ (List.mem_append_right _ (List.mem_append_right _ (List.mem_append_right _ (List.mem_append_right _ (List.mem_append_right _ (List.mem_append_right _ (List.mem_append_right _ (List.mem_append_right _ (List.mem_append_right _ (List.mem_append_right _ (List.mem_append_right _ (List.mem_append_right _ (List.mem_append_right _ (List.mem_append_right _ (List.mem_append_right _ (List.mem_append_right _ (List.mem_append_left _ h)))))))))))))))))))))))))))))))))))
theorem wsLr_29 : ∀ w ∈ wsL_law_r29, w ∈ wsL_law := fun w h => List.mem_append_left _ (List.mem_append_left _ (List.mem_append_left _ (List.mem_append_left _ (List.mem_append_left _ (List.mem_append_left _ (List.mem_append_left _ (List.mem_append_left _ (List.mem_append_right _ (List.mem_append_right _ (List.mem_append_right _ (List.mem_append_right _ (List.mem_append_right _ (List.mem_append_right _ (List.mem_append_right _ (List.mem_append_right _ (List.mem_append_right _ (List.mem_append_right _ (List.mem_append_right _ (List.mem_append_right _ (List.mem_append_right _ (List.mem_append_right _ (List.mem_append_right _ (List.mem_append_right _ (List.mem_append_right _ (List.mem_append_right _ (List.mem_append_right _ (List.mem_append_right _ (List.mem_append_right _ (List.mem_append_right _ (List.mem_append_right _ (List.mem_append_right _ (List.mem_append_right _ (List.mem_append_right _ (List.mem_append_right _ (List.mem_append_right _ (h))))))))))))))))))))))))))))))))))))
theorem kl_L_7 : Cond.classLink RL 7 RX5 ∈ wsL_law := wsLr_1 _ (List.mem_of_getElem? (i := 0) rfl)
theorem ia_RX5 : Cond.instantiable RX5 5 ∈ wsL_law := wsLr_1 _ (List.mem_of_getElem? (i := 1) rfl)
theorem it_RX5 : Cond.initialized RX5 ∈ wsL_law := wsLr_1 _ (List.mem_of_getElem? (i := 2) rfl)
theorem kl_L_10 : Cond.classLink RL 10 RX6 ∈ wsL_law := wsLr_1 _ (List.mem_of_getElem? (i := 3) rfl)
theorem ia_RX6 : Cond.instantiable RX6 16 ∈ wsL_law := wsLr_1 _ (List.mem_of_getElem? (i := 4) rfl)
theorem it_RX6 : Cond.initialized RX6 ∈ wsL_law := wsLr_1 _ (List.mem_of_getElem? (i := 5) rfl)
theorem ml_L_9 : Cond.methodLink RL 9 yX5_init ∈ wsL_law := wsLr_1 _ (List.mem_of_getElem? (i := 6) rfl)
theorem im_yX5_init : Cond.instanceMethod yX5_init ∈ wsL_law := wsLr_1 _ (List.mem_of_getElem? (i := 7) rfl)
theorem co_yX5_init : Cond.code yX5_init cX5_init 1 none ∈ wsL_law := wsLr_1 _ (List.mem_of_getElem? (i := 8) rfl)
theorem ml_X5_3 : Cond.methodLink RX5 3 objectInit ∈ wsL_law := wsLr_1 _ (List.mem_of_getElem? (i := 9) rfl)
theorem im_objectInit : Cond.instanceMethod objectInit ∈ wsL_law := wsLr_1 _ (List.mem_of_getElem? (i := 10) rfl)
theorem co_objectInit : Cond.code objectInit ⟨#[0xb1]⟩ 1 none ∈ wsL_law := wsLr_1 _ (List.mem_of_getElem? (i := 11) rfl)
theorem kl_X5_9 : Cond.classLink RX5 9 RX4 ∈ wsL_law := wsLr_1 _ (List.mem_of_getElem? (i := 12) rfl)
theorem ia_RX4 : Cond.instantiable RX4 11 ∈ wsL_law := wsLr_1 _ (List.mem_of_getElem? (i := 13) rfl)
theorem it_RX4 : Cond.initialized RX4 ∈ wsL_law := wsLr_1 _ (List.mem_of_getElem? (i := 14) rfl)
theorem fl_X5_12 : Cond.fieldLink RX5 12 "PulseBoard" "sum" "LPulseBoard$Sum;" ∈ wsL_law := wsLr_1 _ (List.mem_of_getElem? (i := 15) rfl)
theorem kl_X5_16 : Cond.classLink RX5 16 RX1 ∈ wsL_law := wsLr_1 _ (List.mem_of_getElem? (i := 16) rfl)
theorem ia_RX1 : Cond.instantiable RX1 2 ∈ wsL_law := wsLr_1 _ (List.mem_of_getElem? (i := 17) rfl)
theorem it_RX1 : Cond.initialized RX1 ∈ wsL_law := wsLr_1 _ (List.mem_of_getElem? (i := 18) rfl)
theorem fl_X5_19 : Cond.fieldLink RX5 19 "PulseBoard" "plan" "LPulseBoard$Plan;" ∈ wsL_law := wsLr_1 _ (List.mem_of_getElem? (i := 19) rfl)
theorem kl_X5_23 : Cond.classLink RX5 23 RX0 ∈ wsL_law := wsLr_1 _ (List.mem_of_getElem? (i := 20) rfl)
theorem ia_RX0 : Cond.instantiable RX0 11 ∈ wsL_law := wsLr_1 _ (List.mem_of_getElem? (i := 21) rfl)
theorem it_RX0 : Cond.initialized RX0 ∈ wsL_law := wsLr_1 _ (List.mem_of_getElem? (i := 22) rfl)
theorem fl_X5_26 : Cond.fieldLink RX5 26 "PulseBoard" "places" "LPulseBoard$Places;" ∈ wsL_law := wsLr_1 _ (List.mem_of_getElem? (i := 23) rfl)
theorem kl_X5_30 : Cond.classLink RX5 30 RX3 ∈ wsL_law := wsLr_2 _ (List.mem_of_getElem? (i := 0) rfl)
theorem ia_RX3 : Cond.instantiable RX3 6 ∈ wsL_law := wsLr_2 _ (List.mem_of_getElem? (i := 1) rfl)
theorem it_RX3 : Cond.initialized RX3 ∈ wsL_law := wsLr_2 _ (List.mem_of_getElem? (i := 2) rfl)
theorem fl_X5_33 : Cond.fieldLink RX5 33 "PulseBoard" "search" "LPulseBoard$Search;" ∈ wsL_law := wsLr_2 _ (List.mem_of_getElem? (i := 3) rfl)
theorem kl_X5_37 : Cond.classLink RX5 37 RX2 ∈ wsL_law := wsLr_2 _ (List.mem_of_getElem? (i := 4) rfl)
theorem ia_RX2 : Cond.instantiable RX2 6 ∈ wsL_law := wsLr_2 _ (List.mem_of_getElem? (i := 5) rfl)
theorem it_RX2 : Cond.initialized RX2 ∈ wsL_law := wsLr_2 _ (List.mem_of_getElem? (i := 6) rfl)
theorem fl_X5_40 : Cond.fieldLink RX5 40 "PulseBoard" "latest" "LPulseBoard$Run;" ∈ wsL_law := wsLr_2 _ (List.mem_of_getElem? (i := 7) rfl)
theorem im_yX4_init : Cond.instanceMethod yX4_init ∈ wsL_law := wsLr_2 _ (List.mem_of_getElem? (i := 8) rfl)
theorem co_yX4_init : Cond.code yX4_init cX4_init 1 none ∈ wsL_law := wsLr_2 _ (List.mem_of_getElem? (i := 9) rfl)
theorem ml_X4_3 : Cond.methodLink RX4 3 objectInit ∈ wsL_law := wsLr_2 _ (List.mem_of_getElem? (i := 10) rfl)
theorem wo_arrayClass__int : Cond.arrayClass .int ∈ wsL_law := wsLr_2 _ (List.mem_of_getElem? (i := 11) rfl)
theorem fl_X4_9 : Cond.fieldLink RX4 9 "PulseBoard$Sum" "size" "[I" ∈ wsL_law := wsLr_2 _ (List.mem_of_getElem? (i := 12) rfl)
theorem fl_X4_15 : Cond.fieldLink RX4 15 "PulseBoard$Sum" "codes" "[I" ∈ wsL_law := wsLr_2 _ (List.mem_of_getElem? (i := 13) rfl)
theorem fl_X4_18 : Cond.fieldLink RX4 18 "PulseBoard$Sum" "points" "I" ∈ wsL_law := wsLr_2 _ (List.mem_of_getElem? (i := 14) rfl)
theorem fl_X4_22 : Cond.fieldLink RX4 22 "PulseBoard$Sum" "variables" "I" ∈ wsL_law := wsLr_2 _ (List.mem_of_getElem? (i := 15) rfl)
theorem fl_X4_25 : Cond.fieldLink RX4 25 "PulseBoard$Sum" "step" "[I" ∈ wsL_law := wsLr_2 _ (List.mem_of_getElem? (i := 16) rfl)
theorem fl_X4_28 : Cond.fieldLink RX4 28 "PulseBoard$Sum" "acts" "[I" ∈ wsL_law := wsLr_2 _ (List.mem_of_getElem? (i := 17) rfl)
theorem fl_X4_31 : Cond.fieldLink RX4 31 "PulseBoard$Sum" "left" "[I" ∈ wsL_law := wsLr_2 _ (List.mem_of_getElem? (i := 18) rfl)
theorem fl_X4_34 : Cond.fieldLink RX4 34 "PulseBoard$Sum" "right" "[I" ∈ wsL_law := wsLr_2 _ (List.mem_of_getElem? (i := 19) rfl)
theorem fl_X4_37 : Cond.fieldLink RX4 37 "PulseBoard$Sum" "edges" "[I" ∈ wsL_law := wsLr_2 _ (List.mem_of_getElem? (i := 20) rfl)
theorem fl_X4_40 : Cond.fieldLink RX4 40 "PulseBoard$Sum" "values" "[I" ∈ wsL_law := wsLr_2 _ (List.mem_of_getElem? (i := 21) rfl)
theorem fl_X4_43 : Cond.fieldLink RX4 43 "PulseBoard$Sum" "valuesKnown" "Z" ∈ wsL_law := wsLr_2 _ (List.mem_of_getElem? (i := 22) rfl)
theorem im_yX1_init : Cond.instanceMethod yX1_init ∈ wsL_law := wsLr_2 _ (List.mem_of_getElem? (i := 23) rfl)
theorem co_yX1_init : Cond.code yX1_init cX1_init 1 none ∈ wsL_law := wsLr_3 _ (List.mem_of_getElem? (i := 0) rfl)
theorem ml_X1_3 : Cond.methodLink RX1 3 objectInit ∈ wsL_law := wsLr_3 _ (List.mem_of_getElem? (i := 1) rfl)
theorem fl_X1_9 : Cond.fieldLink RX1 9 "PulseBoard$Plan" "numbers" "[I" ∈ wsL_law := wsLr_3 _ (List.mem_of_getElem? (i := 2) rfl)
theorem fl_X1_15 : Cond.fieldLink RX1 15 "PulseBoard$Plan" "fold" "I" ∈ wsL_law := wsLr_3 _ (List.mem_of_getElem? (i := 3) rfl)
theorem im_yX0_init : Cond.instanceMethod yX0_init ∈ wsL_law := wsLr_3 _ (List.mem_of_getElem? (i := 4) rfl)
theorem co_yX0_init : Cond.code yX0_init cX0_init 1 none ∈ wsL_law := wsLr_3 _ (List.mem_of_getElem? (i := 5) rfl)
theorem ml_X0_3 : Cond.methodLink RX0 3 objectInit ∈ wsL_law := wsLr_3 _ (List.mem_of_getElem? (i := 6) rfl)
theorem fl_X0_9 : Cond.fieldLink RX0 9 "PulseBoard$Places" "beat" "[I" ∈ wsL_law := wsLr_3 _ (List.mem_of_getElem? (i := 7) rfl)
theorem fl_X0_15 : Cond.fieldLink RX0 15 "PulseBoard$Places" "cell" "[I" ∈ wsL_law := wsLr_3 _ (List.mem_of_getElem? (i := 8) rfl)
theorem fl_X0_18 : Cond.fieldLink RX0 18 "PulseBoard$Places" "second" "[I" ∈ wsL_law := wsLr_3 _ (List.mem_of_getElem? (i := 9) rfl)
theorem fl_X0_21 : Cond.fieldLink RX0 21 "PulseBoard$Places" "known" "Z" ∈ wsL_law := wsLr_3 _ (List.mem_of_getElem? (i := 10) rfl)
theorem fl_X0_25 : Cond.fieldLink RX0 25 "PulseBoard$Places" "later" "I" ∈ wsL_law := wsLr_3 _ (List.mem_of_getElem? (i := 11) rfl)
theorem fl_X0_29 : Cond.fieldLink RX0 29 "PulseBoard$Places" "earlier" "I" ∈ wsL_law := wsLr_3 _ (List.mem_of_getElem? (i := 12) rfl)
theorem fl_X0_32 : Cond.fieldLink RX0 32 "PulseBoard$Places" "last" "[I" ∈ wsL_law := wsLr_3 _ (List.mem_of_getElem? (i := 13) rfl)
theorem fl_X0_35 : Cond.fieldLink RX0 35 "PulseBoard$Places" "ahead" "[I" ∈ wsL_law := wsLr_3 _ (List.mem_of_getElem? (i := 14) rfl)
theorem fl_X0_38 : Cond.fieldLink RX0 38 "PulseBoard$Places" "between" "[I" ∈ wsL_law := wsLr_3 _ (List.mem_of_getElem? (i := 15) rfl)
theorem im_yX3_init : Cond.instanceMethod yX3_init ∈ wsL_law := wsLr_3 _ (List.mem_of_getElem? (i := 16) rfl)
theorem co_yX3_init : Cond.code yX3_init cX3_init 1 none ∈ wsL_law := wsLr_3 _ (List.mem_of_getElem? (i := 17) rfl)
theorem ml_X3_3 : Cond.methodLink RX3 3 objectInit ∈ wsL_law := wsLr_3 _ (List.mem_of_getElem? (i := 18) rfl)
theorem kl_X3_9 : Cond.classLink RX3 9 RX1 ∈ wsL_law := wsLr_3 _ (List.mem_of_getElem? (i := 19) rfl)
theorem fl_X3_12 : Cond.fieldLink RX3 12 "PulseBoard$Search" "winner" "LPulseBoard$Plan;" ∈ wsL_law := wsLr_3 _ (List.mem_of_getElem? (i := 20) rfl)
theorem fl_X3_18 : Cond.fieldLink RX3 18 "PulseBoard$Search" "fewestBeats" "I" ∈ wsL_law := wsLr_3 _ (List.mem_of_getElem? (i := 21) rfl)
theorem fl_X3_22 : Cond.fieldLink RX3 22 "PulseBoard$Search" "fewestCells" "I" ∈ wsL_law := wsLr_3 _ (List.mem_of_getElem? (i := 22) rfl)
theorem fl_X3_25 : Cond.fieldLink RX3 25 "PulseBoard$Search" "found" "Z" ∈ wsL_law := wsLr_3 _ (List.mem_of_getElem? (i := 23) rfl)
theorem fl_X3_29 : Cond.fieldLink RX3 29 "PulseBoard$Search" "trial" "LPulseBoard$Plan;" ∈ wsL_law := wsLr_4 _ (List.mem_of_getElem? (i := 0) rfl)
theorem fl_X3_32 : Cond.fieldLink RX3 32 "PulseBoard$Search" "across" "[I" ∈ wsL_law := wsLr_4 _ (List.mem_of_getElem? (i := 1) rfl)
theorem im_yX2_init : Cond.instanceMethod yX2_init ∈ wsL_law := wsLr_4 _ (List.mem_of_getElem? (i := 2) rfl)
theorem co_yX2_init : Cond.code yX2_init cX2_init 1 none ∈ wsL_law := wsLr_4 _ (List.mem_of_getElem? (i := 3) rfl)
theorem ml_X2_3 : Cond.methodLink RX2 3 objectInit ∈ wsL_law := wsLr_4 _ (List.mem_of_getElem? (i := 4) rfl)
theorem fl_X2_9 : Cond.fieldLink RX2 9 "PulseBoard$Run" "there" "Z" ∈ wsL_law := wsLr_4 _ (List.mem_of_getElem? (i := 5) rfl)
theorem fl_X2_15 : Cond.fieldLink RX2 15 "PulseBoard$Run" "values" "[I" ∈ wsL_law := wsLr_4 _ (List.mem_of_getElem? (i := 6) rfl)
theorem fl_X2_19 : Cond.fieldLink RX2 19 "PulseBoard$Run" "held" "[I" ∈ wsL_law := wsLr_4 _ (List.mem_of_getElem? (i := 7) rfl)
theorem fl_X2_22 : Cond.fieldLink RX2 22 "PulseBoard$Run" "beats" "I" ∈ wsL_law := wsLr_4 _ (List.mem_of_getElem? (i := 8) rfl)
theorem fl_X2_26 : Cond.fieldLink RX2 26 "PulseBoard$Run" "order" "[I" ∈ wsL_law := wsLr_4 _ (List.mem_of_getElem? (i := 9) rfl)
theorem fl_X2_29 : Cond.fieldLink RX2 29 "PulseBoard$Run" "start" "[I" ∈ wsL_law := wsLr_4 _ (List.mem_of_getElem? (i := 10) rfl)
theorem ml_L_12 : Cond.methodLink RL 12 yX6_init ∈ wsL_law := wsLr_4 _ (List.mem_of_getElem? (i := 11) rfl)
theorem im_yX6_init : Cond.instanceMethod yX6_init ∈ wsL_law := wsLr_4 _ (List.mem_of_getElem? (i := 12) rfl)
theorem co_yX6_init : Cond.code yX6_init cX6_init 1 none ∈ wsL_law := wsLr_4 _ (List.mem_of_getElem? (i := 13) rfl)
theorem ml_X6_1 : Cond.methodLink RX6 1 objectInit ∈ wsL_law := wsLr_4 _ (List.mem_of_getElem? (i := 14) rfl)
theorem fl_X6_7 : Cond.fieldLink RX6 7 "PulseBoardModel" "size" "[I" ∈ wsL_law := wsLr_4 _ (List.mem_of_getElem? (i := 15) rfl)
theorem fl_X6_13 : Cond.fieldLink RX6 13 "PulseBoardModel" "step" "[I" ∈ wsL_law := wsLr_4 _ (List.mem_of_getElem? (i := 16) rfl)
theorem fl_X6_16 : Cond.fieldLink RX6 16 "PulseBoardModel" "act" "[I" ∈ wsL_law := wsLr_4 _ (List.mem_of_getElem? (i := 17) rfl)
theorem fl_X6_19 : Cond.fieldLink RX6 19 "PulseBoardModel" "first" "[I" ∈ wsL_law := wsLr_4 _ (List.mem_of_getElem? (i := 18) rfl)
theorem fl_X6_22 : Cond.fieldLink RX6 22 "PulseBoardModel" "second" "[I" ∈ wsL_law := wsLr_4 _ (List.mem_of_getElem? (i := 19) rfl)
theorem fl_X6_25 : Cond.fieldLink RX6 25 "PulseBoardModel" "edge" "[I" ∈ wsL_law := wsLr_4 _ (List.mem_of_getElem? (i := 20) rfl)
theorem fl_X6_28 : Cond.fieldLink RX6 28 "PulseBoardModel" "numbers" "[I" ∈ wsL_law := wsLr_4 _ (List.mem_of_getElem? (i := 21) rfl)
theorem fl_X6_31 : Cond.fieldLink RX6 31 "PulseBoardModel" "fold" "I" ∈ wsL_law := wsLr_4 _ (List.mem_of_getElem? (i := 22) rfl)
theorem fl_X6_35 : Cond.fieldLink RX6 35 "PulseBoardModel" "kept" "[I" ∈ wsL_law := wsLr_4 _ (List.mem_of_getElem? (i := 23) rfl)
theorem fl_X6_38 : Cond.fieldLink RX6 38 "PulseBoardModel" "plain" "[I" ∈ wsL_law := wsLr_5 _ (List.mem_of_getElem? (i := 0) rfl)
theorem wo_arrayClass__boolean : Cond.arrayClass .boolean ∈ wsL_law := wsLr_5 _ (List.mem_of_getElem? (i := 1) rfl)
theorem fl_X6_41 : Cond.fieldLink RX6 41 "PulseBoardModel" "isCell" "[Z" ∈ wsL_law := wsLr_5 _ (List.mem_of_getElem? (i := 2) rfl)
theorem fl_X6_45 : Cond.fieldLink RX6 45 "PulseBoardModel" "isApart" "[Z" ∈ wsL_law := wsLr_5 _ (List.mem_of_getElem? (i := 3) rfl)
theorem fl_X6_48 : Cond.fieldLink RX6 48 "PulseBoardModel" "had" "[I" ∈ wsL_law := wsLr_5 _ (List.mem_of_getElem? (i := 4) rfl)
theorem fl_X6_51 : Cond.fieldLink RX6 51 "PulseBoardModel" "found" "[I" ∈ wsL_law := wsLr_5 _ (List.mem_of_getElem? (i := 5) rfl)
theorem ml_L_13 : Cond.methodLink RL 13 yX5_sizes ∈ wsL_law := wsLr_5 _ (List.mem_of_getElem? (i := 6) rfl)
theorem im_yX5_sizes : Cond.instanceMethod yX5_sizes ∈ wsL_law := wsLr_5 _ (List.mem_of_getElem? (i := 7) rfl)
theorem se_RX5_yX5_sizes : Cond.selects RX5 yX5_sizes yX5_sizes ∈ wsL_law := wsLr_5 _ (List.mem_of_getElem? (i := 8) rfl)
theorem co_yX5_sizes : Cond.code yX5_sizes cX5_sizes 4 (some .boolean) ∈ wsL_law := wsLr_5 _ (List.mem_of_getElem? (i := 9) rfl)
theorem ml_X5_44 : Cond.methodLink RX5 44 yX5_isSize ∈ wsL_law := wsLr_5 _ (List.mem_of_getElem? (i := 10) rfl)
theorem st_yX5_isSize : Cond.static yX5_isSize ∈ wsL_law := wsLr_5 _ (List.mem_of_getElem? (i := 11) rfl)
theorem co_yX5_isSize : Cond.code yX5_isSize cX5_isSize 1 (some .boolean) ∈ wsL_law := wsLr_5 _ (List.mem_of_getElem? (i := 12) rfl)
theorem ml_X5_48 : Cond.methodLink RX5 48 yX4_resize ∈ wsL_law := wsLr_5 _ (List.mem_of_getElem? (i := 13) rfl)
theorem im_yX4_resize : Cond.instanceMethod yX4_resize ∈ wsL_law := wsLr_5 _ (List.mem_of_getElem? (i := 14) rfl)
theorem se_RX4_yX4_resize : Cond.selects RX4 yX4_resize yX4_resize ∈ wsL_law := wsLr_5 _ (List.mem_of_getElem? (i := 15) rfl)
theorem co_yX4_resize : Cond.code yX4_resize cX4_resize 5 none ∈ wsL_law := wsLr_5 _ (List.mem_of_getElem? (i := 16) rfl)
theorem ml_X4_47 : Cond.methodLink RX4 47 yX4_codeOf ∈ wsL_law := wsLr_5 _ (List.mem_of_getElem? (i := 17) rfl)
theorem im_yX4_codeOf : Cond.instanceMethod yX4_codeOf ∈ wsL_law := wsLr_5 _ (List.mem_of_getElem? (i := 18) rfl)
theorem se_RX4_yX4_codeOf : Cond.selects RX4 yX4_codeOf yX4_codeOf ∈ wsL_law := wsLr_5 _ (List.mem_of_getElem? (i := 19) rfl)
theorem co_yX4_codeOf : Cond.code yX4_codeOf cX4_codeOf 4 (some .int) ∈ wsL_law := wsLr_5 _ (List.mem_of_getElem? (i := 20) rfl)
theorem ml_X4_51 : Cond.methodLink RX4 51 yJ7_fill_53178 ∈ wsL_law := wsLr_5 _ (List.mem_of_getElem? (i := 21) rfl)
theorem st_yJ7_fill_53178 : Cond.static yJ7_fill_53178 ∈ wsL_law := wsLr_5 _ (List.mem_of_getElem? (i := 22) rfl)
theorem it_RJ7 : Cond.initialized RJ7 ∈ wsL_law := wsLr_5 _ (List.mem_of_getElem? (i := 23) rfl)
theorem co_yJ7_fill_53178 : Cond.code yJ7_fill_53178 cJ7_fill_53178 4 none ∈ wsL_law := wsLr_6 _ (List.mem_of_getElem? (i := 0) rfl)
theorem ml_X5_52 : Cond.methodLink RX5 52 yX5_forgetPlaces ∈ wsL_law := wsLr_6 _ (List.mem_of_getElem? (i := 1) rfl)
theorem im_yX5_forgetPlaces : Cond.instanceMethod yX5_forgetPlaces ∈ wsL_law := wsLr_6 _ (List.mem_of_getElem? (i := 2) rfl)
theorem se_RX5_yX5_forgetPlaces : Cond.selects RX5 yX5_forgetPlaces yX5_forgetPlaces ∈ wsL_law := wsLr_6 _ (List.mem_of_getElem? (i := 3) rfl)
theorem co_yX5_forgetPlaces : Cond.code yX5_forgetPlaces cX5_forgetPlaces 1 none ∈ wsL_law := wsLr_6 _ (List.mem_of_getElem? (i := 4) rfl)
theorem fl_X5_194 : Cond.fieldLink RX5 194 "PulseBoard$Places" "known" "Z" ∈ wsL_law := wsLr_6 _ (List.mem_of_getElem? (i := 5) rfl)
theorem fl_X5_63 : Cond.fieldLink RX5 63 "PulseBoard$Run" "there" "Z" ∈ wsL_law := wsLr_6 _ (List.mem_of_getElem? (i := 6) rfl)
theorem ml_L_17 : Cond.methodLink RL 17 yX6_sizes ∈ wsL_law := wsLr_6 _ (List.mem_of_getElem? (i := 7) rfl)
theorem im_yX6_sizes : Cond.instanceMethod yX6_sizes ∈ wsL_law := wsLr_6 _ (List.mem_of_getElem? (i := 8) rfl)
theorem se_RX6_yX6_sizes : Cond.selects RX6 yX6_sizes yX6_sizes ∈ wsL_law := wsLr_6 _ (List.mem_of_getElem? (i := 9) rfl)
theorem co_yX6_sizes : Cond.code yX6_sizes cX6_sizes 4 (some .boolean) ∈ wsL_law := wsLr_6 _ (List.mem_of_getElem? (i := 10) rfl)
theorem fl_X6_67 : Cond.fieldLink RX6 67 "PulseBoardModel" "hasRun" "Z" ∈ wsL_law := wsLr_6 _ (List.mem_of_getElem? (i := 11) rfl)
theorem ml_X6_54 : Cond.methodLink RX6 54 yX6_in ∈ wsL_law := wsLr_6 _ (List.mem_of_getElem? (i := 12) rfl)
theorem st_yX6_in : Cond.static yX6_in ∈ wsL_law := wsLr_6 _ (List.mem_of_getElem? (i := 13) rfl)
theorem co_yX6_in : Cond.code yX6_in cX6_in 3 (some .boolean) ∈ wsL_law := wsLr_6 _ (List.mem_of_getElem? (i := 14) rfl)
theorem ml_X6_64 : Cond.methodLink RX6 64 yX6_noEdges ∈ wsL_law := wsLr_6 _ (List.mem_of_getElem? (i := 15) rfl)
theorem im_yX6_noEdges : Cond.instanceMethod yX6_noEdges ∈ wsL_law := wsLr_6 _ (List.mem_of_getElem? (i := 16) rfl)
theorem se_RX6_yX6_noEdges : Cond.selects RX6 yX6_noEdges yX6_noEdges ∈ wsL_law := wsLr_6 _ (List.mem_of_getElem? (i := 17) rfl)
theorem co_yX6_noEdges : Cond.code yX6_noEdges cX6_noEdges 2 none ∈ wsL_law := wsLr_6 _ (List.mem_of_getElem? (i := 18) rfl)
theorem ml_L_18 : Cond.methodLink RL 18 yX5_variable ∈ wsL_law := wsLr_6 _ (List.mem_of_getElem? (i := 19) rfl)
theorem im_yX5_variable : Cond.instanceMethod yX5_variable ∈ wsL_law := wsLr_6 _ (List.mem_of_getElem? (i := 20) rfl)
theorem se_RX5_yX5_variable : Cond.selects RX5 yX5_variable yX5_variable ∈ wsL_law := wsLr_6 _ (List.mem_of_getElem? (i := 21) rfl)
theorem co_yX5_variable : Cond.code yX5_variable cX5_variable 4 (some .int) ∈ wsL_law := wsLr_6 _ (List.mem_of_getElem? (i := 22) rfl)
theorem fl_X5_55 : Cond.fieldLink RX5 55 "PulseBoard$Sum" "variables" "I" ∈ wsL_law := wsLr_6 _ (List.mem_of_getElem? (i := 23) rfl)
theorem ml_X5_59 : Cond.methodLink RX5 59 yX5_isStep ∈ wsL_law := wsLr_7 _ (List.mem_of_getElem? (i := 0) rfl)
theorem st_yX5_isStep : Cond.static yX5_isStep ∈ wsL_law := wsLr_7 _ (List.mem_of_getElem? (i := 1) rfl)
theorem co_yX5_isStep : Cond.code yX5_isStep cX5_isStep 3 (some .boolean) ∈ wsL_law := wsLr_7 _ (List.mem_of_getElem? (i := 2) rfl)
theorem ml_X5_90 : Cond.methodLink RX5 90 yX5_within ∈ wsL_law := wsLr_7 _ (List.mem_of_getElem? (i := 3) rfl)
theorem st_yX5_within : Cond.static yX5_within ∈ wsL_law := wsLr_7 _ (List.mem_of_getElem? (i := 4) rfl)
theorem co_yX5_within : Cond.code yX5_within cX5_within 4 (some .boolean) ∈ wsL_law := wsLr_7 _ (List.mem_of_getElem? (i := 5) rfl)
theorem ml_X5_210 : Cond.methodLink RX5 210 yX5_leadsUp ∈ wsL_law := wsLr_7 _ (List.mem_of_getElem? (i := 6) rfl)
theorem st_yX5_leadsUp : Cond.static yX5_leadsUp ∈ wsL_law := wsLr_7 _ (List.mem_of_getElem? (i := 7) rfl)
theorem co_yX5_leadsUp : Cond.code yX5_leadsUp cX5_leadsUp 3 (some .boolean) ∈ wsL_law := wsLr_7 _ (List.mem_of_getElem? (i := 8) rfl)
theorem ml_X5_67 : Cond.methodLink RX5 67 yX4_addVariable ∈ wsL_law := wsLr_7 _ (List.mem_of_getElem? (i := 9) rfl)
theorem im_yX4_addVariable : Cond.instanceMethod yX4_addVariable ∈ wsL_law := wsLr_7 _ (List.mem_of_getElem? (i := 10) rfl)
theorem se_RX4_yX4_addVariable : Cond.selects RX4 yX4_addVariable yX4_addVariable ∈ wsL_law := wsLr_7 _ (List.mem_of_getElem? (i := 11) rfl)
theorem co_yX4_addVariable : Cond.code yX4_addVariable cX4_addVariable 5 (some .int) ∈ wsL_law := wsLr_7 _ (List.mem_of_getElem? (i := 12) rfl)
theorem ml_X4_57 : Cond.methodLink RX4 57 yX4_setAct ∈ wsL_law := wsLr_7 _ (List.mem_of_getElem? (i := 13) rfl)
theorem im_yX4_setAct : Cond.instanceMethod yX4_setAct ∈ wsL_law := wsLr_7 _ (List.mem_of_getElem? (i := 14) rfl)
theorem se_RX4_yX4_setAct : Cond.selects RX4 yX4_setAct yX4_setAct ∈ wsL_law := wsLr_7 _ (List.mem_of_getElem? (i := 15) rfl)
theorem co_yX4_setAct : Cond.code yX4_setAct cX4_setAct 5 none ∈ wsL_law := wsLr_7 _ (List.mem_of_getElem? (i := 16) rfl)
theorem ml_L_22 : Cond.methodLink RL 22 yX6_variable ∈ wsL_law := wsLr_7 _ (List.mem_of_getElem? (i := 17) rfl)
theorem im_yX6_variable : Cond.instanceMethod yX6_variable ∈ wsL_law := wsLr_7 _ (List.mem_of_getElem? (i := 18) rfl)
theorem se_RX6_yX6_variable : Cond.selects RX6 yX6_variable yX6_variable ∈ wsL_law := wsLr_7 _ (List.mem_of_getElem? (i := 19) rfl)
theorem co_yX6_variable : Cond.code yX6_variable cX6_variable 6 (some .int) ∈ wsL_law := wsLr_7 _ (List.mem_of_getElem? (i := 20) rfl)
theorem fl_X6_58 : Cond.fieldLink RX6 58 "PulseBoardModel" "variables" "I" ∈ wsL_law := wsLr_7 _ (List.mem_of_getElem? (i := 21) rfl)
theorem ml_L_23 : Cond.methodLink RL 23 yX5_act ∈ wsL_law := wsLr_7 _ (List.mem_of_getElem? (i := 22) rfl)
theorem im_yX5_act : Cond.instanceMethod yX5_act ∈ wsL_law := wsLr_7 _ (List.mem_of_getElem? (i := 23) rfl)
theorem se_RX5_yX5_act : Cond.selects RX5 yX5_act yX5_act ∈ wsL_law := wsLr_8 _ (List.mem_of_getElem? (i := 0) rfl)
theorem co_yX5_act : Cond.code yX5_act cX5_act 5 (some .boolean) ∈ wsL_law := wsLr_8 _ (List.mem_of_getElem? (i := 1) rfl)
theorem ml_X5_71 : Cond.methodLink RX5 71 yX4_has ∈ wsL_law := wsLr_8 _ (List.mem_of_getElem? (i := 2) rfl)
theorem im_yX4_has : Cond.instanceMethod yX4_has ∈ wsL_law := wsLr_8 _ (List.mem_of_getElem? (i := 3) rfl)
theorem se_RX4_yX4_has : Cond.selects RX4 yX4_has yX4_has ∈ wsL_law := wsLr_8 _ (List.mem_of_getElem? (i := 4) rfl)
theorem co_yX4_has : Cond.code yX4_has cX4_has 2 (some .boolean) ∈ wsL_law := wsLr_8 _ (List.mem_of_getElem? (i := 5) rfl)
theorem ml_X5_74 : Cond.methodLink RX5 74 yX4_setAct ∈ wsL_law := wsLr_8 _ (List.mem_of_getElem? (i := 6) rfl)
theorem ml_L_27 : Cond.methodLink RL 27 yX6_act ∈ wsL_law := wsLr_8 _ (List.mem_of_getElem? (i := 7) rfl)
theorem im_yX6_act : Cond.instanceMethod yX6_act ∈ wsL_law := wsLr_8 _ (List.mem_of_getElem? (i := 8) rfl)
theorem se_RX6_yX6_act : Cond.selects RX6 yX6_act yX6_act ∈ wsL_law := wsLr_8 _ (List.mem_of_getElem? (i := 9) rfl)
theorem co_yX6_act : Cond.code yX6_act cX6_act 5 (some .boolean) ∈ wsL_law := wsLr_8 _ (List.mem_of_getElem? (i := 10) rfl)
theorem ml_X6_71 : Cond.methodLink RX6 71 yX6_isVariable ∈ wsL_law := wsLr_8 _ (List.mem_of_getElem? (i := 11) rfl)
theorem im_yX6_isVariable : Cond.instanceMethod yX6_isVariable ∈ wsL_law := wsLr_8 _ (List.mem_of_getElem? (i := 12) rfl)
theorem se_RX6_yX6_isVariable : Cond.selects RX6 yX6_isVariable yX6_isVariable ∈ wsL_law := wsLr_8 _ (List.mem_of_getElem? (i := 13) rfl)
theorem co_yX6_isVariable : Cond.code yX6_isVariable cX6_isVariable 2 (some .boolean) ∈ wsL_law := wsLr_8 _ (List.mem_of_getElem? (i := 14) rfl)
theorem ml_L_28 : Cond.methodLink RL 28 yX5_edge ∈ wsL_law := wsLr_8 _ (List.mem_of_getElem? (i := 15) rfl)
theorem im_yX5_edge : Cond.instanceMethod yX5_edge ∈ wsL_law := wsLr_8 _ (List.mem_of_getElem? (i := 16) rfl)
theorem se_RX5_yX5_edge : Cond.selects RX5 yX5_edge yX5_edge ∈ wsL_law := wsLr_8 _ (List.mem_of_getElem? (i := 17) rfl)
theorem co_yX5_edge : Cond.code yX5_edge cX5_edge 7 (some .boolean) ∈ wsL_law := wsLr_8 _ (List.mem_of_getElem? (i := 18) rfl)
theorem ml_X5_78 : Cond.methodLink RX5 78 yX4_codeOf ∈ wsL_law := wsLr_8 _ (List.mem_of_getElem? (i := 19) rfl)
theorem ml_X5_81 : Cond.methodLink RX5 81 yX4_setEdge ∈ wsL_law := wsLr_8 _ (List.mem_of_getElem? (i := 20) rfl)
theorem im_yX4_setEdge : Cond.instanceMethod yX4_setEdge ∈ wsL_law := wsLr_8 _ (List.mem_of_getElem? (i := 21) rfl)
theorem se_RX4_yX4_setEdge : Cond.selects RX4 yX4_setEdge yX4_setEdge ∈ wsL_law := wsLr_8 _ (List.mem_of_getElem? (i := 22) rfl)
theorem co_yX4_setEdge : Cond.code yX4_setEdge cX4_setEdge 4 none ∈ wsL_law := wsLr_8 _ (List.mem_of_getElem? (i := 23) rfl)
theorem ml_L_32 : Cond.methodLink RL 32 yX6_edge ∈ wsL_law := wsLr_9 _ (List.mem_of_getElem? (i := 0) rfl)
theorem im_yX6_edge : Cond.instanceMethod yX6_edge ∈ wsL_law := wsLr_9 _ (List.mem_of_getElem? (i := 1) rfl)
theorem se_RX6_yX6_edge : Cond.selects RX6 yX6_edge yX6_edge ∈ wsL_law := wsLr_9 _ (List.mem_of_getElem? (i := 2) rfl)
theorem co_yX6_edge : Cond.code yX6_edge cX6_edge 6 (some .boolean) ∈ wsL_law := wsLr_9 _ (List.mem_of_getElem? (i := 3) rfl)
theorem ml_X6_61 : Cond.methodLink RX6 61 yX6_isPoint ∈ wsL_law := wsLr_9 _ (List.mem_of_getElem? (i := 4) rfl)
theorem im_yX6_isPoint : Cond.instanceMethod yX6_isPoint ∈ wsL_law := wsLr_9 _ (List.mem_of_getElem? (i := 5) rfl)
theorem se_RX6_yX6_isPoint : Cond.selects RX6 yX6_isPoint yX6_isPoint ∈ wsL_law := wsLr_9 _ (List.mem_of_getElem? (i := 6) rfl)
theorem co_yX6_isPoint : Cond.code yX6_isPoint cX6_isPoint 4 (some .boolean) ∈ wsL_law := wsLr_9 _ (List.mem_of_getElem? (i := 7) rfl)
theorem ml_L_33 : Cond.methodLink RL 33 yX5_clear ∈ wsL_law := wsLr_9 _ (List.mem_of_getElem? (i := 8) rfl)
theorem im_yX5_clear : Cond.instanceMethod yX5_clear ∈ wsL_law := wsLr_9 _ (List.mem_of_getElem? (i := 9) rfl)
theorem se_RX5_yX5_clear : Cond.selects RX5 yX5_clear yX5_clear ∈ wsL_law := wsLr_9 _ (List.mem_of_getElem? (i := 10) rfl)
theorem co_yX5_clear : Cond.code yX5_clear cX5_clear 1 none ∈ wsL_law := wsLr_9 _ (List.mem_of_getElem? (i := 11) rfl)
theorem ml_X5_84 : Cond.methodLink RX5 84 yX4_dropVariables ∈ wsL_law := wsLr_9 _ (List.mem_of_getElem? (i := 12) rfl)
theorem im_yX4_dropVariables : Cond.instanceMethod yX4_dropVariables ∈ wsL_law := wsLr_9 _ (List.mem_of_getElem? (i := 13) rfl)
theorem se_RX4_yX4_dropVariables : Cond.selects RX4 yX4_dropVariables yX4_dropVariables ∈ wsL_law := wsLr_9 _ (List.mem_of_getElem? (i := 14) rfl)
theorem co_yX4_dropVariables : Cond.code yX4_dropVariables cX4_dropVariables 1 none ∈ wsL_law := wsLr_9 _ (List.mem_of_getElem? (i := 15) rfl)
theorem ml_L_36 : Cond.methodLink RL 36 yX6_clear ∈ wsL_law := wsLr_9 _ (List.mem_of_getElem? (i := 16) rfl)
theorem im_yX6_clear : Cond.instanceMethod yX6_clear ∈ wsL_law := wsLr_9 _ (List.mem_of_getElem? (i := 17) rfl)
theorem se_RX6_yX6_clear : Cond.selects RX6 yX6_clear yX6_clear ∈ wsL_law := wsLr_9 _ (List.mem_of_getElem? (i := 18) rfl)
theorem co_yX6_clear : Cond.code yX6_clear cX6_clear 1 none ∈ wsL_law := wsLr_9 _ (List.mem_of_getElem? (i := 19) rfl)
theorem ml_L_37 : Cond.methodLink RL 37 yX5_lay ∈ wsL_law := wsLr_9 _ (List.mem_of_getElem? (i := 20) rfl)
theorem im_yX5_lay : Cond.instanceMethod yX5_lay ∈ wsL_law := wsLr_9 _ (List.mem_of_getElem? (i := 21) rfl)
theorem se_RX5_yX5_lay : Cond.selects RX5 yX5_lay yX5_lay ∈ wsL_law := wsLr_9 _ (List.mem_of_getElem? (i := 22) rfl)
theorem co_yX5_lay : Cond.code yX5_lay cX5_lay 5 (some .boolean) ∈ wsL_law := wsLr_9 _ (List.mem_of_getElem? (i := 23) rfl)
theorem ml_X5_87 : Cond.methodLink RX5 87 yX5_isIndex ∈ wsL_law := wsLr_10 _ (List.mem_of_getElem? (i := 0) rfl)
theorem st_yX5_isIndex : Cond.static yX5_isIndex ∈ wsL_law := wsLr_10 _ (List.mem_of_getElem? (i := 1) rfl)
theorem co_yX5_isIndex : Cond.code yX5_isIndex cX5_isIndex 1 (some .boolean) ∈ wsL_law := wsLr_10 _ (List.mem_of_getElem? (i := 2) rfl)
theorem ml_X5_94 : Cond.methodLink RX5 94 yX5_areZeros ∈ wsL_law := wsLr_10 _ (List.mem_of_getElem? (i := 3) rfl)
theorem st_yX5_areZeros : Cond.static yX5_areZeros ∈ wsL_law := wsLr_10 _ (List.mem_of_getElem? (i := 4) rfl)
theorem co_yX5_areZeros : Cond.code yX5_areZeros cX5_areZeros 3 (some .boolean) ∈ wsL_law := wsLr_10 _ (List.mem_of_getElem? (i := 5) rfl)
theorem ml_X5_97 : Cond.methodLink RX5 97 yX1_put ∈ wsL_law := wsLr_10 _ (List.mem_of_getElem? (i := 6) rfl)
theorem im_yX1_put : Cond.instanceMethod yX1_put ∈ wsL_law := wsLr_10 _ (List.mem_of_getElem? (i := 7) rfl)
theorem se_RX1_yX1_put : Cond.selects RX1 yX1_put yX1_put ∈ wsL_law := wsLr_10 _ (List.mem_of_getElem? (i := 8) rfl)
theorem co_yX1_put : Cond.code yX1_put cX1_put 5 none ∈ wsL_law := wsLr_10 _ (List.mem_of_getElem? (i := 9) rfl)
theorem ml_L_40 : Cond.methodLink RL 40 yX6_lay ∈ wsL_law := wsLr_10 _ (List.mem_of_getElem? (i := 10) rfl)
theorem im_yX6_lay : Cond.instanceMethod yX6_lay ∈ wsL_law := wsLr_10 _ (List.mem_of_getElem? (i := 11) rfl)
theorem se_RX6_yX6_lay : Cond.selects RX6 yX6_lay yX6_lay ∈ wsL_law := wsLr_10 _ (List.mem_of_getElem? (i := 12) rfl)
theorem co_yX6_lay : Cond.code yX6_lay cX6_lay 6 (some .boolean) ∈ wsL_law := wsLr_10 _ (List.mem_of_getElem? (i := 13) rfl)
theorem ml_L_41 : Cond.methodLink RL 41 yX5_fold ∈ wsL_law := wsLr_10 _ (List.mem_of_getElem? (i := 14) rfl)
theorem im_yX5_fold : Cond.instanceMethod yX5_fold ∈ wsL_law := wsLr_10 _ (List.mem_of_getElem? (i := 15) rfl)
theorem se_RX5_yX5_fold : Cond.selects RX5 yX5_fold yX5_fold ∈ wsL_law := wsLr_10 _ (List.mem_of_getElem? (i := 16) rfl)
theorem co_yX5_fold : Cond.code yX5_fold cX5_fold 2 (some .boolean) ∈ wsL_law := wsLr_10 _ (List.mem_of_getElem? (i := 17) rfl)
theorem fl_X5_100 : Cond.fieldLink RX5 100 "PulseBoard$Plan" "fold" "I" ∈ wsL_law := wsLr_10 _ (List.mem_of_getElem? (i := 18) rfl)
theorem ml_L_45 : Cond.methodLink RL 45 yX6_fold ∈ wsL_law := wsLr_10 _ (List.mem_of_getElem? (i := 19) rfl)
theorem im_yX6_fold : Cond.instanceMethod yX6_fold ∈ wsL_law := wsLr_10 _ (List.mem_of_getElem? (i := 20) rfl)
theorem se_RX6_yX6_fold : Cond.selects RX6 yX6_fold yX6_fold ∈ wsL_law := wsLr_10 _ (List.mem_of_getElem? (i := 21) rfl)
theorem co_yX6_fold : Cond.code yX6_fold cX6_fold 2 (some .boolean) ∈ wsL_law := wsLr_10 _ (List.mem_of_getElem? (i := 22) rfl)
theorem ml_L_46 : Cond.methodLink RL 46 yX5_why ∈ wsL_law := wsLr_10 _ (List.mem_of_getElem? (i := 23) rfl)
theorem im_yX5_why : Cond.instanceMethod yX5_why ∈ wsL_law := wsLr_11 _ (List.mem_of_getElem? (i := 0) rfl)
theorem se_RX5_yX5_why : Cond.selects RX5 yX5_why yX5_why ∈ wsL_law := wsLr_11 _ (List.mem_of_getElem? (i := 1) rfl)
theorem co_yX5_why : Cond.code yX5_why cX5_why 3 (some .int) ∈ wsL_law := wsLr_11 _ (List.mem_of_getElem? (i := 2) rfl)
theorem fl_X5_111 : Cond.fieldLink RX5 111 "PulseBoard$Places" "earlier" "I" ∈ wsL_law := wsLr_11 _ (List.mem_of_getElem? (i := 3) rfl)
theorem ml_X5_103 : Cond.methodLink RX5 103 yX5_reason ∈ wsL_law := wsLr_11 _ (List.mem_of_getElem? (i := 4) rfl)
theorem im_yX5_reason : Cond.instanceMethod yX5_reason ∈ wsL_law := wsLr_11 _ (List.mem_of_getElem? (i := 5) rfl)
theorem se_RX5_yX5_reason : Cond.selects RX5 yX5_reason yX5_reason ∈ wsL_law := wsLr_11 _ (List.mem_of_getElem? (i := 6) rfl)
theorem co_yX5_reason : Cond.code yX5_reason cX5_reason 1 (some .int) ∈ wsL_law := wsLr_11 _ (List.mem_of_getElem? (i := 7) rfl)
theorem fl_X5_207 : Cond.fieldLink RX5 207 "PulseBoard$Places" "later" "I" ∈ wsL_law := wsLr_11 _ (List.mem_of_getElem? (i := 8) rfl)
theorem ml_X5_201 : Cond.methodLink RX5 201 yX1_tooEarly ∈ wsL_law := wsLr_11 _ (List.mem_of_getElem? (i := 9) rfl)
theorem im_yX1_tooEarly : Cond.instanceMethod yX1_tooEarly ∈ wsL_law := wsLr_11 _ (List.mem_of_getElem? (i := 10) rfl)
theorem se_RX1_yX1_tooEarly : Cond.selects RX1 yX1_tooEarly yX1_tooEarly ∈ wsL_law := wsLr_11 _ (List.mem_of_getElem? (i := 11) rfl)
theorem co_yX1_tooEarly : Cond.code yX1_tooEarly cX1_tooEarly 3 (some .int) ∈ wsL_law := wsLr_11 _ (List.mem_of_getElem? (i := 12) rfl)
theorem fl_X1_51 : Cond.fieldLink RX1 51 "PulseBoard$Sum" "variables" "I" ∈ wsL_law := wsLr_11 _ (List.mem_of_getElem? (i := 13) rfl)
theorem ml_X1_54 : Cond.methodLink RX1 54 yX4_isNeeded ∈ wsL_law := wsLr_11 _ (List.mem_of_getElem? (i := 14) rfl)
theorem im_yX4_isNeeded : Cond.instanceMethod yX4_isNeeded ∈ wsL_law := wsLr_11 _ (List.mem_of_getElem? (i := 15) rfl)
theorem se_RX4_yX4_isNeeded : Cond.selects RX4 yX4_isNeeded yX4_isNeeded ∈ wsL_law := wsLr_11 _ (List.mem_of_getElem? (i := 16) rfl)
theorem co_yX4_isNeeded : Cond.code yX4_isNeeded cX4_isNeeded 3 (some .boolean) ∈ wsL_law := wsLr_11 _ (List.mem_of_getElem? (i := 17) rfl)
theorem ml_X4_61 : Cond.methodLink RX4 61 Lib.Math.abs.name ∈ wsL_law := wsLr_11 _ (List.mem_of_getElem? (i := 18) rfl)
theorem st_Lib_Math_abs_name : Cond.static Lib.Math.abs.name ∈ wsL_law := wsLr_11 _ (List.mem_of_getElem? (i := 19) rfl)
theorem it__java_lang_Math_ : Cond.initialized "java/lang/Math" ∈ wsL_law := wsLr_11 _ (List.mem_of_getElem? (i := 20) rfl)
theorem co_Lib_Math_abs_name : Cond.code Lib.Math.abs.name Lib.Math.abs.code 1 (some .int) ∈ wsL_law := wsLr_11 _ (List.mem_of_getElem? (i := 21) rfl)
theorem ml_X1_58 : Cond.methodLink RX1 58 yX1_delay ∈ wsL_law := wsLr_11 _ (List.mem_of_getElem? (i := 22) rfl)
theorem im_yX1_delay : Cond.instanceMethod yX1_delay ∈ wsL_law := wsLr_11 _ (List.mem_of_getElem? (i := 23) rfl)
theorem se_RX1_yX1_delay : Cond.selects RX1 yX1_delay yX1_delay ∈ wsL_law := wsLr_12 _ (List.mem_of_getElem? (i := 0) rfl)
theorem co_yX1_delay : Cond.code yX1_delay cX1_delay 3 (some .int) ∈ wsL_law := wsLr_12 _ (List.mem_of_getElem? (i := 1) rfl)
theorem ml_X1_44 : Cond.methodLink RX1 44 yX1_timesStep ∈ wsL_law := wsLr_12 _ (List.mem_of_getElem? (i := 2) rfl)
theorem im_yX1_timesStep : Cond.instanceMethod yX1_timesStep ∈ wsL_law := wsLr_12 _ (List.mem_of_getElem? (i := 3) rfl)
theorem se_RX1_yX1_timesStep : Cond.selects RX1 yX1_timesStep yX1_timesStep ∈ wsL_law := wsLr_12 _ (List.mem_of_getElem? (i := 4) rfl)
theorem co_yX1_timesStep : Cond.code yX1_timesStep cX1_timesStep 6 (some .int) ∈ wsL_law := wsLr_12 _ (List.mem_of_getElem? (i := 5) rfl)
theorem fl_X1_48 : Cond.fieldLink RX1 48 "PulseBoard$Sum" "step" "[I" ∈ wsL_law := wsLr_12 _ (List.mem_of_getElem? (i := 6) rfl)
theorem ml_X5_204 : Cond.methodLink RX5 204 yX1_tooFar ∈ wsL_law := wsLr_12 _ (List.mem_of_getElem? (i := 7) rfl)
theorem im_yX1_tooFar : Cond.instanceMethod yX1_tooFar ∈ wsL_law := wsLr_12 _ (List.mem_of_getElem? (i := 8) rfl)
theorem se_RX1_yX1_tooFar : Cond.selects RX1 yX1_tooFar yX1_tooFar ∈ wsL_law := wsLr_12 _ (List.mem_of_getElem? (i := 9) rfl)
theorem co_yX1_tooFar : Cond.code yX1_tooFar cX1_tooFar 3 (some .int) ∈ wsL_law := wsLr_12 _ (List.mem_of_getElem? (i := 10) rfl)
theorem ml_X1_62 : Cond.methodLink RX1 62 yX1_way ∈ wsL_law := wsLr_12 _ (List.mem_of_getElem? (i := 11) rfl)
theorem im_yX1_way : Cond.instanceMethod yX1_way ∈ wsL_law := wsLr_12 _ (List.mem_of_getElem? (i := 12) rfl)
theorem se_RX1_yX1_way : Cond.selects RX1 yX1_way yX1_way ∈ wsL_law := wsLr_12 _ (List.mem_of_getElem? (i := 13) rfl)
theorem co_yX1_way : Cond.code yX1_way cX1_way 3 (some .int) ∈ wsL_law := wsLr_12 _ (List.mem_of_getElem? (i := 14) rfl)
theorem ml_X1_40 : Cond.methodLink RX1 40 Lib.Math.abs.name ∈ wsL_law := wsLr_12 _ (List.mem_of_getElem? (i := 15) rfl)
theorem ml_X5_114 : Cond.methodLink RX5 114 yX5_settle ∈ wsL_law := wsLr_12 _ (List.mem_of_getElem? (i := 16) rfl)
theorem im_yX5_settle : Cond.instanceMethod yX5_settle ∈ wsL_law := wsLr_12 _ (List.mem_of_getElem? (i := 17) rfl)
theorem se_RX5_yX5_settle : Cond.selects RX5 yX5_settle yX5_settle ∈ wsL_law := wsLr_12 _ (List.mem_of_getElem? (i := 18) rfl)
theorem co_yX5_settle : Cond.code yX5_settle cX5_settle 1 none ∈ wsL_law := wsLr_12 _ (List.mem_of_getElem? (i := 19) rfl)
theorem ml_X5_197 : Cond.methodLink RX5 197 yX0_place ∈ wsL_law := wsLr_12 _ (List.mem_of_getElem? (i := 20) rfl)
theorem im_yX0_place : Cond.instanceMethod yX0_place ∈ wsL_law := wsLr_12 _ (List.mem_of_getElem? (i := 21) rfl)
theorem se_RX0_yX0_place : Cond.selects RX0 yX0_place yX0_place ∈ wsL_law := wsLr_12 _ (List.mem_of_getElem? (i := 22) rfl)
theorem co_yX0_place : Cond.code yX0_place cX0_place 5 none ∈ wsL_law := wsLr_12 _ (List.mem_of_getElem? (i := 23) rfl)
theorem fl_X0_45 : Cond.fieldLink RX0 45 "PulseBoard$Places" "beats" "I" ∈ wsL_law := wsLr_13 _ (List.mem_of_getElem? (i := 0) rfl)
theorem fl_X0_48 : Cond.fieldLink RX0 48 "PulseBoard$Places" "cells" "I" ∈ wsL_law := wsLr_13 _ (List.mem_of_getElem? (i := 1) rfl)
theorem fl_X0_51 : Cond.fieldLink RX0 51 "PulseBoard$Sum" "points" "I" ∈ wsL_law := wsLr_13 _ (List.mem_of_getElem? (i := 2) rfl)
theorem fl_X0_56 : Cond.fieldLink RX0 56 "PulseBoard$Sum" "codes" "[I" ∈ wsL_law := wsLr_13 _ (List.mem_of_getElem? (i := 3) rfl)
theorem ml_X0_59 : Cond.methodLink RX0 59 Lib.Math.max.name ∈ wsL_law := wsLr_13 _ (List.mem_of_getElem? (i := 4) rfl)
theorem st_Lib_Math_max_name : Cond.static Lib.Math.max.name ∈ wsL_law := wsLr_13 _ (List.mem_of_getElem? (i := 5) rfl)
theorem co_Lib_Math_max_name : Cond.code Lib.Math.max.name Lib.Math.max.code 2 (some .int) ∈ wsL_law := wsLr_13 _ (List.mem_of_getElem? (i := 6) rfl)
theorem ml_X0_41 : Cond.methodLink RX0 41 yX0_layPoints ∈ wsL_law := wsLr_13 _ (List.mem_of_getElem? (i := 7) rfl)
theorem im_yX0_layPoints : Cond.instanceMethod yX0_layPoints ∈ wsL_law := wsLr_13 _ (List.mem_of_getElem? (i := 8) rfl)
theorem se_RX0_yX0_layPoints : Cond.selects RX0 yX0_layPoints yX0_layPoints ∈ wsL_law := wsLr_13 _ (List.mem_of_getElem? (i := 9) rfl)
theorem co_yX0_layPoints : Cond.code yX0_layPoints cX0_layPoints 10 none ∈ wsL_law := wsLr_13 _ (List.mem_of_getElem? (i := 10) rfl)
theorem fl_X0_82 : Cond.fieldLink RX0 82 "PulseBoard$Plan" "fold" "I" ∈ wsL_law := wsLr_13 _ (List.mem_of_getElem? (i := 11) rfl)
theorem ml_X0_76 : Cond.methodLink RX0 76 yX1_least ∈ wsL_law := wsLr_13 _ (List.mem_of_getElem? (i := 12) rfl)
theorem im_yX1_least : Cond.instanceMethod yX1_least ∈ wsL_law := wsLr_13 _ (List.mem_of_getElem? (i := 13) rfl)
theorem se_RX1_yX1_least : Cond.selects RX1 yX1_least yX1_least ∈ wsL_law := wsLr_13 _ (List.mem_of_getElem? (i := 14) rfl)
theorem co_yX1_least : Cond.code yX1_least cX1_least 5 (some .int) ∈ wsL_law := wsLr_13 _ (List.mem_of_getElem? (i := 15) rfl)
theorem fl_X1_29 : Cond.fieldLink RX1 29 "PulseBoard$Sum" "size" "[I" ∈ wsL_law := wsLr_13 _ (List.mem_of_getElem? (i := 16) rfl)
theorem ml_X1_34 : Cond.methodLink RX1 34 Lib.Math.min.name ∈ wsL_law := wsLr_13 _ (List.mem_of_getElem? (i := 17) rfl)
theorem st_Lib_Math_min_name : Cond.static Lib.Math.min.name ∈ wsL_law := wsLr_13 _ (List.mem_of_getElem? (i := 18) rfl)
theorem co_Lib_Math_min_name : Cond.code Lib.Math.min.name Lib.Math.min.code 2 (some .int) ∈ wsL_law := wsLr_13 _ (List.mem_of_getElem? (i := 19) rfl)
theorem ml_X0_85 : Cond.methodLink RX0 85 yX1_timesCode ∈ wsL_law := wsLr_13 _ (List.mem_of_getElem? (i := 20) rfl)
theorem im_yX1_timesCode : Cond.instanceMethod yX1_timesCode ∈ wsL_law := wsLr_13 _ (List.mem_of_getElem? (i := 21) rfl)
theorem se_RX1_yX1_timesCode : Cond.selects RX1 yX1_timesCode yX1_timesCode ∈ wsL_law := wsLr_13 _ (List.mem_of_getElem? (i := 22) rfl)
theorem co_yX1_timesCode : Cond.code yX1_timesCode cX1_timesCode 3 (some .int) ∈ wsL_law := wsLr_13 _ (List.mem_of_getElem? (i := 23) rfl)
theorem ml_X1_25 : Cond.methodLink RX1 25 yX1_times ∈ wsL_law := wsLr_14 _ (List.mem_of_getElem? (i := 0) rfl)
theorem im_yX1_times : Cond.instanceMethod yX1_times ∈ wsL_law := wsLr_14 _ (List.mem_of_getElem? (i := 1) rfl)
theorem se_RX1_yX1_times : Cond.selects RX1 yX1_times yX1_times ∈ wsL_law := wsLr_14 _ (List.mem_of_getElem? (i := 2) rfl)
theorem co_yX1_times : Cond.code yX1_times cX1_times 6 (some .int) ∈ wsL_law := wsLr_14 _ (List.mem_of_getElem? (i := 3) rfl)
theorem ml_X0_65 : Cond.methodLink RX0 65 yX0_link ∈ wsL_law := wsLr_14 _ (List.mem_of_getElem? (i := 4) rfl)
theorem im_yX0_link : Cond.instanceMethod yX0_link ∈ wsL_law := wsLr_14 _ (List.mem_of_getElem? (i := 5) rfl)
theorem se_RX0_yX0_link : Cond.selects RX0 yX0_link yX0_link ∈ wsL_law := wsLr_14 _ (List.mem_of_getElem? (i := 6) rfl)
theorem co_yX0_link : Cond.code yX0_link cX0_link 3 none ∈ wsL_law := wsLr_14 _ (List.mem_of_getElem? (i := 7) rfl)
theorem ml_X0_73 : Cond.methodLink RX0 73 yX0_cellKey ∈ wsL_law := wsLr_14 _ (List.mem_of_getElem? (i := 8) rfl)
theorem im_yX0_cellKey : Cond.instanceMethod yX0_cellKey ∈ wsL_law := wsLr_14 _ (List.mem_of_getElem? (i := 9) rfl)
theorem se_RX0_yX0_cellKey : Cond.selects RX0 yX0_cellKey yX0_cellKey ∈ wsL_law := wsLr_14 _ (List.mem_of_getElem? (i := 10) rfl)
theorem co_yX0_cellKey : Cond.code yX0_cellKey cX0_cellKey 2 (some .int) ∈ wsL_law := wsLr_14 _ (List.mem_of_getElem? (i := 11) rfl)
theorem ml_X0_69 : Cond.methodLink RX0 69 yX0_metBy ∈ wsL_law := wsLr_14 _ (List.mem_of_getElem? (i := 12) rfl)
theorem im_yX0_metBy : Cond.instanceMethod yX0_metBy ∈ wsL_law := wsLr_14 _ (List.mem_of_getElem? (i := 13) rfl)
theorem se_RX0_yX0_metBy : Cond.selects RX0 yX0_metBy yX0_metBy ∈ wsL_law := wsLr_14 _ (List.mem_of_getElem? (i := 14) rfl)
theorem co_yX0_metBy : Cond.code yX0_metBy cX0_metBy 4 (some .int) ∈ wsL_law := wsLr_14 _ (List.mem_of_getElem? (i := 15) rfl)
theorem ml_X5_107 : Cond.methodLink RX5 107 yX5_culprit ∈ wsL_law := wsLr_14 _ (List.mem_of_getElem? (i := 16) rfl)
theorem im_yX5_culprit : Cond.instanceMethod yX5_culprit ∈ wsL_law := wsLr_14 _ (List.mem_of_getElem? (i := 17) rfl)
theorem se_RX5_yX5_culprit : Cond.selects RX5 yX5_culprit yX5_culprit ∈ wsL_law := wsLr_14 _ (List.mem_of_getElem? (i := 18) rfl)
theorem co_yX5_culprit : Cond.code yX5_culprit cX5_culprit 2 (some .int) ∈ wsL_law := wsLr_14 _ (List.mem_of_getElem? (i := 19) rfl)
theorem ml_L_50 : Cond.methodLink RL 50 yX6_why ∈ wsL_law := wsLr_14 _ (List.mem_of_getElem? (i := 20) rfl)
theorem im_yX6_why : Cond.instanceMethod yX6_why ∈ wsL_law := wsLr_14 _ (List.mem_of_getElem? (i := 21) rfl)
theorem se_RX6_yX6_why : Cond.selects RX6 yX6_why yX6_why ∈ wsL_law := wsLr_14 _ (List.mem_of_getElem? (i := 22) rfl)
theorem co_yX6_why : Cond.code yX6_why cX6_why 5 (some .int) ∈ wsL_law := wsLr_14 _ (List.mem_of_getElem? (i := 23) rfl)
theorem ml_X6_95 : Cond.methodLink RX6 95 yX6_wrongDelay ∈ wsL_law := wsLr_15 _ (List.mem_of_getElem? (i := 0) rfl)
theorem im_yX6_wrongDelay : Cond.instanceMethod yX6_wrongDelay ∈ wsL_law := wsLr_15 _ (List.mem_of_getElem? (i := 1) rfl)
theorem se_RX6_yX6_wrongDelay : Cond.selects RX6 yX6_wrongDelay yX6_wrongDelay ∈ wsL_law := wsLr_15 _ (List.mem_of_getElem? (i := 2) rfl)
theorem co_yX6_wrongDelay : Cond.code yX6_wrongDelay cX6_wrongDelay 3 (some .int) ∈ wsL_law := wsLr_15 _ (List.mem_of_getElem? (i := 3) rfl)
theorem ml_X6_86 : Cond.methodLink RX6 86 yX6_isNeeded ∈ wsL_law := wsLr_15 _ (List.mem_of_getElem? (i := 4) rfl)
theorem im_yX6_isNeeded : Cond.instanceMethod yX6_isNeeded ∈ wsL_law := wsLr_15 _ (List.mem_of_getElem? (i := 5) rfl)
theorem se_RX6_yX6_isNeeded : Cond.selects RX6 yX6_isNeeded yX6_isNeeded ∈ wsL_law := wsLr_15 _ (List.mem_of_getElem? (i := 6) rfl)
theorem co_yX6_isNeeded : Cond.code yX6_isNeeded cX6_isNeeded 2 (some .boolean) ∈ wsL_law := wsLr_15 _ (List.mem_of_getElem? (i := 7) rfl)
theorem ml_X6_82 : Cond.methodLink RX6 82 yX6_absolute ∈ wsL_law := wsLr_15 _ (List.mem_of_getElem? (i := 8) rfl)
theorem st_yX6_absolute : Cond.static yX6_absolute ∈ wsL_law := wsLr_15 _ (List.mem_of_getElem? (i := 9) rfl)
theorem co_yX6_absolute : Cond.code yX6_absolute cX6_absolute 1 (some .int) ∈ wsL_law := wsLr_15 _ (List.mem_of_getElem? (i := 10) rfl)
theorem ml_X6_89 : Cond.methodLink RX6 89 yX6_delayOf ∈ wsL_law := wsLr_15 _ (List.mem_of_getElem? (i := 11) rfl)
theorem im_yX6_delayOf : Cond.instanceMethod yX6_delayOf ∈ wsL_law := wsLr_15 _ (List.mem_of_getElem? (i := 12) rfl)
theorem se_RX6_yX6_delayOf : Cond.selects RX6 yX6_delayOf yX6_delayOf ∈ wsL_law := wsLr_15 _ (List.mem_of_getElem? (i := 13) rfl)
theorem co_yX6_delayOf : Cond.code yX6_delayOf cX6_delayOf 2 (some .int) ∈ wsL_law := wsLr_15 _ (List.mem_of_getElem? (i := 14) rfl)
theorem ml_X6_79 : Cond.methodLink RX6 79 yX6_stepBy ∈ wsL_law := wsLr_15 _ (List.mem_of_getElem? (i := 15) rfl)
theorem im_yX6_stepBy : Cond.instanceMethod yX6_stepBy ∈ wsL_law := wsLr_15 _ (List.mem_of_getElem? (i := 16) rfl)
theorem se_RX6_yX6_stepBy : Cond.selects RX6 yX6_stepBy yX6_stepBy ∈ wsL_law := wsLr_15 _ (List.mem_of_getElem? (i := 17) rfl)
theorem co_yX6_stepBy : Cond.code yX6_stepBy cX6_stepBy 3 (some .int) ∈ wsL_law := wsLr_15 _ (List.mem_of_getElem? (i := 18) rfl)
theorem ml_X6_99 : Cond.methodLink RX6 99 yX6_wrongWay ∈ wsL_law := wsLr_15 _ (List.mem_of_getElem? (i := 19) rfl)
theorem im_yX6_wrongWay : Cond.instanceMethod yX6_wrongWay ∈ wsL_law := wsLr_15 _ (List.mem_of_getElem? (i := 20) rfl)
theorem se_RX6_yX6_wrongWay : Cond.selects RX6 yX6_wrongWay yX6_wrongWay ∈ wsL_law := wsLr_15 _ (List.mem_of_getElem? (i := 21) rfl)
theorem co_yX6_wrongWay : Cond.code yX6_wrongWay cX6_wrongWay 3 (some .int) ∈ wsL_law := wsLr_15 _ (List.mem_of_getElem? (i := 22) rfl)
theorem ml_X6_92 : Cond.methodLink RX6 92 yX6_wayOf ∈ wsL_law := wsLr_15 _ (List.mem_of_getElem? (i := 23) rfl)
theorem im_yX6_wayOf : Cond.instanceMethod yX6_wayOf ∈ wsL_law := wsLr_16 _ (List.mem_of_getElem? (i := 0) rfl)
theorem se_RX6_yX6_wayOf : Cond.selects RX6 yX6_wayOf yX6_wayOf ∈ wsL_law := wsLr_16 _ (List.mem_of_getElem? (i := 1) rfl)
theorem co_yX6_wayOf : Cond.code yX6_wayOf cX6_wayOf 2 (some .int) ∈ wsL_law := wsLr_16 _ (List.mem_of_getElem? (i := 2) rfl)
theorem ml_X6_102 : Cond.methodLink RX6 102 yX6_meets ∈ wsL_law := wsLr_16 _ (List.mem_of_getElem? (i := 3) rfl)
theorem im_yX6_meets : Cond.instanceMethod yX6_meets ∈ wsL_law := wsLr_16 _ (List.mem_of_getElem? (i := 4) rfl)
theorem se_RX6_yX6_meets : Cond.selects RX6 yX6_meets yX6_meets ∈ wsL_law := wsLr_16 _ (List.mem_of_getElem? (i := 5) rfl)
theorem co_yX6_meets : Cond.code yX6_meets cX6_meets 6 (some .boolean) ∈ wsL_law := wsLr_16 _ (List.mem_of_getElem? (i := 6) rfl)
theorem ml_X6_106 : Cond.methodLink RX6 106 yX6_isPointNumber ∈ wsL_law := wsLr_16 _ (List.mem_of_getElem? (i := 7) rfl)
theorem im_yX6_isPointNumber : Cond.instanceMethod yX6_isPointNumber ∈ wsL_law := wsLr_16 _ (List.mem_of_getElem? (i := 8) rfl)
theorem se_RX6_yX6_isPointNumber : Cond.selects RX6 yX6_isPointNumber yX6_isPointNumber ∈ wsL_law := wsLr_16 _ (List.mem_of_getElem? (i := 9) rfl)
theorem co_yX6_isPointNumber : Cond.code yX6_isPointNumber cX6_isPointNumber 2 (some .boolean) ∈ wsL_law := wsLr_16 _ (List.mem_of_getElem? (i := 10) rfl)
theorem ml_X6_109 : Cond.methodLink RX6 109 yX6_sameAs ∈ wsL_law := wsLr_16 _ (List.mem_of_getElem? (i := 11) rfl)
theorem im_yX6_sameAs : Cond.instanceMethod yX6_sameAs ∈ wsL_law := wsLr_16 _ (List.mem_of_getElem? (i := 12) rfl)
theorem se_RX6_yX6_sameAs : Cond.selects RX6 yX6_sameAs yX6_sameAs ∈ wsL_law := wsLr_16 _ (List.mem_of_getElem? (i := 13) rfl)
theorem co_yX6_sameAs : Cond.code yX6_sameAs cX6_sameAs 3 (some .int) ∈ wsL_law := wsLr_16 _ (List.mem_of_getElem? (i := 14) rfl)
theorem ml_X6_75 : Cond.methodLink RX6 75 yX6_at ∈ wsL_law := wsLr_16 _ (List.mem_of_getElem? (i := 15) rfl)
theorem im_yX6_at : Cond.instanceMethod yX6_at ∈ wsL_law := wsLr_16 _ (List.mem_of_getElem? (i := 16) rfl)
theorem se_RX6_yX6_at : Cond.selects RX6 yX6_at yX6_at ∈ wsL_law := wsLr_16 _ (List.mem_of_getElem? (i := 17) rfl)
theorem co_yX6_at : Cond.code yX6_at cX6_at 6 (some .int) ∈ wsL_law := wsLr_16 _ (List.mem_of_getElem? (i := 18) rfl)
theorem ml_L_51 : Cond.methodLink RL 51 yX5_laid ∈ wsL_law := wsLr_16 _ (List.mem_of_getElem? (i := 19) rfl)
theorem im_yX5_laid : Cond.instanceMethod yX5_laid ∈ wsL_law := wsLr_16 _ (List.mem_of_getElem? (i := 20) rfl)
theorem se_RX5_yX5_laid : Cond.selects RX5 yX5_laid yX5_laid ∈ wsL_law := wsLr_16 _ (List.mem_of_getElem? (i := 21) rfl)
theorem co_yX5_laid : Cond.code yX5_laid cX5_laid 2 (some .int) ∈ wsL_law := wsLr_16 _ (List.mem_of_getElem? (i := 22) rfl)
theorem fl_X5_117 : Cond.fieldLink RX5 117 "PulseBoard$Places" "beats" "I" ∈ wsL_law := wsLr_16 _ (List.mem_of_getElem? (i := 23) rfl)
theorem fl_X5_120 : Cond.fieldLink RX5 120 "PulseBoard$Places" "cells" "I" ∈ wsL_law := wsLr_17 _ (List.mem_of_getElem? (i := 0) rfl)
theorem ml_X5_123 : Cond.methodLink RX5 123 yX0_use ∈ wsL_law := wsLr_17 _ (List.mem_of_getElem? (i := 1) rfl)
theorem im_yX0_use : Cond.instanceMethod yX0_use ∈ wsL_law := wsLr_17 _ (List.mem_of_getElem? (i := 2) rfl)
theorem se_RX0_yX0_use : Cond.selects RX0 yX0_use yX0_use ∈ wsL_law := wsLr_17 _ (List.mem_of_getElem? (i := 3) rfl)
theorem co_yX0_use : Cond.code yX0_use cX0_use 3 (some .int) ∈ wsL_law := wsLr_17 _ (List.mem_of_getElem? (i := 4) rfl)
theorem ml_X5_127 : Cond.methodLink RX5 127 yX0_apart ∈ wsL_law := wsLr_17 _ (List.mem_of_getElem? (i := 5) rfl)
theorem im_yX0_apart : Cond.instanceMethod yX0_apart ∈ wsL_law := wsLr_17 _ (List.mem_of_getElem? (i := 6) rfl)
theorem se_RX0_yX0_apart : Cond.selects RX0 yX0_apart yX0_apart ∈ wsL_law := wsLr_17 _ (List.mem_of_getElem? (i := 7) rfl)
theorem co_yX0_apart : Cond.code yX0_apart cX0_apart 3 (some .int) ∈ wsL_law := wsLr_17 _ (List.mem_of_getElem? (i := 8) rfl)
theorem ml_X0_88 : Cond.methodLink RX0 88 yJ7_fill_53178 ∈ wsL_law := wsLr_17 _ (List.mem_of_getElem? (i := 9) rfl)
theorem ml_X0_94 : Cond.methodLink RX0 94 yX0_markBetween ∈ wsL_law := wsLr_17 _ (List.mem_of_getElem? (i := 10) rfl)
theorem im_yX0_markBetween : Cond.instanceMethod yX0_markBetween ∈ wsL_law := wsLr_17 _ (List.mem_of_getElem? (i := 11) rfl)
theorem se_RX0_yX0_markBetween : Cond.selects RX0 yX0_markBetween yX0_markBetween ∈ wsL_law := wsLr_17 _ (List.mem_of_getElem? (i := 12) rfl)
theorem co_yX0_markBetween : Cond.code yX0_markBetween cX0_markBetween 4 none ∈ wsL_law := wsLr_17 _ (List.mem_of_getElem? (i := 13) rfl)
theorem ml_X0_101 : Cond.methodLink RX0 101 Lib.Math.abs.name ∈ wsL_law := wsLr_17 _ (List.mem_of_getElem? (i := 14) rfl)
theorem ml_X0_97 : Cond.methodLink RX0 97 yX0_isFree ∈ wsL_law := wsLr_17 _ (List.mem_of_getElem? (i := 15) rfl)
theorem im_yX0_isFree : Cond.instanceMethod yX0_isFree ∈ wsL_law := wsLr_17 _ (List.mem_of_getElem? (i := 16) rfl)
theorem se_RX0_yX0_isFree : Cond.selects RX0 yX0_isFree yX0_isFree ∈ wsL_law := wsLr_17 _ (List.mem_of_getElem? (i := 17) rfl)
theorem co_yX0_isFree : Cond.code yX0_isFree cX0_isFree 3 (some .boolean) ∈ wsL_law := wsLr_17 _ (List.mem_of_getElem? (i := 18) rfl)
theorem ml_L_54 : Cond.methodLink RL 54 yX6_laid ∈ wsL_law := wsLr_17 _ (List.mem_of_getElem? (i := 19) rfl)
theorem im_yX6_laid : Cond.instanceMethod yX6_laid ∈ wsL_law := wsLr_17 _ (List.mem_of_getElem? (i := 20) rfl)
theorem se_RX6_yX6_laid : Cond.selects RX6 yX6_laid yX6_laid ∈ wsL_law := wsLr_17 _ (List.mem_of_getElem? (i := 21) rfl)
theorem co_yX6_laid : Cond.code yX6_laid cX6_laid 2 (some .int) ∈ wsL_law := wsLr_17 _ (List.mem_of_getElem? (i := 22) rfl)
theorem ml_X6_121 : Cond.methodLink RX6 121 yX6_beats ∈ wsL_law := wsLr_17 _ (List.mem_of_getElem? (i := 23) rfl)
theorem im_yX6_beats : Cond.instanceMethod yX6_beats ∈ wsL_law := wsLr_18 _ (List.mem_of_getElem? (i := 0) rfl)
theorem se_RX6_yX6_beats : Cond.selects RX6 yX6_beats yX6_beats ∈ wsL_law := wsLr_18 _ (List.mem_of_getElem? (i := 1) rfl)
theorem co_yX6_beats : Cond.code yX6_beats cX6_beats 4 (some .int) ∈ wsL_law := wsLr_18 _ (List.mem_of_getElem? (i := 2) rfl)
theorem ml_X6_112 : Cond.methodLink RX6 112 yX6_beatOf ∈ wsL_law := wsLr_18 _ (List.mem_of_getElem? (i := 3) rfl)
theorem im_yX6_beatOf : Cond.instanceMethod yX6_beatOf ∈ wsL_law := wsLr_18 _ (List.mem_of_getElem? (i := 4) rfl)
theorem se_RX6_yX6_beatOf : Cond.selects RX6 yX6_beatOf yX6_beatOf ∈ wsL_law := wsLr_18 _ (List.mem_of_getElem? (i := 5) rfl)
theorem co_yX6_beatOf : Cond.code yX6_beatOf cX6_beatOf 2 (some .int) ∈ wsL_law := wsLr_18 _ (List.mem_of_getElem? (i := 6) rfl)
theorem ml_X6_124 : Cond.methodLink RX6 124 yX6_cells ∈ wsL_law := wsLr_18 _ (List.mem_of_getElem? (i := 7) rfl)
theorem im_yX6_cells : Cond.instanceMethod yX6_cells ∈ wsL_law := wsLr_18 _ (List.mem_of_getElem? (i := 8) rfl)
theorem se_RX6_yX6_cells : Cond.selects RX6 yX6_cells yX6_cells ∈ wsL_law := wsLr_18 _ (List.mem_of_getElem? (i := 9) rfl)
theorem co_yX6_cells : Cond.code yX6_cells cX6_cells 4 (some .int) ∈ wsL_law := wsLr_18 _ (List.mem_of_getElem? (i := 10) rfl)
theorem ml_X6_115 : Cond.methodLink RX6 115 yX6_cellOf ∈ wsL_law := wsLr_18 _ (List.mem_of_getElem? (i := 11) rfl)
theorem im_yX6_cellOf : Cond.instanceMethod yX6_cellOf ∈ wsL_law := wsLr_18 _ (List.mem_of_getElem? (i := 12) rfl)
theorem se_RX6_yX6_cellOf : Cond.selects RX6 yX6_cellOf yX6_cellOf ∈ wsL_law := wsLr_18 _ (List.mem_of_getElem? (i := 13) rfl)
theorem co_yX6_cellOf : Cond.code yX6_cellOf cX6_cellOf 2 (some .int) ∈ wsL_law := wsLr_18 _ (List.mem_of_getElem? (i := 14) rfl)
theorem ml_X6_127 : Cond.methodLink RX6 127 yX6_points ∈ wsL_law := wsLr_18 _ (List.mem_of_getElem? (i := 15) rfl)
theorem im_yX6_points : Cond.instanceMethod yX6_points ∈ wsL_law := wsLr_18 _ (List.mem_of_getElem? (i := 16) rfl)
theorem se_RX6_yX6_points : Cond.selects RX6 yX6_points yX6_points ∈ wsL_law := wsLr_18 _ (List.mem_of_getElem? (i := 17) rfl)
theorem co_yX6_points : Cond.code yX6_points cX6_points 1 (some .int) ∈ wsL_law := wsLr_18 _ (List.mem_of_getElem? (i := 18) rfl)
theorem ml_X6_130 : Cond.methodLink RX6 130 yX6_apart ∈ wsL_law := wsLr_18 _ (List.mem_of_getElem? (i := 19) rfl)
theorem im_yX6_apart : Cond.instanceMethod yX6_apart ∈ wsL_law := wsLr_18 _ (List.mem_of_getElem? (i := 20) rfl)
theorem se_RX6_yX6_apart : Cond.selects RX6 yX6_apart yX6_apart ∈ wsL_law := wsLr_18 _ (List.mem_of_getElem? (i := 21) rfl)
theorem co_yX6_apart : Cond.code yX6_apart cX6_apart 3 (some .int) ∈ wsL_law := wsLr_18 _ (List.mem_of_getElem? (i := 22) rfl)
theorem ml_X6_118 : Cond.methodLink RX6 118 yX6_divides ∈ wsL_law := wsLr_18 _ (List.mem_of_getElem? (i := 23) rfl)
theorem im_yX6_divides : Cond.instanceMethod yX6_divides ∈ wsL_law := wsLr_19 _ (List.mem_of_getElem? (i := 0) rfl)
theorem se_RX6_yX6_divides : Cond.selects RX6 yX6_divides yX6_divides ∈ wsL_law := wsLr_19 _ (List.mem_of_getElem? (i := 1) rfl)
theorem co_yX6_divides : Cond.code yX6_divides cX6_divides 4 (some .boolean) ∈ wsL_law := wsLr_19 _ (List.mem_of_getElem? (i := 2) rfl)
theorem ml_L_55 : Cond.methodLink RL 55 yX5_where ∈ wsL_law := wsLr_19 _ (List.mem_of_getElem? (i := 3) rfl)
theorem im_yX5_where : Cond.instanceMethod yX5_where ∈ wsL_law := wsLr_19 _ (List.mem_of_getElem? (i := 4) rfl)
theorem se_RX5_yX5_where : Cond.selects RX5 yX5_where yX5_where ∈ wsL_law := wsLr_19 _ (List.mem_of_getElem? (i := 5) rfl)
theorem co_yX5_where : Cond.code yX5_where cX5_where 6 (some .int) ∈ wsL_law := wsLr_19 _ (List.mem_of_getElem? (i := 6) rfl)
theorem fl_X5_130 : Cond.fieldLink RX5 130 "PulseBoard$Places" "beat" "[I" ∈ wsL_law := wsLr_19 _ (List.mem_of_getElem? (i := 7) rfl)
theorem fl_X5_134 : Cond.fieldLink RX5 134 "PulseBoard$Places" "cell" "[I" ∈ wsL_law := wsLr_19 _ (List.mem_of_getElem? (i := 8) rfl)
theorem fl_X5_137 : Cond.fieldLink RX5 137 "PulseBoard$Places" "second" "[I" ∈ wsL_law := wsLr_19 _ (List.mem_of_getElem? (i := 9) rfl)
theorem ml_L_59 : Cond.methodLink RL 59 yX6_where ∈ wsL_law := wsLr_19 _ (List.mem_of_getElem? (i := 10) rfl)
theorem im_yX6_where : Cond.instanceMethod yX6_where ∈ wsL_law := wsLr_19 _ (List.mem_of_getElem? (i := 11) rfl)
theorem se_RX6_yX6_where : Cond.selects RX6 yX6_where yX6_where ∈ wsL_law := wsLr_19 _ (List.mem_of_getElem? (i := 12) rfl)
theorem co_yX6_where : Cond.code yX6_where cX6_where 6 (some .int) ∈ wsL_law := wsLr_19 _ (List.mem_of_getElem? (i := 13) rfl)
theorem ml_L_60 : Cond.methodLink RL 60 yX5_needs ∈ wsL_law := wsLr_19 _ (List.mem_of_getElem? (i := 14) rfl)
theorem im_yX5_needs : Cond.instanceMethod yX5_needs ∈ wsL_law := wsLr_19 _ (List.mem_of_getElem? (i := 15) rfl)
theorem se_RX5_yX5_needs : Cond.selects RX5 yX5_needs yX5_needs ∈ wsL_law := wsLr_19 _ (List.mem_of_getElem? (i := 16) rfl)
theorem co_yX5_needs : Cond.code yX5_needs cX5_needs 3 (some .int) ∈ wsL_law := wsLr_19 _ (List.mem_of_getElem? (i := 17) rfl)
theorem ml_X5_140 : Cond.methodLink RX5 140 yX1_delay ∈ wsL_law := wsLr_19 _ (List.mem_of_getElem? (i := 18) rfl)
theorem ml_X5_144 : Cond.methodLink RX5 144 yX1_way ∈ wsL_law := wsLr_19 _ (List.mem_of_getElem? (i := 19) rfl)
theorem ml_X5_147 : Cond.methodLink RX5 147 yX4_isNeeded ∈ wsL_law := wsLr_19 _ (List.mem_of_getElem? (i := 20) rfl)
theorem ml_L_64 : Cond.methodLink RL 64 yX6_needs ∈ wsL_law := wsLr_19 _ (List.mem_of_getElem? (i := 21) rfl)
theorem im_yX6_needs : Cond.instanceMethod yX6_needs ∈ wsL_law := wsLr_19 _ (List.mem_of_getElem? (i := 22) rfl)
theorem se_RX6_yX6_needs : Cond.selects RX6 yX6_needs yX6_needs ∈ wsL_law := wsLr_19 _ (List.mem_of_getElem? (i := 23) rfl)
theorem co_yX6_needs : Cond.code yX6_needs cX6_needs 3 (some .int) ∈ wsL_law := wsLr_20 _ (List.mem_of_getElem? (i := 0) rfl)
theorem ml_L_65 : Cond.methodLink RL 65 yX5_best ∈ wsL_law := wsLr_20 _ (List.mem_of_getElem? (i := 1) rfl)
theorem im_yX5_best : Cond.instanceMethod yX5_best ∈ wsL_law := wsLr_20 _ (List.mem_of_getElem? (i := 2) rfl)
theorem se_RX5_yX5_best : Cond.selects RX5 yX5_best yX5_best ∈ wsL_law := wsLr_20 _ (List.mem_of_getElem? (i := 3) rfl)
theorem co_yX5_best : Cond.code yX5_best cX5_best 5 (some .int) ∈ wsL_law := wsLr_20 _ (List.mem_of_getElem? (i := 4) rfl)
theorem fl_X5_154 : Cond.fieldLink RX5 154 "PulseBoard$Search" "winner" "LPulseBoard$Plan;" ∈ wsL_law := wsLr_20 _ (List.mem_of_getElem? (i := 5) rfl)
theorem ml_X5_150 : Cond.methodLink RX5 150 yX3_find ∈ wsL_law := wsLr_20 _ (List.mem_of_getElem? (i := 6) rfl)
theorem im_yX3_find : Cond.instanceMethod yX3_find ∈ wsL_law := wsLr_20 _ (List.mem_of_getElem? (i := 7) rfl)
theorem se_RX3_yX3_find : Cond.selects RX3 yX3_find yX3_find ∈ wsL_law := wsLr_20 _ (List.mem_of_getElem? (i := 8) rfl)
theorem co_yX3_find : Cond.code yX3_find cX3_find 8 (some .boolean) ∈ wsL_law := wsLr_20 _ (List.mem_of_getElem? (i := 9) rfl)
theorem ml_X3_36 : Cond.methodLink RX3 36 yX3_spell ∈ wsL_law := wsLr_20 _ (List.mem_of_getElem? (i := 10) rfl)
theorem im_yX3_spell : Cond.instanceMethod yX3_spell ∈ wsL_law := wsLr_20 _ (List.mem_of_getElem? (i := 11) rfl)
theorem se_RX3_yX3_spell : Cond.selects RX3 yX3_spell yX3_spell ∈ wsL_law := wsLr_20 _ (List.mem_of_getElem? (i := 12) rfl)
theorem co_yX3_spell : Cond.code yX3_spell cX3_spell 5 none ∈ wsL_law := wsLr_20 _ (List.mem_of_getElem? (i := 13) rfl)
theorem ml_X3_69 : Cond.methodLink RX3 69 Lib.Math.max.name ∈ wsL_law := wsLr_20 _ (List.mem_of_getElem? (i := 14) rfl)
theorem ml_X3_75 : Cond.methodLink RX3 75 yX1_put ∈ wsL_law := wsLr_20 _ (List.mem_of_getElem? (i := 15) rfl)
theorem ml_X3_40 : Cond.methodLink RX3 40 yX1_beatsUnfolded ∈ wsL_law := wsLr_20 _ (List.mem_of_getElem? (i := 16) rfl)
theorem im_yX1_beatsUnfolded : Cond.instanceMethod yX1_beatsUnfolded ∈ wsL_law := wsLr_20 _ (List.mem_of_getElem? (i := 17) rfl)
theorem se_RX1_yX1_beatsUnfolded : Cond.selects RX1 yX1_beatsUnfolded yX1_beatsUnfolded ∈ wsL_law := wsLr_20 _ (List.mem_of_getElem? (i := 18) rfl)
theorem co_yX1_beatsUnfolded : Cond.code yX1_beatsUnfolded cX1_beatsUnfolded 4 (some .int) ∈ wsL_law := wsLr_20 _ (List.mem_of_getElem? (i := 19) rfl)
theorem ml_X3_44 : Cond.methodLink RX3 44 yX1_tooEarly ∈ wsL_law := wsLr_20 _ (List.mem_of_getElem? (i := 20) rfl)
theorem ml_X3_47 : Cond.methodLink RX3 47 yX3_tryLines ∈ wsL_law := wsLr_20 _ (List.mem_of_getElem? (i := 21) rfl)
theorem im_yX3_tryLines : Cond.instanceMethod yX3_tryLines ∈ wsL_law := wsLr_20 _ (List.mem_of_getElem? (i := 22) rfl)
theorem se_RX3_yX3_tryLines : Cond.selects RX3 yX3_tryLines yX3_tryLines ∈ wsL_law := wsLr_20 _ (List.mem_of_getElem? (i := 23) rfl)
theorem co_yX3_tryLines : Cond.code yX3_tryLines cX3_tryLines 11 none ∈ wsL_law := wsLr_21 _ (List.mem_of_getElem? (i := 0) rfl)
theorem ml_X3_51 : Cond.methodLink RX3 51 yX3_consider ∈ wsL_law := wsLr_21 _ (List.mem_of_getElem? (i := 1) rfl)
theorem im_yX3_consider : Cond.instanceMethod yX3_consider ∈ wsL_law := wsLr_21 _ (List.mem_of_getElem? (i := 2) rfl)
theorem se_RX3_yX3_consider : Cond.selects RX3 yX3_consider yX3_consider ∈ wsL_law := wsLr_21 _ (List.mem_of_getElem? (i := 3) rfl)
theorem co_yX3_consider : Cond.code yX3_consider cX3_consider 5 none ∈ wsL_law := wsLr_21 _ (List.mem_of_getElem? (i := 4) rfl)
theorem ml_X3_55 : Cond.methodLink RX3 55 yX1_tooFar ∈ wsL_law := wsLr_21 _ (List.mem_of_getElem? (i := 5) rfl)
theorem ml_X3_58 : Cond.methodLink RX3 58 yX3_countCells ∈ wsL_law := wsLr_21 _ (List.mem_of_getElem? (i := 6) rfl)
theorem im_yX3_countCells : Cond.instanceMethod yX3_countCells ∈ wsL_law := wsLr_21 _ (List.mem_of_getElem? (i := 7) rfl)
theorem se_RX3_yX3_countCells : Cond.selects RX3 yX3_countCells yX3_countCells ∈ wsL_law := wsLr_21 _ (List.mem_of_getElem? (i := 8) rfl)
theorem co_yX3_countCells : Cond.code yX3_countCells cX3_countCells 2 (some .int) ∈ wsL_law := wsLr_21 _ (List.mem_of_getElem? (i := 9) rfl)
theorem fl_X3_83 : Cond.fieldLink RX3 83 "PulseBoard$Sum" "points" "I" ∈ wsL_law := wsLr_21 _ (List.mem_of_getElem? (i := 10) rfl)
theorem ml_X3_79 : Cond.methodLink RX3 79 yX3_findAcross ∈ wsL_law := wsLr_21 _ (List.mem_of_getElem? (i := 11) rfl)
theorem im_yX3_findAcross : Cond.instanceMethod yX3_findAcross ∈ wsL_law := wsLr_21 _ (List.mem_of_getElem? (i := 12) rfl)
theorem se_RX3_yX3_findAcross : Cond.selects RX3 yX3_findAcross yX3_findAcross ∈ wsL_law := wsLr_21 _ (List.mem_of_getElem? (i := 13) rfl)
theorem co_yX3_findAcross : Cond.code yX3_findAcross cX3_findAcross 10 (some .boolean) ∈ wsL_law := wsLr_21 _ (List.mem_of_getElem? (i := 14) rfl)
theorem fl_X3_98 : Cond.fieldLink RX3 98 "PulseBoard$Plan" "numbers" "[I" ∈ wsL_law := wsLr_21 _ (List.mem_of_getElem? (i := 15) rfl)
theorem ml_X3_101 : Cond.methodLink RX3 101 Lib.Math.abs.name ∈ wsL_law := wsLr_21 _ (List.mem_of_getElem? (i := 16) rfl)
theorem ml_X3_105 : Cond.methodLink RX3 105 yX3_commonDivisor ∈ wsL_law := wsLr_21 _ (List.mem_of_getElem? (i := 17) rfl)
theorem st_yX3_commonDivisor : Cond.static yX3_commonDivisor ∈ wsL_law := wsLr_21 _ (List.mem_of_getElem? (i := 18) rfl)
theorem co_yX3_commonDivisor : Cond.code yX3_commonDivisor cX3_commonDivisor 6 (some .int) ∈ wsL_law := wsLr_21 _ (List.mem_of_getElem? (i := 19) rfl)
theorem ml_X3_88 : Cond.methodLink RX3 88 yX3_countBehind ∈ wsL_law := wsLr_21 _ (List.mem_of_getElem? (i := 20) rfl)
theorem im_yX3_countBehind : Cond.instanceMethod yX3_countBehind ∈ wsL_law := wsLr_21 _ (List.mem_of_getElem? (i := 21) rfl)
theorem se_RX3_yX3_countBehind : Cond.selects RX3 yX3_countBehind yX3_countBehind ∈ wsL_law := wsLr_21 _ (List.mem_of_getElem? (i := 22) rfl)
theorem co_yX3_countBehind : Cond.code yX3_countBehind cX3_countBehind 4 (some .int) ∈ wsL_law := wsLr_21 _ (List.mem_of_getElem? (i := 23) rfl)
theorem fl_X3_108 : Cond.fieldLink RX3 108 "PulseBoard$Sum" "size" "[I" ∈ wsL_law := wsLr_22 _ (List.mem_of_getElem? (i := 0) rfl)
theorem ml_X3_95 : Cond.methodLink RX3 95 yX3_countLine ∈ wsL_law := wsLr_22 _ (List.mem_of_getElem? (i := 1) rfl)
theorem im_yX3_countLine : Cond.instanceMethod yX3_countLine ∈ wsL_law := wsLr_22 _ (List.mem_of_getElem? (i := 2) rfl)
theorem se_RX3_yX3_countLine : Cond.selects RX3 yX3_countLine yX3_countLine ∈ wsL_law := wsLr_22 _ (List.mem_of_getElem? (i := 3) rfl)
theorem co_yX3_countLine : Cond.code yX3_countLine cX3_countLine 7 (some .int) ∈ wsL_law := wsLr_22 _ (List.mem_of_getElem? (i := 4) rfl)
theorem ml_X3_111 : Cond.methodLink RX3 111 yJ13_bitCount_95d88 ∈ wsL_law := wsLr_22 _ (List.mem_of_getElem? (i := 5) rfl)
theorem st_yJ13_bitCount_95d88 : Cond.static yJ13_bitCount_95d88 ∈ wsL_law := wsLr_22 _ (List.mem_of_getElem? (i := 6) rfl)
theorem it_RJ13 : Cond.initialized RJ13 ∈ wsL_law := wsLr_22 _ (List.mem_of_getElem? (i := 7) rfl)
theorem co_yJ13_bitCount_95d88 : Cond.code yJ13_bitCount_95d88 cJ13_bitCount_95d88 2 (some .int) ∈ wsL_law := wsLr_22 _ (List.mem_of_getElem? (i := 8) rfl)
theorem wo_constantLong_RJ13_314__6148914691236517205_ : Cond.constantLong RJ13 314 (6148914691236517205) ∈ wsL_law := wsLr_22 _ (List.mem_of_getElem? (i := 9) rfl)
theorem wo_constantLong_RJ13_316__3689348814741910323_ : Cond.constantLong RJ13 316 (3689348814741910323) ∈ wsL_law := wsLr_22 _ (List.mem_of_getElem? (i := 10) rfl)
theorem wo_constantLong_RJ13_318__1085102592571150095_ : Cond.constantLong RJ13 318 (1085102592571150095) ∈ wsL_law := wsLr_22 _ (List.mem_of_getElem? (i := 11) rfl)
theorem ml_X3_61 : Cond.methodLink RX3 61 yX3_partsAll ∈ wsL_law := wsLr_22 _ (List.mem_of_getElem? (i := 12) rfl)
theorem im_yX3_partsAll : Cond.instanceMethod yX3_partsAll ∈ wsL_law := wsLr_22 _ (List.mem_of_getElem? (i := 13) rfl)
theorem se_RX3_yX3_partsAll : Cond.selects RX3 yX3_partsAll yX3_partsAll ∈ wsL_law := wsLr_22 _ (List.mem_of_getElem? (i := 14) rfl)
theorem co_yX3_partsAll : Cond.code yX3_partsAll cX3_partsAll 3 (some .boolean) ∈ wsL_law := wsLr_22 _ (List.mem_of_getElem? (i := 15) rfl)
theorem ml_X3_91 : Cond.methodLink RX3 91 yX1_times ∈ wsL_law := wsLr_22 _ (List.mem_of_getElem? (i := 16) rfl)
theorem ml_X3_65 : Cond.methodLink RX3 65 yX1_takeNumbers ∈ wsL_law := wsLr_22 _ (List.mem_of_getElem? (i := 17) rfl)
theorem im_yX1_takeNumbers : Cond.instanceMethod yX1_takeNumbers ∈ wsL_law := wsLr_22 _ (List.mem_of_getElem? (i := 18) rfl)
theorem se_RX1_yX1_takeNumbers : Cond.selects RX1 yX1_takeNumbers yX1_takeNumbers ∈ wsL_law := wsLr_22 _ (List.mem_of_getElem? (i := 19) rfl)
theorem co_yX1_takeNumbers : Cond.code yX1_takeNumbers cX1_takeNumbers 2 none ∈ wsL_law := wsLr_22 _ (List.mem_of_getElem? (i := 20) rfl)
theorem ml_X1_19 : Cond.methodLink RX1 19 arraycopyName ∈ wsL_law := wsLr_22 _ (List.mem_of_getElem? (i := 21) rfl)
theorem wo_native_arraycopyName : Cond.native arraycopyName ∈ wsL_law := wsLr_22 _ (List.mem_of_getElem? (i := 22) rfl)
theorem st_arraycopyName : Cond.static arraycopyName ∈ wsL_law := wsLr_22 _ (List.mem_of_getElem? (i := 23) rfl)
theorem it__java_lang_System_ : Cond.initialized "java/lang/System" ∈ wsL_law := wsLr_23 _ (List.mem_of_getElem? (i := 0) rfl)
theorem ml_X5_157 : Cond.methodLink RX5 157 yX1_takeNumbers ∈ wsL_law := wsLr_23 _ (List.mem_of_getElem? (i := 1) rfl)
theorem ml_L_68 : Cond.methodLink RL 68 yX6_best ∈ wsL_law := wsLr_23 _ (List.mem_of_getElem? (i := 2) rfl)
theorem im_yX6_best : Cond.instanceMethod yX6_best ∈ wsL_law := wsLr_23 _ (List.mem_of_getElem? (i := 3) rfl)
theorem se_RX6_yX6_best : Cond.selects RX6 yX6_best yX6_best ∈ wsL_law := wsLr_23 _ (List.mem_of_getElem? (i := 4) rfl)
theorem co_yX6_best : Cond.code yX6_best cX6_best 14 (some .int) ∈ wsL_law := wsLr_23 _ (List.mem_of_getElem? (i := 5) rfl)
theorem ml_X6_133 : Cond.methodLink RX6 133 yX6_numbers ∈ wsL_law := wsLr_23 _ (List.mem_of_getElem? (i := 6) rfl)
theorem im_yX6_numbers : Cond.instanceMethod yX6_numbers ∈ wsL_law := wsLr_23 _ (List.mem_of_getElem? (i := 7) rfl)
theorem se_RX6_yX6_numbers : Cond.selects RX6 yX6_numbers yX6_numbers ∈ wsL_law := wsLr_23 _ (List.mem_of_getElem? (i := 8) rfl)
theorem co_yX6_numbers : Cond.code yX6_numbers cX6_numbers 5 none ∈ wsL_law := wsLr_23 _ (List.mem_of_getElem? (i := 9) rfl)
theorem ml_X6_136 : Cond.methodLink RX6 136 yX6_isRight ∈ wsL_law := wsLr_23 _ (List.mem_of_getElem? (i := 10) rfl)
theorem im_yX6_isRight : Cond.instanceMethod yX6_isRight ∈ wsL_law := wsLr_23 _ (List.mem_of_getElem? (i := 11) rfl)
theorem se_RX6_yX6_isRight : Cond.selects RX6 yX6_isRight yX6_isRight ∈ wsL_law := wsLr_23 _ (List.mem_of_getElem? (i := 12) rfl)
theorem co_yX6_isRight : Cond.code yX6_isRight cX6_isRight 1 (some .boolean) ∈ wsL_law := wsLr_23 _ (List.mem_of_getElem? (i := 13) rfl)
theorem ml_L_69 : Cond.methodLink RL 69 yX5_laying ∈ wsL_law := wsLr_23 _ (List.mem_of_getElem? (i := 14) rfl)
theorem im_yX5_laying : Cond.instanceMethod yX5_laying ∈ wsL_law := wsLr_23 _ (List.mem_of_getElem? (i := 15) rfl)
theorem se_RX5_yX5_laying : Cond.selects RX5 yX5_laying yX5_laying ∈ wsL_law := wsLr_23 _ (List.mem_of_getElem? (i := 16) rfl)
theorem co_yX5_laying : Cond.code yX5_laying cX5_laying 3 (some .int) ∈ wsL_law := wsLr_23 _ (List.mem_of_getElem? (i := 17) rfl)
theorem fl_X5_161 : Cond.fieldLink RX5 161 "PulseBoard$Plan" "numbers" "[I" ∈ wsL_law := wsLr_23 _ (List.mem_of_getElem? (i := 18) rfl)
theorem ml_L_72 : Cond.methodLink RL 72 yX6_laying ∈ wsL_law := wsLr_23 _ (List.mem_of_getElem? (i := 19) rfl)
theorem im_yX6_laying : Cond.instanceMethod yX6_laying ∈ wsL_law := wsLr_23 _ (List.mem_of_getElem? (i := 20) rfl)
theorem se_RX6_yX6_laying : Cond.selects RX6 yX6_laying yX6_laying ∈ wsL_law := wsLr_23 _ (List.mem_of_getElem? (i := 21) rfl)
theorem co_yX6_laying : Cond.code yX6_laying cX6_laying 3 (some .int) ∈ wsL_law := wsLr_23 _ (List.mem_of_getElem? (i := 22) rfl)
theorem ml_L_73 : Cond.methodLink RL 73 yX5_run ∈ wsL_law := wsLr_23 _ (List.mem_of_getElem? (i := 23) rfl)
theorem im_yX5_run : Cond.instanceMethod yX5_run ∈ wsL_law := wsLr_24 _ (List.mem_of_getElem? (i := 0) rfl)
theorem se_RX5_yX5_run : Cond.selects RX5 yX5_run yX5_run ∈ wsL_law := wsLr_24 _ (List.mem_of_getElem? (i := 1) rfl)
theorem co_yX5_run : Cond.code yX5_run cX5_run 1 (some .int) ∈ wsL_law := wsLr_24 _ (List.mem_of_getElem? (i := 2) rfl)
theorem ml_X5_164 : Cond.methodLink RX5 164 yX2_work ∈ wsL_law := wsLr_24 _ (List.mem_of_getElem? (i := 3) rfl)
theorem im_yX2_work : Cond.instanceMethod yX2_work ∈ wsL_law := wsLr_24 _ (List.mem_of_getElem? (i := 4) rfl)
theorem se_RX2_yX2_work : Cond.selects RX2 yX2_work yX2_work ∈ wsL_law := wsLr_24 _ (List.mem_of_getElem? (i := 5) rfl)
theorem co_yX2_work : Cond.code yX2_work cX2_work 6 (some .int) ∈ wsL_law := wsLr_24 _ (List.mem_of_getElem? (i := 6) rfl)
theorem fl_X2_32 : Cond.fieldLink RX2 32 "PulseBoard$Places" "beats" "I" ∈ wsL_law := wsLr_24 _ (List.mem_of_getElem? (i := 7) rfl)
theorem ml_X2_35 : Cond.methodLink RX2 35 yX2_sortByBeat ∈ wsL_law := wsLr_24 _ (List.mem_of_getElem? (i := 8) rfl)
theorem im_yX2_sortByBeat : Cond.instanceMethod yX2_sortByBeat ∈ wsL_law := wsLr_24 _ (List.mem_of_getElem? (i := 9) rfl)
theorem se_RX2_yX2_sortByBeat : Cond.selects RX2 yX2_sortByBeat yX2_sortByBeat ∈ wsL_law := wsLr_24 _ (List.mem_of_getElem? (i := 10) rfl)
theorem co_yX2_sortByBeat : Cond.code yX2_sortByBeat cX2_sortByBeat 6 none ∈ wsL_law := wsLr_24 _ (List.mem_of_getElem? (i := 11) rfl)
theorem fl_X2_53 : Cond.fieldLink RX2 53 "PulseBoard$Sum" "points" "I" ∈ wsL_law := wsLr_24 _ (List.mem_of_getElem? (i := 12) rfl)
theorem fl_X2_56 : Cond.fieldLink RX2 56 "PulseBoard$Places" "beat" "[I" ∈ wsL_law := wsLr_24 _ (List.mem_of_getElem? (i := 13) rfl)
theorem fl_X2_59 : Cond.fieldLink RX2 59 "PulseBoard$Sum" "codes" "[I" ∈ wsL_law := wsLr_24 _ (List.mem_of_getElem? (i := 14) rfl)
theorem ml_X2_48 : Cond.methodLink RX2 48 yJ7_fill_53178 ∈ wsL_law := wsLr_24 _ (List.mem_of_getElem? (i := 15) rfl)
theorem ml_X2_39 : Cond.methodLink RX2 39 yX4_workPoint ∈ wsL_law := wsLr_24 _ (List.mem_of_getElem? (i := 16) rfl)
theorem im_yX4_workPoint : Cond.instanceMethod yX4_workPoint ∈ wsL_law := wsLr_24 _ (List.mem_of_getElem? (i := 17) rfl)
theorem se_RX4_yX4_workPoint : Cond.selects RX4 yX4_workPoint yX4_workPoint ∈ wsL_law := wsLr_24 _ (List.mem_of_getElem? (i := 18) rfl)
theorem co_yX4_workPoint : Cond.code yX4_workPoint cX4_workPoint 7 none ∈ wsL_law := wsLr_24 _ (List.mem_of_getElem? (i := 19) rfl)
theorem ml_X4_67 : Cond.methodLink RX4 67 yX4_comes ∈ wsL_law := wsLr_24 _ (List.mem_of_getElem? (i := 20) rfl)
theorem im_yX4_comes : Cond.instanceMethod yX4_comes ∈ wsL_law := wsLr_24 _ (List.mem_of_getElem? (i := 21) rfl)
theorem se_RX4_yX4_comes : Cond.selects RX4 yX4_comes yX4_comes ∈ wsL_law := wsLr_24 _ (List.mem_of_getElem? (i := 22) rfl)
theorem co_yX4_comes : Cond.code yX4_comes cX4_comes 5 (some .int) ∈ wsL_law := wsLr_24 _ (List.mem_of_getElem? (i := 23) rfl)
theorem ml_X4_75 : Cond.methodLink RX4 75 yX4_stepped ∈ wsL_law := wsLr_25 _ (List.mem_of_getElem? (i := 0) rfl)
theorem im_yX4_stepped : Cond.instanceMethod yX4_stepped ∈ wsL_law := wsLr_25 _ (List.mem_of_getElem? (i := 1) rfl)
theorem se_RX4_yX4_stepped : Cond.selects RX4 yX4_stepped yX4_stepped ∈ wsL_law := wsLr_25 _ (List.mem_of_getElem? (i := 2) rfl)
theorem co_yX4_stepped : Cond.code yX4_stepped cX4_stepped 7 (some .int) ∈ wsL_law := wsLr_25 _ (List.mem_of_getElem? (i := 3) rfl)
theorem ml_X4_71 : Cond.methodLink RX4 71 yX4_made ∈ wsL_law := wsLr_25 _ (List.mem_of_getElem? (i := 4) rfl)
theorem st_yX4_made : Cond.static yX4_made ∈ wsL_law := wsLr_25 _ (List.mem_of_getElem? (i := 5) rfl)
theorem co_yX4_made : Cond.code yX4_made cX4_made 4 (some .int) ∈ wsL_law := wsLr_25 _ (List.mem_of_getElem? (i := 6) rfl)
theorem ml_X4_78 : Cond.methodLink RX4 78 Lib.Math.min.name ∈ wsL_law := wsLr_25 _ (List.mem_of_getElem? (i := 7) rfl)
theorem ml_X4_82 : Cond.methodLink RX4 82 Lib.Math.max.name ∈ wsL_law := wsLr_25 _ (List.mem_of_getElem? (i := 8) rfl)
theorem ml_X2_45 : Cond.methodLink RX2 45 yX2_countHeld ∈ wsL_law := wsLr_25 _ (List.mem_of_getElem? (i := 9) rfl)
theorem im_yX2_countHeld : Cond.instanceMethod yX2_countHeld ∈ wsL_law := wsLr_25 _ (List.mem_of_getElem? (i := 10) rfl)
theorem se_RX2_yX2_countHeld : Cond.selects RX2 yX2_countHeld yX2_countHeld ∈ wsL_law := wsLr_25 _ (List.mem_of_getElem? (i := 11) rfl)
theorem co_yX2_countHeld : Cond.code yX2_countHeld cX2_countHeld 6 none ∈ wsL_law := wsLr_25 _ (List.mem_of_getElem? (i := 12) rfl)
theorem fl_X2_62 : Cond.fieldLink RX2 62 "PulseBoard$Sum" "variables" "I" ∈ wsL_law := wsLr_25 _ (List.mem_of_getElem? (i := 13) rfl)
theorem ml_X2_65 : Cond.methodLink RX2 65 yX4_stepped ∈ wsL_law := wsLr_25 _ (List.mem_of_getElem? (i := 14) rfl)
theorem ml_L_77 : Cond.methodLink RL 77 yX6_run ∈ wsL_law := wsLr_25 _ (List.mem_of_getElem? (i := 15) rfl)
theorem im_yX6_run : Cond.instanceMethod yX6_run ∈ wsL_law := wsLr_25 _ (List.mem_of_getElem? (i := 16) rfl)
theorem se_RX6_yX6_run : Cond.selects RX6 yX6_run yX6_run ∈ wsL_law := wsLr_25 _ (List.mem_of_getElem? (i := 17) rfl)
theorem co_yX6_run : Cond.code yX6_run cX6_run 4 (some .int) ∈ wsL_law := wsLr_25 _ (List.mem_of_getElem? (i := 18) rfl)
theorem ml_X6_150 : Cond.methodLink RX6 150 yX6_work ∈ wsL_law := wsLr_25 _ (List.mem_of_getElem? (i := 19) rfl)
theorem im_yX6_work : Cond.instanceMethod yX6_work ∈ wsL_law := wsLr_25 _ (List.mem_of_getElem? (i := 20) rfl)
theorem se_RX6_yX6_work : Cond.selects RX6 yX6_work yX6_work ∈ wsL_law := wsLr_25 _ (List.mem_of_getElem? (i := 21) rfl)
theorem co_yX6_work : Cond.code yX6_work cX6_work 7 none ∈ wsL_law := wsLr_25 _ (List.mem_of_getElem? (i := 22) rfl)
theorem ml_X6_142 : Cond.methodLink RX6 142 yX6_comes ∈ wsL_law := wsLr_25 _ (List.mem_of_getElem? (i := 23) rfl)
theorem im_yX6_comes : Cond.instanceMethod yX6_comes ∈ wsL_law := wsLr_26 _ (List.mem_of_getElem? (i := 0) rfl)
theorem se_RX6_yX6_comes : Cond.selects RX6 yX6_comes yX6_comes ∈ wsL_law := wsLr_26 _ (List.mem_of_getElem? (i := 1) rfl)
theorem co_yX6_comes : Cond.code yX6_comes cX6_comes 5 (some .int) ∈ wsL_law := wsLr_26 _ (List.mem_of_getElem? (i := 2) rfl)
theorem ml_X6_139 : Cond.methodLink RX6 139 yX6_ahead ∈ wsL_law := wsLr_26 _ (List.mem_of_getElem? (i := 3) rfl)
theorem im_yX6_ahead : Cond.instanceMethod yX6_ahead ∈ wsL_law := wsLr_26 _ (List.mem_of_getElem? (i := 4) rfl)
theorem se_RX6_yX6_ahead : Cond.selects RX6 yX6_ahead yX6_ahead ∈ wsL_law := wsLr_26 _ (List.mem_of_getElem? (i := 5) rfl)
theorem co_yX6_ahead : Cond.code yX6_ahead cX6_ahead 6 (some .int) ∈ wsL_law := wsLr_26 _ (List.mem_of_getElem? (i := 6) rfl)
theorem ml_X6_146 : Cond.methodLink RX6 146 yX6_made ∈ wsL_law := wsLr_26 _ (List.mem_of_getElem? (i := 7) rfl)
theorem st_yX6_made : Cond.static yX6_made ∈ wsL_law := wsLr_26 _ (List.mem_of_getElem? (i := 8) rfl)
theorem co_yX6_made : Cond.code yX6_made cX6_made 4 (some .int) ∈ wsL_law := wsLr_26 _ (List.mem_of_getElem? (i := 9) rfl)
theorem ml_L_78 : Cond.methodLink RL 78 yX5_worked ∈ wsL_law := wsLr_26 _ (List.mem_of_getElem? (i := 10) rfl)
theorem im_yX5_worked : Cond.instanceMethod yX5_worked ∈ wsL_law := wsLr_26 _ (List.mem_of_getElem? (i := 11) rfl)
theorem se_RX5_yX5_worked : Cond.selects RX5 yX5_worked yX5_worked ∈ wsL_law := wsLr_26 _ (List.mem_of_getElem? (i := 12) rfl)
theorem co_yX5_worked : Cond.code yX5_worked cX5_worked 4 (some .int) ∈ wsL_law := wsLr_26 _ (List.mem_of_getElem? (i := 13) rfl)
theorem ml_X5_168 : Cond.methodLink RX5 168 yX2_hasBeat ∈ wsL_law := wsLr_26 _ (List.mem_of_getElem? (i := 14) rfl)
theorem im_yX2_hasBeat : Cond.instanceMethod yX2_hasBeat ∈ wsL_law := wsLr_26 _ (List.mem_of_getElem? (i := 15) rfl)
theorem se_RX2_yX2_hasBeat : Cond.selects RX2 yX2_hasBeat yX2_hasBeat ∈ wsL_law := wsLr_26 _ (List.mem_of_getElem? (i := 16) rfl)
theorem co_yX2_hasBeat : Cond.code yX2_hasBeat cX2_hasBeat 2 (some .boolean) ∈ wsL_law := wsLr_26 _ (List.mem_of_getElem? (i := 17) rfl)
theorem ml_X5_171 : Cond.methodLink RX5 171 yX2_pointAt ∈ wsL_law := wsLr_26 _ (List.mem_of_getElem? (i := 18) rfl)
theorem im_yX2_pointAt : Cond.instanceMethod yX2_pointAt ∈ wsL_law := wsLr_26 _ (List.mem_of_getElem? (i := 19) rfl)
theorem se_RX2_yX2_pointAt : Cond.selects RX2 yX2_pointAt yX2_pointAt ∈ wsL_law := wsLr_26 _ (List.mem_of_getElem? (i := 20) rfl)
theorem co_yX2_pointAt : Cond.code yX2_pointAt cX2_pointAt 7 (some .int) ∈ wsL_law := wsLr_26 _ (List.mem_of_getElem? (i := 21) rfl)
theorem fl_X2_69 : Cond.fieldLink RX2 69 "PulseBoard$Places" "cell" "[I" ∈ wsL_law := wsLr_26 _ (List.mem_of_getElem? (i := 22) rfl)
theorem fl_X2_72 : Cond.fieldLink RX2 72 "PulseBoard$Places" "second" "[I" ∈ wsL_law := wsLr_26 _ (List.mem_of_getElem? (i := 23) rfl)
theorem ml_L_81 : Cond.methodLink RL 81 yX6_worked ∈ wsL_law := wsLr_27 _ (List.mem_of_getElem? (i := 0) rfl)
theorem im_yX6_worked : Cond.instanceMethod yX6_worked ∈ wsL_law := wsLr_27 _ (List.mem_of_getElem? (i := 1) rfl)
theorem se_RX6_yX6_worked : Cond.selects RX6 yX6_worked yX6_worked ∈ wsL_law := wsLr_27 _ (List.mem_of_getElem? (i := 2) rfl)
theorem co_yX6_worked : Cond.code yX6_worked cX6_worked 5 (some .int) ∈ wsL_law := wsLr_27 _ (List.mem_of_getElem? (i := 3) rfl)
theorem ml_L_82 : Cond.methodLink RL 82 yX5_held ∈ wsL_law := wsLr_27 _ (List.mem_of_getElem? (i := 4) rfl)
theorem im_yX5_held : Cond.instanceMethod yX5_held ∈ wsL_law := wsLr_27 _ (List.mem_of_getElem? (i := 5) rfl)
theorem se_RX5_yX5_held : Cond.selects RX5 yX5_held yX5_held ∈ wsL_law := wsLr_27 _ (List.mem_of_getElem? (i := 6) rfl)
theorem co_yX5_held : Cond.code yX5_held cX5_held 2 (some .int) ∈ wsL_law := wsLr_27 _ (List.mem_of_getElem? (i := 7) rfl)
theorem fl_X5_175 : Cond.fieldLink RX5 175 "PulseBoard$Run" "held" "[I" ∈ wsL_law := wsLr_27 _ (List.mem_of_getElem? (i := 8) rfl)
theorem ml_L_85 : Cond.methodLink RL 85 yX6_held ∈ wsL_law := wsLr_27 _ (List.mem_of_getElem? (i := 9) rfl)
theorem im_yX6_held : Cond.instanceMethod yX6_held ∈ wsL_law := wsLr_27 _ (List.mem_of_getElem? (i := 10) rfl)
theorem se_RX6_yX6_held : Cond.selects RX6 yX6_held yX6_held ∈ wsL_law := wsLr_27 _ (List.mem_of_getElem? (i := 11) rfl)
theorem co_yX6_held : Cond.code yX6_held cX6_held 6 (some .int) ∈ wsL_law := wsLr_27 _ (List.mem_of_getElem? (i := 12) rfl)
theorem ml_X6_154 : Cond.methodLink RX6 154 yX6_behind ∈ wsL_law := wsLr_27 _ (List.mem_of_getElem? (i := 13) rfl)
theorem im_yX6_behind : Cond.instanceMethod yX6_behind ∈ wsL_law := wsLr_27 _ (List.mem_of_getElem? (i := 14) rfl)
theorem se_RX6_yX6_behind : Cond.selects RX6 yX6_behind yX6_behind ∈ wsL_law := wsLr_27 _ (List.mem_of_getElem? (i := 15) rfl)
theorem co_yX6_behind : Cond.code yX6_behind cX6_behind 6 (some .int) ∈ wsL_law := wsLr_27 _ (List.mem_of_getElem? (i := 16) rfl)
theorem ml_L_86 : Cond.methodLink RL 86 yX5_value ∈ wsL_law := wsLr_27 _ (List.mem_of_getElem? (i := 17) rfl)
theorem im_yX5_value : Cond.instanceMethod yX5_value ∈ wsL_law := wsLr_27 _ (List.mem_of_getElem? (i := 18) rfl)
theorem se_RX5_yX5_value : Cond.selects RX5 yX5_value yX5_value ∈ wsL_law := wsLr_27 _ (List.mem_of_getElem? (i := 19) rfl)
theorem co_yX5_value : Cond.code yX5_value cX5_value 6 (some .int) ∈ wsL_law := wsLr_27 _ (List.mem_of_getElem? (i := 20) rfl)
theorem fl_X5_178 : Cond.fieldLink RX5 178 "PulseBoard$Run" "values" "[I" ∈ wsL_law := wsLr_27 _ (List.mem_of_getElem? (i := 21) rfl)
theorem ml_L_89 : Cond.methodLink RL 89 yX6_value ∈ wsL_law := wsLr_27 _ (List.mem_of_getElem? (i := 22) rfl)
theorem im_yX6_value : Cond.instanceMethod yX6_value ∈ wsL_law := wsLr_27 _ (List.mem_of_getElem? (i := 23) rfl)
theorem se_RX6_yX6_value : Cond.selects RX6 yX6_value yX6_value ∈ wsL_law := wsLr_28 _ (List.mem_of_getElem? (i := 0) rfl)
theorem co_yX6_value : Cond.code yX6_value cX6_value 5 (some .int) ∈ wsL_law := wsLr_28 _ (List.mem_of_getElem? (i := 1) rfl)
theorem ml_L_90 : Cond.methodLink RL 90 yX5_plain ∈ wsL_law := wsLr_28 _ (List.mem_of_getElem? (i := 2) rfl)
theorem im_yX5_plain : Cond.instanceMethod yX5_plain ∈ wsL_law := wsLr_28 _ (List.mem_of_getElem? (i := 3) rfl)
theorem se_RX5_yX5_plain : Cond.selects RX5 yX5_plain yX5_plain ∈ wsL_law := wsLr_28 _ (List.mem_of_getElem? (i := 4) rfl)
theorem co_yX5_plain : Cond.code yX5_plain cX5_plain 6 (some .int) ∈ wsL_law := wsLr_28 _ (List.mem_of_getElem? (i := 5) rfl)
theorem ml_X5_181 : Cond.methodLink RX5 181 yX4_plainValue ∈ wsL_law := wsLr_28 _ (List.mem_of_getElem? (i := 6) rfl)
theorem im_yX4_plainValue : Cond.instanceMethod yX4_plainValue ∈ wsL_law := wsLr_28 _ (List.mem_of_getElem? (i := 7) rfl)
theorem se_RX4_yX4_plainValue : Cond.selects RX4 yX4_plainValue yX4_plainValue ∈ wsL_law := wsLr_28 _ (List.mem_of_getElem? (i := 8) rfl)
theorem co_yX4_plainValue : Cond.code yX4_plainValue cX4_plainValue 4 (some .int) ∈ wsL_law := wsLr_28 _ (List.mem_of_getElem? (i := 9) rfl)
theorem ml_X4_85 : Cond.methodLink RX4 85 yX4_workPoint ∈ wsL_law := wsLr_28 _ (List.mem_of_getElem? (i := 10) rfl)
theorem ml_L_93 : Cond.methodLink RL 93 yX6_plain ∈ wsL_law := wsLr_28 _ (List.mem_of_getElem? (i := 11) rfl)
theorem im_yX6_plain : Cond.instanceMethod yX6_plain ∈ wsL_law := wsLr_28 _ (List.mem_of_getElem? (i := 12) rfl)
theorem se_RX6_yX6_plain : Cond.selects RX6 yX6_plain yX6_plain ∈ wsL_law := wsLr_28 _ (List.mem_of_getElem? (i := 13) rfl)
theorem co_yX6_plain : Cond.code yX6_plain cX6_plain 5 (some .int) ∈ wsL_law := wsLr_28 _ (List.mem_of_getElem? (i := 14) rfl)
theorem ml_X6_157 : Cond.methodLink RX6 157 yX6_plainly ∈ wsL_law := wsLr_28 _ (List.mem_of_getElem? (i := 15) rfl)
theorem im_yX6_plainly : Cond.instanceMethod yX6_plainly ∈ wsL_law := wsLr_28 _ (List.mem_of_getElem? (i := 16) rfl)
theorem se_RX6_yX6_plainly : Cond.selects RX6 yX6_plainly yX6_plainly ∈ wsL_law := wsLr_28 _ (List.mem_of_getElem? (i := 17) rfl)
theorem co_yX6_plainly : Cond.code yX6_plainly cX6_plainly 2 none ∈ wsL_law := wsLr_28 _ (List.mem_of_getElem? (i := 18) rfl)
theorem ml_L_94 : Cond.methodLink RL 94 yX5_result ∈ wsL_law := wsLr_28 _ (List.mem_of_getElem? (i := 19) rfl)
theorem im_yX5_result : Cond.instanceMethod yX5_result ∈ wsL_law := wsLr_28 _ (List.mem_of_getElem? (i := 20) rfl)
theorem se_RX5_yX5_result : Cond.selects RX5 yX5_result yX5_result ∈ wsL_law := wsLr_28 _ (List.mem_of_getElem? (i := 21) rfl)
theorem co_yX5_result : Cond.code yX5_result cX5_result 5 (some .int) ∈ wsL_law := wsLr_28 _ (List.mem_of_getElem? (i := 22) rfl)
theorem ml_X5_185 : Cond.methodLink RX5 185 yX4_resultCode ∈ wsL_law := wsLr_28 _ (List.mem_of_getElem? (i := 23) rfl)
theorem im_yX4_resultCode : Cond.instanceMethod yX4_resultCode ∈ wsL_law := wsLr_29 _ (List.mem_of_getElem? (i := 0) rfl)
theorem se_RX4_yX4_resultCode : Cond.selects RX4 yX4_resultCode yX4_resultCode ∈ wsL_law := wsLr_29 _ (List.mem_of_getElem? (i := 1) rfl)
theorem co_yX4_resultCode : Cond.code yX4_resultCode cX4_resultCode 5 (some .int) ∈ wsL_law := wsLr_29 _ (List.mem_of_getElem? (i := 2) rfl)
theorem ml_L_97 : Cond.methodLink RL 97 yX6_result ∈ wsL_law := wsLr_29 _ (List.mem_of_getElem? (i := 3) rfl)
theorem im_yX6_result : Cond.instanceMethod yX6_result ∈ wsL_law := wsLr_29 _ (List.mem_of_getElem? (i := 4) rfl)
theorem se_RX6_yX6_result : Cond.selects RX6 yX6_result yX6_result ∈ wsL_law := wsLr_29 _ (List.mem_of_getElem? (i := 5) rfl)
theorem co_yX6_result : Cond.code yX6_result cX6_result 6 (some .int) ∈ wsL_law := wsLr_29 _ (List.mem_of_getElem? (i := 6) rfl)
theorem ml_L_98 : Cond.methodLink RL 98 yX5_about ∈ wsL_law := wsLr_29 _ (List.mem_of_getElem? (i := 7) rfl)
theorem im_yX5_about : Cond.instanceMethod yX5_about ∈ wsL_law := wsLr_29 _ (List.mem_of_getElem? (i := 8) rfl)
theorem se_RX5_yX5_about : Cond.selects RX5 yX5_about yX5_about ∈ wsL_law := wsLr_29 _ (List.mem_of_getElem? (i := 9) rfl)
theorem co_yX5_about : Cond.code yX5_about cX5_about 2 (some .int) ∈ wsL_law := wsLr_29 _ (List.mem_of_getElem? (i := 10) rfl)
theorem fl_X5_188 : Cond.fieldLink RX5 188 "PulseBoard$Sum" "points" "I" ∈ wsL_law := wsLr_29 _ (List.mem_of_getElem? (i := 11) rfl)
theorem fl_X5_191 : Cond.fieldLink RX5 191 "PulseBoard$Sum" "size" "[I" ∈ wsL_law := wsLr_29 _ (List.mem_of_getElem? (i := 12) rfl)
theorem ml_L_101 : Cond.methodLink RL 101 yX6_about ∈ wsL_law := wsLr_29 _ (List.mem_of_getElem? (i := 13) rfl)
theorem im_yX6_about : Cond.instanceMethod yX6_about ∈ wsL_law := wsLr_29 _ (List.mem_of_getElem? (i := 14) rfl)
theorem se_RX6_yX6_about : Cond.selects RX6 yX6_about yX6_about ∈ wsL_law := wsLr_29 _ (List.mem_of_getElem? (i := 15) rfl)
theorem co_yX6_about : Cond.code yX6_about cX6_about 2 (some .int) ∈ wsL_law := wsLr_29 _ (List.mem_of_getElem? (i := 16) rfl)
end
section
theorem dJ13_bitCount_95d88_0 : decode cJ13_bitCount_95d88 0 = .ok (.lload_n 0, 1) := by decide +kernel
theorem dJ13_bitCount_95d88_1 : decode cJ13_bitCount_95d88 1 = .ok (.lload_n 0, 1) := by decide +kernel
theorem dJ13_bitCount_95d88_2 : decode cJ13_bitCount_95d88 2 = .ok (.iconst 1, 1) := by decide +kernel
theorem dJ13_bitCount_95d88_3 : decode cJ13_bitCount_95d88 3 = .ok (.lushr, 1) := by decide +kernel
theorem dJ13_bitCount_95d88_4 : decode cJ13_bitCount_95d88 4 = .ok (.ldc2_w 314, 3) := by decide +kernel
theorem dJ13_bitCount_95d88_7 : decode cJ13_bitCount_95d88 7 = .ok (.land, 1) := by decide +kernel
theorem dJ13_bitCount_95d88_8 : decode cJ13_bitCount_95d88 8 = .ok (.lsub, 1) := by decide +kernel
theorem dJ13_bitCount_95d88_9 : decode cJ13_bitCount_95d88 9 = .ok (.lstore_n 0, 1) := by decide +kernel
theorem dJ13_bitCount_95d88_10 : decode cJ13_bitCount_95d88 10 = .ok (.lload_n 0, 1) := by decide +kernel
theorem dJ13_bitCount_95d88_11 : decode cJ13_bitCount_95d88 11 = .ok (.ldc2_w 316, 3) := by decide +kernel
theorem dJ13_bitCount_95d88_14 : decode cJ13_bitCount_95d88 14 = .ok (.land, 1) := by decide +kernel
theorem dJ13_bitCount_95d88_15 : decode cJ13_bitCount_95d88 15 = .ok (.lload_n 0, 1) := by decide +kernel
theorem dJ13_bitCount_95d88_16 : decode cJ13_bitCount_95d88 16 = .ok (.iconst 2, 1) := by decide +kernel
theorem dJ13_bitCount_95d88_17 : decode cJ13_bitCount_95d88 17 = .ok (.lushr, 1) := by decide +kernel
theorem dJ13_bitCount_95d88_18 : decode cJ13_bitCount_95d88 18 = .ok (.ldc2_w 316, 3) := by decide +kernel
theorem dJ13_bitCount_95d88_21 : decode cJ13_bitCount_95d88 21 = .ok (.land, 1) := by decide +kernel
theorem dJ13_bitCount_95d88_22 : decode cJ13_bitCount_95d88 22 = .ok (.ladd, 1) := by decide +kernel
theorem dJ13_bitCount_95d88_23 : decode cJ13_bitCount_95d88 23 = .ok (.lstore_n 0, 1) := by decide +kernel
theorem dJ13_bitCount_95d88_24 : decode cJ13_bitCount_95d88 24 = .ok (.lload_n 0, 1) := by decide +kernel
theorem dJ13_bitCount_95d88_25 : decode cJ13_bitCount_95d88 25 = .ok (.lload_n 0, 1) := by decide +kernel
theorem dJ13_bitCount_95d88_26 : decode cJ13_bitCount_95d88 26 = .ok (.iconst 4, 1) := by decide +kernel
theorem dJ13_bitCount_95d88_27 : decode cJ13_bitCount_95d88 27 = .ok (.lushr, 1) := by decide +kernel
theorem dJ13_bitCount_95d88_28 : decode cJ13_bitCount_95d88 28 = .ok (.ladd, 1) := by decide +kernel
theorem dJ13_bitCount_95d88_29 : decode cJ13_bitCount_95d88 29 = .ok (.ldc2_w 318, 3) := by decide +kernel
theorem dJ13_bitCount_95d88_32 : decode cJ13_bitCount_95d88 32 = .ok (.land, 1) := by decide +kernel
theorem dJ13_bitCount_95d88_33 : decode cJ13_bitCount_95d88 33 = .ok (.lstore_n 0, 1) := by decide +kernel
theorem dJ13_bitCount_95d88_34 : decode cJ13_bitCount_95d88 34 = .ok (.lload_n 0, 1) := by decide +kernel
theorem dJ13_bitCount_95d88_35 : decode cJ13_bitCount_95d88 35 = .ok (.lload_n 0, 1) := by decide +kernel
theorem dJ13_bitCount_95d88_36 : decode cJ13_bitCount_95d88 36 = .ok (.bipush 8, 2) := by decide +kernel
theorem dJ13_bitCount_95d88_38 : decode cJ13_bitCount_95d88 38 = .ok (.lushr, 1) := by decide +kernel
theorem dJ13_bitCount_95d88_39 : decode cJ13_bitCount_95d88 39 = .ok (.ladd, 1) := by decide +kernel
theorem dJ13_bitCount_95d88_40 : decode cJ13_bitCount_95d88 40 = .ok (.lstore_n 0, 1) := by decide +kernel
theorem dJ13_bitCount_95d88_41 : decode cJ13_bitCount_95d88 41 = .ok (.lload_n 0, 1) := by decide +kernel
theorem dJ13_bitCount_95d88_42 : decode cJ13_bitCount_95d88 42 = .ok (.lload_n 0, 1) := by decide +kernel
theorem dJ13_bitCount_95d88_43 : decode cJ13_bitCount_95d88 43 = .ok (.bipush 16, 2) := by decide +kernel
theorem dJ13_bitCount_95d88_45 : decode cJ13_bitCount_95d88 45 = .ok (.lushr, 1) := by decide +kernel
theorem dJ13_bitCount_95d88_46 : decode cJ13_bitCount_95d88 46 = .ok (.ladd, 1) := by decide +kernel
theorem dJ13_bitCount_95d88_47 : decode cJ13_bitCount_95d88 47 = .ok (.lstore_n 0, 1) := by decide +kernel
theorem dJ13_bitCount_95d88_48 : decode cJ13_bitCount_95d88 48 = .ok (.lload_n 0, 1) := by decide +kernel
theorem dJ13_bitCount_95d88_49 : decode cJ13_bitCount_95d88 49 = .ok (.lload_n 0, 1) := by decide +kernel
theorem dJ13_bitCount_95d88_50 : decode cJ13_bitCount_95d88 50 = .ok (.bipush 32, 2) := by decide +kernel
theorem dJ13_bitCount_95d88_52 : decode cJ13_bitCount_95d88 52 = .ok (.lushr, 1) := by decide +kernel
theorem dJ13_bitCount_95d88_53 : decode cJ13_bitCount_95d88 53 = .ok (.ladd, 1) := by decide +kernel
theorem dJ13_bitCount_95d88_54 : decode cJ13_bitCount_95d88 54 = .ok (.lstore_n 0, 1) := by decide +kernel
theorem dJ13_bitCount_95d88_55 : decode cJ13_bitCount_95d88 55 = .ok (.lload_n 0, 1) := by decide +kernel
theorem dJ13_bitCount_95d88_56 : decode cJ13_bitCount_95d88 56 = .ok (.l2i, 1) := by decide +kernel
theorem dJ13_bitCount_95d88_57 : decode cJ13_bitCount_95d88 57 = .ok (.bipush 127, 2) := by decide +kernel
theorem dJ13_bitCount_95d88_59 : decode cJ13_bitCount_95d88 59 = .ok (.iand, 1) := by decide +kernel
theorem dJ13_bitCount_95d88_60 : decode cJ13_bitCount_95d88 60 = .ok (.ireturn, 1) := by decide +kernel
end
section
theorem dJ7_fill_53178_0 : decode cJ7_fill_53178 0 = .ok (.iconst 0, 1) := by decide +kernel
theorem dJ7_fill_53178_1 : decode cJ7_fill_53178 1 = .ok (.istore_n 2, 1) := by decide +kernel
theorem dJ7_fill_53178_2 : decode cJ7_fill_53178 2 = .ok (.aload_n 0, 1) := by decide +kernel
theorem dJ7_fill_53178_3 : decode cJ7_fill_53178 3 = .ok (.arraylength, 1) := by decide +kernel
theorem dJ7_fill_53178_4 : decode cJ7_fill_53178 4 = .ok (.istore_n 3, 1) := by decide +kernel
theorem dJ7_fill_53178_5 : decode cJ7_fill_53178 5 = .ok (.iload_n 2, 1) := by decide +kernel
theorem dJ7_fill_53178_6 : decode cJ7_fill_53178 6 = .ok (.iload_n 3, 1) := by decide +kernel
theorem dJ7_fill_53178_7 : decode cJ7_fill_53178 7 = .ok (.if_icmp .ge 13, 3) := by decide +kernel
theorem dJ7_fill_53178_10 : decode cJ7_fill_53178 10 = .ok (.aload_n 0, 1) := by decide +kernel
theorem dJ7_fill_53178_11 : decode cJ7_fill_53178 11 = .ok (.iload_n 2, 1) := by decide +kernel
theorem dJ7_fill_53178_12 : decode cJ7_fill_53178 12 = .ok (.iload_n 1, 1) := by decide +kernel
theorem dJ7_fill_53178_13 : decode cJ7_fill_53178 13 = .ok (.iastore, 1) := by decide +kernel
theorem dJ7_fill_53178_14 : decode cJ7_fill_53178 14 = .ok (.iinc 2 1, 3) := by decide +kernel
theorem dJ7_fill_53178_17 : decode cJ7_fill_53178 17 = .ok (.goto (-12), 3) := by decide +kernel
theorem dJ7_fill_53178_20 : decode cJ7_fill_53178 20 = .ok (.return_, 1) := by decide +kernel
end
section
theorem dJ9_abs_0f7a4_0 : decode cJ9_abs_0f7a4 0 = .ok (.iload_n 0, 1) := by decide +kernel
theorem dJ9_abs_0f7a4_1 : decode cJ9_abs_0f7a4 1 = .ok (.ifCond .ge 8, 3) := by decide +kernel
theorem dJ9_abs_0f7a4_4 : decode cJ9_abs_0f7a4 4 = .ok (.iload_n 0, 1) := by decide +kernel
theorem dJ9_abs_0f7a4_5 : decode cJ9_abs_0f7a4 5 = .ok (.ineg, 1) := by decide +kernel
theorem dJ9_abs_0f7a4_6 : decode cJ9_abs_0f7a4 6 = .ok (.goto 4, 3) := by decide +kernel
theorem dJ9_abs_0f7a4_9 : decode cJ9_abs_0f7a4 9 = .ok (.iload_n 0, 1) := by decide +kernel
theorem dJ9_abs_0f7a4_10 : decode cJ9_abs_0f7a4 10 = .ok (.ireturn, 1) := by decide +kernel
theorem dJ9_max_7cf53_0 : decode cJ9_max_7cf53 0 = .ok (.iload_n 0, 1) := by decide +kernel
theorem dJ9_max_7cf53_1 : decode cJ9_max_7cf53 1 = .ok (.iload_n 1, 1) := by decide +kernel
theorem dJ9_max_7cf53_2 : decode cJ9_max_7cf53 2 = .ok (.if_icmp .lt 7, 3) := by decide +kernel
theorem dJ9_max_7cf53_5 : decode cJ9_max_7cf53 5 = .ok (.iload_n 0, 1) := by decide +kernel
theorem dJ9_max_7cf53_6 : decode cJ9_max_7cf53 6 = .ok (.goto 4, 3) := by decide +kernel
theorem dJ9_max_7cf53_9 : decode cJ9_max_7cf53 9 = .ok (.iload_n 1, 1) := by decide +kernel
theorem dJ9_max_7cf53_10 : decode cJ9_max_7cf53 10 = .ok (.ireturn, 1) := by decide +kernel
theorem dJ9_min_7cf53_0 : decode cJ9_min_7cf53 0 = .ok (.iload_n 0, 1) := by decide +kernel
theorem dJ9_min_7cf53_1 : decode cJ9_min_7cf53 1 = .ok (.iload_n 1, 1) := by decide +kernel
theorem dJ9_min_7cf53_2 : decode cJ9_min_7cf53 2 = .ok (.if_icmp .gt 7, 3) := by decide +kernel
theorem dJ9_min_7cf53_5 : decode cJ9_min_7cf53 5 = .ok (.iload_n 0, 1) := by decide +kernel
theorem dJ9_min_7cf53_6 : decode cJ9_min_7cf53 6 = .ok (.goto 4, 3) := by decide +kernel
theorem dJ9_min_7cf53_9 : decode cJ9_min_7cf53 9 = .ok (.iload_n 1, 1) := by decide +kernel
theorem dJ9_min_7cf53_10 : decode cJ9_min_7cf53 10 = .ok (.ireturn, 1) := by decide +kernel
end
section
theorem dL_law_0 : decode cL_law 0 = .ok (.new 7, 3) := by decide +kernel
theorem dL_law_3 : decode cL_law 3 = .ok (.dup, 1) := by decide +kernel
theorem dL_law_4 : decode cL_law 4 = .ok (.invokespecial 9, 3) := by decide +kernel
theorem dL_law_7 : decode cL_law 7 = .ok (.astore_n 1, 1) := by decide +kernel
theorem dL_law_8 : decode cL_law 8 = .ok (.new 10, 3) := by decide +kernel
theorem dL_law_11 : decode cL_law 11 = .ok (.dup, 1) := by decide +kernel
theorem dL_law_12 : decode cL_law 12 = .ok (.invokespecial 12, 3) := by decide +kernel
theorem dL_law_15 : decode cL_law 15 = .ok (.astore_n 2, 1) := by decide +kernel
theorem dL_law_16 : decode cL_law 16 = .ok (.iconst 0, 1) := by decide +kernel
theorem dL_law_17 : decode cL_law 17 = .ok (.istore_n 3, 1) := by decide +kernel
theorem dL_law_18 : decode cL_law 18 = .ok (.iload_n 3, 1) := by decide +kernel
theorem dL_law_19 : decode cL_law 19 = .ok (.aload_n 0, 1) := by decide +kernel
theorem dL_law_20 : decode cL_law 20 = .ok (.arraylength, 1) := by decide +kernel
theorem dL_law_21 : decode cL_law 21 = .ok (.bipush 6, 2) := by decide +kernel
theorem dL_law_23 : decode cL_law 23 = .ok (.isub, 1) := by decide +kernel
theorem dL_law_24 : decode cL_law 24 = .ok (.if_icmp .gt 848, 3) := by decide +kernel
theorem dL_law_27 : decode cL_law 27 = .ok (.aload_n 0, 1) := by decide +kernel
theorem dL_law_28 : decode cL_law 28 = .ok (.iload_n 3, 1) := by decide +kernel
theorem dL_law_29 : decode cL_law 29 = .ok (.iaload, 1) := by decide +kernel
theorem dL_law_30 : decode cL_law 30 = .ok (.bipush 31, 2) := by decide +kernel
theorem dL_law_32 : decode cL_law 32 = .ok (.iand, 1) := by decide +kernel
theorem dL_law_33 : decode cL_law 33 = .ok (.tableswitch 833 0 19 #[95, 138, 181, 234, 297, 308, 361, 384, 407, 430, 483, 516, 549, 582, 595, 638, 661, 714, 767, 810], 95) := by decide +kernel
theorem dL_law_128 : decode cL_law 128 = .ok (.aload_n 1, 1) := by decide +kernel
theorem dL_law_129 : decode cL_law 129 = .ok (.aload_n 0, 1) := by decide +kernel
theorem dL_law_130 : decode cL_law 130 = .ok (.iload_n 3, 1) := by decide +kernel
theorem dL_law_131 : decode cL_law 131 = .ok (.iconst 1, 1) := by decide +kernel
theorem dL_law_132 : decode cL_law 132 = .ok (.iadd, 1) := by decide +kernel
theorem dL_law_133 : decode cL_law 133 = .ok (.iaload, 1) := by decide +kernel
theorem dL_law_134 : decode cL_law 134 = .ok (.aload_n 0, 1) := by decide +kernel
theorem dL_law_135 : decode cL_law 135 = .ok (.iload_n 3, 1) := by decide +kernel
theorem dL_law_136 : decode cL_law 136 = .ok (.iconst 2, 1) := by decide +kernel
theorem dL_law_137 : decode cL_law 137 = .ok (.iadd, 1) := by decide +kernel
theorem dL_law_138 : decode cL_law 138 = .ok (.iaload, 1) := by decide +kernel
theorem dL_law_139 : decode cL_law 139 = .ok (.aload_n 0, 1) := by decide +kernel
theorem dL_law_140 : decode cL_law 140 = .ok (.iload_n 3, 1) := by decide +kernel
theorem dL_law_141 : decode cL_law 141 = .ok (.iconst 3, 1) := by decide +kernel
theorem dL_law_142 : decode cL_law 142 = .ok (.iadd, 1) := by decide +kernel
theorem dL_law_143 : decode cL_law 143 = .ok (.iaload, 1) := by decide +kernel
theorem dL_law_144 : decode cL_law 144 = .ok (.invokevirtual 13, 3) := by decide +kernel
theorem dL_law_147 : decode cL_law 147 = .ok (.aload_n 2, 1) := by decide +kernel
theorem dL_law_148 : decode cL_law 148 = .ok (.aload_n 0, 1) := by decide +kernel
theorem dL_law_149 : decode cL_law 149 = .ok (.iload_n 3, 1) := by decide +kernel
theorem dL_law_150 : decode cL_law 150 = .ok (.iconst 1, 1) := by decide +kernel
theorem dL_law_151 : decode cL_law 151 = .ok (.iadd, 1) := by decide +kernel
theorem dL_law_152 : decode cL_law 152 = .ok (.iaload, 1) := by decide +kernel
theorem dL_law_153 : decode cL_law 153 = .ok (.aload_n 0, 1) := by decide +kernel
theorem dL_law_154 : decode cL_law 154 = .ok (.iload_n 3, 1) := by decide +kernel
theorem dL_law_155 : decode cL_law 155 = .ok (.iconst 2, 1) := by decide +kernel
theorem dL_law_156 : decode cL_law 156 = .ok (.iadd, 1) := by decide +kernel
theorem dL_law_157 : decode cL_law 157 = .ok (.iaload, 1) := by decide +kernel
theorem dL_law_158 : decode cL_law 158 = .ok (.aload_n 0, 1) := by decide +kernel
theorem dL_law_159 : decode cL_law 159 = .ok (.iload_n 3, 1) := by decide +kernel
theorem dL_law_160 : decode cL_law 160 = .ok (.iconst 3, 1) := by decide +kernel
theorem dL_law_161 : decode cL_law 161 = .ok (.iadd, 1) := by decide +kernel
theorem dL_law_162 : decode cL_law 162 = .ok (.iaload, 1) := by decide +kernel
theorem dL_law_163 : decode cL_law 163 = .ok (.invokevirtual 17, 3) := by decide +kernel
theorem dL_law_166 : decode cL_law 166 = .ok (.if_icmp .eq 700, 3) := by decide +kernel
theorem dL_law_169 : decode cL_law 169 = .ok (.iconst 0, 1) := by decide +kernel
theorem dL_law_170 : decode cL_law 170 = .ok (.ireturn, 1) := by decide +kernel
theorem dL_law_171 : decode cL_law 171 = .ok (.aload_n 1, 1) := by decide +kernel
theorem dL_law_172 : decode cL_law 172 = .ok (.aload_n 0, 1) := by decide +kernel
theorem dL_law_173 : decode cL_law 173 = .ok (.iload_n 3, 1) := by decide +kernel
theorem dL_law_174 : decode cL_law 174 = .ok (.iconst 1, 1) := by decide +kernel
theorem dL_law_175 : decode cL_law 175 = .ok (.iadd, 1) := by decide +kernel
theorem dL_law_176 : decode cL_law 176 = .ok (.iaload, 1) := by decide +kernel
theorem dL_law_177 : decode cL_law 177 = .ok (.aload_n 0, 1) := by decide +kernel
theorem dL_law_178 : decode cL_law 178 = .ok (.iload_n 3, 1) := by decide +kernel
theorem dL_law_179 : decode cL_law 179 = .ok (.iconst 2, 1) := by decide +kernel
theorem dL_law_180 : decode cL_law 180 = .ok (.iadd, 1) := by decide +kernel
theorem dL_law_181 : decode cL_law 181 = .ok (.iaload, 1) := by decide +kernel
theorem dL_law_182 : decode cL_law 182 = .ok (.aload_n 0, 1) := by decide +kernel
theorem dL_law_183 : decode cL_law 183 = .ok (.iload_n 3, 1) := by decide +kernel
theorem dL_law_184 : decode cL_law 184 = .ok (.iconst 3, 1) := by decide +kernel
theorem dL_law_185 : decode cL_law 185 = .ok (.iadd, 1) := by decide +kernel
theorem dL_law_186 : decode cL_law 186 = .ok (.iaload, 1) := by decide +kernel
theorem dL_law_187 : decode cL_law 187 = .ok (.invokevirtual 18, 3) := by decide +kernel
theorem dL_law_190 : decode cL_law 190 = .ok (.aload_n 2, 1) := by decide +kernel
theorem dL_law_191 : decode cL_law 191 = .ok (.aload_n 0, 1) := by decide +kernel
theorem dL_law_192 : decode cL_law 192 = .ok (.iload_n 3, 1) := by decide +kernel
theorem dL_law_193 : decode cL_law 193 = .ok (.iconst 1, 1) := by decide +kernel
theorem dL_law_194 : decode cL_law 194 = .ok (.iadd, 1) := by decide +kernel
theorem dL_law_195 : decode cL_law 195 = .ok (.iaload, 1) := by decide +kernel
theorem dL_law_196 : decode cL_law 196 = .ok (.aload_n 0, 1) := by decide +kernel
theorem dL_law_197 : decode cL_law 197 = .ok (.iload_n 3, 1) := by decide +kernel
theorem dL_law_198 : decode cL_law 198 = .ok (.iconst 2, 1) := by decide +kernel
theorem dL_law_199 : decode cL_law 199 = .ok (.iadd, 1) := by decide +kernel
theorem dL_law_200 : decode cL_law 200 = .ok (.iaload, 1) := by decide +kernel
theorem dL_law_201 : decode cL_law 201 = .ok (.aload_n 0, 1) := by decide +kernel
theorem dL_law_202 : decode cL_law 202 = .ok (.iload_n 3, 1) := by decide +kernel
theorem dL_law_203 : decode cL_law 203 = .ok (.iconst 3, 1) := by decide +kernel
theorem dL_law_204 : decode cL_law 204 = .ok (.iadd, 1) := by decide +kernel
theorem dL_law_205 : decode cL_law 205 = .ok (.iaload, 1) := by decide +kernel
theorem dL_law_206 : decode cL_law 206 = .ok (.invokevirtual 22, 3) := by decide +kernel
theorem dL_law_209 : decode cL_law 209 = .ok (.if_icmp .eq 657, 3) := by decide +kernel
theorem dL_law_212 : decode cL_law 212 = .ok (.iconst 0, 1) := by decide +kernel
theorem dL_law_213 : decode cL_law 213 = .ok (.ireturn, 1) := by decide +kernel
theorem dL_law_214 : decode cL_law 214 = .ok (.aload_n 1, 1) := by decide +kernel
theorem dL_law_215 : decode cL_law 215 = .ok (.aload_n 0, 1) := by decide +kernel
theorem dL_law_216 : decode cL_law 216 = .ok (.iload_n 3, 1) := by decide +kernel
theorem dL_law_217 : decode cL_law 217 = .ok (.iconst 1, 1) := by decide +kernel
theorem dL_law_218 : decode cL_law 218 = .ok (.iadd, 1) := by decide +kernel
theorem dL_law_219 : decode cL_law 219 = .ok (.iaload, 1) := by decide +kernel
theorem dL_law_220 : decode cL_law 220 = .ok (.aload_n 0, 1) := by decide +kernel
theorem dL_law_221 : decode cL_law 221 = .ok (.iload_n 3, 1) := by decide +kernel
theorem dL_law_222 : decode cL_law 222 = .ok (.iconst 2, 1) := by decide +kernel
theorem dL_law_223 : decode cL_law 223 = .ok (.iadd, 1) := by decide +kernel
theorem dL_law_224 : decode cL_law 224 = .ok (.iaload, 1) := by decide +kernel
theorem dL_law_225 : decode cL_law 225 = .ok (.aload_n 0, 1) := by decide +kernel
theorem dL_law_226 : decode cL_law 226 = .ok (.iload_n 3, 1) := by decide +kernel
theorem dL_law_227 : decode cL_law 227 = .ok (.iconst 3, 1) := by decide +kernel
theorem dL_law_228 : decode cL_law 228 = .ok (.iadd, 1) := by decide +kernel
theorem dL_law_229 : decode cL_law 229 = .ok (.iaload, 1) := by decide +kernel
theorem dL_law_230 : decode cL_law 230 = .ok (.aload_n 0, 1) := by decide +kernel
theorem dL_law_231 : decode cL_law 231 = .ok (.iload_n 3, 1) := by decide +kernel
theorem dL_law_232 : decode cL_law 232 = .ok (.iconst 4, 1) := by decide +kernel
theorem dL_law_233 : decode cL_law 233 = .ok (.iadd, 1) := by decide +kernel
theorem dL_law_234 : decode cL_law 234 = .ok (.iaload, 1) := by decide +kernel
theorem dL_law_235 : decode cL_law 235 = .ok (.invokevirtual 23, 3) := by decide +kernel
theorem dL_law_238 : decode cL_law 238 = .ok (.aload_n 2, 1) := by decide +kernel
theorem dL_law_239 : decode cL_law 239 = .ok (.aload_n 0, 1) := by decide +kernel
theorem dL_law_240 : decode cL_law 240 = .ok (.iload_n 3, 1) := by decide +kernel
theorem dL_law_241 : decode cL_law 241 = .ok (.iconst 1, 1) := by decide +kernel
theorem dL_law_242 : decode cL_law 242 = .ok (.iadd, 1) := by decide +kernel
theorem dL_law_243 : decode cL_law 243 = .ok (.iaload, 1) := by decide +kernel
theorem dL_law_244 : decode cL_law 244 = .ok (.aload_n 0, 1) := by decide +kernel
theorem dL_law_245 : decode cL_law 245 = .ok (.iload_n 3, 1) := by decide +kernel
theorem dL_law_246 : decode cL_law 246 = .ok (.iconst 2, 1) := by decide +kernel
theorem dL_law_247 : decode cL_law 247 = .ok (.iadd, 1) := by decide +kernel
theorem dL_law_248 : decode cL_law 248 = .ok (.iaload, 1) := by decide +kernel
theorem dL_law_249 : decode cL_law 249 = .ok (.aload_n 0, 1) := by decide +kernel
theorem dL_law_250 : decode cL_law 250 = .ok (.iload_n 3, 1) := by decide +kernel
theorem dL_law_251 : decode cL_law 251 = .ok (.iconst 3, 1) := by decide +kernel
theorem dL_law_252 : decode cL_law 252 = .ok (.iadd, 1) := by decide +kernel
theorem dL_law_253 : decode cL_law 253 = .ok (.iaload, 1) := by decide +kernel
theorem dL_law_254 : decode cL_law 254 = .ok (.aload_n 0, 1) := by decide +kernel
theorem dL_law_255 : decode cL_law 255 = .ok (.iload_n 3, 1) := by decide +kernel
theorem dL_law_256 : decode cL_law 256 = .ok (.iconst 4, 1) := by decide +kernel
theorem dL_law_257 : decode cL_law 257 = .ok (.iadd, 1) := by decide +kernel
theorem dL_law_258 : decode cL_law 258 = .ok (.iaload, 1) := by decide +kernel
theorem dL_law_259 : decode cL_law 259 = .ok (.invokevirtual 27, 3) := by decide +kernel
theorem dL_law_262 : decode cL_law 262 = .ok (.if_icmp .eq 604, 3) := by decide +kernel
theorem dL_law_265 : decode cL_law 265 = .ok (.iconst 0, 1) := by decide +kernel
theorem dL_law_266 : decode cL_law 266 = .ok (.ireturn, 1) := by decide +kernel
theorem dL_law_267 : decode cL_law 267 = .ok (.aload_n 1, 1) := by decide +kernel
theorem dL_law_268 : decode cL_law 268 = .ok (.aload_n 0, 1) := by decide +kernel
theorem dL_law_269 : decode cL_law 269 = .ok (.iload_n 3, 1) := by decide +kernel
theorem dL_law_270 : decode cL_law 270 = .ok (.iconst 1, 1) := by decide +kernel
theorem dL_law_271 : decode cL_law 271 = .ok (.iadd, 1) := by decide +kernel
theorem dL_law_272 : decode cL_law 272 = .ok (.iaload, 1) := by decide +kernel
theorem dL_law_273 : decode cL_law 273 = .ok (.aload_n 0, 1) := by decide +kernel
theorem dL_law_274 : decode cL_law 274 = .ok (.iload_n 3, 1) := by decide +kernel
theorem dL_law_275 : decode cL_law 275 = .ok (.iconst 2, 1) := by decide +kernel
theorem dL_law_276 : decode cL_law 276 = .ok (.iadd, 1) := by decide +kernel
theorem dL_law_277 : decode cL_law 277 = .ok (.iaload, 1) := by decide +kernel
theorem dL_law_278 : decode cL_law 278 = .ok (.aload_n 0, 1) := by decide +kernel
theorem dL_law_279 : decode cL_law 279 = .ok (.iload_n 3, 1) := by decide +kernel
theorem dL_law_280 : decode cL_law 280 = .ok (.iconst 3, 1) := by decide +kernel
theorem dL_law_281 : decode cL_law 281 = .ok (.iadd, 1) := by decide +kernel
theorem dL_law_282 : decode cL_law 282 = .ok (.iaload, 1) := by decide +kernel
theorem dL_law_283 : decode cL_law 283 = .ok (.aload_n 0, 1) := by decide +kernel
theorem dL_law_284 : decode cL_law 284 = .ok (.iload_n 3, 1) := by decide +kernel
theorem dL_law_285 : decode cL_law 285 = .ok (.iconst 4, 1) := by decide +kernel
theorem dL_law_286 : decode cL_law 286 = .ok (.iadd, 1) := by decide +kernel
theorem dL_law_287 : decode cL_law 287 = .ok (.iaload, 1) := by decide +kernel
theorem dL_law_288 : decode cL_law 288 = .ok (.aload_n 0, 1) := by decide +kernel
theorem dL_law_289 : decode cL_law 289 = .ok (.iload_n 3, 1) := by decide +kernel
theorem dL_law_290 : decode cL_law 290 = .ok (.iconst 5, 1) := by decide +kernel
theorem dL_law_291 : decode cL_law 291 = .ok (.iadd, 1) := by decide +kernel
theorem dL_law_292 : decode cL_law 292 = .ok (.iaload, 1) := by decide +kernel
theorem dL_law_293 : decode cL_law 293 = .ok (.invokevirtual 28, 3) := by decide +kernel
theorem dL_law_296 : decode cL_law 296 = .ok (.aload_n 2, 1) := by decide +kernel
theorem dL_law_297 : decode cL_law 297 = .ok (.aload_n 0, 1) := by decide +kernel
theorem dL_law_298 : decode cL_law 298 = .ok (.iload_n 3, 1) := by decide +kernel
theorem dL_law_299 : decode cL_law 299 = .ok (.iconst 1, 1) := by decide +kernel
theorem dL_law_300 : decode cL_law 300 = .ok (.iadd, 1) := by decide +kernel
theorem dL_law_301 : decode cL_law 301 = .ok (.iaload, 1) := by decide +kernel
theorem dL_law_302 : decode cL_law 302 = .ok (.aload_n 0, 1) := by decide +kernel
theorem dL_law_303 : decode cL_law 303 = .ok (.iload_n 3, 1) := by decide +kernel
theorem dL_law_304 : decode cL_law 304 = .ok (.iconst 2, 1) := by decide +kernel
theorem dL_law_305 : decode cL_law 305 = .ok (.iadd, 1) := by decide +kernel
theorem dL_law_306 : decode cL_law 306 = .ok (.iaload, 1) := by decide +kernel
theorem dL_law_307 : decode cL_law 307 = .ok (.aload_n 0, 1) := by decide +kernel
theorem dL_law_308 : decode cL_law 308 = .ok (.iload_n 3, 1) := by decide +kernel
theorem dL_law_309 : decode cL_law 309 = .ok (.iconst 3, 1) := by decide +kernel
theorem dL_law_310 : decode cL_law 310 = .ok (.iadd, 1) := by decide +kernel
theorem dL_law_311 : decode cL_law 311 = .ok (.iaload, 1) := by decide +kernel
theorem dL_law_312 : decode cL_law 312 = .ok (.aload_n 0, 1) := by decide +kernel
theorem dL_law_313 : decode cL_law 313 = .ok (.iload_n 3, 1) := by decide +kernel
theorem dL_law_314 : decode cL_law 314 = .ok (.iconst 4, 1) := by decide +kernel
theorem dL_law_315 : decode cL_law 315 = .ok (.iadd, 1) := by decide +kernel
theorem dL_law_316 : decode cL_law 316 = .ok (.iaload, 1) := by decide +kernel
theorem dL_law_317 : decode cL_law 317 = .ok (.aload_n 0, 1) := by decide +kernel
theorem dL_law_318 : decode cL_law 318 = .ok (.iload_n 3, 1) := by decide +kernel
theorem dL_law_319 : decode cL_law 319 = .ok (.iconst 5, 1) := by decide +kernel
theorem dL_law_320 : decode cL_law 320 = .ok (.iadd, 1) := by decide +kernel
theorem dL_law_321 : decode cL_law 321 = .ok (.iaload, 1) := by decide +kernel
theorem dL_law_322 : decode cL_law 322 = .ok (.invokevirtual 32, 3) := by decide +kernel
theorem dL_law_325 : decode cL_law 325 = .ok (.if_icmp .eq 541, 3) := by decide +kernel
theorem dL_law_328 : decode cL_law 328 = .ok (.iconst 0, 1) := by decide +kernel
theorem dL_law_329 : decode cL_law 329 = .ok (.ireturn, 1) := by decide +kernel
theorem dL_law_330 : decode cL_law 330 = .ok (.aload_n 1, 1) := by decide +kernel
theorem dL_law_331 : decode cL_law 331 = .ok (.invokevirtual 33, 3) := by decide +kernel
theorem dL_law_334 : decode cL_law 334 = .ok (.aload_n 2, 1) := by decide +kernel
theorem dL_law_335 : decode cL_law 335 = .ok (.invokevirtual 36, 3) := by decide +kernel
theorem dL_law_338 : decode cL_law 338 = .ok (.goto 528, 3) := by decide +kernel
theorem dL_law_341 : decode cL_law 341 = .ok (.aload_n 1, 1) := by decide +kernel
theorem dL_law_342 : decode cL_law 342 = .ok (.aload_n 0, 1) := by decide +kernel
theorem dL_law_343 : decode cL_law 343 = .ok (.iload_n 3, 1) := by decide +kernel
theorem dL_law_344 : decode cL_law 344 = .ok (.iconst 1, 1) := by decide +kernel
theorem dL_law_345 : decode cL_law 345 = .ok (.iadd, 1) := by decide +kernel
theorem dL_law_346 : decode cL_law 346 = .ok (.iaload, 1) := by decide +kernel
theorem dL_law_347 : decode cL_law 347 = .ok (.aload_n 0, 1) := by decide +kernel
theorem dL_law_348 : decode cL_law 348 = .ok (.iload_n 3, 1) := by decide +kernel
theorem dL_law_349 : decode cL_law 349 = .ok (.iconst 2, 1) := by decide +kernel
theorem dL_law_350 : decode cL_law 350 = .ok (.iadd, 1) := by decide +kernel
theorem dL_law_351 : decode cL_law 351 = .ok (.iaload, 1) := by decide +kernel
theorem dL_law_352 : decode cL_law 352 = .ok (.aload_n 0, 1) := by decide +kernel
theorem dL_law_353 : decode cL_law 353 = .ok (.iload_n 3, 1) := by decide +kernel
theorem dL_law_354 : decode cL_law 354 = .ok (.iconst 3, 1) := by decide +kernel
theorem dL_law_355 : decode cL_law 355 = .ok (.iadd, 1) := by decide +kernel
theorem dL_law_356 : decode cL_law 356 = .ok (.iaload, 1) := by decide +kernel
theorem dL_law_357 : decode cL_law 357 = .ok (.aload_n 0, 1) := by decide +kernel
theorem dL_law_358 : decode cL_law 358 = .ok (.iload_n 3, 1) := by decide +kernel
theorem dL_law_359 : decode cL_law 359 = .ok (.iconst 4, 1) := by decide +kernel
theorem dL_law_360 : decode cL_law 360 = .ok (.iadd, 1) := by decide +kernel
theorem dL_law_361 : decode cL_law 361 = .ok (.iaload, 1) := by decide +kernel
theorem dL_law_362 : decode cL_law 362 = .ok (.invokevirtual 37, 3) := by decide +kernel
theorem dL_law_365 : decode cL_law 365 = .ok (.aload_n 2, 1) := by decide +kernel
theorem dL_law_366 : decode cL_law 366 = .ok (.aload_n 0, 1) := by decide +kernel
theorem dL_law_367 : decode cL_law 367 = .ok (.iload_n 3, 1) := by decide +kernel
theorem dL_law_368 : decode cL_law 368 = .ok (.iconst 1, 1) := by decide +kernel
theorem dL_law_369 : decode cL_law 369 = .ok (.iadd, 1) := by decide +kernel
theorem dL_law_370 : decode cL_law 370 = .ok (.iaload, 1) := by decide +kernel
theorem dL_law_371 : decode cL_law 371 = .ok (.aload_n 0, 1) := by decide +kernel
theorem dL_law_372 : decode cL_law 372 = .ok (.iload_n 3, 1) := by decide +kernel
theorem dL_law_373 : decode cL_law 373 = .ok (.iconst 2, 1) := by decide +kernel
theorem dL_law_374 : decode cL_law 374 = .ok (.iadd, 1) := by decide +kernel
theorem dL_law_375 : decode cL_law 375 = .ok (.iaload, 1) := by decide +kernel
theorem dL_law_376 : decode cL_law 376 = .ok (.aload_n 0, 1) := by decide +kernel
theorem dL_law_377 : decode cL_law 377 = .ok (.iload_n 3, 1) := by decide +kernel
theorem dL_law_378 : decode cL_law 378 = .ok (.iconst 3, 1) := by decide +kernel
theorem dL_law_379 : decode cL_law 379 = .ok (.iadd, 1) := by decide +kernel
theorem dL_law_380 : decode cL_law 380 = .ok (.iaload, 1) := by decide +kernel
theorem dL_law_381 : decode cL_law 381 = .ok (.aload_n 0, 1) := by decide +kernel
theorem dL_law_382 : decode cL_law 382 = .ok (.iload_n 3, 1) := by decide +kernel
theorem dL_law_383 : decode cL_law 383 = .ok (.iconst 4, 1) := by decide +kernel
theorem dL_law_384 : decode cL_law 384 = .ok (.iadd, 1) := by decide +kernel
theorem dL_law_385 : decode cL_law 385 = .ok (.iaload, 1) := by decide +kernel
theorem dL_law_386 : decode cL_law 386 = .ok (.invokevirtual 40, 3) := by decide +kernel
theorem dL_law_389 : decode cL_law 389 = .ok (.if_icmp .eq 477, 3) := by decide +kernel
theorem dL_law_392 : decode cL_law 392 = .ok (.iconst 0, 1) := by decide +kernel
theorem dL_law_393 : decode cL_law 393 = .ok (.ireturn, 1) := by decide +kernel
theorem dL_law_394 : decode cL_law 394 = .ok (.aload_n 1, 1) := by decide +kernel
theorem dL_law_395 : decode cL_law 395 = .ok (.aload_n 0, 1) := by decide +kernel
theorem dL_law_396 : decode cL_law 396 = .ok (.iload_n 3, 1) := by decide +kernel
theorem dL_law_397 : decode cL_law 397 = .ok (.iconst 1, 1) := by decide +kernel
theorem dL_law_398 : decode cL_law 398 = .ok (.iadd, 1) := by decide +kernel
theorem dL_law_399 : decode cL_law 399 = .ok (.iaload, 1) := by decide +kernel
theorem dL_law_400 : decode cL_law 400 = .ok (.invokevirtual 41, 3) := by decide +kernel
theorem dL_law_403 : decode cL_law 403 = .ok (.aload_n 2, 1) := by decide +kernel
theorem dL_law_404 : decode cL_law 404 = .ok (.aload_n 0, 1) := by decide +kernel
theorem dL_law_405 : decode cL_law 405 = .ok (.iload_n 3, 1) := by decide +kernel
theorem dL_law_406 : decode cL_law 406 = .ok (.iconst 1, 1) := by decide +kernel
theorem dL_law_407 : decode cL_law 407 = .ok (.iadd, 1) := by decide +kernel
theorem dL_law_408 : decode cL_law 408 = .ok (.iaload, 1) := by decide +kernel
theorem dL_law_409 : decode cL_law 409 = .ok (.invokevirtual 45, 3) := by decide +kernel
theorem dL_law_412 : decode cL_law 412 = .ok (.if_icmp .eq 454, 3) := by decide +kernel
theorem dL_law_415 : decode cL_law 415 = .ok (.iconst 0, 1) := by decide +kernel
theorem dL_law_416 : decode cL_law 416 = .ok (.ireturn, 1) := by decide +kernel
theorem dL_law_417 : decode cL_law 417 = .ok (.aload_n 1, 1) := by decide +kernel
theorem dL_law_418 : decode cL_law 418 = .ok (.aload_n 0, 1) := by decide +kernel
theorem dL_law_419 : decode cL_law 419 = .ok (.iload_n 3, 1) := by decide +kernel
theorem dL_law_420 : decode cL_law 420 = .ok (.iconst 1, 1) := by decide +kernel
theorem dL_law_421 : decode cL_law 421 = .ok (.iadd, 1) := by decide +kernel
theorem dL_law_422 : decode cL_law 422 = .ok (.iaload, 1) := by decide +kernel
theorem dL_law_423 : decode cL_law 423 = .ok (.invokevirtual 46, 3) := by decide +kernel
theorem dL_law_426 : decode cL_law 426 = .ok (.aload_n 2, 1) := by decide +kernel
theorem dL_law_427 : decode cL_law 427 = .ok (.aload_n 0, 1) := by decide +kernel
theorem dL_law_428 : decode cL_law 428 = .ok (.iload_n 3, 1) := by decide +kernel
theorem dL_law_429 : decode cL_law 429 = .ok (.iconst 1, 1) := by decide +kernel
theorem dL_law_430 : decode cL_law 430 = .ok (.iadd, 1) := by decide +kernel
theorem dL_law_431 : decode cL_law 431 = .ok (.iaload, 1) := by decide +kernel
theorem dL_law_432 : decode cL_law 432 = .ok (.invokevirtual 50, 3) := by decide +kernel
theorem dL_law_435 : decode cL_law 435 = .ok (.if_icmp .eq 431, 3) := by decide +kernel
theorem dL_law_438 : decode cL_law 438 = .ok (.iconst 0, 1) := by decide +kernel
theorem dL_law_439 : decode cL_law 439 = .ok (.ireturn, 1) := by decide +kernel
theorem dL_law_440 : decode cL_law 440 = .ok (.aload_n 1, 1) := by decide +kernel
theorem dL_law_441 : decode cL_law 441 = .ok (.aload_n 0, 1) := by decide +kernel
theorem dL_law_442 : decode cL_law 442 = .ok (.iload_n 3, 1) := by decide +kernel
theorem dL_law_443 : decode cL_law 443 = .ok (.iconst 1, 1) := by decide +kernel
theorem dL_law_444 : decode cL_law 444 = .ok (.iadd, 1) := by decide +kernel
theorem dL_law_445 : decode cL_law 445 = .ok (.iaload, 1) := by decide +kernel
theorem dL_law_446 : decode cL_law 446 = .ok (.invokevirtual 51, 3) := by decide +kernel
theorem dL_law_449 : decode cL_law 449 = .ok (.aload_n 2, 1) := by decide +kernel
theorem dL_law_450 : decode cL_law 450 = .ok (.aload_n 0, 1) := by decide +kernel
theorem dL_law_451 : decode cL_law 451 = .ok (.iload_n 3, 1) := by decide +kernel
theorem dL_law_452 : decode cL_law 452 = .ok (.iconst 1, 1) := by decide +kernel
theorem dL_law_453 : decode cL_law 453 = .ok (.iadd, 1) := by decide +kernel
theorem dL_law_454 : decode cL_law 454 = .ok (.iaload, 1) := by decide +kernel
theorem dL_law_455 : decode cL_law 455 = .ok (.invokevirtual 54, 3) := by decide +kernel
theorem dL_law_458 : decode cL_law 458 = .ok (.if_icmp .eq 408, 3) := by decide +kernel
theorem dL_law_461 : decode cL_law 461 = .ok (.iconst 0, 1) := by decide +kernel
theorem dL_law_462 : decode cL_law 462 = .ok (.ireturn, 1) := by decide +kernel
theorem dL_law_463 : decode cL_law 463 = .ok (.aload_n 1, 1) := by decide +kernel
theorem dL_law_464 : decode cL_law 464 = .ok (.aload_n 0, 1) := by decide +kernel
theorem dL_law_465 : decode cL_law 465 = .ok (.iload_n 3, 1) := by decide +kernel
theorem dL_law_466 : decode cL_law 466 = .ok (.iconst 1, 1) := by decide +kernel
theorem dL_law_467 : decode cL_law 467 = .ok (.iadd, 1) := by decide +kernel
theorem dL_law_468 : decode cL_law 468 = .ok (.iaload, 1) := by decide +kernel
theorem dL_law_469 : decode cL_law 469 = .ok (.aload_n 0, 1) := by decide +kernel
theorem dL_law_470 : decode cL_law 470 = .ok (.iload_n 3, 1) := by decide +kernel
theorem dL_law_471 : decode cL_law 471 = .ok (.iconst 2, 1) := by decide +kernel
theorem dL_law_472 : decode cL_law 472 = .ok (.iadd, 1) := by decide +kernel
theorem dL_law_473 : decode cL_law 473 = .ok (.iaload, 1) := by decide +kernel
theorem dL_law_474 : decode cL_law 474 = .ok (.aload_n 0, 1) := by decide +kernel
theorem dL_law_475 : decode cL_law 475 = .ok (.iload_n 3, 1) := by decide +kernel
theorem dL_law_476 : decode cL_law 476 = .ok (.iconst 3, 1) := by decide +kernel
theorem dL_law_477 : decode cL_law 477 = .ok (.iadd, 1) := by decide +kernel
theorem dL_law_478 : decode cL_law 478 = .ok (.iaload, 1) := by decide +kernel
theorem dL_law_479 : decode cL_law 479 = .ok (.aload_n 0, 1) := by decide +kernel
theorem dL_law_480 : decode cL_law 480 = .ok (.iload_n 3, 1) := by decide +kernel
theorem dL_law_481 : decode cL_law 481 = .ok (.iconst 4, 1) := by decide +kernel
theorem dL_law_482 : decode cL_law 482 = .ok (.iadd, 1) := by decide +kernel
theorem dL_law_483 : decode cL_law 483 = .ok (.iaload, 1) := by decide +kernel
theorem dL_law_484 : decode cL_law 484 = .ok (.invokevirtual 55, 3) := by decide +kernel
theorem dL_law_487 : decode cL_law 487 = .ok (.aload_n 2, 1) := by decide +kernel
theorem dL_law_488 : decode cL_law 488 = .ok (.aload_n 0, 1) := by decide +kernel
theorem dL_law_489 : decode cL_law 489 = .ok (.iload_n 3, 1) := by decide +kernel
theorem dL_law_490 : decode cL_law 490 = .ok (.iconst 1, 1) := by decide +kernel
theorem dL_law_491 : decode cL_law 491 = .ok (.iadd, 1) := by decide +kernel
theorem dL_law_492 : decode cL_law 492 = .ok (.iaload, 1) := by decide +kernel
theorem dL_law_493 : decode cL_law 493 = .ok (.aload_n 0, 1) := by decide +kernel
theorem dL_law_494 : decode cL_law 494 = .ok (.iload_n 3, 1) := by decide +kernel
theorem dL_law_495 : decode cL_law 495 = .ok (.iconst 2, 1) := by decide +kernel
theorem dL_law_496 : decode cL_law 496 = .ok (.iadd, 1) := by decide +kernel
theorem dL_law_497 : decode cL_law 497 = .ok (.iaload, 1) := by decide +kernel
theorem dL_law_498 : decode cL_law 498 = .ok (.aload_n 0, 1) := by decide +kernel
theorem dL_law_499 : decode cL_law 499 = .ok (.iload_n 3, 1) := by decide +kernel
theorem dL_law_500 : decode cL_law 500 = .ok (.iconst 3, 1) := by decide +kernel
theorem dL_law_501 : decode cL_law 501 = .ok (.iadd, 1) := by decide +kernel
theorem dL_law_502 : decode cL_law 502 = .ok (.iaload, 1) := by decide +kernel
theorem dL_law_503 : decode cL_law 503 = .ok (.aload_n 0, 1) := by decide +kernel
theorem dL_law_504 : decode cL_law 504 = .ok (.iload_n 3, 1) := by decide +kernel
theorem dL_law_505 : decode cL_law 505 = .ok (.iconst 4, 1) := by decide +kernel
theorem dL_law_506 : decode cL_law 506 = .ok (.iadd, 1) := by decide +kernel
theorem dL_law_507 : decode cL_law 507 = .ok (.iaload, 1) := by decide +kernel
theorem dL_law_508 : decode cL_law 508 = .ok (.invokevirtual 59, 3) := by decide +kernel
theorem dL_law_511 : decode cL_law 511 = .ok (.if_icmp .eq 355, 3) := by decide +kernel
theorem dL_law_514 : decode cL_law 514 = .ok (.iconst 0, 1) := by decide +kernel
theorem dL_law_515 : decode cL_law 515 = .ok (.ireturn, 1) := by decide +kernel
theorem dL_law_516 : decode cL_law 516 = .ok (.aload_n 1, 1) := by decide +kernel
theorem dL_law_517 : decode cL_law 517 = .ok (.aload_n 0, 1) := by decide +kernel
theorem dL_law_518 : decode cL_law 518 = .ok (.iload_n 3, 1) := by decide +kernel
theorem dL_law_519 : decode cL_law 519 = .ok (.iconst 1, 1) := by decide +kernel
theorem dL_law_520 : decode cL_law 520 = .ok (.iadd, 1) := by decide +kernel
theorem dL_law_521 : decode cL_law 521 = .ok (.iaload, 1) := by decide +kernel
theorem dL_law_522 : decode cL_law 522 = .ok (.aload_n 0, 1) := by decide +kernel
theorem dL_law_523 : decode cL_law 523 = .ok (.iload_n 3, 1) := by decide +kernel
theorem dL_law_524 : decode cL_law 524 = .ok (.iconst 2, 1) := by decide +kernel
theorem dL_law_525 : decode cL_law 525 = .ok (.iadd, 1) := by decide +kernel
theorem dL_law_526 : decode cL_law 526 = .ok (.iaload, 1) := by decide +kernel
theorem dL_law_527 : decode cL_law 527 = .ok (.invokevirtual 60, 3) := by decide +kernel
theorem dL_law_530 : decode cL_law 530 = .ok (.aload_n 2, 1) := by decide +kernel
theorem dL_law_531 : decode cL_law 531 = .ok (.aload_n 0, 1) := by decide +kernel
theorem dL_law_532 : decode cL_law 532 = .ok (.iload_n 3, 1) := by decide +kernel
theorem dL_law_533 : decode cL_law 533 = .ok (.iconst 1, 1) := by decide +kernel
theorem dL_law_534 : decode cL_law 534 = .ok (.iadd, 1) := by decide +kernel
theorem dL_law_535 : decode cL_law 535 = .ok (.iaload, 1) := by decide +kernel
theorem dL_law_536 : decode cL_law 536 = .ok (.aload_n 0, 1) := by decide +kernel
theorem dL_law_537 : decode cL_law 537 = .ok (.iload_n 3, 1) := by decide +kernel
theorem dL_law_538 : decode cL_law 538 = .ok (.iconst 2, 1) := by decide +kernel
theorem dL_law_539 : decode cL_law 539 = .ok (.iadd, 1) := by decide +kernel
theorem dL_law_540 : decode cL_law 540 = .ok (.iaload, 1) := by decide +kernel
theorem dL_law_541 : decode cL_law 541 = .ok (.invokevirtual 64, 3) := by decide +kernel
theorem dL_law_544 : decode cL_law 544 = .ok (.if_icmp .eq 322, 3) := by decide +kernel
theorem dL_law_547 : decode cL_law 547 = .ok (.iconst 0, 1) := by decide +kernel
theorem dL_law_548 : decode cL_law 548 = .ok (.ireturn, 1) := by decide +kernel
theorem dL_law_549 : decode cL_law 549 = .ok (.aload_n 1, 1) := by decide +kernel
theorem dL_law_550 : decode cL_law 550 = .ok (.aload_n 0, 1) := by decide +kernel
theorem dL_law_551 : decode cL_law 551 = .ok (.iload_n 3, 1) := by decide +kernel
theorem dL_law_552 : decode cL_law 552 = .ok (.iconst 1, 1) := by decide +kernel
theorem dL_law_553 : decode cL_law 553 = .ok (.iadd, 1) := by decide +kernel
theorem dL_law_554 : decode cL_law 554 = .ok (.iaload, 1) := by decide +kernel
theorem dL_law_555 : decode cL_law 555 = .ok (.aload_n 0, 1) := by decide +kernel
theorem dL_law_556 : decode cL_law 556 = .ok (.iload_n 3, 1) := by decide +kernel
theorem dL_law_557 : decode cL_law 557 = .ok (.iconst 2, 1) := by decide +kernel
theorem dL_law_558 : decode cL_law 558 = .ok (.iadd, 1) := by decide +kernel
theorem dL_law_559 : decode cL_law 559 = .ok (.iaload, 1) := by decide +kernel
theorem dL_law_560 : decode cL_law 560 = .ok (.invokevirtual 65, 3) := by decide +kernel
theorem dL_law_563 : decode cL_law 563 = .ok (.aload_n 2, 1) := by decide +kernel
theorem dL_law_564 : decode cL_law 564 = .ok (.aload_n 0, 1) := by decide +kernel
theorem dL_law_565 : decode cL_law 565 = .ok (.iload_n 3, 1) := by decide +kernel
theorem dL_law_566 : decode cL_law 566 = .ok (.iconst 1, 1) := by decide +kernel
theorem dL_law_567 : decode cL_law 567 = .ok (.iadd, 1) := by decide +kernel
theorem dL_law_568 : decode cL_law 568 = .ok (.iaload, 1) := by decide +kernel
theorem dL_law_569 : decode cL_law 569 = .ok (.aload_n 0, 1) := by decide +kernel
theorem dL_law_570 : decode cL_law 570 = .ok (.iload_n 3, 1) := by decide +kernel
theorem dL_law_571 : decode cL_law 571 = .ok (.iconst 2, 1) := by decide +kernel
theorem dL_law_572 : decode cL_law 572 = .ok (.iadd, 1) := by decide +kernel
theorem dL_law_573 : decode cL_law 573 = .ok (.iaload, 1) := by decide +kernel
theorem dL_law_574 : decode cL_law 574 = .ok (.invokevirtual 68, 3) := by decide +kernel
theorem dL_law_577 : decode cL_law 577 = .ok (.if_icmp .eq 289, 3) := by decide +kernel
theorem dL_law_580 : decode cL_law 580 = .ok (.iconst 0, 1) := by decide +kernel
theorem dL_law_581 : decode cL_law 581 = .ok (.ireturn, 1) := by decide +kernel
theorem dL_law_582 : decode cL_law 582 = .ok (.aload_n 1, 1) := by decide +kernel
theorem dL_law_583 : decode cL_law 583 = .ok (.aload_n 0, 1) := by decide +kernel
theorem dL_law_584 : decode cL_law 584 = .ok (.iload_n 3, 1) := by decide +kernel
theorem dL_law_585 : decode cL_law 585 = .ok (.iconst 1, 1) := by decide +kernel
theorem dL_law_586 : decode cL_law 586 = .ok (.iadd, 1) := by decide +kernel
theorem dL_law_587 : decode cL_law 587 = .ok (.iaload, 1) := by decide +kernel
theorem dL_law_588 : decode cL_law 588 = .ok (.aload_n 0, 1) := by decide +kernel
theorem dL_law_589 : decode cL_law 589 = .ok (.iload_n 3, 1) := by decide +kernel
theorem dL_law_590 : decode cL_law 590 = .ok (.iconst 2, 1) := by decide +kernel
theorem dL_law_591 : decode cL_law 591 = .ok (.iadd, 1) := by decide +kernel
theorem dL_law_592 : decode cL_law 592 = .ok (.iaload, 1) := by decide +kernel
theorem dL_law_593 : decode cL_law 593 = .ok (.invokevirtual 69, 3) := by decide +kernel
theorem dL_law_596 : decode cL_law 596 = .ok (.aload_n 2, 1) := by decide +kernel
theorem dL_law_597 : decode cL_law 597 = .ok (.aload_n 0, 1) := by decide +kernel
theorem dL_law_598 : decode cL_law 598 = .ok (.iload_n 3, 1) := by decide +kernel
theorem dL_law_599 : decode cL_law 599 = .ok (.iconst 1, 1) := by decide +kernel
theorem dL_law_600 : decode cL_law 600 = .ok (.iadd, 1) := by decide +kernel
theorem dL_law_601 : decode cL_law 601 = .ok (.iaload, 1) := by decide +kernel
theorem dL_law_602 : decode cL_law 602 = .ok (.aload_n 0, 1) := by decide +kernel
theorem dL_law_603 : decode cL_law 603 = .ok (.iload_n 3, 1) := by decide +kernel
theorem dL_law_604 : decode cL_law 604 = .ok (.iconst 2, 1) := by decide +kernel
theorem dL_law_605 : decode cL_law 605 = .ok (.iadd, 1) := by decide +kernel
theorem dL_law_606 : decode cL_law 606 = .ok (.iaload, 1) := by decide +kernel
theorem dL_law_607 : decode cL_law 607 = .ok (.invokevirtual 72, 3) := by decide +kernel
theorem dL_law_610 : decode cL_law 610 = .ok (.if_icmp .eq 256, 3) := by decide +kernel
theorem dL_law_613 : decode cL_law 613 = .ok (.iconst 0, 1) := by decide +kernel
theorem dL_law_614 : decode cL_law 614 = .ok (.ireturn, 1) := by decide +kernel
theorem dL_law_615 : decode cL_law 615 = .ok (.aload_n 1, 1) := by decide +kernel
theorem dL_law_616 : decode cL_law 616 = .ok (.invokevirtual 73, 3) := by decide +kernel
theorem dL_law_619 : decode cL_law 619 = .ok (.aload_n 2, 1) := by decide +kernel
theorem dL_law_620 : decode cL_law 620 = .ok (.invokevirtual 77, 3) := by decide +kernel
theorem dL_law_623 : decode cL_law 623 = .ok (.if_icmp .eq 243, 3) := by decide +kernel
theorem dL_law_626 : decode cL_law 626 = .ok (.iconst 0, 1) := by decide +kernel
theorem dL_law_627 : decode cL_law 627 = .ok (.ireturn, 1) := by decide +kernel
theorem dL_law_628 : decode cL_law 628 = .ok (.aload_n 1, 1) := by decide +kernel
theorem dL_law_629 : decode cL_law 629 = .ok (.aload_n 0, 1) := by decide +kernel
theorem dL_law_630 : decode cL_law 630 = .ok (.iload_n 3, 1) := by decide +kernel
theorem dL_law_631 : decode cL_law 631 = .ok (.iconst 1, 1) := by decide +kernel
theorem dL_law_632 : decode cL_law 632 = .ok (.iadd, 1) := by decide +kernel
theorem dL_law_633 : decode cL_law 633 = .ok (.iaload, 1) := by decide +kernel
theorem dL_law_634 : decode cL_law 634 = .ok (.aload_n 0, 1) := by decide +kernel
theorem dL_law_635 : decode cL_law 635 = .ok (.iload_n 3, 1) := by decide +kernel
theorem dL_law_636 : decode cL_law 636 = .ok (.iconst 2, 1) := by decide +kernel
theorem dL_law_637 : decode cL_law 637 = .ok (.iadd, 1) := by decide +kernel
theorem dL_law_638 : decode cL_law 638 = .ok (.iaload, 1) := by decide +kernel
theorem dL_law_639 : decode cL_law 639 = .ok (.aload_n 0, 1) := by decide +kernel
theorem dL_law_640 : decode cL_law 640 = .ok (.iload_n 3, 1) := by decide +kernel
theorem dL_law_641 : decode cL_law 641 = .ok (.iconst 3, 1) := by decide +kernel
theorem dL_law_642 : decode cL_law 642 = .ok (.iadd, 1) := by decide +kernel
theorem dL_law_643 : decode cL_law 643 = .ok (.iaload, 1) := by decide +kernel
theorem dL_law_644 : decode cL_law 644 = .ok (.invokevirtual 78, 3) := by decide +kernel
theorem dL_law_647 : decode cL_law 647 = .ok (.aload_n 2, 1) := by decide +kernel
theorem dL_law_648 : decode cL_law 648 = .ok (.aload_n 0, 1) := by decide +kernel
theorem dL_law_649 : decode cL_law 649 = .ok (.iload_n 3, 1) := by decide +kernel
theorem dL_law_650 : decode cL_law 650 = .ok (.iconst 1, 1) := by decide +kernel
theorem dL_law_651 : decode cL_law 651 = .ok (.iadd, 1) := by decide +kernel
theorem dL_law_652 : decode cL_law 652 = .ok (.iaload, 1) := by decide +kernel
theorem dL_law_653 : decode cL_law 653 = .ok (.aload_n 0, 1) := by decide +kernel
theorem dL_law_654 : decode cL_law 654 = .ok (.iload_n 3, 1) := by decide +kernel
theorem dL_law_655 : decode cL_law 655 = .ok (.iconst 2, 1) := by decide +kernel
theorem dL_law_656 : decode cL_law 656 = .ok (.iadd, 1) := by decide +kernel
theorem dL_law_657 : decode cL_law 657 = .ok (.iaload, 1) := by decide +kernel
theorem dL_law_658 : decode cL_law 658 = .ok (.aload_n 0, 1) := by decide +kernel
theorem dL_law_659 : decode cL_law 659 = .ok (.iload_n 3, 1) := by decide +kernel
theorem dL_law_660 : decode cL_law 660 = .ok (.iconst 3, 1) := by decide +kernel
theorem dL_law_661 : decode cL_law 661 = .ok (.iadd, 1) := by decide +kernel
theorem dL_law_662 : decode cL_law 662 = .ok (.iaload, 1) := by decide +kernel
theorem dL_law_663 : decode cL_law 663 = .ok (.invokevirtual 81, 3) := by decide +kernel
theorem dL_law_666 : decode cL_law 666 = .ok (.if_icmp .eq 200, 3) := by decide +kernel
theorem dL_law_669 : decode cL_law 669 = .ok (.iconst 0, 1) := by decide +kernel
theorem dL_law_670 : decode cL_law 670 = .ok (.ireturn, 1) := by decide +kernel
theorem dL_law_671 : decode cL_law 671 = .ok (.aload_n 1, 1) := by decide +kernel
theorem dL_law_672 : decode cL_law 672 = .ok (.aload_n 0, 1) := by decide +kernel
theorem dL_law_673 : decode cL_law 673 = .ok (.iload_n 3, 1) := by decide +kernel
theorem dL_law_674 : decode cL_law 674 = .ok (.iconst 1, 1) := by decide +kernel
theorem dL_law_675 : decode cL_law 675 = .ok (.iadd, 1) := by decide +kernel
theorem dL_law_676 : decode cL_law 676 = .ok (.iaload, 1) := by decide +kernel
theorem dL_law_677 : decode cL_law 677 = .ok (.invokevirtual 82, 3) := by decide +kernel
theorem dL_law_680 : decode cL_law 680 = .ok (.aload_n 2, 1) := by decide +kernel
theorem dL_law_681 : decode cL_law 681 = .ok (.aload_n 0, 1) := by decide +kernel
theorem dL_law_682 : decode cL_law 682 = .ok (.iload_n 3, 1) := by decide +kernel
theorem dL_law_683 : decode cL_law 683 = .ok (.iconst 1, 1) := by decide +kernel
theorem dL_law_684 : decode cL_law 684 = .ok (.iadd, 1) := by decide +kernel
theorem dL_law_685 : decode cL_law 685 = .ok (.iaload, 1) := by decide +kernel
theorem dL_law_686 : decode cL_law 686 = .ok (.invokevirtual 85, 3) := by decide +kernel
theorem dL_law_689 : decode cL_law 689 = .ok (.if_icmp .eq 177, 3) := by decide +kernel
theorem dL_law_692 : decode cL_law 692 = .ok (.iconst 0, 1) := by decide +kernel
theorem dL_law_693 : decode cL_law 693 = .ok (.ireturn, 1) := by decide +kernel
theorem dL_law_694 : decode cL_law 694 = .ok (.aload_n 1, 1) := by decide +kernel
theorem dL_law_695 : decode cL_law 695 = .ok (.aload_n 0, 1) := by decide +kernel
theorem dL_law_696 : decode cL_law 696 = .ok (.iload_n 3, 1) := by decide +kernel
theorem dL_law_697 : decode cL_law 697 = .ok (.iconst 1, 1) := by decide +kernel
theorem dL_law_698 : decode cL_law 698 = .ok (.iadd, 1) := by decide +kernel
theorem dL_law_699 : decode cL_law 699 = .ok (.iaload, 1) := by decide +kernel
theorem dL_law_700 : decode cL_law 700 = .ok (.aload_n 0, 1) := by decide +kernel
theorem dL_law_701 : decode cL_law 701 = .ok (.iload_n 3, 1) := by decide +kernel
theorem dL_law_702 : decode cL_law 702 = .ok (.iconst 2, 1) := by decide +kernel
theorem dL_law_703 : decode cL_law 703 = .ok (.iadd, 1) := by decide +kernel
theorem dL_law_704 : decode cL_law 704 = .ok (.iaload, 1) := by decide +kernel
theorem dL_law_705 : decode cL_law 705 = .ok (.aload_n 0, 1) := by decide +kernel
theorem dL_law_706 : decode cL_law 706 = .ok (.iload_n 3, 1) := by decide +kernel
theorem dL_law_707 : decode cL_law 707 = .ok (.iconst 3, 1) := by decide +kernel
theorem dL_law_708 : decode cL_law 708 = .ok (.iadd, 1) := by decide +kernel
theorem dL_law_709 : decode cL_law 709 = .ok (.iaload, 1) := by decide +kernel
theorem dL_law_710 : decode cL_law 710 = .ok (.aload_n 0, 1) := by decide +kernel
theorem dL_law_711 : decode cL_law 711 = .ok (.iload_n 3, 1) := by decide +kernel
theorem dL_law_712 : decode cL_law 712 = .ok (.iconst 4, 1) := by decide +kernel
theorem dL_law_713 : decode cL_law 713 = .ok (.iadd, 1) := by decide +kernel
theorem dL_law_714 : decode cL_law 714 = .ok (.iaload, 1) := by decide +kernel
theorem dL_law_715 : decode cL_law 715 = .ok (.invokevirtual 86, 3) := by decide +kernel
theorem dL_law_718 : decode cL_law 718 = .ok (.aload_n 2, 1) := by decide +kernel
theorem dL_law_719 : decode cL_law 719 = .ok (.aload_n 0, 1) := by decide +kernel
theorem dL_law_720 : decode cL_law 720 = .ok (.iload_n 3, 1) := by decide +kernel
theorem dL_law_721 : decode cL_law 721 = .ok (.iconst 1, 1) := by decide +kernel
theorem dL_law_722 : decode cL_law 722 = .ok (.iadd, 1) := by decide +kernel
theorem dL_law_723 : decode cL_law 723 = .ok (.iaload, 1) := by decide +kernel
theorem dL_law_724 : decode cL_law 724 = .ok (.aload_n 0, 1) := by decide +kernel
theorem dL_law_725 : decode cL_law 725 = .ok (.iload_n 3, 1) := by decide +kernel
theorem dL_law_726 : decode cL_law 726 = .ok (.iconst 2, 1) := by decide +kernel
theorem dL_law_727 : decode cL_law 727 = .ok (.iadd, 1) := by decide +kernel
theorem dL_law_728 : decode cL_law 728 = .ok (.iaload, 1) := by decide +kernel
theorem dL_law_729 : decode cL_law 729 = .ok (.aload_n 0, 1) := by decide +kernel
theorem dL_law_730 : decode cL_law 730 = .ok (.iload_n 3, 1) := by decide +kernel
theorem dL_law_731 : decode cL_law 731 = .ok (.iconst 3, 1) := by decide +kernel
theorem dL_law_732 : decode cL_law 732 = .ok (.iadd, 1) := by decide +kernel
theorem dL_law_733 : decode cL_law 733 = .ok (.iaload, 1) := by decide +kernel
theorem dL_law_734 : decode cL_law 734 = .ok (.aload_n 0, 1) := by decide +kernel
theorem dL_law_735 : decode cL_law 735 = .ok (.iload_n 3, 1) := by decide +kernel
theorem dL_law_736 : decode cL_law 736 = .ok (.iconst 4, 1) := by decide +kernel
theorem dL_law_737 : decode cL_law 737 = .ok (.iadd, 1) := by decide +kernel
theorem dL_law_738 : decode cL_law 738 = .ok (.iaload, 1) := by decide +kernel
theorem dL_law_739 : decode cL_law 739 = .ok (.invokevirtual 89, 3) := by decide +kernel
theorem dL_law_742 : decode cL_law 742 = .ok (.if_icmp .eq 124, 3) := by decide +kernel
theorem dL_law_745 : decode cL_law 745 = .ok (.iconst 0, 1) := by decide +kernel
theorem dL_law_746 : decode cL_law 746 = .ok (.ireturn, 1) := by decide +kernel
theorem dL_law_747 : decode cL_law 747 = .ok (.aload_n 1, 1) := by decide +kernel
theorem dL_law_748 : decode cL_law 748 = .ok (.aload_n 0, 1) := by decide +kernel
theorem dL_law_749 : decode cL_law 749 = .ok (.iload_n 3, 1) := by decide +kernel
theorem dL_law_750 : decode cL_law 750 = .ok (.iconst 1, 1) := by decide +kernel
theorem dL_law_751 : decode cL_law 751 = .ok (.iadd, 1) := by decide +kernel
theorem dL_law_752 : decode cL_law 752 = .ok (.iaload, 1) := by decide +kernel
theorem dL_law_753 : decode cL_law 753 = .ok (.aload_n 0, 1) := by decide +kernel
theorem dL_law_754 : decode cL_law 754 = .ok (.iload_n 3, 1) := by decide +kernel
theorem dL_law_755 : decode cL_law 755 = .ok (.iconst 2, 1) := by decide +kernel
theorem dL_law_756 : decode cL_law 756 = .ok (.iadd, 1) := by decide +kernel
theorem dL_law_757 : decode cL_law 757 = .ok (.iaload, 1) := by decide +kernel
theorem dL_law_758 : decode cL_law 758 = .ok (.aload_n 0, 1) := by decide +kernel
theorem dL_law_759 : decode cL_law 759 = .ok (.iload_n 3, 1) := by decide +kernel
theorem dL_law_760 : decode cL_law 760 = .ok (.iconst 3, 1) := by decide +kernel
theorem dL_law_761 : decode cL_law 761 = .ok (.iadd, 1) := by decide +kernel
theorem dL_law_762 : decode cL_law 762 = .ok (.iaload, 1) := by decide +kernel
theorem dL_law_763 : decode cL_law 763 = .ok (.aload_n 0, 1) := by decide +kernel
theorem dL_law_764 : decode cL_law 764 = .ok (.iload_n 3, 1) := by decide +kernel
theorem dL_law_765 : decode cL_law 765 = .ok (.iconst 4, 1) := by decide +kernel
theorem dL_law_766 : decode cL_law 766 = .ok (.iadd, 1) := by decide +kernel
theorem dL_law_767 : decode cL_law 767 = .ok (.iaload, 1) := by decide +kernel
theorem dL_law_768 : decode cL_law 768 = .ok (.invokevirtual 90, 3) := by decide +kernel
theorem dL_law_771 : decode cL_law 771 = .ok (.aload_n 2, 1) := by decide +kernel
theorem dL_law_772 : decode cL_law 772 = .ok (.aload_n 0, 1) := by decide +kernel
theorem dL_law_773 : decode cL_law 773 = .ok (.iload_n 3, 1) := by decide +kernel
theorem dL_law_774 : decode cL_law 774 = .ok (.iconst 1, 1) := by decide +kernel
theorem dL_law_775 : decode cL_law 775 = .ok (.iadd, 1) := by decide +kernel
theorem dL_law_776 : decode cL_law 776 = .ok (.iaload, 1) := by decide +kernel
theorem dL_law_777 : decode cL_law 777 = .ok (.aload_n 0, 1) := by decide +kernel
theorem dL_law_778 : decode cL_law 778 = .ok (.iload_n 3, 1) := by decide +kernel
theorem dL_law_779 : decode cL_law 779 = .ok (.iconst 2, 1) := by decide +kernel
theorem dL_law_780 : decode cL_law 780 = .ok (.iadd, 1) := by decide +kernel
theorem dL_law_781 : decode cL_law 781 = .ok (.iaload, 1) := by decide +kernel
theorem dL_law_782 : decode cL_law 782 = .ok (.aload_n 0, 1) := by decide +kernel
theorem dL_law_783 : decode cL_law 783 = .ok (.iload_n 3, 1) := by decide +kernel
theorem dL_law_784 : decode cL_law 784 = .ok (.iconst 3, 1) := by decide +kernel
theorem dL_law_785 : decode cL_law 785 = .ok (.iadd, 1) := by decide +kernel
theorem dL_law_786 : decode cL_law 786 = .ok (.iaload, 1) := by decide +kernel
theorem dL_law_787 : decode cL_law 787 = .ok (.aload_n 0, 1) := by decide +kernel
theorem dL_law_788 : decode cL_law 788 = .ok (.iload_n 3, 1) := by decide +kernel
theorem dL_law_789 : decode cL_law 789 = .ok (.iconst 4, 1) := by decide +kernel
theorem dL_law_790 : decode cL_law 790 = .ok (.iadd, 1) := by decide +kernel
theorem dL_law_791 : decode cL_law 791 = .ok (.iaload, 1) := by decide +kernel
theorem dL_law_792 : decode cL_law 792 = .ok (.invokevirtual 93, 3) := by decide +kernel
theorem dL_law_795 : decode cL_law 795 = .ok (.if_icmp .eq 71, 3) := by decide +kernel
theorem dL_law_798 : decode cL_law 798 = .ok (.iconst 0, 1) := by decide +kernel
theorem dL_law_799 : decode cL_law 799 = .ok (.ireturn, 1) := by decide +kernel
theorem dL_law_800 : decode cL_law 800 = .ok (.aload_n 1, 1) := by decide +kernel
theorem dL_law_801 : decode cL_law 801 = .ok (.aload_n 0, 1) := by decide +kernel
theorem dL_law_802 : decode cL_law 802 = .ok (.iload_n 3, 1) := by decide +kernel
theorem dL_law_803 : decode cL_law 803 = .ok (.iconst 1, 1) := by decide +kernel
theorem dL_law_804 : decode cL_law 804 = .ok (.iadd, 1) := by decide +kernel
theorem dL_law_805 : decode cL_law 805 = .ok (.iaload, 1) := by decide +kernel
theorem dL_law_806 : decode cL_law 806 = .ok (.aload_n 0, 1) := by decide +kernel
theorem dL_law_807 : decode cL_law 807 = .ok (.iload_n 3, 1) := by decide +kernel
theorem dL_law_808 : decode cL_law 808 = .ok (.iconst 2, 1) := by decide +kernel
theorem dL_law_809 : decode cL_law 809 = .ok (.iadd, 1) := by decide +kernel
theorem dL_law_810 : decode cL_law 810 = .ok (.iaload, 1) := by decide +kernel
theorem dL_law_811 : decode cL_law 811 = .ok (.aload_n 0, 1) := by decide +kernel
theorem dL_law_812 : decode cL_law 812 = .ok (.iload_n 3, 1) := by decide +kernel
theorem dL_law_813 : decode cL_law 813 = .ok (.iconst 3, 1) := by decide +kernel
theorem dL_law_814 : decode cL_law 814 = .ok (.iadd, 1) := by decide +kernel
theorem dL_law_815 : decode cL_law 815 = .ok (.iaload, 1) := by decide +kernel
theorem dL_law_816 : decode cL_law 816 = .ok (.invokevirtual 94, 3) := by decide +kernel
theorem dL_law_819 : decode cL_law 819 = .ok (.aload_n 2, 1) := by decide +kernel
theorem dL_law_820 : decode cL_law 820 = .ok (.aload_n 0, 1) := by decide +kernel
theorem dL_law_821 : decode cL_law 821 = .ok (.iload_n 3, 1) := by decide +kernel
theorem dL_law_822 : decode cL_law 822 = .ok (.iconst 1, 1) := by decide +kernel
theorem dL_law_823 : decode cL_law 823 = .ok (.iadd, 1) := by decide +kernel
theorem dL_law_824 : decode cL_law 824 = .ok (.iaload, 1) := by decide +kernel
theorem dL_law_825 : decode cL_law 825 = .ok (.aload_n 0, 1) := by decide +kernel
theorem dL_law_826 : decode cL_law 826 = .ok (.iload_n 3, 1) := by decide +kernel
theorem dL_law_827 : decode cL_law 827 = .ok (.iconst 2, 1) := by decide +kernel
theorem dL_law_828 : decode cL_law 828 = .ok (.iadd, 1) := by decide +kernel
theorem dL_law_829 : decode cL_law 829 = .ok (.iaload, 1) := by decide +kernel
theorem dL_law_830 : decode cL_law 830 = .ok (.aload_n 0, 1) := by decide +kernel
theorem dL_law_831 : decode cL_law 831 = .ok (.iload_n 3, 1) := by decide +kernel
theorem dL_law_832 : decode cL_law 832 = .ok (.iconst 3, 1) := by decide +kernel
theorem dL_law_833 : decode cL_law 833 = .ok (.iadd, 1) := by decide +kernel
theorem dL_law_834 : decode cL_law 834 = .ok (.iaload, 1) := by decide +kernel
theorem dL_law_835 : decode cL_law 835 = .ok (.invokevirtual 97, 3) := by decide +kernel
theorem dL_law_838 : decode cL_law 838 = .ok (.if_icmp .eq 28, 3) := by decide +kernel
theorem dL_law_841 : decode cL_law 841 = .ok (.iconst 0, 1) := by decide +kernel
theorem dL_law_842 : decode cL_law 842 = .ok (.ireturn, 1) := by decide +kernel
theorem dL_law_843 : decode cL_law 843 = .ok (.aload_n 1, 1) := by decide +kernel
theorem dL_law_844 : decode cL_law 844 = .ok (.aload_n 0, 1) := by decide +kernel
theorem dL_law_845 : decode cL_law 845 = .ok (.iload_n 3, 1) := by decide +kernel
theorem dL_law_846 : decode cL_law 846 = .ok (.iconst 1, 1) := by decide +kernel
theorem dL_law_847 : decode cL_law 847 = .ok (.iadd, 1) := by decide +kernel
theorem dL_law_848 : decode cL_law 848 = .ok (.iaload, 1) := by decide +kernel
theorem dL_law_849 : decode cL_law 849 = .ok (.invokevirtual 98, 3) := by decide +kernel
theorem dL_law_852 : decode cL_law 852 = .ok (.aload_n 2, 1) := by decide +kernel
theorem dL_law_853 : decode cL_law 853 = .ok (.aload_n 0, 1) := by decide +kernel
theorem dL_law_854 : decode cL_law 854 = .ok (.iload_n 3, 1) := by decide +kernel
theorem dL_law_855 : decode cL_law 855 = .ok (.iconst 1, 1) := by decide +kernel
theorem dL_law_856 : decode cL_law 856 = .ok (.iadd, 1) := by decide +kernel
theorem dL_law_857 : decode cL_law 857 = .ok (.iaload, 1) := by decide +kernel
theorem dL_law_858 : decode cL_law 858 = .ok (.invokevirtual 101, 3) := by decide +kernel
theorem dL_law_861 : decode cL_law 861 = .ok (.if_icmp .eq 5, 3) := by decide +kernel
theorem dL_law_864 : decode cL_law 864 = .ok (.iconst 0, 1) := by decide +kernel
theorem dL_law_865 : decode cL_law 865 = .ok (.ireturn, 1) := by decide +kernel
theorem dL_law_866 : decode cL_law 866 = .ok (.iinc 3 6, 3) := by decide +kernel
theorem dL_law_869 : decode cL_law 869 = .ok (.goto (-851), 3) := by decide +kernel
theorem dL_law_872 : decode cL_law 872 = .ok (.iconst 1, 1) := by decide +kernel
theorem dL_law_873 : decode cL_law 873 = .ok (.ireturn, 1) := by decide +kernel
end
section
theorem dX0_init_0 : decode cX0_init 0 = .ok (.aload_n 0, 1) := by decide +kernel
theorem dX0_init_1 : decode cX0_init 1 = .ok (.invokespecial 3, 3) := by decide +kernel
theorem dX0_init_4 : decode cX0_init 4 = .ok (.aload_n 0, 1) := by decide +kernel
theorem dX0_init_5 : decode cX0_init 5 = .ok (.sipush 512, 3) := by decide +kernel
theorem dX0_init_8 : decode cX0_init 8 = .ok (.newarray .int, 2) := by decide +kernel
theorem dX0_init_10 : decode cX0_init 10 = .ok (.putfield 9, 3) := by decide +kernel
theorem dX0_init_13 : decode cX0_init 13 = .ok (.aload_n 0, 1) := by decide +kernel
theorem dX0_init_14 : decode cX0_init 14 = .ok (.sipush 512, 3) := by decide +kernel
theorem dX0_init_17 : decode cX0_init 17 = .ok (.newarray .int, 2) := by decide +kernel
theorem dX0_init_19 : decode cX0_init 19 = .ok (.putfield 15, 3) := by decide +kernel
theorem dX0_init_22 : decode cX0_init 22 = .ok (.aload_n 0, 1) := by decide +kernel
theorem dX0_init_23 : decode cX0_init 23 = .ok (.sipush 512, 3) := by decide +kernel
theorem dX0_init_26 : decode cX0_init 26 = .ok (.newarray .int, 2) := by decide +kernel
theorem dX0_init_28 : decode cX0_init 28 = .ok (.putfield 18, 3) := by decide +kernel
theorem dX0_init_31 : decode cX0_init 31 = .ok (.aload_n 0, 1) := by decide +kernel
theorem dX0_init_32 : decode cX0_init 32 = .ok (.iconst 0, 1) := by decide +kernel
theorem dX0_init_33 : decode cX0_init 33 = .ok (.putfield 21, 3) := by decide +kernel
theorem dX0_init_36 : decode cX0_init 36 = .ok (.aload_n 0, 1) := by decide +kernel
theorem dX0_init_37 : decode cX0_init 37 = .ok (.iconst (-1), 1) := by decide +kernel
theorem dX0_init_38 : decode cX0_init 38 = .ok (.putfield 25, 3) := by decide +kernel
theorem dX0_init_41 : decode cX0_init 41 = .ok (.aload_n 0, 1) := by decide +kernel
theorem dX0_init_42 : decode cX0_init 42 = .ok (.iconst (-1), 1) := by decide +kernel
theorem dX0_init_43 : decode cX0_init 43 = .ok (.putfield 29, 3) := by decide +kernel
theorem dX0_init_46 : decode cX0_init 46 = .ok (.aload_n 0, 1) := by decide +kernel
theorem dX0_init_47 : decode cX0_init 47 = .ok (.sipush 4096, 3) := by decide +kernel
theorem dX0_init_50 : decode cX0_init 50 = .ok (.newarray .int, 2) := by decide +kernel
theorem dX0_init_52 : decode cX0_init 52 = .ok (.putfield 32, 3) := by decide +kernel
theorem dX0_init_55 : decode cX0_init 55 = .ok (.aload_n 0, 1) := by decide +kernel
theorem dX0_init_56 : decode cX0_init 56 = .ok (.sipush 512, 3) := by decide +kernel
theorem dX0_init_59 : decode cX0_init 59 = .ok (.newarray .int, 2) := by decide +kernel
theorem dX0_init_61 : decode cX0_init 61 = .ok (.putfield 35, 3) := by decide +kernel
theorem dX0_init_64 : decode cX0_init 64 = .ok (.aload_n 0, 1) := by decide +kernel
theorem dX0_init_65 : decode cX0_init 65 = .ok (.sipush 512, 3) := by decide +kernel
theorem dX0_init_68 : decode cX0_init 68 = .ok (.newarray .int, 2) := by decide +kernel
theorem dX0_init_70 : decode cX0_init 70 = .ok (.putfield 38, 3) := by decide +kernel
theorem dX0_init_73 : decode cX0_init 73 = .ok (.return_, 1) := by decide +kernel
theorem dX0_place_0 : decode cX0_place 0 = .ok (.aload_n 0, 1) := by decide +kernel
theorem dX0_place_1 : decode cX0_place 1 = .ok (.aload_n 1, 1) := by decide +kernel
theorem dX0_place_2 : decode cX0_place 2 = .ok (.aload_n 2, 1) := by decide +kernel
theorem dX0_place_3 : decode cX0_place 3 = .ok (.invokevirtual 41, 3) := by decide +kernel
theorem dX0_place_6 : decode cX0_place 6 = .ok (.aload_n 0, 1) := by decide +kernel
theorem dX0_place_7 : decode cX0_place 7 = .ok (.iconst 0, 1) := by decide +kernel
theorem dX0_place_8 : decode cX0_place 8 = .ok (.putfield 45, 3) := by decide +kernel
theorem dX0_place_11 : decode cX0_place 11 = .ok (.aload_n 0, 1) := by decide +kernel
theorem dX0_place_12 : decode cX0_place 12 = .ok (.iconst 0, 1) := by decide +kernel
theorem dX0_place_13 : decode cX0_place 13 = .ok (.putfield 48, 3) := by decide +kernel
theorem dX0_place_16 : decode cX0_place 16 = .ok (.aload_n 0, 1) := by decide +kernel
theorem dX0_place_17 : decode cX0_place 17 = .ok (.iconst (-1), 1) := by decide +kernel
theorem dX0_place_18 : decode cX0_place 18 = .ok (.putfield 25, 3) := by decide +kernel
theorem dX0_place_21 : decode cX0_place 21 = .ok (.aload_n 0, 1) := by decide +kernel
theorem dX0_place_22 : decode cX0_place 22 = .ok (.iconst (-1), 1) := by decide +kernel
theorem dX0_place_23 : decode cX0_place 23 = .ok (.putfield 29, 3) := by decide +kernel
theorem dX0_place_26 : decode cX0_place 26 = .ok (.iconst 0, 1) := by decide +kernel
theorem dX0_place_27 : decode cX0_place 27 = .ok (.istore_n 3, 1) := by decide +kernel
theorem dX0_place_28 : decode cX0_place 28 = .ok (.iload_n 3, 1) := by decide +kernel
theorem dX0_place_29 : decode cX0_place 29 = .ok (.aload_n 1, 1) := by decide +kernel
theorem dX0_place_30 : decode cX0_place 30 = .ok (.getfield 51, 3) := by decide +kernel
theorem dX0_place_33 : decode cX0_place 33 = .ok (.if_icmp .ge 79, 3) := by decide +kernel
theorem dX0_place_36 : decode cX0_place 36 = .ok (.aload_n 1, 1) := by decide +kernel
theorem dX0_place_37 : decode cX0_place 37 = .ok (.getfield 56, 3) := by decide +kernel
theorem dX0_place_40 : decode cX0_place 40 = .ok (.iload_n 3, 1) := by decide +kernel
theorem dX0_place_41 : decode cX0_place 41 = .ok (.iaload, 1) := by decide +kernel
theorem dX0_place_42 : decode cX0_place 42 = .ok (.istore 4, 2) := by decide +kernel
theorem dX0_place_44 : decode cX0_place 44 = .ok (.aload_n 0, 1) := by decide +kernel
theorem dX0_place_45 : decode cX0_place 45 = .ok (.aload_n 0, 1) := by decide +kernel
theorem dX0_place_46 : decode cX0_place 46 = .ok (.getfield 45, 3) := by decide +kernel
theorem dX0_place_49 : decode cX0_place 49 = .ok (.aload_n 0, 1) := by decide +kernel
theorem dX0_place_50 : decode cX0_place 50 = .ok (.getfield 9, 3) := by decide +kernel
theorem dX0_place_53 : decode cX0_place 53 = .ok (.iload 4, 2) := by decide +kernel
theorem dX0_place_55 : decode cX0_place 55 = .ok (.iaload, 1) := by decide +kernel
theorem dX0_place_56 : decode cX0_place 56 = .ok (.iconst 1, 1) := by decide +kernel
theorem dX0_place_57 : decode cX0_place 57 = .ok (.iadd, 1) := by decide +kernel
theorem dX0_place_58 : decode cX0_place 58 = .ok (.invokestatic 59, 3) := by decide +kernel
theorem dX0_place_61 : decode cX0_place 61 = .ok (.putfield 45, 3) := by decide +kernel
theorem dX0_place_64 : decode cX0_place 64 = .ok (.aload_n 0, 1) := by decide +kernel
theorem dX0_place_65 : decode cX0_place 65 = .ok (.iload 4, 2) := by decide +kernel
theorem dX0_place_67 : decode cX0_place 67 = .ok (.invokevirtual 65, 3) := by decide +kernel
theorem dX0_place_70 : decode cX0_place 70 = .ok (.aload_n 0, 1) := by decide +kernel
theorem dX0_place_71 : decode cX0_place 71 = .ok (.getfield 25, 3) := by decide +kernel
theorem dX0_place_74 : decode cX0_place 74 = .ok (.iconst (-1), 1) := by decide +kernel
theorem dX0_place_75 : decode cX0_place 75 = .ok (.if_icmp .ne 31, 3) := by decide +kernel
theorem dX0_place_78 : decode cX0_place 78 = .ok (.aload_n 0, 1) := by decide +kernel
theorem dX0_place_79 : decode cX0_place 79 = .ok (.aload_n 0, 1) := by decide +kernel
theorem dX0_place_80 : decode cX0_place 80 = .ok (.iload 4, 2) := by decide +kernel
theorem dX0_place_82 : decode cX0_place 82 = .ok (.invokevirtual 69, 3) := by decide +kernel
theorem dX0_place_85 : decode cX0_place 85 = .ok (.putfield 29, 3) := by decide +kernel
theorem dX0_place_88 : decode cX0_place 88 = .ok (.aload_n 0, 1) := by decide +kernel
theorem dX0_place_89 : decode cX0_place 89 = .ok (.aload_n 0, 1) := by decide +kernel
theorem dX0_place_90 : decode cX0_place 90 = .ok (.getfield 29, 3) := by decide +kernel
theorem dX0_place_93 : decode cX0_place 93 = .ok (.iconst (-1), 1) := by decide +kernel
theorem dX0_place_94 : decode cX0_place 94 = .ok (.if_icmp .ne 7, 3) := by decide +kernel
theorem dX0_place_97 : decode cX0_place 97 = .ok (.iconst (-1), 1) := by decide +kernel
theorem dX0_place_98 : decode cX0_place 98 = .ok (.goto 5, 3) := by decide +kernel
theorem dX0_place_101 : decode cX0_place 101 = .ok (.iload 4, 2) := by decide +kernel
theorem dX0_place_103 : decode cX0_place 103 = .ok (.putfield 25, 3) := by decide +kernel
theorem dX0_place_106 : decode cX0_place 106 = .ok (.iinc 3 1, 3) := by decide +kernel
theorem dX0_place_109 : decode cX0_place 109 = .ok (.goto (-81), 3) := by decide +kernel
theorem dX0_place_112 : decode cX0_place 112 = .ok (.iconst 0, 1) := by decide +kernel
theorem dX0_place_113 : decode cX0_place 113 = .ok (.istore_n 3, 1) := by decide +kernel
theorem dX0_place_114 : decode cX0_place 114 = .ok (.iload_n 3, 1) := by decide +kernel
theorem dX0_place_115 : decode cX0_place 115 = .ok (.aload_n 1, 1) := by decide +kernel
theorem dX0_place_116 : decode cX0_place 116 = .ok (.getfield 51, 3) := by decide +kernel
theorem dX0_place_119 : decode cX0_place 119 = .ok (.if_icmp .ge 25, 3) := by decide +kernel
theorem dX0_place_122 : decode cX0_place 122 = .ok (.aload_n 0, 1) := by decide +kernel
theorem dX0_place_123 : decode cX0_place 123 = .ok (.getfield 32, 3) := by decide +kernel
theorem dX0_place_126 : decode cX0_place 126 = .ok (.aload_n 0, 1) := by decide +kernel
theorem dX0_place_127 : decode cX0_place 127 = .ok (.aload_n 1, 1) := by decide +kernel
theorem dX0_place_128 : decode cX0_place 128 = .ok (.getfield 56, 3) := by decide +kernel
theorem dX0_place_131 : decode cX0_place 131 = .ok (.iload_n 3, 1) := by decide +kernel
theorem dX0_place_132 : decode cX0_place 132 = .ok (.iaload, 1) := by decide +kernel
theorem dX0_place_133 : decode cX0_place 133 = .ok (.invokevirtual 73, 3) := by decide +kernel
theorem dX0_place_136 : decode cX0_place 136 = .ok (.iconst 0, 1) := by decide +kernel
theorem dX0_place_137 : decode cX0_place 137 = .ok (.iastore, 1) := by decide +kernel
theorem dX0_place_138 : decode cX0_place 138 = .ok (.iinc 3 1, 3) := by decide +kernel
theorem dX0_place_141 : decode cX0_place 141 = .ok (.goto (-27), 3) := by decide +kernel
theorem dX0_place_144 : decode cX0_place 144 = .ok (.aload_n 0, 1) := by decide +kernel
theorem dX0_place_145 : decode cX0_place 145 = .ok (.iconst 1, 1) := by decide +kernel
theorem dX0_place_146 : decode cX0_place 146 = .ok (.putfield 21, 3) := by decide +kernel
theorem dX0_place_149 : decode cX0_place 149 = .ok (.return_, 1) := by decide +kernel
theorem dX0_layPoints_0 : decode cX0_layPoints 0 = .ok (.aload_n 2, 1) := by decide +kernel
theorem dX0_layPoints_1 : decode cX0_layPoints 1 = .ok (.iconst 0, 1) := by decide +kernel
theorem dX0_layPoints_2 : decode cX0_layPoints 2 = .ok (.aload_n 1, 1) := by decide +kernel
theorem dX0_layPoints_3 : decode cX0_layPoints 3 = .ok (.invokevirtual 76, 3) := by decide +kernel
theorem dX0_layPoints_6 : decode cX0_layPoints 6 = .ok (.istore_n 3, 1) := by decide +kernel
theorem dX0_layPoints_7 : decode cX0_layPoints 7 = .ok (.aload_n 2, 1) := by decide +kernel
theorem dX0_layPoints_8 : decode cX0_layPoints 8 = .ok (.iconst 1, 1) := by decide +kernel
theorem dX0_layPoints_9 : decode cX0_layPoints 9 = .ok (.aload_n 1, 1) := by decide +kernel
theorem dX0_layPoints_10 : decode cX0_layPoints 10 = .ok (.invokevirtual 76, 3) := by decide +kernel
theorem dX0_layPoints_13 : decode cX0_layPoints 13 = .ok (.istore 4, 2) := by decide +kernel
theorem dX0_layPoints_15 : decode cX0_layPoints 15 = .ok (.aload_n 2, 1) := by decide +kernel
theorem dX0_layPoints_16 : decode cX0_layPoints 16 = .ok (.iconst 2, 1) := by decide +kernel
theorem dX0_layPoints_17 : decode cX0_layPoints 17 = .ok (.aload_n 1, 1) := by decide +kernel
theorem dX0_layPoints_18 : decode cX0_layPoints 18 = .ok (.invokevirtual 76, 3) := by decide +kernel
theorem dX0_layPoints_21 : decode cX0_layPoints 21 = .ok (.istore 5, 2) := by decide +kernel
theorem dX0_layPoints_23 : decode cX0_layPoints 23 = .ok (.iconst 1, 1) := by decide +kernel
theorem dX0_layPoints_24 : decode cX0_layPoints 24 = .ok (.aload_n 2, 1) := by decide +kernel
theorem dX0_layPoints_25 : decode cX0_layPoints 25 = .ok (.getfield 82, 3) := by decide +kernel
theorem dX0_layPoints_28 : decode cX0_layPoints 28 = .ok (.invokestatic 59, 3) := by decide +kernel
theorem dX0_layPoints_31 : decode cX0_layPoints 31 = .ok (.istore 6, 2) := by decide +kernel
theorem dX0_layPoints_33 : decode cX0_layPoints 33 = .ok (.iconst 0, 1) := by decide +kernel
theorem dX0_layPoints_34 : decode cX0_layPoints 34 = .ok (.istore 7, 2) := by decide +kernel
theorem dX0_layPoints_36 : decode cX0_layPoints 36 = .ok (.iload 7, 2) := by decide +kernel
theorem dX0_layPoints_38 : decode cX0_layPoints 38 = .ok (.aload_n 1, 1) := by decide +kernel
theorem dX0_layPoints_39 : decode cX0_layPoints 39 = .ok (.getfield 51, 3) := by decide +kernel
theorem dX0_layPoints_42 : decode cX0_layPoints 42 = .ok (.if_icmp .ge 84, 3) := by decide +kernel
theorem dX0_layPoints_45 : decode cX0_layPoints 45 = .ok (.aload_n 1, 1) := by decide +kernel
theorem dX0_layPoints_46 : decode cX0_layPoints 46 = .ok (.getfield 56, 3) := by decide +kernel
theorem dX0_layPoints_49 : decode cX0_layPoints 49 = .ok (.iload 7, 2) := by decide +kernel
theorem dX0_layPoints_51 : decode cX0_layPoints 51 = .ok (.iaload, 1) := by decide +kernel
theorem dX0_layPoints_52 : decode cX0_layPoints 52 = .ok (.istore 8, 2) := by decide +kernel
theorem dX0_layPoints_54 : decode cX0_layPoints 54 = .ok (.aload_n 2, 1) := by decide +kernel
theorem dX0_layPoints_55 : decode cX0_layPoints 55 = .ok (.iconst 1, 1) := by decide +kernel
theorem dX0_layPoints_56 : decode cX0_layPoints 56 = .ok (.iload 8, 2) := by decide +kernel
theorem dX0_layPoints_58 : decode cX0_layPoints 58 = .ok (.invokevirtual 85, 3) := by decide +kernel
theorem dX0_layPoints_61 : decode cX0_layPoints 61 = .ok (.iload 4, 2) := by decide +kernel
theorem dX0_layPoints_63 : decode cX0_layPoints 63 = .ok (.isub, 1) := by decide +kernel
theorem dX0_layPoints_64 : decode cX0_layPoints 64 = .ok (.istore 9, 2) := by decide +kernel
theorem dX0_layPoints_66 : decode cX0_layPoints 66 = .ok (.aload_n 0, 1) := by decide +kernel
theorem dX0_layPoints_67 : decode cX0_layPoints 67 = .ok (.getfield 9, 3) := by decide +kernel
theorem dX0_layPoints_70 : decode cX0_layPoints 70 = .ok (.iload 8, 2) := by decide +kernel
theorem dX0_layPoints_72 : decode cX0_layPoints 72 = .ok (.iload 6, 2) := by decide +kernel
theorem dX0_layPoints_74 : decode cX0_layPoints 74 = .ok (.aload_n 2, 1) := by decide +kernel
theorem dX0_layPoints_75 : decode cX0_layPoints 75 = .ok (.iconst 0, 1) := by decide +kernel
theorem dX0_layPoints_76 : decode cX0_layPoints 76 = .ok (.iload 8, 2) := by decide +kernel
theorem dX0_layPoints_78 : decode cX0_layPoints 78 = .ok (.invokevirtual 85, 3) := by decide +kernel
theorem dX0_layPoints_81 : decode cX0_layPoints 81 = .ok (.iload_n 3, 1) := by decide +kernel
theorem dX0_layPoints_82 : decode cX0_layPoints 82 = .ok (.isub, 1) := by decide +kernel
theorem dX0_layPoints_83 : decode cX0_layPoints 83 = .ok (.imul, 1) := by decide +kernel
theorem dX0_layPoints_84 : decode cX0_layPoints 84 = .ok (.iload 9, 2) := by decide +kernel
theorem dX0_layPoints_86 : decode cX0_layPoints 86 = .ok (.iload 6, 2) := by decide +kernel
theorem dX0_layPoints_88 : decode cX0_layPoints 88 = .ok (.irem, 1) := by decide +kernel
theorem dX0_layPoints_89 : decode cX0_layPoints 89 = .ok (.iadd, 1) := by decide +kernel
theorem dX0_layPoints_90 : decode cX0_layPoints 90 = .ok (.iastore, 1) := by decide +kernel
theorem dX0_layPoints_91 : decode cX0_layPoints 91 = .ok (.aload_n 0, 1) := by decide +kernel
theorem dX0_layPoints_92 : decode cX0_layPoints 92 = .ok (.getfield 15, 3) := by decide +kernel
theorem dX0_layPoints_95 : decode cX0_layPoints 95 = .ok (.iload 8, 2) := by decide +kernel
theorem dX0_layPoints_97 : decode cX0_layPoints 97 = .ok (.iload 9, 2) := by decide +kernel
theorem dX0_layPoints_99 : decode cX0_layPoints 99 = .ok (.iload 6, 2) := by decide +kernel
theorem dX0_layPoints_101 : decode cX0_layPoints 101 = .ok (.idiv, 1) := by decide +kernel
theorem dX0_layPoints_102 : decode cX0_layPoints 102 = .ok (.iastore, 1) := by decide +kernel
theorem dX0_layPoints_103 : decode cX0_layPoints 103 = .ok (.aload_n 0, 1) := by decide +kernel
theorem dX0_layPoints_104 : decode cX0_layPoints 104 = .ok (.getfield 18, 3) := by decide +kernel
theorem dX0_layPoints_107 : decode cX0_layPoints 107 = .ok (.iload 8, 2) := by decide +kernel
theorem dX0_layPoints_109 : decode cX0_layPoints 109 = .ok (.aload_n 2, 1) := by decide +kernel
theorem dX0_layPoints_110 : decode cX0_layPoints 110 = .ok (.iconst 2, 1) := by decide +kernel
theorem dX0_layPoints_111 : decode cX0_layPoints 111 = .ok (.iload 8, 2) := by decide +kernel
theorem dX0_layPoints_113 : decode cX0_layPoints 113 = .ok (.invokevirtual 85, 3) := by decide +kernel
theorem dX0_layPoints_116 : decode cX0_layPoints 116 = .ok (.iload 5, 2) := by decide +kernel
theorem dX0_layPoints_118 : decode cX0_layPoints 118 = .ok (.isub, 1) := by decide +kernel
theorem dX0_layPoints_119 : decode cX0_layPoints 119 = .ok (.iastore, 1) := by decide +kernel
theorem dX0_layPoints_120 : decode cX0_layPoints 120 = .ok (.iinc 7 1, 3) := by decide +kernel
theorem dX0_layPoints_123 : decode cX0_layPoints 123 = .ok (.goto (-87), 3) := by decide +kernel
theorem dX0_layPoints_126 : decode cX0_layPoints 126 = .ok (.return_, 1) := by decide +kernel
theorem dX0_cellKey_0 : decode cX0_cellKey 0 = .ok (.bipush 64, 2) := by decide +kernel
theorem dX0_cellKey_2 : decode cX0_cellKey 2 = .ok (.aload_n 0, 1) := by decide +kernel
theorem dX0_cellKey_3 : decode cX0_cellKey 3 = .ok (.getfield 15, 3) := by decide +kernel
theorem dX0_cellKey_6 : decode cX0_cellKey 6 = .ok (.iload_n 1, 1) := by decide +kernel
theorem dX0_cellKey_7 : decode cX0_cellKey 7 = .ok (.iaload, 1) := by decide +kernel
theorem dX0_cellKey_8 : decode cX0_cellKey 8 = .ok (.imul, 1) := by decide +kernel
theorem dX0_cellKey_9 : decode cX0_cellKey 9 = .ok (.aload_n 0, 1) := by decide +kernel
theorem dX0_cellKey_10 : decode cX0_cellKey 10 = .ok (.getfield 18, 3) := by decide +kernel
theorem dX0_cellKey_13 : decode cX0_cellKey 13 = .ok (.iload_n 1, 1) := by decide +kernel
theorem dX0_cellKey_14 : decode cX0_cellKey 14 = .ok (.iaload, 1) := by decide +kernel
theorem dX0_cellKey_15 : decode cX0_cellKey 15 = .ok (.iadd, 1) := by decide +kernel
theorem dX0_cellKey_16 : decode cX0_cellKey 16 = .ok (.ireturn, 1) := by decide +kernel
theorem dX0_link_0 : decode cX0_link 0 = .ok (.aload_n 0, 1) := by decide +kernel
theorem dX0_link_1 : decode cX0_link 1 = .ok (.iload_n 1, 1) := by decide +kernel
theorem dX0_link_2 : decode cX0_link 2 = .ok (.invokevirtual 73, 3) := by decide +kernel
theorem dX0_link_5 : decode cX0_link 5 = .ok (.istore_n 2, 1) := by decide +kernel
theorem dX0_link_6 : decode cX0_link 6 = .ok (.aload_n 0, 1) := by decide +kernel
theorem dX0_link_7 : decode cX0_link 7 = .ok (.getfield 32, 3) := by decide +kernel
theorem dX0_link_10 : decode cX0_link 10 = .ok (.iload_n 2, 1) := by decide +kernel
theorem dX0_link_11 : decode cX0_link 11 = .ok (.iaload, 1) := by decide +kernel
theorem dX0_link_12 : decode cX0_link 12 = .ok (.ifCond .ne 13, 3) := by decide +kernel
theorem dX0_link_15 : decode cX0_link 15 = .ok (.aload_n 0, 1) := by decide +kernel
theorem dX0_link_16 : decode cX0_link 16 = .ok (.dup, 1) := by decide +kernel
theorem dX0_link_17 : decode cX0_link 17 = .ok (.getfield 48, 3) := by decide +kernel
theorem dX0_link_20 : decode cX0_link 20 = .ok (.iconst 1, 1) := by decide +kernel
theorem dX0_link_21 : decode cX0_link 21 = .ok (.iadd, 1) := by decide +kernel
theorem dX0_link_22 : decode cX0_link 22 = .ok (.putfield 48, 3) := by decide +kernel
theorem dX0_link_25 : decode cX0_link 25 = .ok (.aload_n 0, 1) := by decide +kernel
theorem dX0_link_26 : decode cX0_link 26 = .ok (.getfield 35, 3) := by decide +kernel
theorem dX0_link_29 : decode cX0_link 29 = .ok (.iload_n 1, 1) := by decide +kernel
theorem dX0_link_30 : decode cX0_link 30 = .ok (.aload_n 0, 1) := by decide +kernel
theorem dX0_link_31 : decode cX0_link 31 = .ok (.getfield 32, 3) := by decide +kernel
theorem dX0_link_34 : decode cX0_link 34 = .ok (.iload_n 2, 1) := by decide +kernel
theorem dX0_link_35 : decode cX0_link 35 = .ok (.iaload, 1) := by decide +kernel
theorem dX0_link_36 : decode cX0_link 36 = .ok (.iastore, 1) := by decide +kernel
theorem dX0_link_37 : decode cX0_link 37 = .ok (.aload_n 0, 1) := by decide +kernel
theorem dX0_link_38 : decode cX0_link 38 = .ok (.getfield 32, 3) := by decide +kernel
theorem dX0_link_41 : decode cX0_link 41 = .ok (.iload_n 2, 1) := by decide +kernel
theorem dX0_link_42 : decode cX0_link 42 = .ok (.iload_n 1, 1) := by decide +kernel
theorem dX0_link_43 : decode cX0_link 43 = .ok (.iconst 1, 1) := by decide +kernel
theorem dX0_link_44 : decode cX0_link 44 = .ok (.iadd, 1) := by decide +kernel
theorem dX0_link_45 : decode cX0_link 45 = .ok (.iastore, 1) := by decide +kernel
theorem dX0_link_46 : decode cX0_link 46 = .ok (.return_, 1) := by decide +kernel
theorem dX0_metBy_0 : decode cX0_metBy 0 = .ok (.aload_n 0, 1) := by decide +kernel
theorem dX0_metBy_1 : decode cX0_metBy 1 = .ok (.getfield 35, 3) := by decide +kernel
theorem dX0_metBy_4 : decode cX0_metBy 4 = .ok (.iload_n 1, 1) := by decide +kernel
theorem dX0_metBy_5 : decode cX0_metBy 5 = .ok (.iaload, 1) := by decide +kernel
theorem dX0_metBy_6 : decode cX0_metBy 6 = .ok (.iconst 1, 1) := by decide +kernel
theorem dX0_metBy_7 : decode cX0_metBy 7 = .ok (.isub, 1) := by decide +kernel
theorem dX0_metBy_8 : decode cX0_metBy 8 = .ok (.istore_n 2, 1) := by decide +kernel
theorem dX0_metBy_9 : decode cX0_metBy 9 = .ok (.iconst 0, 1) := by decide +kernel
theorem dX0_metBy_10 : decode cX0_metBy 10 = .ok (.istore_n 3, 1) := by decide +kernel
theorem dX0_metBy_11 : decode cX0_metBy 11 = .ok (.iload_n 3, 1) := by decide +kernel
theorem dX0_metBy_12 : decode cX0_metBy 12 = .ok (.sipush 512, 3) := by decide +kernel
theorem dX0_metBy_15 : decode cX0_metBy 15 = .ok (.if_icmp .ge 40, 3) := by decide +kernel
theorem dX0_metBy_18 : decode cX0_metBy 18 = .ok (.iload_n 2, 1) := by decide +kernel
theorem dX0_metBy_19 : decode cX0_metBy 19 = .ok (.iconst (-1), 1) := by decide +kernel
theorem dX0_metBy_20 : decode cX0_metBy 20 = .ok (.if_icmp .eq 35, 3) := by decide +kernel
theorem dX0_metBy_23 : decode cX0_metBy 23 = .ok (.aload_n 0, 1) := by decide +kernel
theorem dX0_metBy_24 : decode cX0_metBy 24 = .ok (.getfield 9, 3) := by decide +kernel
theorem dX0_metBy_27 : decode cX0_metBy 27 = .ok (.iload_n 2, 1) := by decide +kernel
theorem dX0_metBy_28 : decode cX0_metBy 28 = .ok (.iaload, 1) := by decide +kernel
theorem dX0_metBy_29 : decode cX0_metBy 29 = .ok (.aload_n 0, 1) := by decide +kernel
theorem dX0_metBy_30 : decode cX0_metBy 30 = .ok (.getfield 9, 3) := by decide +kernel
theorem dX0_metBy_33 : decode cX0_metBy 33 = .ok (.iload_n 1, 1) := by decide +kernel
theorem dX0_metBy_34 : decode cX0_metBy 34 = .ok (.iaload, 1) := by decide +kernel
theorem dX0_metBy_35 : decode cX0_metBy 35 = .ok (.if_icmp .ne 5, 3) := by decide +kernel
theorem dX0_metBy_38 : decode cX0_metBy 38 = .ok (.iload_n 2, 1) := by decide +kernel
theorem dX0_metBy_39 : decode cX0_metBy 39 = .ok (.ireturn, 1) := by decide +kernel
theorem dX0_metBy_40 : decode cX0_metBy 40 = .ok (.aload_n 0, 1) := by decide +kernel
theorem dX0_metBy_41 : decode cX0_metBy 41 = .ok (.getfield 35, 3) := by decide +kernel
theorem dX0_metBy_44 : decode cX0_metBy 44 = .ok (.iload_n 2, 1) := by decide +kernel
theorem dX0_metBy_45 : decode cX0_metBy 45 = .ok (.iaload, 1) := by decide +kernel
theorem dX0_metBy_46 : decode cX0_metBy 46 = .ok (.iconst 1, 1) := by decide +kernel
theorem dX0_metBy_47 : decode cX0_metBy 47 = .ok (.isub, 1) := by decide +kernel
theorem dX0_metBy_48 : decode cX0_metBy 48 = .ok (.istore_n 2, 1) := by decide +kernel
theorem dX0_metBy_49 : decode cX0_metBy 49 = .ok (.iinc 3 1, 3) := by decide +kernel
theorem dX0_metBy_52 : decode cX0_metBy 52 = .ok (.goto (-41), 3) := by decide +kernel
theorem dX0_metBy_55 : decode cX0_metBy 55 = .ok (.iconst (-1), 1) := by decide +kernel
theorem dX0_metBy_56 : decode cX0_metBy 56 = .ok (.ireturn, 1) := by decide +kernel
theorem dX0_use_0 : decode cX0_use 0 = .ok (.aload_n 0, 1) := by decide +kernel
theorem dX0_use_1 : decode cX0_use 1 = .ok (.getfield 45, 3) := by decide +kernel
theorem dX0_use_4 : decode cX0_use 4 = .ok (.aload_n 0, 1) := by decide +kernel
theorem dX0_use_5 : decode cX0_use 5 = .ok (.getfield 48, 3) := by decide +kernel
theorem dX0_use_8 : decode cX0_use 8 = .ok (.imul, 1) := by decide +kernel
theorem dX0_use_9 : decode cX0_use 9 = .ok (.istore_n 2, 1) := by decide +kernel
theorem dX0_use_10 : decode cX0_use 10 = .ok (.iload_n 2, 1) := by decide +kernel
theorem dX0_use_11 : decode cX0_use 11 = .ok (.ifCond .ne 7, 3) := by decide +kernel
theorem dX0_use_14 : decode cX0_use 14 = .ok (.iconst 0, 1) := by decide +kernel
theorem dX0_use_15 : decode cX0_use 15 = .ok (.goto 13, 3) := by decide +kernel
theorem dX0_use_18 : decode cX0_use 18 = .ok (.sipush 1000, 3) := by decide +kernel
theorem dX0_use_21 : decode cX0_use 21 = .ok (.aload_n 1, 1) := by decide +kernel
theorem dX0_use_22 : decode cX0_use 22 = .ok (.getfield 51, 3) := by decide +kernel
theorem dX0_use_25 : decode cX0_use 25 = .ok (.imul, 1) := by decide +kernel
theorem dX0_use_26 : decode cX0_use 26 = .ok (.iload_n 2, 1) := by decide +kernel
theorem dX0_use_27 : decode cX0_use 27 = .ok (.idiv, 1) := by decide +kernel
theorem dX0_use_28 : decode cX0_use 28 = .ok (.ireturn, 1) := by decide +kernel
theorem dX0_apart_0 : decode cX0_apart 0 = .ok (.aload_n 0, 1) := by decide +kernel
theorem dX0_apart_1 : decode cX0_apart 1 = .ok (.getfield 25, 3) := by decide +kernel
theorem dX0_apart_4 : decode cX0_apart 4 = .ok (.iconst (-1), 1) := by decide +kernel
theorem dX0_apart_5 : decode cX0_apart 5 = .ok (.if_icmp .eq 5, 3) := by decide +kernel
theorem dX0_apart_8 : decode cX0_apart 8 = .ok (.iconst (-1), 1) := by decide +kernel
theorem dX0_apart_9 : decode cX0_apart 9 = .ok (.ireturn, 1) := by decide +kernel
theorem dX0_apart_10 : decode cX0_apart 10 = .ok (.aload_n 0, 1) := by decide +kernel
theorem dX0_apart_11 : decode cX0_apart 11 = .ok (.getfield 38, 3) := by decide +kernel
theorem dX0_apart_14 : decode cX0_apart 14 = .ok (.iconst 0, 1) := by decide +kernel
theorem dX0_apart_15 : decode cX0_apart 15 = .ok (.invokestatic 88, 3) := by decide +kernel
theorem dX0_apart_18 : decode cX0_apart 18 = .ok (.iconst 0, 1) := by decide +kernel
theorem dX0_apart_19 : decode cX0_apart 19 = .ok (.istore_n 2, 1) := by decide +kernel
theorem dX0_apart_20 : decode cX0_apart 20 = .ok (.iload_n 2, 1) := by decide +kernel
theorem dX0_apart_21 : decode cX0_apart 21 = .ok (.aload_n 1, 1) := by decide +kernel
theorem dX0_apart_22 : decode cX0_apart 22 = .ok (.getfield 51, 3) := by decide +kernel
theorem dX0_apart_25 : decode cX0_apart 25 = .ok (.if_icmp .ge 19, 3) := by decide +kernel
theorem dX0_apart_28 : decode cX0_apart 28 = .ok (.aload_n 0, 1) := by decide +kernel
theorem dX0_apart_29 : decode cX0_apart 29 = .ok (.aload_n 1, 1) := by decide +kernel
theorem dX0_apart_30 : decode cX0_apart 30 = .ok (.getfield 56, 3) := by decide +kernel
theorem dX0_apart_33 : decode cX0_apart 33 = .ok (.iload_n 2, 1) := by decide +kernel
theorem dX0_apart_34 : decode cX0_apart 34 = .ok (.iaload, 1) := by decide +kernel
theorem dX0_apart_35 : decode cX0_apart 35 = .ok (.invokevirtual 94, 3) := by decide +kernel
theorem dX0_apart_38 : decode cX0_apart 38 = .ok (.iinc 2 1, 3) := by decide +kernel
theorem dX0_apart_41 : decode cX0_apart 41 = .ok (.goto (-21), 3) := by decide +kernel
theorem dX0_apart_44 : decode cX0_apart 44 = .ok (.iconst 1, 1) := by decide +kernel
theorem dX0_apart_45 : decode cX0_apart 45 = .ok (.istore_n 2, 1) := by decide +kernel
theorem dX0_apart_46 : decode cX0_apart 46 = .ok (.iload_n 2, 1) := by decide +kernel
theorem dX0_apart_47 : decode cX0_apart 47 = .ok (.aload_n 0, 1) := by decide +kernel
theorem dX0_apart_48 : decode cX0_apart 48 = .ok (.getfield 45, 3) := by decide +kernel
theorem dX0_apart_51 : decode cX0_apart 51 = .ok (.if_icmp .ge 17, 3) := by decide +kernel
theorem dX0_apart_54 : decode cX0_apart 54 = .ok (.aload_n 0, 1) := by decide +kernel
theorem dX0_apart_55 : decode cX0_apart 55 = .ok (.iload_n 2, 1) := by decide +kernel
theorem dX0_apart_56 : decode cX0_apart 56 = .ok (.invokevirtual 97, 3) := by decide +kernel
theorem dX0_apart_59 : decode cX0_apart 59 = .ok (.ifCond .ne 9, 3) := by decide +kernel
theorem dX0_apart_62 : decode cX0_apart 62 = .ok (.iinc 2 1, 3) := by decide +kernel
theorem dX0_apart_65 : decode cX0_apart 65 = .ok (.goto (-19), 3) := by decide +kernel
theorem dX0_apart_68 : decode cX0_apart 68 = .ok (.iload_n 2, 1) := by decide +kernel
theorem dX0_apart_69 : decode cX0_apart 69 = .ok (.ireturn, 1) := by decide +kernel
theorem dX0_markBetween_0 : decode cX0_markBetween 0 = .ok (.aload_n 0, 1) := by decide +kernel
theorem dX0_markBetween_1 : decode cX0_markBetween 1 = .ok (.getfield 35, 3) := by decide +kernel
theorem dX0_markBetween_4 : decode cX0_markBetween 4 = .ok (.iload_n 1, 1) := by decide +kernel
theorem dX0_markBetween_5 : decode cX0_markBetween 5 = .ok (.iaload, 1) := by decide +kernel
theorem dX0_markBetween_6 : decode cX0_markBetween 6 = .ok (.iconst 1, 1) := by decide +kernel
theorem dX0_markBetween_7 : decode cX0_markBetween 7 = .ok (.isub, 1) := by decide +kernel
theorem dX0_markBetween_8 : decode cX0_markBetween 8 = .ok (.istore_n 2, 1) := by decide +kernel
theorem dX0_markBetween_9 : decode cX0_markBetween 9 = .ok (.iconst 0, 1) := by decide +kernel
theorem dX0_markBetween_10 : decode cX0_markBetween 10 = .ok (.istore_n 3, 1) := by decide +kernel
theorem dX0_markBetween_11 : decode cX0_markBetween 11 = .ok (.iload_n 3, 1) := by decide +kernel
theorem dX0_markBetween_12 : decode cX0_markBetween 12 = .ok (.sipush 512, 3) := by decide +kernel
theorem dX0_markBetween_15 : decode cX0_markBetween 15 = .ok (.if_icmp .ge 45, 3) := by decide +kernel
theorem dX0_markBetween_18 : decode cX0_markBetween 18 = .ok (.iload_n 2, 1) := by decide +kernel
theorem dX0_markBetween_19 : decode cX0_markBetween 19 = .ok (.iconst (-1), 1) := by decide +kernel
theorem dX0_markBetween_20 : decode cX0_markBetween 20 = .ok (.if_icmp .eq 40, 3) := by decide +kernel
theorem dX0_markBetween_23 : decode cX0_markBetween 23 = .ok (.aload_n 0, 1) := by decide +kernel
theorem dX0_markBetween_24 : decode cX0_markBetween 24 = .ok (.getfield 38, 3) := by decide +kernel
theorem dX0_markBetween_27 : decode cX0_markBetween 27 = .ok (.aload_n 0, 1) := by decide +kernel
theorem dX0_markBetween_28 : decode cX0_markBetween 28 = .ok (.getfield 9, 3) := by decide +kernel
theorem dX0_markBetween_31 : decode cX0_markBetween 31 = .ok (.iload_n 1, 1) := by decide +kernel
theorem dX0_markBetween_32 : decode cX0_markBetween 32 = .ok (.iaload, 1) := by decide +kernel
theorem dX0_markBetween_33 : decode cX0_markBetween 33 = .ok (.aload_n 0, 1) := by decide +kernel
theorem dX0_markBetween_34 : decode cX0_markBetween 34 = .ok (.getfield 9, 3) := by decide +kernel
theorem dX0_markBetween_37 : decode cX0_markBetween 37 = .ok (.iload_n 2, 1) := by decide +kernel
theorem dX0_markBetween_38 : decode cX0_markBetween 38 = .ok (.iaload, 1) := by decide +kernel
theorem dX0_markBetween_39 : decode cX0_markBetween 39 = .ok (.isub, 1) := by decide +kernel
theorem dX0_markBetween_40 : decode cX0_markBetween 40 = .ok (.invokestatic 101, 3) := by decide +kernel
theorem dX0_markBetween_43 : decode cX0_markBetween 43 = .ok (.iconst 1, 1) := by decide +kernel
theorem dX0_markBetween_44 : decode cX0_markBetween 44 = .ok (.iastore, 1) := by decide +kernel
theorem dX0_markBetween_45 : decode cX0_markBetween 45 = .ok (.aload_n 0, 1) := by decide +kernel
theorem dX0_markBetween_46 : decode cX0_markBetween 46 = .ok (.getfield 35, 3) := by decide +kernel
theorem dX0_markBetween_49 : decode cX0_markBetween 49 = .ok (.iload_n 2, 1) := by decide +kernel
theorem dX0_markBetween_50 : decode cX0_markBetween 50 = .ok (.iaload, 1) := by decide +kernel
theorem dX0_markBetween_51 : decode cX0_markBetween 51 = .ok (.iconst 1, 1) := by decide +kernel
theorem dX0_markBetween_52 : decode cX0_markBetween 52 = .ok (.isub, 1) := by decide +kernel
theorem dX0_markBetween_53 : decode cX0_markBetween 53 = .ok (.istore_n 2, 1) := by decide +kernel
theorem dX0_markBetween_54 : decode cX0_markBetween 54 = .ok (.iinc 3 1, 3) := by decide +kernel
theorem dX0_markBetween_57 : decode cX0_markBetween 57 = .ok (.goto (-46), 3) := by decide +kernel
theorem dX0_markBetween_60 : decode cX0_markBetween 60 = .ok (.return_, 1) := by decide +kernel
theorem dX0_isFree_0 : decode cX0_isFree 0 = .ok (.iconst 1, 1) := by decide +kernel
theorem dX0_isFree_1 : decode cX0_isFree 1 = .ok (.istore_n 2, 1) := by decide +kernel
theorem dX0_isFree_2 : decode cX0_isFree 2 = .ok (.iload_n 2, 1) := by decide +kernel
theorem dX0_isFree_3 : decode cX0_isFree 3 = .ok (.aload_n 0, 1) := by decide +kernel
theorem dX0_isFree_4 : decode cX0_isFree 4 = .ok (.getfield 45, 3) := by decide +kernel
theorem dX0_isFree_7 : decode cX0_isFree 7 = .ok (.if_icmp .ge 32, 3) := by decide +kernel
theorem dX0_isFree_10 : decode cX0_isFree 10 = .ok (.iload_n 2, 1) := by decide +kernel
theorem dX0_isFree_11 : decode cX0_isFree 11 = .ok (.iload_n 1, 1) := by decide +kernel
theorem dX0_isFree_12 : decode cX0_isFree 12 = .ok (.imul, 1) := by decide +kernel
theorem dX0_isFree_13 : decode cX0_isFree 13 = .ok (.aload_n 0, 1) := by decide +kernel
theorem dX0_isFree_14 : decode cX0_isFree 14 = .ok (.getfield 45, 3) := by decide +kernel
theorem dX0_isFree_17 : decode cX0_isFree 17 = .ok (.if_icmp .ge 22, 3) := by decide +kernel
theorem dX0_isFree_20 : decode cX0_isFree 20 = .ok (.aload_n 0, 1) := by decide +kernel
theorem dX0_isFree_21 : decode cX0_isFree 21 = .ok (.getfield 38, 3) := by decide +kernel
theorem dX0_isFree_24 : decode cX0_isFree 24 = .ok (.iload_n 2, 1) := by decide +kernel
theorem dX0_isFree_25 : decode cX0_isFree 25 = .ok (.iload_n 1, 1) := by decide +kernel
theorem dX0_isFree_26 : decode cX0_isFree 26 = .ok (.imul, 1) := by decide +kernel
theorem dX0_isFree_27 : decode cX0_isFree 27 = .ok (.iaload, 1) := by decide +kernel
theorem dX0_isFree_28 : decode cX0_isFree 28 = .ok (.ifCond .eq 5, 3) := by decide +kernel
theorem dX0_isFree_31 : decode cX0_isFree 31 = .ok (.iconst 0, 1) := by decide +kernel
theorem dX0_isFree_32 : decode cX0_isFree 32 = .ok (.ireturn, 1) := by decide +kernel
theorem dX0_isFree_33 : decode cX0_isFree 33 = .ok (.iinc 2 1, 3) := by decide +kernel
theorem dX0_isFree_36 : decode cX0_isFree 36 = .ok (.goto (-34), 3) := by decide +kernel
theorem dX0_isFree_39 : decode cX0_isFree 39 = .ok (.iconst 1, 1) := by decide +kernel
theorem dX0_isFree_40 : decode cX0_isFree 40 = .ok (.ireturn, 1) := by decide +kernel
end
section
theorem dX1_init_0 : decode cX1_init 0 = .ok (.aload_n 0, 1) := by decide +kernel
theorem dX1_init_1 : decode cX1_init 1 = .ok (.invokespecial 3, 3) := by decide +kernel
theorem dX1_init_4 : decode cX1_init 4 = .ok (.aload_n 0, 1) := by decide +kernel
theorem dX1_init_5 : decode cX1_init 5 = .ok (.bipush 9, 2) := by decide +kernel
theorem dX1_init_7 : decode cX1_init 7 = .ok (.newarray .int, 2) := by decide +kernel
theorem dX1_init_9 : decode cX1_init 9 = .ok (.dup, 1) := by decide +kernel
theorem dX1_init_10 : decode cX1_init 10 = .ok (.iconst 0, 1) := by decide +kernel
theorem dX1_init_11 : decode cX1_init 11 = .ok (.iconst 1, 1) := by decide +kernel
theorem dX1_init_12 : decode cX1_init 12 = .ok (.iastore, 1) := by decide +kernel
theorem dX1_init_13 : decode cX1_init 13 = .ok (.dup, 1) := by decide +kernel
theorem dX1_init_14 : decode cX1_init 14 = .ok (.iconst 1, 1) := by decide +kernel
theorem dX1_init_15 : decode cX1_init 15 = .ok (.iconst 1, 1) := by decide +kernel
theorem dX1_init_16 : decode cX1_init 16 = .ok (.iastore, 1) := by decide +kernel
theorem dX1_init_17 : decode cX1_init 17 = .ok (.dup, 1) := by decide +kernel
theorem dX1_init_18 : decode cX1_init 18 = .ok (.iconst 2, 1) := by decide +kernel
theorem dX1_init_19 : decode cX1_init 19 = .ok (.iconst 1, 1) := by decide +kernel
theorem dX1_init_20 : decode cX1_init 20 = .ok (.iastore, 1) := by decide +kernel
theorem dX1_init_21 : decode cX1_init 21 = .ok (.dup, 1) := by decide +kernel
theorem dX1_init_22 : decode cX1_init 22 = .ok (.iconst 3, 1) := by decide +kernel
theorem dX1_init_23 : decode cX1_init 23 = .ok (.iconst 1, 1) := by decide +kernel
theorem dX1_init_24 : decode cX1_init 24 = .ok (.iastore, 1) := by decide +kernel
theorem dX1_init_25 : decode cX1_init 25 = .ok (.dup, 1) := by decide +kernel
theorem dX1_init_26 : decode cX1_init 26 = .ok (.iconst 4, 1) := by decide +kernel
theorem dX1_init_27 : decode cX1_init 27 = .ok (.iconst 0, 1) := by decide +kernel
theorem dX1_init_28 : decode cX1_init 28 = .ok (.iastore, 1) := by decide +kernel
theorem dX1_init_29 : decode cX1_init 29 = .ok (.dup, 1) := by decide +kernel
theorem dX1_init_30 : decode cX1_init 30 = .ok (.iconst 5, 1) := by decide +kernel
theorem dX1_init_31 : decode cX1_init 31 = .ok (.iconst 0, 1) := by decide +kernel
theorem dX1_init_32 : decode cX1_init 32 = .ok (.iastore, 1) := by decide +kernel
theorem dX1_init_33 : decode cX1_init 33 = .ok (.dup, 1) := by decide +kernel
theorem dX1_init_34 : decode cX1_init 34 = .ok (.bipush 6, 2) := by decide +kernel
theorem dX1_init_36 : decode cX1_init 36 = .ok (.iconst 0, 1) := by decide +kernel
theorem dX1_init_37 : decode cX1_init 37 = .ok (.iastore, 1) := by decide +kernel
theorem dX1_init_38 : decode cX1_init 38 = .ok (.dup, 1) := by decide +kernel
theorem dX1_init_39 : decode cX1_init 39 = .ok (.bipush 7, 2) := by decide +kernel
theorem dX1_init_41 : decode cX1_init 41 = .ok (.iconst 0, 1) := by decide +kernel
theorem dX1_init_42 : decode cX1_init 42 = .ok (.iastore, 1) := by decide +kernel
theorem dX1_init_43 : decode cX1_init 43 = .ok (.dup, 1) := by decide +kernel
theorem dX1_init_44 : decode cX1_init 44 = .ok (.bipush 8, 2) := by decide +kernel
theorem dX1_init_46 : decode cX1_init 46 = .ok (.iconst 0, 1) := by decide +kernel
theorem dX1_init_47 : decode cX1_init 47 = .ok (.iastore, 1) := by decide +kernel
theorem dX1_init_48 : decode cX1_init 48 = .ok (.putfield 9, 3) := by decide +kernel
theorem dX1_init_51 : decode cX1_init 51 = .ok (.aload_n 0, 1) := by decide +kernel
theorem dX1_init_52 : decode cX1_init 52 = .ok (.iconst 1, 1) := by decide +kernel
theorem dX1_init_53 : decode cX1_init 53 = .ok (.putfield 15, 3) := by decide +kernel
theorem dX1_init_56 : decode cX1_init 56 = .ok (.return_, 1) := by decide +kernel
theorem dX1_put_0 : decode cX1_put 0 = .ok (.aload_n 0, 1) := by decide +kernel
theorem dX1_put_1 : decode cX1_put 1 = .ok (.getfield 9, 3) := by decide +kernel
theorem dX1_put_4 : decode cX1_put 4 = .ok (.iconst 3, 1) := by decide +kernel
theorem dX1_put_5 : decode cX1_put 5 = .ok (.iload_n 1, 1) := by decide +kernel
theorem dX1_put_6 : decode cX1_put 6 = .ok (.imul, 1) := by decide +kernel
theorem dX1_put_7 : decode cX1_put 7 = .ok (.iload_n 2, 1) := by decide +kernel
theorem dX1_put_8 : decode cX1_put 8 = .ok (.iastore, 1) := by decide +kernel
theorem dX1_put_9 : decode cX1_put 9 = .ok (.aload_n 0, 1) := by decide +kernel
theorem dX1_put_10 : decode cX1_put 10 = .ok (.getfield 9, 3) := by decide +kernel
theorem dX1_put_13 : decode cX1_put 13 = .ok (.iconst 3, 1) := by decide +kernel
theorem dX1_put_14 : decode cX1_put 14 = .ok (.iload_n 1, 1) := by decide +kernel
theorem dX1_put_15 : decode cX1_put 15 = .ok (.imul, 1) := by decide +kernel
theorem dX1_put_16 : decode cX1_put 16 = .ok (.iconst 1, 1) := by decide +kernel
theorem dX1_put_17 : decode cX1_put 17 = .ok (.iadd, 1) := by decide +kernel
theorem dX1_put_18 : decode cX1_put 18 = .ok (.iload_n 3, 1) := by decide +kernel
theorem dX1_put_19 : decode cX1_put 19 = .ok (.iastore, 1) := by decide +kernel
theorem dX1_put_20 : decode cX1_put 20 = .ok (.aload_n 0, 1) := by decide +kernel
theorem dX1_put_21 : decode cX1_put 21 = .ok (.getfield 9, 3) := by decide +kernel
theorem dX1_put_24 : decode cX1_put 24 = .ok (.iconst 3, 1) := by decide +kernel
theorem dX1_put_25 : decode cX1_put 25 = .ok (.iload_n 1, 1) := by decide +kernel
theorem dX1_put_26 : decode cX1_put 26 = .ok (.imul, 1) := by decide +kernel
theorem dX1_put_27 : decode cX1_put 27 = .ok (.iconst 2, 1) := by decide +kernel
theorem dX1_put_28 : decode cX1_put 28 = .ok (.iadd, 1) := by decide +kernel
theorem dX1_put_29 : decode cX1_put 29 = .ok (.iload 4, 2) := by decide +kernel
theorem dX1_put_31 : decode cX1_put 31 = .ok (.iastore, 1) := by decide +kernel
theorem dX1_put_32 : decode cX1_put 32 = .ok (.return_, 1) := by decide +kernel
theorem dX1_takeNumbers_0 : decode cX1_takeNumbers 0 = .ok (.aload_n 1, 1) := by decide +kernel
theorem dX1_takeNumbers_1 : decode cX1_takeNumbers 1 = .ok (.getfield 9, 3) := by decide +kernel
theorem dX1_takeNumbers_4 : decode cX1_takeNumbers 4 = .ok (.iconst 0, 1) := by decide +kernel
theorem dX1_takeNumbers_5 : decode cX1_takeNumbers 5 = .ok (.aload_n 0, 1) := by decide +kernel
theorem dX1_takeNumbers_6 : decode cX1_takeNumbers 6 = .ok (.getfield 9, 3) := by decide +kernel
theorem dX1_takeNumbers_9 : decode cX1_takeNumbers 9 = .ok (.iconst 0, 1) := by decide +kernel
theorem dX1_takeNumbers_10 : decode cX1_takeNumbers 10 = .ok (.aload_n 0, 1) := by decide +kernel
theorem dX1_takeNumbers_11 : decode cX1_takeNumbers 11 = .ok (.getfield 9, 3) := by decide +kernel
theorem dX1_takeNumbers_14 : decode cX1_takeNumbers 14 = .ok (.arraylength, 1) := by decide +kernel
theorem dX1_takeNumbers_15 : decode cX1_takeNumbers 15 = .ok (.invokestatic 19, 3) := by decide +kernel
theorem dX1_takeNumbers_18 : decode cX1_takeNumbers 18 = .ok (.return_, 1) := by decide +kernel
theorem dX1_times_0 : decode cX1_times 0 = .ok (.iconst 3, 1) := by decide +kernel
theorem dX1_times_1 : decode cX1_times 1 = .ok (.iload_n 1, 1) := by decide +kernel
theorem dX1_times_2 : decode cX1_times 2 = .ok (.imul, 1) := by decide +kernel
theorem dX1_times_3 : decode cX1_times 3 = .ok (.istore 5, 2) := by decide +kernel
theorem dX1_times_5 : decode cX1_times 5 = .ok (.aload_n 0, 1) := by decide +kernel
theorem dX1_times_6 : decode cX1_times 6 = .ok (.getfield 9, 3) := by decide +kernel
theorem dX1_times_9 : decode cX1_times 9 = .ok (.iload 5, 2) := by decide +kernel
theorem dX1_times_11 : decode cX1_times 11 = .ok (.iaload, 1) := by decide +kernel
theorem dX1_times_12 : decode cX1_times 12 = .ok (.iload_n 2, 1) := by decide +kernel
theorem dX1_times_13 : decode cX1_times 13 = .ok (.imul, 1) := by decide +kernel
theorem dX1_times_14 : decode cX1_times 14 = .ok (.aload_n 0, 1) := by decide +kernel
theorem dX1_times_15 : decode cX1_times 15 = .ok (.getfield 9, 3) := by decide +kernel
theorem dX1_times_18 : decode cX1_times 18 = .ok (.iload 5, 2) := by decide +kernel
theorem dX1_times_20 : decode cX1_times 20 = .ok (.iconst 1, 1) := by decide +kernel
theorem dX1_times_21 : decode cX1_times 21 = .ok (.iadd, 1) := by decide +kernel
theorem dX1_times_22 : decode cX1_times 22 = .ok (.iaload, 1) := by decide +kernel
theorem dX1_times_23 : decode cX1_times 23 = .ok (.iload_n 3, 1) := by decide +kernel
theorem dX1_times_24 : decode cX1_times 24 = .ok (.imul, 1) := by decide +kernel
theorem dX1_times_25 : decode cX1_times 25 = .ok (.iadd, 1) := by decide +kernel
theorem dX1_times_26 : decode cX1_times 26 = .ok (.aload_n 0, 1) := by decide +kernel
theorem dX1_times_27 : decode cX1_times 27 = .ok (.getfield 9, 3) := by decide +kernel
theorem dX1_times_30 : decode cX1_times 30 = .ok (.iload 5, 2) := by decide +kernel
theorem dX1_times_32 : decode cX1_times 32 = .ok (.iconst 2, 1) := by decide +kernel
theorem dX1_times_33 : decode cX1_times 33 = .ok (.iadd, 1) := by decide +kernel
theorem dX1_times_34 : decode cX1_times 34 = .ok (.iaload, 1) := by decide +kernel
theorem dX1_times_35 : decode cX1_times 35 = .ok (.iload 4, 2) := by decide +kernel
theorem dX1_times_37 : decode cX1_times 37 = .ok (.imul, 1) := by decide +kernel
theorem dX1_times_38 : decode cX1_times 38 = .ok (.iadd, 1) := by decide +kernel
theorem dX1_times_39 : decode cX1_times 39 = .ok (.ireturn, 1) := by decide +kernel
theorem dX1_timesCode_0 : decode cX1_timesCode 0 = .ok (.aload_n 0, 1) := by decide +kernel
theorem dX1_timesCode_1 : decode cX1_timesCode 1 = .ok (.iload_n 1, 1) := by decide +kernel
theorem dX1_timesCode_2 : decode cX1_timesCode 2 = .ok (.iload_n 2, 1) := by decide +kernel
theorem dX1_timesCode_3 : decode cX1_timesCode 3 = .ok (.bipush 6, 2) := by decide +kernel
theorem dX1_timesCode_5 : decode cX1_timesCode 5 = .ok (.ishr, 1) := by decide +kernel
theorem dX1_timesCode_6 : decode cX1_timesCode 6 = .ok (.iload_n 2, 1) := by decide +kernel
theorem dX1_timesCode_7 : decode cX1_timesCode 7 = .ok (.iconst 3, 1) := by decide +kernel
theorem dX1_timesCode_8 : decode cX1_timesCode 8 = .ok (.ishr, 1) := by decide +kernel
theorem dX1_timesCode_9 : decode cX1_timesCode 9 = .ok (.bipush 7, 2) := by decide +kernel
theorem dX1_timesCode_11 : decode cX1_timesCode 11 = .ok (.iand, 1) := by decide +kernel
theorem dX1_timesCode_12 : decode cX1_timesCode 12 = .ok (.iload_n 2, 1) := by decide +kernel
theorem dX1_timesCode_13 : decode cX1_timesCode 13 = .ok (.bipush 7, 2) := by decide +kernel
theorem dX1_timesCode_15 : decode cX1_timesCode 15 = .ok (.iand, 1) := by decide +kernel
theorem dX1_timesCode_16 : decode cX1_timesCode 16 = .ok (.invokevirtual 25, 3) := by decide +kernel
theorem dX1_timesCode_19 : decode cX1_timesCode 19 = .ok (.ireturn, 1) := by decide +kernel
theorem dX1_least_0 : decode cX1_least 0 = .ok (.iconst 0, 1) := by decide +kernel
theorem dX1_least_1 : decode cX1_least 1 = .ok (.istore_n 3, 1) := by decide +kernel
theorem dX1_least_2 : decode cX1_least 2 = .ok (.iconst 0, 1) := by decide +kernel
theorem dX1_least_3 : decode cX1_least 3 = .ok (.istore 4, 2) := by decide +kernel
theorem dX1_least_5 : decode cX1_least 5 = .ok (.iload 4, 2) := by decide +kernel
theorem dX1_least_7 : decode cX1_least 7 = .ok (.iconst 3, 1) := by decide +kernel
theorem dX1_least_8 : decode cX1_least 8 = .ok (.if_icmp .ge 37, 3) := by decide +kernel
theorem dX1_least_11 : decode cX1_least 11 = .ok (.iload_n 3, 1) := by decide +kernel
theorem dX1_least_12 : decode cX1_least 12 = .ok (.iconst 0, 1) := by decide +kernel
theorem dX1_least_13 : decode cX1_least 13 = .ok (.aload_n 0, 1) := by decide +kernel
theorem dX1_least_14 : decode cX1_least 14 = .ok (.getfield 9, 3) := by decide +kernel
theorem dX1_least_17 : decode cX1_least 17 = .ok (.iconst 3, 1) := by decide +kernel
theorem dX1_least_18 : decode cX1_least 18 = .ok (.iload_n 1, 1) := by decide +kernel
theorem dX1_least_19 : decode cX1_least 19 = .ok (.imul, 1) := by decide +kernel
theorem dX1_least_20 : decode cX1_least 20 = .ok (.iload 4, 2) := by decide +kernel
theorem dX1_least_22 : decode cX1_least 22 = .ok (.iadd, 1) := by decide +kernel
theorem dX1_least_23 : decode cX1_least 23 = .ok (.iaload, 1) := by decide +kernel
theorem dX1_least_24 : decode cX1_least 24 = .ok (.aload_n 2, 1) := by decide +kernel
theorem dX1_least_25 : decode cX1_least 25 = .ok (.getfield 29, 3) := by decide +kernel
theorem dX1_least_28 : decode cX1_least 28 = .ok (.iload 4, 2) := by decide +kernel
theorem dX1_least_30 : decode cX1_least 30 = .ok (.iaload, 1) := by decide +kernel
theorem dX1_least_31 : decode cX1_least 31 = .ok (.iconst 1, 1) := by decide +kernel
theorem dX1_least_32 : decode cX1_least 32 = .ok (.isub, 1) := by decide +kernel
theorem dX1_least_33 : decode cX1_least 33 = .ok (.imul, 1) := by decide +kernel
theorem dX1_least_34 : decode cX1_least 34 = .ok (.invokestatic 34, 3) := by decide +kernel
theorem dX1_least_37 : decode cX1_least 37 = .ok (.iadd, 1) := by decide +kernel
theorem dX1_least_38 : decode cX1_least 38 = .ok (.istore_n 3, 1) := by decide +kernel
theorem dX1_least_39 : decode cX1_least 39 = .ok (.iinc 4 1, 3) := by decide +kernel
theorem dX1_least_42 : decode cX1_least 42 = .ok (.goto (-37), 3) := by decide +kernel
theorem dX1_least_45 : decode cX1_least 45 = .ok (.iload_n 3, 1) := by decide +kernel
theorem dX1_least_46 : decode cX1_least 46 = .ok (.ireturn, 1) := by decide +kernel
theorem dX1_beatsUnfolded_0 : decode cX1_beatsUnfolded 0 = .ok (.iconst 0, 1) := by decide +kernel
theorem dX1_beatsUnfolded_1 : decode cX1_beatsUnfolded 1 = .ok (.istore_n 2, 1) := by decide +kernel
theorem dX1_beatsUnfolded_2 : decode cX1_beatsUnfolded 2 = .ok (.iconst 0, 1) := by decide +kernel
theorem dX1_beatsUnfolded_3 : decode cX1_beatsUnfolded 3 = .ok (.istore_n 3, 1) := by decide +kernel
theorem dX1_beatsUnfolded_4 : decode cX1_beatsUnfolded 4 = .ok (.iload_n 3, 1) := by decide +kernel
theorem dX1_beatsUnfolded_5 : decode cX1_beatsUnfolded 5 = .ok (.iconst 3, 1) := by decide +kernel
theorem dX1_beatsUnfolded_6 : decode cX1_beatsUnfolded 6 = .ok (.if_icmp .ge 30, 3) := by decide +kernel
theorem dX1_beatsUnfolded_9 : decode cX1_beatsUnfolded 9 = .ok (.iload_n 2, 1) := by decide +kernel
theorem dX1_beatsUnfolded_10 : decode cX1_beatsUnfolded 10 = .ok (.aload_n 0, 1) := by decide +kernel
theorem dX1_beatsUnfolded_11 : decode cX1_beatsUnfolded 11 = .ok (.getfield 9, 3) := by decide +kernel
theorem dX1_beatsUnfolded_14 : decode cX1_beatsUnfolded 14 = .ok (.iload_n 3, 1) := by decide +kernel
theorem dX1_beatsUnfolded_15 : decode cX1_beatsUnfolded 15 = .ok (.iaload, 1) := by decide +kernel
theorem dX1_beatsUnfolded_16 : decode cX1_beatsUnfolded 16 = .ok (.invokestatic 40, 3) := by decide +kernel
theorem dX1_beatsUnfolded_19 : decode cX1_beatsUnfolded 19 = .ok (.aload_n 1, 1) := by decide +kernel
theorem dX1_beatsUnfolded_20 : decode cX1_beatsUnfolded 20 = .ok (.getfield 29, 3) := by decide +kernel
theorem dX1_beatsUnfolded_23 : decode cX1_beatsUnfolded 23 = .ok (.iload_n 3, 1) := by decide +kernel
theorem dX1_beatsUnfolded_24 : decode cX1_beatsUnfolded 24 = .ok (.iaload, 1) := by decide +kernel
theorem dX1_beatsUnfolded_25 : decode cX1_beatsUnfolded 25 = .ok (.iconst 1, 1) := by decide +kernel
theorem dX1_beatsUnfolded_26 : decode cX1_beatsUnfolded 26 = .ok (.isub, 1) := by decide +kernel
theorem dX1_beatsUnfolded_27 : decode cX1_beatsUnfolded 27 = .ok (.imul, 1) := by decide +kernel
theorem dX1_beatsUnfolded_28 : decode cX1_beatsUnfolded 28 = .ok (.iadd, 1) := by decide +kernel
theorem dX1_beatsUnfolded_29 : decode cX1_beatsUnfolded 29 = .ok (.istore_n 2, 1) := by decide +kernel
theorem dX1_beatsUnfolded_30 : decode cX1_beatsUnfolded 30 = .ok (.iinc 3 1, 3) := by decide +kernel
theorem dX1_beatsUnfolded_33 : decode cX1_beatsUnfolded 33 = .ok (.goto (-29), 3) := by decide +kernel
theorem dX1_beatsUnfolded_36 : decode cX1_beatsUnfolded 36 = .ok (.iload_n 2, 1) := by decide +kernel
theorem dX1_beatsUnfolded_37 : decode cX1_beatsUnfolded 37 = .ok (.iconst 1, 1) := by decide +kernel
theorem dX1_beatsUnfolded_38 : decode cX1_beatsUnfolded 38 = .ok (.iadd, 1) := by decide +kernel
theorem dX1_beatsUnfolded_39 : decode cX1_beatsUnfolded 39 = .ok (.ireturn, 1) := by decide +kernel
theorem dX1_delay_0 : decode cX1_delay 0 = .ok (.aload_n 0, 1) := by decide +kernel
theorem dX1_delay_1 : decode cX1_delay 1 = .ok (.iconst 0, 1) := by decide +kernel
theorem dX1_delay_2 : decode cX1_delay 2 = .ok (.aload_n 1, 1) := by decide +kernel
theorem dX1_delay_3 : decode cX1_delay 3 = .ok (.iload_n 2, 1) := by decide +kernel
theorem dX1_delay_4 : decode cX1_delay 4 = .ok (.invokevirtual 44, 3) := by decide +kernel
theorem dX1_delay_7 : decode cX1_delay 7 = .ok (.ireturn, 1) := by decide +kernel
theorem dX1_way_0 : decode cX1_way 0 = .ok (.aload_n 0, 1) := by decide +kernel
theorem dX1_way_1 : decode cX1_way 1 = .ok (.iconst 1, 1) := by decide +kernel
theorem dX1_way_2 : decode cX1_way 2 = .ok (.aload_n 1, 1) := by decide +kernel
theorem dX1_way_3 : decode cX1_way 3 = .ok (.iload_n 2, 1) := by decide +kernel
theorem dX1_way_4 : decode cX1_way 4 = .ok (.invokevirtual 44, 3) := by decide +kernel
theorem dX1_way_7 : decode cX1_way 7 = .ok (.invokestatic 40, 3) := by decide +kernel
theorem dX1_way_10 : decode cX1_way 10 = .ok (.aload_n 0, 1) := by decide +kernel
theorem dX1_way_11 : decode cX1_way 11 = .ok (.iconst 2, 1) := by decide +kernel
theorem dX1_way_12 : decode cX1_way 12 = .ok (.aload_n 1, 1) := by decide +kernel
theorem dX1_way_13 : decode cX1_way 13 = .ok (.iload_n 2, 1) := by decide +kernel
theorem dX1_way_14 : decode cX1_way 14 = .ok (.invokevirtual 44, 3) := by decide +kernel
theorem dX1_way_17 : decode cX1_way 17 = .ok (.invokestatic 40, 3) := by decide +kernel
theorem dX1_way_20 : decode cX1_way 20 = .ok (.iadd, 1) := by decide +kernel
theorem dX1_way_21 : decode cX1_way 21 = .ok (.ireturn, 1) := by decide +kernel
theorem dX1_timesStep_0 : decode cX1_timesStep 0 = .ok (.iconst 0, 1) := by decide +kernel
theorem dX1_timesStep_1 : decode cX1_timesStep 1 = .ok (.istore 4, 2) := by decide +kernel
theorem dX1_timesStep_3 : decode cX1_timesStep 3 = .ok (.iconst 0, 1) := by decide +kernel
theorem dX1_timesStep_4 : decode cX1_timesStep 4 = .ok (.istore 5, 2) := by decide +kernel
theorem dX1_timesStep_6 : decode cX1_timesStep 6 = .ok (.iload 5, 2) := by decide +kernel
theorem dX1_timesStep_8 : decode cX1_timesStep 8 = .ok (.iconst 3, 1) := by decide +kernel
theorem dX1_timesStep_9 : decode cX1_timesStep 9 = .ok (.if_icmp .ge 37, 3) := by decide +kernel
theorem dX1_timesStep_12 : decode cX1_timesStep 12 = .ok (.iload 4, 2) := by decide +kernel
theorem dX1_timesStep_14 : decode cX1_timesStep 14 = .ok (.aload_n 0, 1) := by decide +kernel
theorem dX1_timesStep_15 : decode cX1_timesStep 15 = .ok (.getfield 9, 3) := by decide +kernel
theorem dX1_timesStep_18 : decode cX1_timesStep 18 = .ok (.iconst 3, 1) := by decide +kernel
theorem dX1_timesStep_19 : decode cX1_timesStep 19 = .ok (.iload_n 1, 1) := by decide +kernel
theorem dX1_timesStep_20 : decode cX1_timesStep 20 = .ok (.imul, 1) := by decide +kernel
theorem dX1_timesStep_21 : decode cX1_timesStep 21 = .ok (.iload 5, 2) := by decide +kernel
theorem dX1_timesStep_23 : decode cX1_timesStep 23 = .ok (.iadd, 1) := by decide +kernel
theorem dX1_timesStep_24 : decode cX1_timesStep 24 = .ok (.iaload, 1) := by decide +kernel
theorem dX1_timesStep_25 : decode cX1_timesStep 25 = .ok (.aload_n 2, 1) := by decide +kernel
theorem dX1_timesStep_26 : decode cX1_timesStep 26 = .ok (.getfield 48, 3) := by decide +kernel
theorem dX1_timesStep_29 : decode cX1_timesStep 29 = .ok (.iconst 3, 1) := by decide +kernel
theorem dX1_timesStep_30 : decode cX1_timesStep 30 = .ok (.iload_n 3, 1) := by decide +kernel
theorem dX1_timesStep_31 : decode cX1_timesStep 31 = .ok (.imul, 1) := by decide +kernel
theorem dX1_timesStep_32 : decode cX1_timesStep 32 = .ok (.iload 5, 2) := by decide +kernel
theorem dX1_timesStep_34 : decode cX1_timesStep 34 = .ok (.iadd, 1) := by decide +kernel
theorem dX1_timesStep_35 : decode cX1_timesStep 35 = .ok (.iaload, 1) := by decide +kernel
theorem dX1_timesStep_36 : decode cX1_timesStep 36 = .ok (.imul, 1) := by decide +kernel
theorem dX1_timesStep_37 : decode cX1_timesStep 37 = .ok (.iadd, 1) := by decide +kernel
theorem dX1_timesStep_38 : decode cX1_timesStep 38 = .ok (.istore 4, 2) := by decide +kernel
theorem dX1_timesStep_40 : decode cX1_timesStep 40 = .ok (.iinc 5 1, 3) := by decide +kernel
theorem dX1_timesStep_43 : decode cX1_timesStep 43 = .ok (.goto (-37), 3) := by decide +kernel
theorem dX1_timesStep_46 : decode cX1_timesStep 46 = .ok (.iload 4, 2) := by decide +kernel
theorem dX1_timesStep_48 : decode cX1_timesStep 48 = .ok (.ireturn, 1) := by decide +kernel
theorem dX1_tooEarly_0 : decode cX1_tooEarly 0 = .ok (.iconst 0, 1) := by decide +kernel
theorem dX1_tooEarly_1 : decode cX1_tooEarly 1 = .ok (.istore_n 2, 1) := by decide +kernel
theorem dX1_tooEarly_2 : decode cX1_tooEarly 2 = .ok (.iload_n 2, 1) := by decide +kernel
theorem dX1_tooEarly_3 : decode cX1_tooEarly 3 = .ok (.aload_n 1, 1) := by decide +kernel
theorem dX1_tooEarly_4 : decode cX1_tooEarly 4 = .ok (.getfield 51, 3) := by decide +kernel
theorem dX1_tooEarly_7 : decode cX1_tooEarly 7 = .ok (.if_icmp .ge 29, 3) := by decide +kernel
theorem dX1_tooEarly_10 : decode cX1_tooEarly 10 = .ok (.aload_n 1, 1) := by decide +kernel
theorem dX1_tooEarly_11 : decode cX1_tooEarly 11 = .ok (.iload_n 2, 1) := by decide +kernel
theorem dX1_tooEarly_12 : decode cX1_tooEarly 12 = .ok (.invokevirtual 54, 3) := by decide +kernel
theorem dX1_tooEarly_15 : decode cX1_tooEarly 15 = .ok (.ifCond .eq 15, 3) := by decide +kernel
theorem dX1_tooEarly_18 : decode cX1_tooEarly 18 = .ok (.aload_n 0, 1) := by decide +kernel
theorem dX1_tooEarly_19 : decode cX1_tooEarly 19 = .ok (.aload_n 1, 1) := by decide +kernel
theorem dX1_tooEarly_20 : decode cX1_tooEarly 20 = .ok (.iload_n 2, 1) := by decide +kernel
theorem dX1_tooEarly_21 : decode cX1_tooEarly 21 = .ok (.invokevirtual 58, 3) := by decide +kernel
theorem dX1_tooEarly_24 : decode cX1_tooEarly 24 = .ok (.iconst 1, 1) := by decide +kernel
theorem dX1_tooEarly_25 : decode cX1_tooEarly 25 = .ok (.if_icmp .ge 5, 3) := by decide +kernel
theorem dX1_tooEarly_28 : decode cX1_tooEarly 28 = .ok (.iload_n 2, 1) := by decide +kernel
theorem dX1_tooEarly_29 : decode cX1_tooEarly 29 = .ok (.ireturn, 1) := by decide +kernel
theorem dX1_tooEarly_30 : decode cX1_tooEarly 30 = .ok (.iinc 2 1, 3) := by decide +kernel
theorem dX1_tooEarly_33 : decode cX1_tooEarly 33 = .ok (.goto (-31), 3) := by decide +kernel
theorem dX1_tooEarly_36 : decode cX1_tooEarly 36 = .ok (.iconst (-1), 1) := by decide +kernel
theorem dX1_tooEarly_37 : decode cX1_tooEarly 37 = .ok (.ireturn, 1) := by decide +kernel
theorem dX1_tooFar_0 : decode cX1_tooFar 0 = .ok (.iconst 0, 1) := by decide +kernel
theorem dX1_tooFar_1 : decode cX1_tooFar 1 = .ok (.istore_n 2, 1) := by decide +kernel
theorem dX1_tooFar_2 : decode cX1_tooFar 2 = .ok (.iload_n 2, 1) := by decide +kernel
theorem dX1_tooFar_3 : decode cX1_tooFar 3 = .ok (.aload_n 1, 1) := by decide +kernel
theorem dX1_tooFar_4 : decode cX1_tooFar 4 = .ok (.getfield 51, 3) := by decide +kernel
theorem dX1_tooFar_7 : decode cX1_tooFar 7 = .ok (.if_icmp .ge 34, 3) := by decide +kernel
theorem dX1_tooFar_10 : decode cX1_tooFar 10 = .ok (.aload_n 1, 1) := by decide +kernel
theorem dX1_tooFar_11 : decode cX1_tooFar 11 = .ok (.iload_n 2, 1) := by decide +kernel
theorem dX1_tooFar_12 : decode cX1_tooFar 12 = .ok (.invokevirtual 54, 3) := by decide +kernel
theorem dX1_tooFar_15 : decode cX1_tooFar 15 = .ok (.ifCond .eq 20, 3) := by decide +kernel
theorem dX1_tooFar_18 : decode cX1_tooFar 18 = .ok (.aload_n 0, 1) := by decide +kernel
theorem dX1_tooFar_19 : decode cX1_tooFar 19 = .ok (.aload_n 1, 1) := by decide +kernel
theorem dX1_tooFar_20 : decode cX1_tooFar 20 = .ok (.iload_n 2, 1) := by decide +kernel
theorem dX1_tooFar_21 : decode cX1_tooFar 21 = .ok (.invokevirtual 62, 3) := by decide +kernel
theorem dX1_tooFar_24 : decode cX1_tooFar 24 = .ok (.aload_n 0, 1) := by decide +kernel
theorem dX1_tooFar_25 : decode cX1_tooFar 25 = .ok (.aload_n 1, 1) := by decide +kernel
theorem dX1_tooFar_26 : decode cX1_tooFar 26 = .ok (.iload_n 2, 1) := by decide +kernel
theorem dX1_tooFar_27 : decode cX1_tooFar 27 = .ok (.invokevirtual 58, 3) := by decide +kernel
theorem dX1_tooFar_30 : decode cX1_tooFar 30 = .ok (.if_icmp .le 5, 3) := by decide +kernel
theorem dX1_tooFar_33 : decode cX1_tooFar 33 = .ok (.iload_n 2, 1) := by decide +kernel
theorem dX1_tooFar_34 : decode cX1_tooFar 34 = .ok (.ireturn, 1) := by decide +kernel
theorem dX1_tooFar_35 : decode cX1_tooFar 35 = .ok (.iinc 2 1, 3) := by decide +kernel
theorem dX1_tooFar_38 : decode cX1_tooFar 38 = .ok (.goto (-36), 3) := by decide +kernel
theorem dX1_tooFar_41 : decode cX1_tooFar 41 = .ok (.iconst (-1), 1) := by decide +kernel
theorem dX1_tooFar_42 : decode cX1_tooFar 42 = .ok (.ireturn, 1) := by decide +kernel
end
section
theorem dX2_init_0 : decode cX2_init 0 = .ok (.aload_n 0, 1) := by decide +kernel
theorem dX2_init_1 : decode cX2_init 1 = .ok (.invokespecial 3, 3) := by decide +kernel
theorem dX2_init_4 : decode cX2_init 4 = .ok (.aload_n 0, 1) := by decide +kernel
theorem dX2_init_5 : decode cX2_init 5 = .ok (.iconst 0, 1) := by decide +kernel
theorem dX2_init_6 : decode cX2_init 6 = .ok (.putfield 9, 3) := by decide +kernel
theorem dX2_init_9 : decode cX2_init 9 = .ok (.aload_n 0, 1) := by decide +kernel
theorem dX2_init_10 : decode cX2_init 10 = .ok (.sipush 2048, 3) := by decide +kernel
theorem dX2_init_13 : decode cX2_init 13 = .ok (.newarray .int, 2) := by decide +kernel
theorem dX2_init_15 : decode cX2_init 15 = .ok (.putfield 15, 3) := by decide +kernel
theorem dX2_init_18 : decode cX2_init 18 = .ok (.aload_n 0, 1) := by decide +kernel
theorem dX2_init_19 : decode cX2_init 19 = .ok (.sipush 513, 3) := by decide +kernel
theorem dX2_init_22 : decode cX2_init 22 = .ok (.newarray .int, 2) := by decide +kernel
theorem dX2_init_24 : decode cX2_init 24 = .ok (.putfield 19, 3) := by decide +kernel
theorem dX2_init_27 : decode cX2_init 27 = .ok (.aload_n 0, 1) := by decide +kernel
theorem dX2_init_28 : decode cX2_init 28 = .ok (.iconst 0, 1) := by decide +kernel
theorem dX2_init_29 : decode cX2_init 29 = .ok (.putfield 22, 3) := by decide +kernel
theorem dX2_init_32 : decode cX2_init 32 = .ok (.aload_n 0, 1) := by decide +kernel
theorem dX2_init_33 : decode cX2_init 33 = .ok (.sipush 512, 3) := by decide +kernel
theorem dX2_init_36 : decode cX2_init 36 = .ok (.newarray .int, 2) := by decide +kernel
theorem dX2_init_38 : decode cX2_init 38 = .ok (.putfield 26, 3) := by decide +kernel
theorem dX2_init_41 : decode cX2_init 41 = .ok (.aload_n 0, 1) := by decide +kernel
theorem dX2_init_42 : decode cX2_init 42 = .ok (.sipush 513, 3) := by decide +kernel
theorem dX2_init_45 : decode cX2_init 45 = .ok (.newarray .int, 2) := by decide +kernel
theorem dX2_init_47 : decode cX2_init 47 = .ok (.putfield 29, 3) := by decide +kernel
theorem dX2_init_50 : decode cX2_init 50 = .ok (.return_, 1) := by decide +kernel
theorem dX2_work_0 : decode cX2_work 0 = .ok (.aload_n 0, 1) := by decide +kernel
theorem dX2_work_1 : decode cX2_work 1 = .ok (.aload_n 2, 1) := by decide +kernel
theorem dX2_work_2 : decode cX2_work 2 = .ok (.getfield 32, 3) := by decide +kernel
theorem dX2_work_5 : decode cX2_work 5 = .ok (.putfield 22, 3) := by decide +kernel
theorem dX2_work_8 : decode cX2_work 8 = .ok (.aload_n 0, 1) := by decide +kernel
theorem dX2_work_9 : decode cX2_work 9 = .ok (.aload_n 1, 1) := by decide +kernel
theorem dX2_work_10 : decode cX2_work 10 = .ok (.aload_n 2, 1) := by decide +kernel
theorem dX2_work_11 : decode cX2_work 11 = .ok (.invokevirtual 35, 3) := by decide +kernel
theorem dX2_work_14 : decode cX2_work 14 = .ok (.iconst 0, 1) := by decide +kernel
theorem dX2_work_15 : decode cX2_work 15 = .ok (.istore_n 3, 1) := by decide +kernel
theorem dX2_work_16 : decode cX2_work 16 = .ok (.iconst 0, 1) := by decide +kernel
theorem dX2_work_17 : decode cX2_work 17 = .ok (.istore 4, 2) := by decide +kernel
theorem dX2_work_19 : decode cX2_work 19 = .ok (.iload 4, 2) := by decide +kernel
theorem dX2_work_21 : decode cX2_work 21 = .ok (.aload_n 0, 1) := by decide +kernel
theorem dX2_work_22 : decode cX2_work 22 = .ok (.getfield 22, 3) := by decide +kernel
theorem dX2_work_25 : decode cX2_work 25 = .ok (.if_icmp .ge 56, 3) := by decide +kernel
theorem dX2_work_28 : decode cX2_work 28 = .ok (.aload_n 0, 1) := by decide +kernel
theorem dX2_work_29 : decode cX2_work 29 = .ok (.getfield 29, 3) := by decide +kernel
theorem dX2_work_32 : decode cX2_work 32 = .ok (.iload 4, 2) := by decide +kernel
theorem dX2_work_34 : decode cX2_work 34 = .ok (.iaload, 1) := by decide +kernel
theorem dX2_work_35 : decode cX2_work 35 = .ok (.istore 5, 2) := by decide +kernel
theorem dX2_work_37 : decode cX2_work 37 = .ok (.iload 5, 2) := by decide +kernel
theorem dX2_work_39 : decode cX2_work 39 = .ok (.aload_n 0, 1) := by decide +kernel
theorem dX2_work_40 : decode cX2_work 40 = .ok (.getfield 29, 3) := by decide +kernel
theorem dX2_work_43 : decode cX2_work 43 = .ok (.iload 4, 2) := by decide +kernel
theorem dX2_work_45 : decode cX2_work 45 = .ok (.iconst 1, 1) := by decide +kernel
theorem dX2_work_46 : decode cX2_work 46 = .ok (.iadd, 1) := by decide +kernel
theorem dX2_work_47 : decode cX2_work 47 = .ok (.iaload, 1) := by decide +kernel
theorem dX2_work_48 : decode cX2_work 48 = .ok (.if_icmp .ge 27, 3) := by decide +kernel
theorem dX2_work_51 : decode cX2_work 51 = .ok (.aload_n 1, 1) := by decide +kernel
theorem dX2_work_52 : decode cX2_work 52 = .ok (.aload_n 0, 1) := by decide +kernel
theorem dX2_work_53 : decode cX2_work 53 = .ok (.getfield 15, 3) := by decide +kernel
theorem dX2_work_56 : decode cX2_work 56 = .ok (.aload_n 0, 1) := by decide +kernel
theorem dX2_work_57 : decode cX2_work 57 = .ok (.getfield 26, 3) := by decide +kernel
theorem dX2_work_60 : decode cX2_work 60 = .ok (.iload 5, 2) := by decide +kernel
theorem dX2_work_62 : decode cX2_work 62 = .ok (.iaload, 1) := by decide +kernel
theorem dX2_work_63 : decode cX2_work 63 = .ok (.invokevirtual 39, 3) := by decide +kernel
theorem dX2_work_66 : decode cX2_work 66 = .ok (.iinc 3 1, 3) := by decide +kernel
theorem dX2_work_69 : decode cX2_work 69 = .ok (.iinc 5 1, 3) := by decide +kernel
theorem dX2_work_72 : decode cX2_work 72 = .ok (.goto (-35), 3) := by decide +kernel
theorem dX2_work_75 : decode cX2_work 75 = .ok (.iinc 4 1, 3) := by decide +kernel
theorem dX2_work_78 : decode cX2_work 78 = .ok (.goto (-59), 3) := by decide +kernel
theorem dX2_work_81 : decode cX2_work 81 = .ok (.aload_n 0, 1) := by decide +kernel
theorem dX2_work_82 : decode cX2_work 82 = .ok (.aload_n 1, 1) := by decide +kernel
theorem dX2_work_83 : decode cX2_work 83 = .ok (.aload_n 2, 1) := by decide +kernel
theorem dX2_work_84 : decode cX2_work 84 = .ok (.invokevirtual 45, 3) := by decide +kernel
theorem dX2_work_87 : decode cX2_work 87 = .ok (.aload_n 0, 1) := by decide +kernel
theorem dX2_work_88 : decode cX2_work 88 = .ok (.iconst 1, 1) := by decide +kernel
theorem dX2_work_89 : decode cX2_work 89 = .ok (.putfield 9, 3) := by decide +kernel
theorem dX2_work_92 : decode cX2_work 92 = .ok (.iload_n 3, 1) := by decide +kernel
theorem dX2_work_93 : decode cX2_work 93 = .ok (.ireturn, 1) := by decide +kernel
theorem dX2_sortByBeat_0 : decode cX2_sortByBeat 0 = .ok (.aload_n 0, 1) := by decide +kernel
theorem dX2_sortByBeat_1 : decode cX2_sortByBeat 1 = .ok (.getfield 29, 3) := by decide +kernel
theorem dX2_sortByBeat_4 : decode cX2_sortByBeat 4 = .ok (.iconst 0, 1) := by decide +kernel
theorem dX2_sortByBeat_5 : decode cX2_sortByBeat 5 = .ok (.invokestatic 48, 3) := by decide +kernel
theorem dX2_sortByBeat_8 : decode cX2_sortByBeat 8 = .ok (.iconst 0, 1) := by decide +kernel
theorem dX2_sortByBeat_9 : decode cX2_sortByBeat 9 = .ok (.istore_n 3, 1) := by decide +kernel
theorem dX2_sortByBeat_10 : decode cX2_sortByBeat 10 = .ok (.iload_n 3, 1) := by decide +kernel
theorem dX2_sortByBeat_11 : decode cX2_sortByBeat 11 = .ok (.aload_n 1, 1) := by decide +kernel
theorem dX2_sortByBeat_12 : decode cX2_sortByBeat 12 = .ok (.getfield 53, 3) := by decide +kernel
theorem dX2_sortByBeat_15 : decode cX2_sortByBeat 15 = .ok (.if_icmp .ge 29, 3) := by decide +kernel
theorem dX2_sortByBeat_18 : decode cX2_sortByBeat 18 = .ok (.aload_n 0, 1) := by decide +kernel
theorem dX2_sortByBeat_19 : decode cX2_sortByBeat 19 = .ok (.getfield 29, 3) := by decide +kernel
theorem dX2_sortByBeat_22 : decode cX2_sortByBeat 22 = .ok (.aload_n 2, 1) := by decide +kernel
theorem dX2_sortByBeat_23 : decode cX2_sortByBeat 23 = .ok (.getfield 56, 3) := by decide +kernel
theorem dX2_sortByBeat_26 : decode cX2_sortByBeat 26 = .ok (.aload_n 1, 1) := by decide +kernel
theorem dX2_sortByBeat_27 : decode cX2_sortByBeat 27 = .ok (.getfield 59, 3) := by decide +kernel
theorem dX2_sortByBeat_30 : decode cX2_sortByBeat 30 = .ok (.iload_n 3, 1) := by decide +kernel
theorem dX2_sortByBeat_31 : decode cX2_sortByBeat 31 = .ok (.iaload, 1) := by decide +kernel
theorem dX2_sortByBeat_32 : decode cX2_sortByBeat 32 = .ok (.iaload, 1) := by decide +kernel
theorem dX2_sortByBeat_33 : decode cX2_sortByBeat 33 = .ok (.dup2, 1) := by decide +kernel
theorem dX2_sortByBeat_34 : decode cX2_sortByBeat 34 = .ok (.iaload, 1) := by decide +kernel
theorem dX2_sortByBeat_35 : decode cX2_sortByBeat 35 = .ok (.iconst 1, 1) := by decide +kernel
theorem dX2_sortByBeat_36 : decode cX2_sortByBeat 36 = .ok (.iadd, 1) := by decide +kernel
theorem dX2_sortByBeat_37 : decode cX2_sortByBeat 37 = .ok (.iastore, 1) := by decide +kernel
theorem dX2_sortByBeat_38 : decode cX2_sortByBeat 38 = .ok (.iinc 3 1, 3) := by decide +kernel
theorem dX2_sortByBeat_41 : decode cX2_sortByBeat 41 = .ok (.goto (-31), 3) := by decide +kernel
theorem dX2_sortByBeat_44 : decode cX2_sortByBeat 44 = .ok (.iconst 1, 1) := by decide +kernel
theorem dX2_sortByBeat_45 : decode cX2_sortByBeat 45 = .ok (.istore_n 3, 1) := by decide +kernel
theorem dX2_sortByBeat_46 : decode cX2_sortByBeat 46 = .ok (.iload_n 3, 1) := by decide +kernel
theorem dX2_sortByBeat_47 : decode cX2_sortByBeat 47 = .ok (.aload_n 0, 1) := by decide +kernel
theorem dX2_sortByBeat_48 : decode cX2_sortByBeat 48 = .ok (.getfield 22, 3) := by decide +kernel
theorem dX2_sortByBeat_51 : decode cX2_sortByBeat 51 = .ok (.if_icmp .gt 26, 3) := by decide +kernel
theorem dX2_sortByBeat_54 : decode cX2_sortByBeat 54 = .ok (.aload_n 0, 1) := by decide +kernel
theorem dX2_sortByBeat_55 : decode cX2_sortByBeat 55 = .ok (.getfield 29, 3) := by decide +kernel
theorem dX2_sortByBeat_58 : decode cX2_sortByBeat 58 = .ok (.iload_n 3, 1) := by decide +kernel
theorem dX2_sortByBeat_59 : decode cX2_sortByBeat 59 = .ok (.dup2, 1) := by decide +kernel
theorem dX2_sortByBeat_60 : decode cX2_sortByBeat 60 = .ok (.iaload, 1) := by decide +kernel
theorem dX2_sortByBeat_61 : decode cX2_sortByBeat 61 = .ok (.aload_n 0, 1) := by decide +kernel
theorem dX2_sortByBeat_62 : decode cX2_sortByBeat 62 = .ok (.getfield 29, 3) := by decide +kernel
theorem dX2_sortByBeat_65 : decode cX2_sortByBeat 65 = .ok (.iload_n 3, 1) := by decide +kernel
theorem dX2_sortByBeat_66 : decode cX2_sortByBeat 66 = .ok (.iconst 1, 1) := by decide +kernel
theorem dX2_sortByBeat_67 : decode cX2_sortByBeat 67 = .ok (.isub, 1) := by decide +kernel
theorem dX2_sortByBeat_68 : decode cX2_sortByBeat 68 = .ok (.iaload, 1) := by decide +kernel
theorem dX2_sortByBeat_69 : decode cX2_sortByBeat 69 = .ok (.iadd, 1) := by decide +kernel
theorem dX2_sortByBeat_70 : decode cX2_sortByBeat 70 = .ok (.iastore, 1) := by decide +kernel
theorem dX2_sortByBeat_71 : decode cX2_sortByBeat 71 = .ok (.iinc 3 1, 3) := by decide +kernel
theorem dX2_sortByBeat_74 : decode cX2_sortByBeat 74 = .ok (.goto (-28), 3) := by decide +kernel
theorem dX2_sortByBeat_77 : decode cX2_sortByBeat 77 = .ok (.aload_n 1, 1) := by decide +kernel
theorem dX2_sortByBeat_78 : decode cX2_sortByBeat 78 = .ok (.getfield 53, 3) := by decide +kernel
theorem dX2_sortByBeat_81 : decode cX2_sortByBeat 81 = .ok (.iconst 1, 1) := by decide +kernel
theorem dX2_sortByBeat_82 : decode cX2_sortByBeat 82 = .ok (.isub, 1) := by decide +kernel
theorem dX2_sortByBeat_83 : decode cX2_sortByBeat 83 = .ok (.istore_n 3, 1) := by decide +kernel
theorem dX2_sortByBeat_84 : decode cX2_sortByBeat 84 = .ok (.iload_n 3, 1) := by decide +kernel
theorem dX2_sortByBeat_85 : decode cX2_sortByBeat 85 = .ok (.ifCond .lt 51, 3) := by decide +kernel
theorem dX2_sortByBeat_88 : decode cX2_sortByBeat 88 = .ok (.aload_n 1, 1) := by decide +kernel
theorem dX2_sortByBeat_89 : decode cX2_sortByBeat 89 = .ok (.getfield 59, 3) := by decide +kernel
theorem dX2_sortByBeat_92 : decode cX2_sortByBeat 92 = .ok (.iload_n 3, 1) := by decide +kernel
theorem dX2_sortByBeat_93 : decode cX2_sortByBeat 93 = .ok (.iaload, 1) := by decide +kernel
theorem dX2_sortByBeat_94 : decode cX2_sortByBeat 94 = .ok (.istore 4, 2) := by decide +kernel
theorem dX2_sortByBeat_96 : decode cX2_sortByBeat 96 = .ok (.aload_n 2, 1) := by decide +kernel
theorem dX2_sortByBeat_97 : decode cX2_sortByBeat 97 = .ok (.getfield 56, 3) := by decide +kernel
theorem dX2_sortByBeat_100 : decode cX2_sortByBeat 100 = .ok (.iload 4, 2) := by decide +kernel
theorem dX2_sortByBeat_102 : decode cX2_sortByBeat 102 = .ok (.iaload, 1) := by decide +kernel
theorem dX2_sortByBeat_103 : decode cX2_sortByBeat 103 = .ok (.istore 5, 2) := by decide +kernel
theorem dX2_sortByBeat_105 : decode cX2_sortByBeat 105 = .ok (.aload_n 0, 1) := by decide +kernel
theorem dX2_sortByBeat_106 : decode cX2_sortByBeat 106 = .ok (.getfield 29, 3) := by decide +kernel
theorem dX2_sortByBeat_109 : decode cX2_sortByBeat 109 = .ok (.iload 5, 2) := by decide +kernel
theorem dX2_sortByBeat_111 : decode cX2_sortByBeat 111 = .ok (.dup2, 1) := by decide +kernel
theorem dX2_sortByBeat_112 : decode cX2_sortByBeat 112 = .ok (.iaload, 1) := by decide +kernel
theorem dX2_sortByBeat_113 : decode cX2_sortByBeat 113 = .ok (.iconst 1, 1) := by decide +kernel
theorem dX2_sortByBeat_114 : decode cX2_sortByBeat 114 = .ok (.isub, 1) := by decide +kernel
theorem dX2_sortByBeat_115 : decode cX2_sortByBeat 115 = .ok (.iastore, 1) := by decide +kernel
theorem dX2_sortByBeat_116 : decode cX2_sortByBeat 116 = .ok (.aload_n 0, 1) := by decide +kernel
theorem dX2_sortByBeat_117 : decode cX2_sortByBeat 117 = .ok (.getfield 26, 3) := by decide +kernel
theorem dX2_sortByBeat_120 : decode cX2_sortByBeat 120 = .ok (.aload_n 0, 1) := by decide +kernel
theorem dX2_sortByBeat_121 : decode cX2_sortByBeat 121 = .ok (.getfield 29, 3) := by decide +kernel
theorem dX2_sortByBeat_124 : decode cX2_sortByBeat 124 = .ok (.iload 5, 2) := by decide +kernel
theorem dX2_sortByBeat_126 : decode cX2_sortByBeat 126 = .ok (.iaload, 1) := by decide +kernel
theorem dX2_sortByBeat_127 : decode cX2_sortByBeat 127 = .ok (.iload 4, 2) := by decide +kernel
theorem dX2_sortByBeat_129 : decode cX2_sortByBeat 129 = .ok (.iastore, 1) := by decide +kernel
theorem dX2_sortByBeat_130 : decode cX2_sortByBeat 130 = .ok (.iinc 3 (-1), 3) := by decide +kernel
theorem dX2_sortByBeat_133 : decode cX2_sortByBeat 133 = .ok (.goto (-49), 3) := by decide +kernel
theorem dX2_sortByBeat_136 : decode cX2_sortByBeat 136 = .ok (.return_, 1) := by decide +kernel
theorem dX2_countHeld_0 : decode cX2_countHeld 0 = .ok (.aload_n 0, 1) := by decide +kernel
theorem dX2_countHeld_1 : decode cX2_countHeld 1 = .ok (.getfield 19, 3) := by decide +kernel
theorem dX2_countHeld_4 : decode cX2_countHeld 4 = .ok (.iconst 0, 1) := by decide +kernel
theorem dX2_countHeld_5 : decode cX2_countHeld 5 = .ok (.invokestatic 48, 3) := by decide +kernel
theorem dX2_countHeld_8 : decode cX2_countHeld 8 = .ok (.iconst 0, 1) := by decide +kernel
theorem dX2_countHeld_9 : decode cX2_countHeld 9 = .ok (.istore_n 3, 1) := by decide +kernel
theorem dX2_countHeld_10 : decode cX2_countHeld 10 = .ok (.iload_n 3, 1) := by decide +kernel
theorem dX2_countHeld_11 : decode cX2_countHeld 11 = .ok (.aload_n 1, 1) := by decide +kernel
theorem dX2_countHeld_12 : decode cX2_countHeld 12 = .ok (.getfield 62, 3) := by decide +kernel
theorem dX2_countHeld_15 : decode cX2_countHeld 15 = .ok (.if_icmp .ge 85, 3) := by decide +kernel
theorem dX2_countHeld_18 : decode cX2_countHeld 18 = .ok (.iconst 0, 1) := by decide +kernel
theorem dX2_countHeld_19 : decode cX2_countHeld 19 = .ok (.istore 4, 2) := by decide +kernel
theorem dX2_countHeld_21 : decode cX2_countHeld 21 = .ok (.iload 4, 2) := by decide +kernel
theorem dX2_countHeld_23 : decode cX2_countHeld 23 = .ok (.aload_n 1, 1) := by decide +kernel
theorem dX2_countHeld_24 : decode cX2_countHeld 24 = .ok (.getfield 53, 3) := by decide +kernel
theorem dX2_countHeld_27 : decode cX2_countHeld 27 = .ok (.if_icmp .ge 67, 3) := by decide +kernel
theorem dX2_countHeld_30 : decode cX2_countHeld 30 = .ok (.aload_n 1, 1) := by decide +kernel
theorem dX2_countHeld_31 : decode cX2_countHeld 31 = .ok (.iload_n 3, 1) := by decide +kernel
theorem dX2_countHeld_32 : decode cX2_countHeld 32 = .ok (.aload_n 1, 1) := by decide +kernel
theorem dX2_countHeld_33 : decode cX2_countHeld 33 = .ok (.getfield 59, 3) := by decide +kernel
theorem dX2_countHeld_36 : decode cX2_countHeld 36 = .ok (.iload 4, 2) := by decide +kernel
theorem dX2_countHeld_38 : decode cX2_countHeld 38 = .ok (.iaload, 1) := by decide +kernel
theorem dX2_countHeld_39 : decode cX2_countHeld 39 = .ok (.iconst 1, 1) := by decide +kernel
theorem dX2_countHeld_40 : decode cX2_countHeld 40 = .ok (.invokevirtual 65, 3) := by decide +kernel
theorem dX2_countHeld_43 : decode cX2_countHeld 43 = .ok (.istore 5, 2) := by decide +kernel
theorem dX2_countHeld_45 : decode cX2_countHeld 45 = .ok (.iload 5, 2) := by decide +kernel
theorem dX2_countHeld_47 : decode cX2_countHeld 47 = .ok (.iconst (-1), 1) := by decide +kernel
theorem dX2_countHeld_48 : decode cX2_countHeld 48 = .ok (.if_icmp .eq 40, 3) := by decide +kernel
theorem dX2_countHeld_51 : decode cX2_countHeld 51 = .ok (.aload_n 0, 1) := by decide +kernel
theorem dX2_countHeld_52 : decode cX2_countHeld 52 = .ok (.getfield 19, 3) := by decide +kernel
theorem dX2_countHeld_55 : decode cX2_countHeld 55 = .ok (.aload_n 2, 1) := by decide +kernel
theorem dX2_countHeld_56 : decode cX2_countHeld 56 = .ok (.getfield 56, 3) := by decide +kernel
theorem dX2_countHeld_59 : decode cX2_countHeld 59 = .ok (.aload_n 1, 1) := by decide +kernel
theorem dX2_countHeld_60 : decode cX2_countHeld 60 = .ok (.getfield 59, 3) := by decide +kernel
theorem dX2_countHeld_63 : decode cX2_countHeld 63 = .ok (.iload 4, 2) := by decide +kernel
theorem dX2_countHeld_65 : decode cX2_countHeld 65 = .ok (.iaload, 1) := by decide +kernel
theorem dX2_countHeld_66 : decode cX2_countHeld 66 = .ok (.iaload, 1) := by decide +kernel
theorem dX2_countHeld_67 : decode cX2_countHeld 67 = .ok (.dup2, 1) := by decide +kernel
theorem dX2_countHeld_68 : decode cX2_countHeld 68 = .ok (.iaload, 1) := by decide +kernel
theorem dX2_countHeld_69 : decode cX2_countHeld 69 = .ok (.iconst 1, 1) := by decide +kernel
theorem dX2_countHeld_70 : decode cX2_countHeld 70 = .ok (.iadd, 1) := by decide +kernel
theorem dX2_countHeld_71 : decode cX2_countHeld 71 = .ok (.iastore, 1) := by decide +kernel
theorem dX2_countHeld_72 : decode cX2_countHeld 72 = .ok (.aload_n 0, 1) := by decide +kernel
theorem dX2_countHeld_73 : decode cX2_countHeld 73 = .ok (.getfield 19, 3) := by decide +kernel
theorem dX2_countHeld_76 : decode cX2_countHeld 76 = .ok (.aload_n 2, 1) := by decide +kernel
theorem dX2_countHeld_77 : decode cX2_countHeld 77 = .ok (.getfield 56, 3) := by decide +kernel
theorem dX2_countHeld_80 : decode cX2_countHeld 80 = .ok (.iload 5, 2) := by decide +kernel
theorem dX2_countHeld_82 : decode cX2_countHeld 82 = .ok (.iaload, 1) := by decide +kernel
theorem dX2_countHeld_83 : decode cX2_countHeld 83 = .ok (.dup2, 1) := by decide +kernel
theorem dX2_countHeld_84 : decode cX2_countHeld 84 = .ok (.iaload, 1) := by decide +kernel
theorem dX2_countHeld_85 : decode cX2_countHeld 85 = .ok (.iconst 1, 1) := by decide +kernel
theorem dX2_countHeld_86 : decode cX2_countHeld 86 = .ok (.isub, 1) := by decide +kernel
theorem dX2_countHeld_87 : decode cX2_countHeld 87 = .ok (.iastore, 1) := by decide +kernel
theorem dX2_countHeld_88 : decode cX2_countHeld 88 = .ok (.iinc 4 1, 3) := by decide +kernel
theorem dX2_countHeld_91 : decode cX2_countHeld 91 = .ok (.goto (-70), 3) := by decide +kernel
theorem dX2_countHeld_94 : decode cX2_countHeld 94 = .ok (.iinc 3 1, 3) := by decide +kernel
theorem dX2_countHeld_97 : decode cX2_countHeld 97 = .ok (.goto (-87), 3) := by decide +kernel
theorem dX2_countHeld_100 : decode cX2_countHeld 100 = .ok (.iconst 1, 1) := by decide +kernel
theorem dX2_countHeld_101 : decode cX2_countHeld 101 = .ok (.istore_n 3, 1) := by decide +kernel
theorem dX2_countHeld_102 : decode cX2_countHeld 102 = .ok (.iload_n 3, 1) := by decide +kernel
theorem dX2_countHeld_103 : decode cX2_countHeld 103 = .ok (.aload_n 0, 1) := by decide +kernel
theorem dX2_countHeld_104 : decode cX2_countHeld 104 = .ok (.getfield 22, 3) := by decide +kernel
theorem dX2_countHeld_107 : decode cX2_countHeld 107 = .ok (.if_icmp .ge 26, 3) := by decide +kernel
theorem dX2_countHeld_110 : decode cX2_countHeld 110 = .ok (.aload_n 0, 1) := by decide +kernel
theorem dX2_countHeld_111 : decode cX2_countHeld 111 = .ok (.getfield 19, 3) := by decide +kernel
theorem dX2_countHeld_114 : decode cX2_countHeld 114 = .ok (.iload_n 3, 1) := by decide +kernel
theorem dX2_countHeld_115 : decode cX2_countHeld 115 = .ok (.dup2, 1) := by decide +kernel
theorem dX2_countHeld_116 : decode cX2_countHeld 116 = .ok (.iaload, 1) := by decide +kernel
theorem dX2_countHeld_117 : decode cX2_countHeld 117 = .ok (.aload_n 0, 1) := by decide +kernel
theorem dX2_countHeld_118 : decode cX2_countHeld 118 = .ok (.getfield 19, 3) := by decide +kernel
theorem dX2_countHeld_121 : decode cX2_countHeld 121 = .ok (.iload_n 3, 1) := by decide +kernel
theorem dX2_countHeld_122 : decode cX2_countHeld 122 = .ok (.iconst 1, 1) := by decide +kernel
theorem dX2_countHeld_123 : decode cX2_countHeld 123 = .ok (.isub, 1) := by decide +kernel
theorem dX2_countHeld_124 : decode cX2_countHeld 124 = .ok (.iaload, 1) := by decide +kernel
theorem dX2_countHeld_125 : decode cX2_countHeld 125 = .ok (.iadd, 1) := by decide +kernel
theorem dX2_countHeld_126 : decode cX2_countHeld 126 = .ok (.iastore, 1) := by decide +kernel
theorem dX2_countHeld_127 : decode cX2_countHeld 127 = .ok (.iinc 3 1, 3) := by decide +kernel
theorem dX2_countHeld_130 : decode cX2_countHeld 130 = .ok (.goto (-28), 3) := by decide +kernel
theorem dX2_countHeld_133 : decode cX2_countHeld 133 = .ok (.return_, 1) := by decide +kernel
theorem dX2_hasBeat_0 : decode cX2_hasBeat 0 = .ok (.aload_n 0, 1) := by decide +kernel
theorem dX2_hasBeat_1 : decode cX2_hasBeat 1 = .ok (.getfield 9, 3) := by decide +kernel
theorem dX2_hasBeat_4 : decode cX2_hasBeat 4 = .ok (.ifCond .eq 19, 3) := by decide +kernel
theorem dX2_hasBeat_7 : decode cX2_hasBeat 7 = .ok (.iload_n 1, 1) := by decide +kernel
theorem dX2_hasBeat_8 : decode cX2_hasBeat 8 = .ok (.ifCond .lt 15, 3) := by decide +kernel
theorem dX2_hasBeat_11 : decode cX2_hasBeat 11 = .ok (.iload_n 1, 1) := by decide +kernel
theorem dX2_hasBeat_12 : decode cX2_hasBeat 12 = .ok (.aload_n 0, 1) := by decide +kernel
theorem dX2_hasBeat_13 : decode cX2_hasBeat 13 = .ok (.getfield 22, 3) := by decide +kernel
theorem dX2_hasBeat_16 : decode cX2_hasBeat 16 = .ok (.if_icmp .ge 7, 3) := by decide +kernel
theorem dX2_hasBeat_19 : decode cX2_hasBeat 19 = .ok (.iconst 1, 1) := by decide +kernel
theorem dX2_hasBeat_20 : decode cX2_hasBeat 20 = .ok (.goto 4, 3) := by decide +kernel
theorem dX2_hasBeat_23 : decode cX2_hasBeat 23 = .ok (.iconst 0, 1) := by decide +kernel
theorem dX2_hasBeat_24 : decode cX2_hasBeat 24 = .ok (.ireturn, 1) := by decide +kernel
theorem dX2_pointAt_0 : decode cX2_pointAt 0 = .ok (.aload_n 0, 1) := by decide +kernel
theorem dX2_pointAt_1 : decode cX2_pointAt 1 = .ok (.getfield 29, 3) := by decide +kernel
theorem dX2_pointAt_4 : decode cX2_pointAt 4 = .ok (.iload_n 2, 1) := by decide +kernel
theorem dX2_pointAt_5 : decode cX2_pointAt 5 = .ok (.iaload, 1) := by decide +kernel
theorem dX2_pointAt_6 : decode cX2_pointAt 6 = .ok (.istore 5, 2) := by decide +kernel
theorem dX2_pointAt_8 : decode cX2_pointAt 8 = .ok (.iload 5, 2) := by decide +kernel
theorem dX2_pointAt_10 : decode cX2_pointAt 10 = .ok (.aload_n 0, 1) := by decide +kernel
theorem dX2_pointAt_11 : decode cX2_pointAt 11 = .ok (.getfield 29, 3) := by decide +kernel
theorem dX2_pointAt_14 : decode cX2_pointAt 14 = .ok (.iload_n 2, 1) := by decide +kernel
theorem dX2_pointAt_15 : decode cX2_pointAt 15 = .ok (.iconst 1, 1) := by decide +kernel
theorem dX2_pointAt_16 : decode cX2_pointAt 16 = .ok (.iadd, 1) := by decide +kernel
theorem dX2_pointAt_17 : decode cX2_pointAt 17 = .ok (.iaload, 1) := by decide +kernel
theorem dX2_pointAt_18 : decode cX2_pointAt 18 = .ok (.if_icmp .ge 44, 3) := by decide +kernel
theorem dX2_pointAt_21 : decode cX2_pointAt 21 = .ok (.aload_n 0, 1) := by decide +kernel
theorem dX2_pointAt_22 : decode cX2_pointAt 22 = .ok (.getfield 26, 3) := by decide +kernel
theorem dX2_pointAt_25 : decode cX2_pointAt 25 = .ok (.iload 5, 2) := by decide +kernel
theorem dX2_pointAt_27 : decode cX2_pointAt 27 = .ok (.iaload, 1) := by decide +kernel
theorem dX2_pointAt_28 : decode cX2_pointAt 28 = .ok (.istore 6, 2) := by decide +kernel
theorem dX2_pointAt_30 : decode cX2_pointAt 30 = .ok (.aload_n 1, 1) := by decide +kernel
theorem dX2_pointAt_31 : decode cX2_pointAt 31 = .ok (.getfield 69, 3) := by decide +kernel
theorem dX2_pointAt_34 : decode cX2_pointAt 34 = .ok (.iload 6, 2) := by decide +kernel
theorem dX2_pointAt_36 : decode cX2_pointAt 36 = .ok (.iaload, 1) := by decide +kernel
theorem dX2_pointAt_37 : decode cX2_pointAt 37 = .ok (.iload_n 3, 1) := by decide +kernel
theorem dX2_pointAt_38 : decode cX2_pointAt 38 = .ok (.if_icmp .ne 18, 3) := by decide +kernel
theorem dX2_pointAt_41 : decode cX2_pointAt 41 = .ok (.aload_n 1, 1) := by decide +kernel
theorem dX2_pointAt_42 : decode cX2_pointAt 42 = .ok (.getfield 72, 3) := by decide +kernel
theorem dX2_pointAt_45 : decode cX2_pointAt 45 = .ok (.iload 6, 2) := by decide +kernel
theorem dX2_pointAt_47 : decode cX2_pointAt 47 = .ok (.iaload, 1) := by decide +kernel
theorem dX2_pointAt_48 : decode cX2_pointAt 48 = .ok (.iload 4, 2) := by decide +kernel
theorem dX2_pointAt_50 : decode cX2_pointAt 50 = .ok (.if_icmp .ne 6, 3) := by decide +kernel
theorem dX2_pointAt_53 : decode cX2_pointAt 53 = .ok (.iload 6, 2) := by decide +kernel
theorem dX2_pointAt_55 : decode cX2_pointAt 55 = .ok (.ireturn, 1) := by decide +kernel
theorem dX2_pointAt_56 : decode cX2_pointAt 56 = .ok (.iinc 5 1, 3) := by decide +kernel
theorem dX2_pointAt_59 : decode cX2_pointAt 59 = .ok (.goto (-51), 3) := by decide +kernel
theorem dX2_pointAt_62 : decode cX2_pointAt 62 = .ok (.iconst (-1), 1) := by decide +kernel
theorem dX2_pointAt_63 : decode cX2_pointAt 63 = .ok (.ireturn, 1) := by decide +kernel
end
section
theorem dX3_init_0 : decode cX3_init 0 = .ok (.aload_n 0, 1) := by decide +kernel
theorem dX3_init_1 : decode cX3_init 1 = .ok (.invokespecial 3, 3) := by decide +kernel
theorem dX3_init_4 : decode cX3_init 4 = .ok (.aload_n 0, 1) := by decide +kernel
theorem dX3_init_5 : decode cX3_init 5 = .ok (.new 9, 3) := by decide +kernel
theorem dX3_init_8 : decode cX3_init 8 = .ok (.dup, 1) := by decide +kernel
theorem dX3_init_9 : decode cX3_init 9 = .ok (.invokespecial 11, 3) := by decide +kernel
theorem dX3_init_12 : decode cX3_init 12 = .ok (.putfield 12, 3) := by decide +kernel
theorem dX3_init_15 : decode cX3_init 15 = .ok (.aload_n 0, 1) := by decide +kernel
theorem dX3_init_16 : decode cX3_init 16 = .ok (.iconst 0, 1) := by decide +kernel
theorem dX3_init_17 : decode cX3_init 17 = .ok (.putfield 18, 3) := by decide +kernel
theorem dX3_init_20 : decode cX3_init 20 = .ok (.aload_n 0, 1) := by decide +kernel
theorem dX3_init_21 : decode cX3_init 21 = .ok (.iconst 0, 1) := by decide +kernel
theorem dX3_init_22 : decode cX3_init 22 = .ok (.putfield 22, 3) := by decide +kernel
theorem dX3_init_25 : decode cX3_init 25 = .ok (.aload_n 0, 1) := by decide +kernel
theorem dX3_init_26 : decode cX3_init 26 = .ok (.iconst 0, 1) := by decide +kernel
theorem dX3_init_27 : decode cX3_init 27 = .ok (.putfield 25, 3) := by decide +kernel
theorem dX3_init_30 : decode cX3_init 30 = .ok (.aload_n 0, 1) := by decide +kernel
theorem dX3_init_31 : decode cX3_init 31 = .ok (.new 9, 3) := by decide +kernel
theorem dX3_init_34 : decode cX3_init 34 = .ok (.dup, 1) := by decide +kernel
theorem dX3_init_35 : decode cX3_init 35 = .ok (.invokespecial 11, 3) := by decide +kernel
theorem dX3_init_38 : decode cX3_init 38 = .ok (.putfield 29, 3) := by decide +kernel
theorem dX3_init_41 : decode cX3_init 41 = .ok (.aload_n 0, 1) := by decide +kernel
theorem dX3_init_42 : decode cX3_init 42 = .ok (.iconst 3, 1) := by decide +kernel
theorem dX3_init_43 : decode cX3_init 43 = .ok (.newarray .int, 2) := by decide +kernel
theorem dX3_init_45 : decode cX3_init 45 = .ok (.putfield 32, 3) := by decide +kernel
theorem dX3_init_48 : decode cX3_init 48 = .ok (.return_, 1) := by decide +kernel
theorem dX3_find_0 : decode cX3_find 0 = .ok (.aload_n 0, 1) := by decide +kernel
theorem dX3_find_1 : decode cX3_find 1 = .ok (.iconst 0, 1) := by decide +kernel
theorem dX3_find_2 : decode cX3_find 2 = .ok (.putfield 25, 3) := by decide +kernel
theorem dX3_find_5 : decode cX3_find 5 = .ok (.iconst 2, 1) := by decide +kernel
theorem dX3_find_6 : decode cX3_find 6 = .ok (.iload_n 2, 1) := by decide +kernel
theorem dX3_find_7 : decode cX3_find 7 = .ok (.imul, 1) := by decide +kernel
theorem dX3_find_8 : decode cX3_find 8 = .ok (.iconst 1, 1) := by decide +kernel
theorem dX3_find_9 : decode cX3_find 9 = .ok (.iadd, 1) := by decide +kernel
theorem dX3_find_10 : decode cX3_find 10 = .ok (.istore 4, 2) := by decide +kernel
theorem dX3_find_12 : decode cX3_find 12 = .ok (.iload 4, 2) := by decide +kernel
theorem dX3_find_14 : decode cX3_find 14 = .ok (.iload 4, 2) := by decide +kernel
theorem dX3_find_16 : decode cX3_find 16 = .ok (.imul, 1) := by decide +kernel
theorem dX3_find_17 : decode cX3_find 17 = .ok (.iload 4, 2) := by decide +kernel
theorem dX3_find_19 : decode cX3_find 19 = .ok (.imul, 1) := by decide +kernel
theorem dX3_find_20 : decode cX3_find 20 = .ok (.istore 5, 2) := by decide +kernel
theorem dX3_find_22 : decode cX3_find 22 = .ok (.iconst 0, 1) := by decide +kernel
theorem dX3_find_23 : decode cX3_find 23 = .ok (.istore 6, 2) := by decide +kernel
theorem dX3_find_25 : decode cX3_find 25 = .ok (.iload 6, 2) := by decide +kernel
theorem dX3_find_27 : decode cX3_find 27 = .ok (.iload 5, 2) := by decide +kernel
theorem dX3_find_29 : decode cX3_find 29 = .ok (.if_icmp .ge 72, 3) := by decide +kernel
theorem dX3_find_32 : decode cX3_find 32 = .ok (.aload_n 0, 1) := by decide +kernel
theorem dX3_find_33 : decode cX3_find 33 = .ok (.iconst 0, 1) := by decide +kernel
theorem dX3_find_34 : decode cX3_find 34 = .ok (.iload 6, 2) := by decide +kernel
theorem dX3_find_36 : decode cX3_find 36 = .ok (.iload_n 2, 1) := by decide +kernel
theorem dX3_find_37 : decode cX3_find 37 = .ok (.invokevirtual 36, 3) := by decide +kernel
theorem dX3_find_40 : decode cX3_find 40 = .ok (.aload_n 0, 1) := by decide +kernel
theorem dX3_find_41 : decode cX3_find 41 = .ok (.getfield 25, 3) := by decide +kernel
theorem dX3_find_44 : decode cX3_find 44 = .ok (.ifCond .eq 22, 3) := by decide +kernel
theorem dX3_find_47 : decode cX3_find 47 = .ok (.aload_n 0, 1) := by decide +kernel
theorem dX3_find_48 : decode cX3_find 48 = .ok (.getfield 29, 3) := by decide +kernel
theorem dX3_find_51 : decode cX3_find 51 = .ok (.aload_n 1, 1) := by decide +kernel
theorem dX3_find_52 : decode cX3_find 52 = .ok (.invokevirtual 40, 3) := by decide +kernel
theorem dX3_find_55 : decode cX3_find 55 = .ok (.aload_n 0, 1) := by decide +kernel
theorem dX3_find_56 : decode cX3_find 56 = .ok (.getfield 18, 3) := by decide +kernel
theorem dX3_find_59 : decode cX3_find 59 = .ok (.if_icmp .le 7, 3) := by decide +kernel
theorem dX3_find_62 : decode cX3_find 62 = .ok (.iconst 1, 1) := by decide +kernel
theorem dX3_find_63 : decode cX3_find 63 = .ok (.goto 4, 3) := by decide +kernel
theorem dX3_find_66 : decode cX3_find 66 = .ok (.iconst 0, 1) := by decide +kernel
theorem dX3_find_67 : decode cX3_find 67 = .ok (.istore 7, 2) := by decide +kernel
theorem dX3_find_69 : decode cX3_find 69 = .ok (.iload 7, 2) := by decide +kernel
theorem dX3_find_71 : decode cX3_find 71 = .ok (.ifCond .ne 24, 3) := by decide +kernel
theorem dX3_find_74 : decode cX3_find 74 = .ok (.aload_n 0, 1) := by decide +kernel
theorem dX3_find_75 : decode cX3_find 75 = .ok (.getfield 29, 3) := by decide +kernel
theorem dX3_find_78 : decode cX3_find 78 = .ok (.aload_n 1, 1) := by decide +kernel
theorem dX3_find_79 : decode cX3_find 79 = .ok (.invokevirtual 44, 3) := by decide +kernel
theorem dX3_find_82 : decode cX3_find 82 = .ok (.iconst (-1), 1) := by decide +kernel
theorem dX3_find_83 : decode cX3_find 83 = .ok (.if_icmp .ne 12, 3) := by decide +kernel
theorem dX3_find_86 : decode cX3_find 86 = .ok (.aload_n 0, 1) := by decide +kernel
theorem dX3_find_87 : decode cX3_find 87 = .ok (.aload_n 1, 1) := by decide +kernel
theorem dX3_find_88 : decode cX3_find 88 = .ok (.iload_n 2, 1) := by decide +kernel
theorem dX3_find_89 : decode cX3_find 89 = .ok (.iload_n 3, 1) := by decide +kernel
theorem dX3_find_90 : decode cX3_find 90 = .ok (.iload 5, 2) := by decide +kernel
theorem dX3_find_92 : decode cX3_find 92 = .ok (.invokevirtual 47, 3) := by decide +kernel
theorem dX3_find_95 : decode cX3_find 95 = .ok (.iinc 6 1, 3) := by decide +kernel
theorem dX3_find_98 : decode cX3_find 98 = .ok (.goto (-73), 3) := by decide +kernel
theorem dX3_find_101 : decode cX3_find 101 = .ok (.aload_n 0, 1) := by decide +kernel
theorem dX3_find_102 : decode cX3_find 102 = .ok (.getfield 25, 3) := by decide +kernel
theorem dX3_find_105 : decode cX3_find 105 = .ok (.ireturn, 1) := by decide +kernel
theorem dX3_tryLines_0 : decode cX3_tryLines 0 = .ok (.iload 4, 2) := by decide +kernel
theorem dX3_tryLines_2 : decode cX3_tryLines 2 = .ok (.iconst 2, 1) := by decide +kernel
theorem dX3_tryLines_3 : decode cX3_tryLines 3 = .ok (.idiv, 1) := by decide +kernel
theorem dX3_tryLines_4 : decode cX3_tryLines 4 = .ok (.istore 5, 2) := by decide +kernel
theorem dX3_tryLines_6 : decode cX3_tryLines 6 = .ok (.iload_n 3, 1) := by decide +kernel
theorem dX3_tryLines_7 : decode cX3_tryLines 7 = .ok (.iconst 1, 1) := by decide +kernel
theorem dX3_tryLines_8 : decode cX3_tryLines 8 = .ok (.if_icmp .ne 8, 3) := by decide +kernel
theorem dX3_tryLines_11 : decode cX3_tryLines 11 = .ok (.iload 5, 2) := by decide +kernel
theorem dX3_tryLines_13 : decode cX3_tryLines 13 = .ok (.goto 4, 3) := by decide +kernel
theorem dX3_tryLines_16 : decode cX3_tryLines 16 = .ok (.iconst 0, 1) := by decide +kernel
theorem dX3_tryLines_17 : decode cX3_tryLines 17 = .ok (.istore 6, 2) := by decide +kernel
theorem dX3_tryLines_19 : decode cX3_tryLines 19 = .ok (.iload_n 3, 1) := by decide +kernel
theorem dX3_tryLines_20 : decode cX3_tryLines 20 = .ok (.iconst 1, 1) := by decide +kernel
theorem dX3_tryLines_21 : decode cX3_tryLines 21 = .ok (.if_icmp .ne 8, 3) := by decide +kernel
theorem dX3_tryLines_24 : decode cX3_tryLines 24 = .ok (.iload 5, 2) := by decide +kernel
theorem dX3_tryLines_26 : decode cX3_tryLines 26 = .ok (.goto 7, 3) := by decide +kernel
theorem dX3_tryLines_29 : decode cX3_tryLines 29 = .ok (.iload 4, 2) := by decide +kernel
theorem dX3_tryLines_31 : decode cX3_tryLines 31 = .ok (.iconst 1, 1) := by decide +kernel
theorem dX3_tryLines_32 : decode cX3_tryLines 32 = .ok (.isub, 1) := by decide +kernel
theorem dX3_tryLines_33 : decode cX3_tryLines 33 = .ok (.istore 7, 2) := by decide +kernel
theorem dX3_tryLines_35 : decode cX3_tryLines 35 = .ok (.aload_n 0, 1) := by decide +kernel
theorem dX3_tryLines_36 : decode cX3_tryLines 36 = .ok (.getfield 29, 3) := by decide +kernel
theorem dX3_tryLines_39 : decode cX3_tryLines 39 = .ok (.aload_n 1, 1) := by decide +kernel
theorem dX3_tryLines_40 : decode cX3_tryLines 40 = .ok (.invokevirtual 40, 3) := by decide +kernel
theorem dX3_tryLines_43 : decode cX3_tryLines 43 = .ok (.istore 8, 2) := by decide +kernel
theorem dX3_tryLines_45 : decode cX3_tryLines 45 = .ok (.iconst 0, 1) := by decide +kernel
theorem dX3_tryLines_46 : decode cX3_tryLines 46 = .ok (.istore 9, 2) := by decide +kernel
theorem dX3_tryLines_48 : decode cX3_tryLines 48 = .ok (.iload 9, 2) := by decide +kernel
theorem dX3_tryLines_50 : decode cX3_tryLines 50 = .ok (.iload 4, 2) := by decide +kernel
theorem dX3_tryLines_52 : decode cX3_tryLines 52 = .ok (.if_icmp .ge 68, 3) := by decide +kernel
theorem dX3_tryLines_55 : decode cX3_tryLines 55 = .ok (.aload_n 0, 1) := by decide +kernel
theorem dX3_tryLines_56 : decode cX3_tryLines 56 = .ok (.iconst 1, 1) := by decide +kernel
theorem dX3_tryLines_57 : decode cX3_tryLines 57 = .ok (.iload 9, 2) := by decide +kernel
theorem dX3_tryLines_59 : decode cX3_tryLines 59 = .ok (.iload_n 2, 1) := by decide +kernel
theorem dX3_tryLines_60 : decode cX3_tryLines 60 = .ok (.invokevirtual 36, 3) := by decide +kernel
theorem dX3_tryLines_63 : decode cX3_tryLines 63 = .ok (.iload 6, 2) := by decide +kernel
theorem dX3_tryLines_65 : decode cX3_tryLines 65 = .ok (.istore 10, 2) := by decide +kernel
theorem dX3_tryLines_67 : decode cX3_tryLines 67 = .ok (.iload 10, 2) := by decide +kernel
theorem dX3_tryLines_69 : decode cX3_tryLines 69 = .ok (.iload 7, 2) := by decide +kernel
theorem dX3_tryLines_71 : decode cX3_tryLines 71 = .ok (.if_icmp .gt 43, 3) := by decide +kernel
theorem dX3_tryLines_74 : decode cX3_tryLines 74 = .ok (.iload 9, 2) := by decide +kernel
theorem dX3_tryLines_76 : decode cX3_tryLines 76 = .ok (.iload 5, 2) := by decide +kernel
theorem dX3_tryLines_78 : decode cX3_tryLines 78 = .ok (.if_icmp .eq 36, 3) := by decide +kernel
theorem dX3_tryLines_81 : decode cX3_tryLines 81 = .ok (.iload_n 3, 1) := by decide +kernel
theorem dX3_tryLines_82 : decode cX3_tryLines 82 = .ok (.iconst 1, 1) := by decide +kernel
theorem dX3_tryLines_83 : decode cX3_tryLines 83 = .ok (.if_icmp .eq 10, 3) := by decide +kernel
theorem dX3_tryLines_86 : decode cX3_tryLines 86 = .ok (.iload 10, 2) := by decide +kernel
theorem dX3_tryLines_88 : decode cX3_tryLines 88 = .ok (.iload 5, 2) := by decide +kernel
theorem dX3_tryLines_90 : decode cX3_tryLines 90 = .ok (.if_icmp .eq 18, 3) := by decide +kernel
theorem dX3_tryLines_93 : decode cX3_tryLines 93 = .ok (.aload_n 0, 1) := by decide +kernel
theorem dX3_tryLines_94 : decode cX3_tryLines 94 = .ok (.iconst 2, 1) := by decide +kernel
theorem dX3_tryLines_95 : decode cX3_tryLines 95 = .ok (.iload 10, 2) := by decide +kernel
theorem dX3_tryLines_97 : decode cX3_tryLines 97 = .ok (.iload_n 2, 1) := by decide +kernel
theorem dX3_tryLines_98 : decode cX3_tryLines 98 = .ok (.invokevirtual 36, 3) := by decide +kernel
theorem dX3_tryLines_101 : decode cX3_tryLines 101 = .ok (.aload_n 0, 1) := by decide +kernel
theorem dX3_tryLines_102 : decode cX3_tryLines 102 = .ok (.aload_n 1, 1) := by decide +kernel
theorem dX3_tryLines_103 : decode cX3_tryLines 103 = .ok (.iload 8, 2) := by decide +kernel
theorem dX3_tryLines_105 : decode cX3_tryLines 105 = .ok (.invokevirtual 51, 3) := by decide +kernel
theorem dX3_tryLines_108 : decode cX3_tryLines 108 = .ok (.iinc 10 1, 3) := by decide +kernel
theorem dX3_tryLines_111 : decode cX3_tryLines 111 = .ok (.goto (-44), 3) := by decide +kernel
theorem dX3_tryLines_114 : decode cX3_tryLines 114 = .ok (.iinc 9 1, 3) := by decide +kernel
theorem dX3_tryLines_117 : decode cX3_tryLines 117 = .ok (.goto (-69), 3) := by decide +kernel
theorem dX3_tryLines_120 : decode cX3_tryLines 120 = .ok (.return_, 1) := by decide +kernel
theorem dX3_consider_0 : decode cX3_consider 0 = .ok (.aload_n 0, 1) := by decide +kernel
theorem dX3_consider_1 : decode cX3_consider 1 = .ok (.getfield 29, 3) := by decide +kernel
theorem dX3_consider_4 : decode cX3_consider 4 = .ok (.aload_n 1, 1) := by decide +kernel
theorem dX3_consider_5 : decode cX3_consider 5 = .ok (.invokevirtual 55, 3) := by decide +kernel
theorem dX3_consider_8 : decode cX3_consider 8 = .ok (.iconst (-1), 1) := by decide +kernel
theorem dX3_consider_9 : decode cX3_consider 9 = .ok (.if_icmp .eq 4, 3) := by decide +kernel
theorem dX3_consider_12 : decode cX3_consider 12 = .ok (.return_, 1) := by decide +kernel
theorem dX3_consider_13 : decode cX3_consider 13 = .ok (.aload_n 0, 1) := by decide +kernel
theorem dX3_consider_14 : decode cX3_consider 14 = .ok (.aload_n 1, 1) := by decide +kernel
theorem dX3_consider_15 : decode cX3_consider 15 = .ok (.invokevirtual 58, 3) := by decide +kernel
theorem dX3_consider_18 : decode cX3_consider 18 = .ok (.istore_n 3, 1) := by decide +kernel
theorem dX3_consider_19 : decode cX3_consider 19 = .ok (.aload_n 0, 1) := by decide +kernel
theorem dX3_consider_20 : decode cX3_consider 20 = .ok (.getfield 25, 3) := by decide +kernel
theorem dX3_consider_23 : decode cX3_consider 23 = .ok (.ifCond .eq 19, 3) := by decide +kernel
theorem dX3_consider_26 : decode cX3_consider 26 = .ok (.iload_n 2, 1) := by decide +kernel
theorem dX3_consider_27 : decode cX3_consider 27 = .ok (.aload_n 0, 1) := by decide +kernel
theorem dX3_consider_28 : decode cX3_consider 28 = .ok (.getfield 18, 3) := by decide +kernel
theorem dX3_consider_31 : decode cX3_consider 31 = .ok (.if_icmp .lt 11, 3) := by decide +kernel
theorem dX3_consider_34 : decode cX3_consider 34 = .ok (.iload_n 3, 1) := by decide +kernel
theorem dX3_consider_35 : decode cX3_consider 35 = .ok (.aload_n 0, 1) := by decide +kernel
theorem dX3_consider_36 : decode cX3_consider 36 = .ok (.getfield 22, 3) := by decide +kernel
theorem dX3_consider_39 : decode cX3_consider 39 = .ok (.if_icmp .ge 7, 3) := by decide +kernel
theorem dX3_consider_42 : decode cX3_consider 42 = .ok (.iconst 1, 1) := by decide +kernel
theorem dX3_consider_43 : decode cX3_consider 43 = .ok (.goto 4, 3) := by decide +kernel
theorem dX3_consider_46 : decode cX3_consider 46 = .ok (.iconst 0, 1) := by decide +kernel
theorem dX3_consider_47 : decode cX3_consider 47 = .ok (.istore 4, 2) := by decide +kernel
theorem dX3_consider_49 : decode cX3_consider 49 = .ok (.iload 4, 2) := by decide +kernel
theorem dX3_consider_51 : decode cX3_consider 51 = .ok (.ifCond .eq 38, 3) := by decide +kernel
theorem dX3_consider_54 : decode cX3_consider 54 = .ok (.aload_n 0, 1) := by decide +kernel
theorem dX3_consider_55 : decode cX3_consider 55 = .ok (.aload_n 1, 1) := by decide +kernel
theorem dX3_consider_56 : decode cX3_consider 56 = .ok (.iload_n 3, 1) := by decide +kernel
theorem dX3_consider_57 : decode cX3_consider 57 = .ok (.invokevirtual 61, 3) := by decide +kernel
theorem dX3_consider_60 : decode cX3_consider 60 = .ok (.ifCond .eq 29, 3) := by decide +kernel
theorem dX3_consider_63 : decode cX3_consider 63 = .ok (.aload_n 0, 1) := by decide +kernel
theorem dX3_consider_64 : decode cX3_consider 64 = .ok (.iconst 1, 1) := by decide +kernel
theorem dX3_consider_65 : decode cX3_consider 65 = .ok (.putfield 25, 3) := by decide +kernel
theorem dX3_consider_68 : decode cX3_consider 68 = .ok (.aload_n 0, 1) := by decide +kernel
theorem dX3_consider_69 : decode cX3_consider 69 = .ok (.iload_n 2, 1) := by decide +kernel
theorem dX3_consider_70 : decode cX3_consider 70 = .ok (.putfield 18, 3) := by decide +kernel
theorem dX3_consider_73 : decode cX3_consider 73 = .ok (.aload_n 0, 1) := by decide +kernel
theorem dX3_consider_74 : decode cX3_consider 74 = .ok (.iload_n 3, 1) := by decide +kernel
theorem dX3_consider_75 : decode cX3_consider 75 = .ok (.putfield 22, 3) := by decide +kernel
theorem dX3_consider_78 : decode cX3_consider 78 = .ok (.aload_n 0, 1) := by decide +kernel
theorem dX3_consider_79 : decode cX3_consider 79 = .ok (.getfield 12, 3) := by decide +kernel
theorem dX3_consider_82 : decode cX3_consider 82 = .ok (.aload_n 0, 1) := by decide +kernel
theorem dX3_consider_83 : decode cX3_consider 83 = .ok (.getfield 29, 3) := by decide +kernel
theorem dX3_consider_86 : decode cX3_consider 86 = .ok (.invokevirtual 65, 3) := by decide +kernel
theorem dX3_consider_89 : decode cX3_consider 89 = .ok (.return_, 1) := by decide +kernel
theorem dX3_spell_0 : decode cX3_spell 0 = .ok (.iconst 1, 1) := by decide +kernel
theorem dX3_spell_1 : decode cX3_spell 1 = .ok (.iconst 2, 1) := by decide +kernel
theorem dX3_spell_2 : decode cX3_spell 2 = .ok (.iload_n 3, 1) := by decide +kernel
theorem dX3_spell_3 : decode cX3_spell 3 = .ok (.imul, 1) := by decide +kernel
theorem dX3_spell_4 : decode cX3_spell 4 = .ok (.iconst 1, 1) := by decide +kernel
theorem dX3_spell_5 : decode cX3_spell 5 = .ok (.iadd, 1) := by decide +kernel
theorem dX3_spell_6 : decode cX3_spell 6 = .ok (.invokestatic 69, 3) := by decide +kernel
theorem dX3_spell_9 : decode cX3_spell 9 = .ok (.istore 4, 2) := by decide +kernel
theorem dX3_spell_11 : decode cX3_spell 11 = .ok (.aload_n 0, 1) := by decide +kernel
theorem dX3_spell_12 : decode cX3_spell 12 = .ok (.getfield 29, 3) := by decide +kernel
theorem dX3_spell_15 : decode cX3_spell 15 = .ok (.iload_n 1, 1) := by decide +kernel
theorem dX3_spell_16 : decode cX3_spell 16 = .ok (.iload_n 2, 1) := by decide +kernel
theorem dX3_spell_17 : decode cX3_spell 17 = .ok (.iload 4, 2) := by decide +kernel
theorem dX3_spell_19 : decode cX3_spell 19 = .ok (.iload 4, 2) := by decide +kernel
theorem dX3_spell_21 : decode cX3_spell 21 = .ok (.imul, 1) := by decide +kernel
theorem dX3_spell_22 : decode cX3_spell 22 = .ok (.idiv, 1) := by decide +kernel
theorem dX3_spell_23 : decode cX3_spell 23 = .ok (.iload_n 3, 1) := by decide +kernel
theorem dX3_spell_24 : decode cX3_spell 24 = .ok (.isub, 1) := by decide +kernel
theorem dX3_spell_25 : decode cX3_spell 25 = .ok (.iload_n 2, 1) := by decide +kernel
theorem dX3_spell_26 : decode cX3_spell 26 = .ok (.iload 4, 2) := by decide +kernel
theorem dX3_spell_28 : decode cX3_spell 28 = .ok (.idiv, 1) := by decide +kernel
theorem dX3_spell_29 : decode cX3_spell 29 = .ok (.iload 4, 2) := by decide +kernel
theorem dX3_spell_31 : decode cX3_spell 31 = .ok (.irem, 1) := by decide +kernel
theorem dX3_spell_32 : decode cX3_spell 32 = .ok (.iload_n 3, 1) := by decide +kernel
theorem dX3_spell_33 : decode cX3_spell 33 = .ok (.isub, 1) := by decide +kernel
theorem dX3_spell_34 : decode cX3_spell 34 = .ok (.iload_n 2, 1) := by decide +kernel
theorem dX3_spell_35 : decode cX3_spell 35 = .ok (.iload 4, 2) := by decide +kernel
theorem dX3_spell_37 : decode cX3_spell 37 = .ok (.irem, 1) := by decide +kernel
theorem dX3_spell_38 : decode cX3_spell 38 = .ok (.iload_n 3, 1) := by decide +kernel
theorem dX3_spell_39 : decode cX3_spell 39 = .ok (.isub, 1) := by decide +kernel
theorem dX3_spell_40 : decode cX3_spell 40 = .ok (.invokevirtual 75, 3) := by decide +kernel
theorem dX3_spell_43 : decode cX3_spell 43 = .ok (.return_, 1) := by decide +kernel
theorem dX3_partsAll_0 : decode cX3_partsAll 0 = .ok (.aload_n 0, 1) := by decide +kernel
theorem dX3_partsAll_1 : decode cX3_partsAll 1 = .ok (.iconst 0, 1) := by decide +kernel
theorem dX3_partsAll_2 : decode cX3_partsAll 2 = .ok (.iconst 1, 1) := by decide +kernel
theorem dX3_partsAll_3 : decode cX3_partsAll 3 = .ok (.invokevirtual 79, 3) := by decide +kernel
theorem dX3_partsAll_6 : decode cX3_partsAll 6 = .ok (.ifCond .ne 17, 3) := by decide +kernel
theorem dX3_partsAll_9 : decode cX3_partsAll 9 = .ok (.iload_n 2, 1) := by decide +kernel
theorem dX3_partsAll_10 : decode cX3_partsAll 10 = .ok (.aload_n 1, 1) := by decide +kernel
theorem dX3_partsAll_11 : decode cX3_partsAll 11 = .ok (.getfield 83, 3) := by decide +kernel
theorem dX3_partsAll_14 : decode cX3_partsAll 14 = .ok (.if_icmp .ne 7, 3) := by decide +kernel
theorem dX3_partsAll_17 : decode cX3_partsAll 17 = .ok (.iconst 1, 1) := by decide +kernel
theorem dX3_partsAll_18 : decode cX3_partsAll 18 = .ok (.goto 4, 3) := by decide +kernel
theorem dX3_partsAll_21 : decode cX3_partsAll 21 = .ok (.iconst 0, 1) := by decide +kernel
theorem dX3_partsAll_22 : decode cX3_partsAll 22 = .ok (.ireturn, 1) := by decide +kernel
theorem dX3_partsAll_23 : decode cX3_partsAll 23 = .ok (.aload_n 0, 1) := by decide +kernel
theorem dX3_partsAll_24 : decode cX3_partsAll 24 = .ok (.aload_n 1, 1) := by decide +kernel
theorem dX3_partsAll_25 : decode cX3_partsAll 25 = .ok (.invokevirtual 88, 3) := by decide +kernel
theorem dX3_partsAll_28 : decode cX3_partsAll 28 = .ok (.ifCond .eq 32, 3) := by decide +kernel
theorem dX3_partsAll_31 : decode cX3_partsAll 31 = .ok (.aload_n 0, 1) := by decide +kernel
theorem dX3_partsAll_32 : decode cX3_partsAll 32 = .ok (.getfield 29, 3) := by decide +kernel
theorem dX3_partsAll_35 : decode cX3_partsAll 35 = .ok (.iconst 2, 1) := by decide +kernel
theorem dX3_partsAll_36 : decode cX3_partsAll 36 = .ok (.aload_n 0, 1) := by decide +kernel
theorem dX3_partsAll_37 : decode cX3_partsAll 37 = .ok (.getfield 32, 3) := by decide +kernel
theorem dX3_partsAll_40 : decode cX3_partsAll 40 = .ok (.iconst 0, 1) := by decide +kernel
theorem dX3_partsAll_41 : decode cX3_partsAll 41 = .ok (.iaload, 1) := by decide +kernel
theorem dX3_partsAll_42 : decode cX3_partsAll 42 = .ok (.aload_n 0, 1) := by decide +kernel
theorem dX3_partsAll_43 : decode cX3_partsAll 43 = .ok (.getfield 32, 3) := by decide +kernel
theorem dX3_partsAll_46 : decode cX3_partsAll 46 = .ok (.iconst 1, 1) := by decide +kernel
theorem dX3_partsAll_47 : decode cX3_partsAll 47 = .ok (.iaload, 1) := by decide +kernel
theorem dX3_partsAll_48 : decode cX3_partsAll 48 = .ok (.aload_n 0, 1) := by decide +kernel
theorem dX3_partsAll_49 : decode cX3_partsAll 49 = .ok (.getfield 32, 3) := by decide +kernel
theorem dX3_partsAll_52 : decode cX3_partsAll 52 = .ok (.iconst 2, 1) := by decide +kernel
theorem dX3_partsAll_53 : decode cX3_partsAll 53 = .ok (.iaload, 1) := by decide +kernel
theorem dX3_partsAll_54 : decode cX3_partsAll 54 = .ok (.invokevirtual 91, 3) := by decide +kernel
theorem dX3_partsAll_57 : decode cX3_partsAll 57 = .ok (.ifCond .eq 7, 3) := by decide +kernel
theorem dX3_partsAll_60 : decode cX3_partsAll 60 = .ok (.iconst 1, 1) := by decide +kernel
theorem dX3_partsAll_61 : decode cX3_partsAll 61 = .ok (.goto 4, 3) := by decide +kernel
theorem dX3_partsAll_64 : decode cX3_partsAll 64 = .ok (.iconst 0, 1) := by decide +kernel
theorem dX3_partsAll_65 : decode cX3_partsAll 65 = .ok (.ireturn, 1) := by decide +kernel
theorem dX3_countCells_0 : decode cX3_countCells 0 = .ok (.aload_n 0, 1) := by decide +kernel
theorem dX3_countCells_1 : decode cX3_countCells 1 = .ok (.iconst 1, 1) := by decide +kernel
theorem dX3_countCells_2 : decode cX3_countCells 2 = .ok (.iconst 2, 1) := by decide +kernel
theorem dX3_countCells_3 : decode cX3_countCells 3 = .ok (.invokevirtual 79, 3) := by decide +kernel
theorem dX3_countCells_6 : decode cX3_countCells 6 = .ok (.ifCond .eq 16, 3) := by decide +kernel
theorem dX3_countCells_9 : decode cX3_countCells 9 = .ok (.aload_n 1, 1) := by decide +kernel
theorem dX3_countCells_10 : decode cX3_countCells 10 = .ok (.getfield 83, 3) := by decide +kernel
theorem dX3_countCells_13 : decode cX3_countCells 13 = .ok (.aload_n 0, 1) := by decide +kernel
theorem dX3_countCells_14 : decode cX3_countCells 14 = .ok (.aload_n 1, 1) := by decide +kernel
theorem dX3_countCells_15 : decode cX3_countCells 15 = .ok (.invokevirtual 88, 3) := by decide +kernel
theorem dX3_countCells_18 : decode cX3_countCells 18 = .ok (.isub, 1) := by decide +kernel
theorem dX3_countCells_19 : decode cX3_countCells 19 = .ok (.goto 8, 3) := by decide +kernel
theorem dX3_countCells_22 : decode cX3_countCells 22 = .ok (.aload_n 0, 1) := by decide +kernel
theorem dX3_countCells_23 : decode cX3_countCells 23 = .ok (.aload_n 1, 1) := by decide +kernel
theorem dX3_countCells_24 : decode cX3_countCells 24 = .ok (.invokevirtual 95, 3) := by decide +kernel
theorem dX3_countCells_27 : decode cX3_countCells 27 = .ok (.ireturn, 1) := by decide +kernel
theorem dX3_findAcross_0 : decode cX3_findAcross 0 = .ok (.aload_n 0, 1) := by decide +kernel
theorem dX3_findAcross_1 : decode cX3_findAcross 1 = .ok (.getfield 29, 3) := by decide +kernel
theorem dX3_findAcross_4 : decode cX3_findAcross 4 = .ok (.getfield 98, 3) := by decide +kernel
theorem dX3_findAcross_7 : decode cX3_findAcross 7 = .ok (.astore_n 3, 1) := by decide +kernel
theorem dX3_findAcross_8 : decode cX3_findAcross 8 = .ok (.iconst 3, 1) := by decide +kernel
theorem dX3_findAcross_9 : decode cX3_findAcross 9 = .ok (.iload_n 1, 1) := by decide +kernel
theorem dX3_findAcross_10 : decode cX3_findAcross 10 = .ok (.imul, 1) := by decide +kernel
theorem dX3_findAcross_11 : decode cX3_findAcross 11 = .ok (.istore 4, 2) := by decide +kernel
theorem dX3_findAcross_13 : decode cX3_findAcross 13 = .ok (.iconst 3, 1) := by decide +kernel
theorem dX3_findAcross_14 : decode cX3_findAcross 14 = .ok (.iload_n 2, 1) := by decide +kernel
theorem dX3_findAcross_15 : decode cX3_findAcross 15 = .ok (.imul, 1) := by decide +kernel
theorem dX3_findAcross_16 : decode cX3_findAcross 16 = .ok (.istore 5, 2) := by decide +kernel
theorem dX3_findAcross_18 : decode cX3_findAcross 18 = .ok (.aload_n 3, 1) := by decide +kernel
theorem dX3_findAcross_19 : decode cX3_findAcross 19 = .ok (.iload 4, 2) := by decide +kernel
theorem dX3_findAcross_21 : decode cX3_findAcross 21 = .ok (.iconst 1, 1) := by decide +kernel
theorem dX3_findAcross_22 : decode cX3_findAcross 22 = .ok (.iadd, 1) := by decide +kernel
theorem dX3_findAcross_23 : decode cX3_findAcross 23 = .ok (.iaload, 1) := by decide +kernel
theorem dX3_findAcross_24 : decode cX3_findAcross 24 = .ok (.aload_n 3, 1) := by decide +kernel
theorem dX3_findAcross_25 : decode cX3_findAcross 25 = .ok (.iload 5, 2) := by decide +kernel
theorem dX3_findAcross_27 : decode cX3_findAcross 27 = .ok (.iconst 2, 1) := by decide +kernel
theorem dX3_findAcross_28 : decode cX3_findAcross 28 = .ok (.iadd, 1) := by decide +kernel
theorem dX3_findAcross_29 : decode cX3_findAcross 29 = .ok (.iaload, 1) := by decide +kernel
theorem dX3_findAcross_30 : decode cX3_findAcross 30 = .ok (.imul, 1) := by decide +kernel
theorem dX3_findAcross_31 : decode cX3_findAcross 31 = .ok (.aload_n 3, 1) := by decide +kernel
theorem dX3_findAcross_32 : decode cX3_findAcross 32 = .ok (.iload 4, 2) := by decide +kernel
theorem dX3_findAcross_34 : decode cX3_findAcross 34 = .ok (.iconst 2, 1) := by decide +kernel
theorem dX3_findAcross_35 : decode cX3_findAcross 35 = .ok (.iadd, 1) := by decide +kernel
theorem dX3_findAcross_36 : decode cX3_findAcross 36 = .ok (.iaload, 1) := by decide +kernel
theorem dX3_findAcross_37 : decode cX3_findAcross 37 = .ok (.aload_n 3, 1) := by decide +kernel
theorem dX3_findAcross_38 : decode cX3_findAcross 38 = .ok (.iload 5, 2) := by decide +kernel
theorem dX3_findAcross_40 : decode cX3_findAcross 40 = .ok (.iconst 1, 1) := by decide +kernel
theorem dX3_findAcross_41 : decode cX3_findAcross 41 = .ok (.iadd, 1) := by decide +kernel
theorem dX3_findAcross_42 : decode cX3_findAcross 42 = .ok (.iaload, 1) := by decide +kernel
theorem dX3_findAcross_43 : decode cX3_findAcross 43 = .ok (.imul, 1) := by decide +kernel
theorem dX3_findAcross_44 : decode cX3_findAcross 44 = .ok (.isub, 1) := by decide +kernel
theorem dX3_findAcross_45 : decode cX3_findAcross 45 = .ok (.istore 6, 2) := by decide +kernel
theorem dX3_findAcross_47 : decode cX3_findAcross 47 = .ok (.aload_n 3, 1) := by decide +kernel
theorem dX3_findAcross_48 : decode cX3_findAcross 48 = .ok (.iload 4, 2) := by decide +kernel
theorem dX3_findAcross_50 : decode cX3_findAcross 50 = .ok (.iconst 2, 1) := by decide +kernel
theorem dX3_findAcross_51 : decode cX3_findAcross 51 = .ok (.iadd, 1) := by decide +kernel
theorem dX3_findAcross_52 : decode cX3_findAcross 52 = .ok (.iaload, 1) := by decide +kernel
theorem dX3_findAcross_53 : decode cX3_findAcross 53 = .ok (.aload_n 3, 1) := by decide +kernel
theorem dX3_findAcross_54 : decode cX3_findAcross 54 = .ok (.iload 5, 2) := by decide +kernel
theorem dX3_findAcross_56 : decode cX3_findAcross 56 = .ok (.iaload, 1) := by decide +kernel
theorem dX3_findAcross_57 : decode cX3_findAcross 57 = .ok (.imul, 1) := by decide +kernel
theorem dX3_findAcross_58 : decode cX3_findAcross 58 = .ok (.aload_n 3, 1) := by decide +kernel
theorem dX3_findAcross_59 : decode cX3_findAcross 59 = .ok (.iload 4, 2) := by decide +kernel
theorem dX3_findAcross_61 : decode cX3_findAcross 61 = .ok (.iaload, 1) := by decide +kernel
theorem dX3_findAcross_62 : decode cX3_findAcross 62 = .ok (.aload_n 3, 1) := by decide +kernel
theorem dX3_findAcross_63 : decode cX3_findAcross 63 = .ok (.iload 5, 2) := by decide +kernel
theorem dX3_findAcross_65 : decode cX3_findAcross 65 = .ok (.iconst 2, 1) := by decide +kernel
theorem dX3_findAcross_66 : decode cX3_findAcross 66 = .ok (.iadd, 1) := by decide +kernel
theorem dX3_findAcross_67 : decode cX3_findAcross 67 = .ok (.iaload, 1) := by decide +kernel
theorem dX3_findAcross_68 : decode cX3_findAcross 68 = .ok (.imul, 1) := by decide +kernel
theorem dX3_findAcross_69 : decode cX3_findAcross 69 = .ok (.isub, 1) := by decide +kernel
theorem dX3_findAcross_70 : decode cX3_findAcross 70 = .ok (.istore 7, 2) := by decide +kernel
theorem dX3_findAcross_72 : decode cX3_findAcross 72 = .ok (.aload_n 3, 1) := by decide +kernel
theorem dX3_findAcross_73 : decode cX3_findAcross 73 = .ok (.iload 4, 2) := by decide +kernel
theorem dX3_findAcross_75 : decode cX3_findAcross 75 = .ok (.iaload, 1) := by decide +kernel
theorem dX3_findAcross_76 : decode cX3_findAcross 76 = .ok (.aload_n 3, 1) := by decide +kernel
theorem dX3_findAcross_77 : decode cX3_findAcross 77 = .ok (.iload 5, 2) := by decide +kernel
theorem dX3_findAcross_79 : decode cX3_findAcross 79 = .ok (.iconst 1, 1) := by decide +kernel
theorem dX3_findAcross_80 : decode cX3_findAcross 80 = .ok (.iadd, 1) := by decide +kernel
theorem dX3_findAcross_81 : decode cX3_findAcross 81 = .ok (.iaload, 1) := by decide +kernel
theorem dX3_findAcross_82 : decode cX3_findAcross 82 = .ok (.imul, 1) := by decide +kernel
theorem dX3_findAcross_83 : decode cX3_findAcross 83 = .ok (.aload_n 3, 1) := by decide +kernel
theorem dX3_findAcross_84 : decode cX3_findAcross 84 = .ok (.iload 4, 2) := by decide +kernel
theorem dX3_findAcross_86 : decode cX3_findAcross 86 = .ok (.iconst 1, 1) := by decide +kernel
theorem dX3_findAcross_87 : decode cX3_findAcross 87 = .ok (.iadd, 1) := by decide +kernel
theorem dX3_findAcross_88 : decode cX3_findAcross 88 = .ok (.iaload, 1) := by decide +kernel
theorem dX3_findAcross_89 : decode cX3_findAcross 89 = .ok (.aload_n 3, 1) := by decide +kernel
theorem dX3_findAcross_90 : decode cX3_findAcross 90 = .ok (.iload 5, 2) := by decide +kernel
theorem dX3_findAcross_92 : decode cX3_findAcross 92 = .ok (.iaload, 1) := by decide +kernel
theorem dX3_findAcross_93 : decode cX3_findAcross 93 = .ok (.imul, 1) := by decide +kernel
theorem dX3_findAcross_94 : decode cX3_findAcross 94 = .ok (.isub, 1) := by decide +kernel
theorem dX3_findAcross_95 : decode cX3_findAcross 95 = .ok (.istore 8, 2) := by decide +kernel
theorem dX3_findAcross_97 : decode cX3_findAcross 97 = .ok (.iload 6, 2) := by decide +kernel
theorem dX3_findAcross_99 : decode cX3_findAcross 99 = .ok (.invokestatic 101, 3) := by decide +kernel
theorem dX3_findAcross_102 : decode cX3_findAcross 102 = .ok (.iload 7, 2) := by decide +kernel
theorem dX3_findAcross_104 : decode cX3_findAcross 104 = .ok (.invokestatic 101, 3) := by decide +kernel
theorem dX3_findAcross_107 : decode cX3_findAcross 107 = .ok (.iload 8, 2) := by decide +kernel
theorem dX3_findAcross_109 : decode cX3_findAcross 109 = .ok (.invokestatic 101, 3) := by decide +kernel
theorem dX3_findAcross_112 : decode cX3_findAcross 112 = .ok (.invokestatic 105, 3) := by decide +kernel
theorem dX3_findAcross_115 : decode cX3_findAcross 115 = .ok (.invokestatic 105, 3) := by decide +kernel
theorem dX3_findAcross_118 : decode cX3_findAcross 118 = .ok (.istore 9, 2) := by decide +kernel
theorem dX3_findAcross_120 : decode cX3_findAcross 120 = .ok (.iload 9, 2) := by decide +kernel
theorem dX3_findAcross_122 : decode cX3_findAcross 122 = .ok (.ifCond .ne 5, 3) := by decide +kernel
theorem dX3_findAcross_125 : decode cX3_findAcross 125 = .ok (.iconst 0, 1) := by decide +kernel
theorem dX3_findAcross_126 : decode cX3_findAcross 126 = .ok (.ireturn, 1) := by decide +kernel
theorem dX3_findAcross_127 : decode cX3_findAcross 127 = .ok (.aload_n 0, 1) := by decide +kernel
theorem dX3_findAcross_128 : decode cX3_findAcross 128 = .ok (.getfield 32, 3) := by decide +kernel
theorem dX3_findAcross_131 : decode cX3_findAcross 131 = .ok (.iconst 0, 1) := by decide +kernel
theorem dX3_findAcross_132 : decode cX3_findAcross 132 = .ok (.iload 6, 2) := by decide +kernel
theorem dX3_findAcross_134 : decode cX3_findAcross 134 = .ok (.iload 9, 2) := by decide +kernel
theorem dX3_findAcross_136 : decode cX3_findAcross 136 = .ok (.idiv, 1) := by decide +kernel
theorem dX3_findAcross_137 : decode cX3_findAcross 137 = .ok (.iastore, 1) := by decide +kernel
theorem dX3_findAcross_138 : decode cX3_findAcross 138 = .ok (.aload_n 0, 1) := by decide +kernel
theorem dX3_findAcross_139 : decode cX3_findAcross 139 = .ok (.getfield 32, 3) := by decide +kernel
theorem dX3_findAcross_142 : decode cX3_findAcross 142 = .ok (.iconst 1, 1) := by decide +kernel
theorem dX3_findAcross_143 : decode cX3_findAcross 143 = .ok (.iload 7, 2) := by decide +kernel
theorem dX3_findAcross_145 : decode cX3_findAcross 145 = .ok (.iload 9, 2) := by decide +kernel
theorem dX3_findAcross_147 : decode cX3_findAcross 147 = .ok (.idiv, 1) := by decide +kernel
theorem dX3_findAcross_148 : decode cX3_findAcross 148 = .ok (.iastore, 1) := by decide +kernel
theorem dX3_findAcross_149 : decode cX3_findAcross 149 = .ok (.aload_n 0, 1) := by decide +kernel
theorem dX3_findAcross_150 : decode cX3_findAcross 150 = .ok (.getfield 32, 3) := by decide +kernel
theorem dX3_findAcross_153 : decode cX3_findAcross 153 = .ok (.iconst 2, 1) := by decide +kernel
theorem dX3_findAcross_154 : decode cX3_findAcross 154 = .ok (.iload 8, 2) := by decide +kernel
theorem dX3_findAcross_156 : decode cX3_findAcross 156 = .ok (.iload 9, 2) := by decide +kernel
theorem dX3_findAcross_158 : decode cX3_findAcross 158 = .ok (.idiv, 1) := by decide +kernel
theorem dX3_findAcross_159 : decode cX3_findAcross 159 = .ok (.iastore, 1) := by decide +kernel
theorem dX3_findAcross_160 : decode cX3_findAcross 160 = .ok (.iconst 1, 1) := by decide +kernel
theorem dX3_findAcross_161 : decode cX3_findAcross 161 = .ok (.ireturn, 1) := by decide +kernel
theorem dX3_countBehind_0 : decode cX3_countBehind 0 = .ok (.iconst 1, 1) := by decide +kernel
theorem dX3_countBehind_1 : decode cX3_countBehind 1 = .ok (.istore_n 2, 1) := by decide +kernel
theorem dX3_countBehind_2 : decode cX3_countBehind 2 = .ok (.iconst 0, 1) := by decide +kernel
theorem dX3_countBehind_3 : decode cX3_countBehind 3 = .ok (.istore_n 3, 1) := by decide +kernel
theorem dX3_countBehind_4 : decode cX3_countBehind 4 = .ok (.iload_n 3, 1) := by decide +kernel
theorem dX3_countBehind_5 : decode cX3_countBehind 5 = .ok (.iconst 3, 1) := by decide +kernel
theorem dX3_countBehind_6 : decode cX3_countBehind 6 = .ok (.if_icmp .ge 32, 3) := by decide +kernel
theorem dX3_countBehind_9 : decode cX3_countBehind 9 = .ok (.iload_n 2, 1) := by decide +kernel
theorem dX3_countBehind_10 : decode cX3_countBehind 10 = .ok (.iconst 0, 1) := by decide +kernel
theorem dX3_countBehind_11 : decode cX3_countBehind 11 = .ok (.aload_n 1, 1) := by decide +kernel
theorem dX3_countBehind_12 : decode cX3_countBehind 12 = .ok (.getfield 108, 3) := by decide +kernel
theorem dX3_countBehind_15 : decode cX3_countBehind 15 = .ok (.iload_n 3, 1) := by decide +kernel
theorem dX3_countBehind_16 : decode cX3_countBehind 16 = .ok (.iaload, 1) := by decide +kernel
theorem dX3_countBehind_17 : decode cX3_countBehind 17 = .ok (.aload_n 0, 1) := by decide +kernel
theorem dX3_countBehind_18 : decode cX3_countBehind 18 = .ok (.getfield 32, 3) := by decide +kernel
theorem dX3_countBehind_21 : decode cX3_countBehind 21 = .ok (.iload_n 3, 1) := by decide +kernel
theorem dX3_countBehind_22 : decode cX3_countBehind 22 = .ok (.iaload, 1) := by decide +kernel
theorem dX3_countBehind_23 : decode cX3_countBehind 23 = .ok (.invokestatic 101, 3) := by decide +kernel
theorem dX3_countBehind_26 : decode cX3_countBehind 26 = .ok (.isub, 1) := by decide +kernel
theorem dX3_countBehind_27 : decode cX3_countBehind 27 = .ok (.invokestatic 69, 3) := by decide +kernel
theorem dX3_countBehind_30 : decode cX3_countBehind 30 = .ok (.imul, 1) := by decide +kernel
theorem dX3_countBehind_31 : decode cX3_countBehind 31 = .ok (.istore_n 2, 1) := by decide +kernel
theorem dX3_countBehind_32 : decode cX3_countBehind 32 = .ok (.iinc 3 1, 3) := by decide +kernel
theorem dX3_countBehind_35 : decode cX3_countBehind 35 = .ok (.goto (-31), 3) := by decide +kernel
theorem dX3_countBehind_38 : decode cX3_countBehind 38 = .ok (.iload_n 2, 1) := by decide +kernel
theorem dX3_countBehind_39 : decode cX3_countBehind 39 = .ok (.ireturn, 1) := by decide +kernel
theorem dX3_countLine_0 : decode cX3_countLine 0 = .ok (.lconst 1, 1) := by decide +kernel
theorem dX3_countLine_1 : decode cX3_countLine 1 = .ok (.lstore_n 2, 1) := by decide +kernel
theorem dX3_countLine_2 : decode cX3_countLine 2 = .ok (.iconst 0, 1) := by decide +kernel
theorem dX3_countLine_3 : decode cX3_countLine 3 = .ok (.istore 4, 2) := by decide +kernel
theorem dX3_countLine_5 : decode cX3_countLine 5 = .ok (.iload 4, 2) := by decide +kernel
theorem dX3_countLine_7 : decode cX3_countLine 7 = .ok (.iconst 3, 1) := by decide +kernel
theorem dX3_countLine_8 : decode cX3_countLine 8 = .ok (.if_icmp .ge 54, 3) := by decide +kernel
theorem dX3_countLine_11 : decode cX3_countLine 11 = .ok (.aload_n 0, 1) := by decide +kernel
theorem dX3_countLine_12 : decode cX3_countLine 12 = .ok (.getfield 29, 3) := by decide +kernel
theorem dX3_countLine_15 : decode cX3_countLine 15 = .ok (.getfield 98, 3) := by decide +kernel
theorem dX3_countLine_18 : decode cX3_countLine 18 = .ok (.iconst 3, 1) := by decide +kernel
theorem dX3_countLine_19 : decode cX3_countLine 19 = .ok (.iload 4, 2) := by decide +kernel
theorem dX3_countLine_21 : decode cX3_countLine 21 = .ok (.iadd, 1) := by decide +kernel
theorem dX3_countLine_22 : decode cX3_countLine 22 = .ok (.iaload, 1) := by decide +kernel
theorem dX3_countLine_23 : decode cX3_countLine 23 = .ok (.invokestatic 101, 3) := by decide +kernel
theorem dX3_countLine_26 : decode cX3_countLine 26 = .ok (.istore 5, 2) := by decide +kernel
theorem dX3_countLine_28 : decode cX3_countLine 28 = .ok (.iconst 1, 1) := by decide +kernel
theorem dX3_countLine_29 : decode cX3_countLine 29 = .ok (.istore 6, 2) := by decide +kernel
theorem dX3_countLine_31 : decode cX3_countLine 31 = .ok (.iload 6, 2) := by decide +kernel
theorem dX3_countLine_33 : decode cX3_countLine 33 = .ok (.aload_n 1, 1) := by decide +kernel
theorem dX3_countLine_34 : decode cX3_countLine 34 = .ok (.getfield 108, 3) := by decide +kernel
theorem dX3_countLine_37 : decode cX3_countLine 37 = .ok (.iload 4, 2) := by decide +kernel
theorem dX3_countLine_39 : decode cX3_countLine 39 = .ok (.iaload, 1) := by decide +kernel
theorem dX3_countLine_40 : decode cX3_countLine 40 = .ok (.if_icmp .ge 16, 3) := by decide +kernel
theorem dX3_countLine_43 : decode cX3_countLine 43 = .ok (.lload_n 2, 1) := by decide +kernel
theorem dX3_countLine_44 : decode cX3_countLine 44 = .ok (.lload_n 2, 1) := by decide +kernel
theorem dX3_countLine_45 : decode cX3_countLine 45 = .ok (.iload 5, 2) := by decide +kernel
theorem dX3_countLine_47 : decode cX3_countLine 47 = .ok (.lshl, 1) := by decide +kernel
theorem dX3_countLine_48 : decode cX3_countLine 48 = .ok (.lor, 1) := by decide +kernel
theorem dX3_countLine_49 : decode cX3_countLine 49 = .ok (.lstore_n 2, 1) := by decide +kernel
theorem dX3_countLine_50 : decode cX3_countLine 50 = .ok (.iinc 6 1, 3) := by decide +kernel
theorem dX3_countLine_53 : decode cX3_countLine 53 = .ok (.goto (-22), 3) := by decide +kernel
theorem dX3_countLine_56 : decode cX3_countLine 56 = .ok (.iinc 4 1, 3) := by decide +kernel
theorem dX3_countLine_59 : decode cX3_countLine 59 = .ok (.goto (-54), 3) := by decide +kernel
theorem dX3_countLine_62 : decode cX3_countLine 62 = .ok (.lload_n 2, 1) := by decide +kernel
theorem dX3_countLine_63 : decode cX3_countLine 63 = .ok (.invokestatic 111, 3) := by decide +kernel
theorem dX3_countLine_66 : decode cX3_countLine 66 = .ok (.ireturn, 1) := by decide +kernel
theorem dX3_commonDivisor_0 : decode cX3_commonDivisor 0 = .ok (.iload_n 0, 1) := by decide +kernel
theorem dX3_commonDivisor_1 : decode cX3_commonDivisor 1 = .ok (.istore_n 2, 1) := by decide +kernel
theorem dX3_commonDivisor_2 : decode cX3_commonDivisor 2 = .ok (.iload_n 1, 1) := by decide +kernel
theorem dX3_commonDivisor_3 : decode cX3_commonDivisor 3 = .ok (.istore_n 3, 1) := by decide +kernel
theorem dX3_commonDivisor_4 : decode cX3_commonDivisor 4 = .ok (.iconst 0, 1) := by decide +kernel
theorem dX3_commonDivisor_5 : decode cX3_commonDivisor 5 = .ok (.istore 4, 2) := by decide +kernel
theorem dX3_commonDivisor_7 : decode cX3_commonDivisor 7 = .ok (.iload 4, 2) := by decide +kernel
theorem dX3_commonDivisor_9 : decode cX3_commonDivisor 9 = .ok (.bipush 64, 2) := by decide +kernel
theorem dX3_commonDivisor_11 : decode cX3_commonDivisor 11 = .ok (.if_icmp .ge 23, 3) := by decide +kernel
theorem dX3_commonDivisor_14 : decode cX3_commonDivisor 14 = .ok (.iload_n 3, 1) := by decide +kernel
theorem dX3_commonDivisor_15 : decode cX3_commonDivisor 15 = .ok (.ifCond .eq 19, 3) := by decide +kernel
theorem dX3_commonDivisor_18 : decode cX3_commonDivisor 18 = .ok (.iload_n 2, 1) := by decide +kernel
theorem dX3_commonDivisor_19 : decode cX3_commonDivisor 19 = .ok (.iload_n 3, 1) := by decide +kernel
theorem dX3_commonDivisor_20 : decode cX3_commonDivisor 20 = .ok (.irem, 1) := by decide +kernel
theorem dX3_commonDivisor_21 : decode cX3_commonDivisor 21 = .ok (.istore 5, 2) := by decide +kernel
theorem dX3_commonDivisor_23 : decode cX3_commonDivisor 23 = .ok (.iload_n 3, 1) := by decide +kernel
theorem dX3_commonDivisor_24 : decode cX3_commonDivisor 24 = .ok (.istore_n 2, 1) := by decide +kernel
theorem dX3_commonDivisor_25 : decode cX3_commonDivisor 25 = .ok (.iload 5, 2) := by decide +kernel
theorem dX3_commonDivisor_27 : decode cX3_commonDivisor 27 = .ok (.istore_n 3, 1) := by decide +kernel
theorem dX3_commonDivisor_28 : decode cX3_commonDivisor 28 = .ok (.iinc 4 1, 3) := by decide +kernel
theorem dX3_commonDivisor_31 : decode cX3_commonDivisor 31 = .ok (.goto (-24), 3) := by decide +kernel
theorem dX3_commonDivisor_34 : decode cX3_commonDivisor 34 = .ok (.iload_n 2, 1) := by decide +kernel
theorem dX3_commonDivisor_35 : decode cX3_commonDivisor 35 = .ok (.ireturn, 1) := by decide +kernel
end
section
theorem dX4_init_0 : decode cX4_init 0 = .ok (.aload_n 0, 1) := by decide +kernel
theorem dX4_init_1 : decode cX4_init 1 = .ok (.invokespecial 3, 3) := by decide +kernel
theorem dX4_init_4 : decode cX4_init 4 = .ok (.aload_n 0, 1) := by decide +kernel
theorem dX4_init_5 : decode cX4_init 5 = .ok (.iconst 3, 1) := by decide +kernel
theorem dX4_init_6 : decode cX4_init 6 = .ok (.newarray .int, 2) := by decide +kernel
theorem dX4_init_8 : decode cX4_init 8 = .ok (.dup, 1) := by decide +kernel
theorem dX4_init_9 : decode cX4_init 9 = .ok (.iconst 0, 1) := by decide +kernel
theorem dX4_init_10 : decode cX4_init 10 = .ok (.iconst 1, 1) := by decide +kernel
theorem dX4_init_11 : decode cX4_init 11 = .ok (.iastore, 1) := by decide +kernel
theorem dX4_init_12 : decode cX4_init 12 = .ok (.dup, 1) := by decide +kernel
theorem dX4_init_13 : decode cX4_init 13 = .ok (.iconst 1, 1) := by decide +kernel
theorem dX4_init_14 : decode cX4_init 14 = .ok (.iconst 1, 1) := by decide +kernel
theorem dX4_init_15 : decode cX4_init 15 = .ok (.iastore, 1) := by decide +kernel
theorem dX4_init_16 : decode cX4_init 16 = .ok (.dup, 1) := by decide +kernel
theorem dX4_init_17 : decode cX4_init 17 = .ok (.iconst 2, 1) := by decide +kernel
theorem dX4_init_18 : decode cX4_init 18 = .ok (.iconst 1, 1) := by decide +kernel
theorem dX4_init_19 : decode cX4_init 19 = .ok (.iastore, 1) := by decide +kernel
theorem dX4_init_20 : decode cX4_init 20 = .ok (.putfield 9, 3) := by decide +kernel
theorem dX4_init_23 : decode cX4_init 23 = .ok (.aload_n 0, 1) := by decide +kernel
theorem dX4_init_24 : decode cX4_init 24 = .ok (.sipush 512, 3) := by decide +kernel
theorem dX4_init_27 : decode cX4_init 27 = .ok (.newarray .int, 2) := by decide +kernel
theorem dX4_init_29 : decode cX4_init 29 = .ok (.putfield 15, 3) := by decide +kernel
theorem dX4_init_32 : decode cX4_init 32 = .ok (.aload_n 0, 1) := by decide +kernel
theorem dX4_init_33 : decode cX4_init 33 = .ok (.iconst 1, 1) := by decide +kernel
theorem dX4_init_34 : decode cX4_init 34 = .ok (.putfield 18, 3) := by decide +kernel
theorem dX4_init_37 : decode cX4_init 37 = .ok (.aload_n 0, 1) := by decide +kernel
theorem dX4_init_38 : decode cX4_init 38 = .ok (.iconst 0, 1) := by decide +kernel
theorem dX4_init_39 : decode cX4_init 39 = .ok (.putfield 22, 3) := by decide +kernel
theorem dX4_init_42 : decode cX4_init 42 = .ok (.aload_n 0, 1) := by decide +kernel
theorem dX4_init_43 : decode cX4_init 43 = .ok (.bipush 12, 2) := by decide +kernel
theorem dX4_init_45 : decode cX4_init 45 = .ok (.newarray .int, 2) := by decide +kernel
theorem dX4_init_47 : decode cX4_init 47 = .ok (.putfield 25, 3) := by decide +kernel
theorem dX4_init_50 : decode cX4_init 50 = .ok (.aload_n 0, 1) := by decide +kernel
theorem dX4_init_51 : decode cX4_init 51 = .ok (.iconst 4, 1) := by decide +kernel
theorem dX4_init_52 : decode cX4_init 52 = .ok (.newarray .int, 2) := by decide +kernel
theorem dX4_init_54 : decode cX4_init 54 = .ok (.putfield 28, 3) := by decide +kernel
theorem dX4_init_57 : decode cX4_init 57 = .ok (.aload_n 0, 1) := by decide +kernel
theorem dX4_init_58 : decode cX4_init 58 = .ok (.iconst 4, 1) := by decide +kernel
theorem dX4_init_59 : decode cX4_init 59 = .ok (.newarray .int, 2) := by decide +kernel
theorem dX4_init_61 : decode cX4_init 61 = .ok (.putfield 31, 3) := by decide +kernel
theorem dX4_init_64 : decode cX4_init 64 = .ok (.aload_n 0, 1) := by decide +kernel
theorem dX4_init_65 : decode cX4_init 65 = .ok (.iconst 4, 1) := by decide +kernel
theorem dX4_init_66 : decode cX4_init 66 = .ok (.newarray .int, 2) := by decide +kernel
theorem dX4_init_68 : decode cX4_init 68 = .ok (.putfield 34, 3) := by decide +kernel
theorem dX4_init_71 : decode cX4_init 71 = .ok (.aload_n 0, 1) := by decide +kernel
theorem dX4_init_72 : decode cX4_init 72 = .ok (.sipush 2048, 3) := by decide +kernel
theorem dX4_init_75 : decode cX4_init 75 = .ok (.newarray .int, 2) := by decide +kernel
theorem dX4_init_77 : decode cX4_init 77 = .ok (.putfield 37, 3) := by decide +kernel
theorem dX4_init_80 : decode cX4_init 80 = .ok (.aload_n 0, 1) := by decide +kernel
theorem dX4_init_81 : decode cX4_init 81 = .ok (.sipush 2048, 3) := by decide +kernel
theorem dX4_init_84 : decode cX4_init 84 = .ok (.newarray .int, 2) := by decide +kernel
theorem dX4_init_86 : decode cX4_init 86 = .ok (.putfield 40, 3) := by decide +kernel
theorem dX4_init_89 : decode cX4_init 89 = .ok (.aload_n 0, 1) := by decide +kernel
theorem dX4_init_90 : decode cX4_init 90 = .ok (.iconst 0, 1) := by decide +kernel
theorem dX4_init_91 : decode cX4_init 91 = .ok (.putfield 43, 3) := by decide +kernel
theorem dX4_init_94 : decode cX4_init 94 = .ok (.return_, 1) := by decide +kernel
theorem dX4_resize_0 : decode cX4_resize 0 = .ok (.aload_n 0, 1) := by decide +kernel
theorem dX4_resize_1 : decode cX4_resize 1 = .ok (.getfield 9, 3) := by decide +kernel
theorem dX4_resize_4 : decode cX4_resize 4 = .ok (.iconst 0, 1) := by decide +kernel
theorem dX4_resize_5 : decode cX4_resize 5 = .ok (.iload_n 1, 1) := by decide +kernel
theorem dX4_resize_6 : decode cX4_resize 6 = .ok (.iastore, 1) := by decide +kernel
theorem dX4_resize_7 : decode cX4_resize 7 = .ok (.aload_n 0, 1) := by decide +kernel
theorem dX4_resize_8 : decode cX4_resize 8 = .ok (.getfield 9, 3) := by decide +kernel
theorem dX4_resize_11 : decode cX4_resize 11 = .ok (.iconst 1, 1) := by decide +kernel
theorem dX4_resize_12 : decode cX4_resize 12 = .ok (.iload_n 2, 1) := by decide +kernel
theorem dX4_resize_13 : decode cX4_resize 13 = .ok (.iastore, 1) := by decide +kernel
theorem dX4_resize_14 : decode cX4_resize 14 = .ok (.aload_n 0, 1) := by decide +kernel
theorem dX4_resize_15 : decode cX4_resize 15 = .ok (.getfield 9, 3) := by decide +kernel
theorem dX4_resize_18 : decode cX4_resize 18 = .ok (.iconst 2, 1) := by decide +kernel
theorem dX4_resize_19 : decode cX4_resize 19 = .ok (.iload_n 3, 1) := by decide +kernel
theorem dX4_resize_20 : decode cX4_resize 20 = .ok (.iastore, 1) := by decide +kernel
theorem dX4_resize_21 : decode cX4_resize 21 = .ok (.aload_n 0, 1) := by decide +kernel
theorem dX4_resize_22 : decode cX4_resize 22 = .ok (.iconst 0, 1) := by decide +kernel
theorem dX4_resize_23 : decode cX4_resize 23 = .ok (.putfield 18, 3) := by decide +kernel
theorem dX4_resize_26 : decode cX4_resize 26 = .ok (.iconst 0, 1) := by decide +kernel
theorem dX4_resize_27 : decode cX4_resize 27 = .ok (.istore 4, 2) := by decide +kernel
theorem dX4_resize_29 : decode cX4_resize 29 = .ok (.iload 4, 2) := by decide +kernel
theorem dX4_resize_31 : decode cX4_resize 31 = .ok (.sipush 512, 3) := by decide +kernel
theorem dX4_resize_34 : decode cX4_resize 34 = .ok (.if_icmp .ge 55, 3) := by decide +kernel
theorem dX4_resize_37 : decode cX4_resize 37 = .ok (.aload_n 0, 1) := by decide +kernel
theorem dX4_resize_38 : decode cX4_resize 38 = .ok (.iload 4, 2) := by decide +kernel
theorem dX4_resize_40 : decode cX4_resize 40 = .ok (.bipush 6, 2) := by decide +kernel
theorem dX4_resize_42 : decode cX4_resize 42 = .ok (.ishr, 1) := by decide +kernel
theorem dX4_resize_43 : decode cX4_resize 43 = .ok (.iload 4, 2) := by decide +kernel
theorem dX4_resize_45 : decode cX4_resize 45 = .ok (.iconst 3, 1) := by decide +kernel
theorem dX4_resize_46 : decode cX4_resize 46 = .ok (.ishr, 1) := by decide +kernel
theorem dX4_resize_47 : decode cX4_resize 47 = .ok (.bipush 7, 2) := by decide +kernel
theorem dX4_resize_49 : decode cX4_resize 49 = .ok (.iand, 1) := by decide +kernel
theorem dX4_resize_50 : decode cX4_resize 50 = .ok (.iload 4, 2) := by decide +kernel
theorem dX4_resize_52 : decode cX4_resize 52 = .ok (.bipush 7, 2) := by decide +kernel
theorem dX4_resize_54 : decode cX4_resize 54 = .ok (.iand, 1) := by decide +kernel
theorem dX4_resize_55 : decode cX4_resize 55 = .ok (.invokevirtual 47, 3) := by decide +kernel
theorem dX4_resize_58 : decode cX4_resize 58 = .ok (.iconst (-1), 1) := by decide +kernel
theorem dX4_resize_59 : decode cX4_resize 59 = .ok (.if_icmp .eq 24, 3) := by decide +kernel
theorem dX4_resize_62 : decode cX4_resize 62 = .ok (.aload_n 0, 1) := by decide +kernel
theorem dX4_resize_63 : decode cX4_resize 63 = .ok (.getfield 15, 3) := by decide +kernel
theorem dX4_resize_66 : decode cX4_resize 66 = .ok (.aload_n 0, 1) := by decide +kernel
theorem dX4_resize_67 : decode cX4_resize 67 = .ok (.getfield 18, 3) := by decide +kernel
theorem dX4_resize_70 : decode cX4_resize 70 = .ok (.iload 4, 2) := by decide +kernel
theorem dX4_resize_72 : decode cX4_resize 72 = .ok (.iastore, 1) := by decide +kernel
theorem dX4_resize_73 : decode cX4_resize 73 = .ok (.aload_n 0, 1) := by decide +kernel
theorem dX4_resize_74 : decode cX4_resize 74 = .ok (.dup, 1) := by decide +kernel
theorem dX4_resize_75 : decode cX4_resize 75 = .ok (.getfield 18, 3) := by decide +kernel
theorem dX4_resize_78 : decode cX4_resize 78 = .ok (.iconst 1, 1) := by decide +kernel
theorem dX4_resize_79 : decode cX4_resize 79 = .ok (.iadd, 1) := by decide +kernel
theorem dX4_resize_80 : decode cX4_resize 80 = .ok (.putfield 18, 3) := by decide +kernel
theorem dX4_resize_83 : decode cX4_resize 83 = .ok (.iinc 4 1, 3) := by decide +kernel
theorem dX4_resize_86 : decode cX4_resize 86 = .ok (.goto (-57), 3) := by decide +kernel
theorem dX4_resize_89 : decode cX4_resize 89 = .ok (.aload_n 0, 1) := by decide +kernel
theorem dX4_resize_90 : decode cX4_resize 90 = .ok (.getfield 37, 3) := by decide +kernel
theorem dX4_resize_93 : decode cX4_resize 93 = .ok (.iconst 0, 1) := by decide +kernel
theorem dX4_resize_94 : decode cX4_resize 94 = .ok (.invokestatic 51, 3) := by decide +kernel
theorem dX4_resize_97 : decode cX4_resize 97 = .ok (.aload_n 0, 1) := by decide +kernel
theorem dX4_resize_98 : decode cX4_resize 98 = .ok (.iconst 0, 1) := by decide +kernel
theorem dX4_resize_99 : decode cX4_resize 99 = .ok (.putfield 43, 3) := by decide +kernel
theorem dX4_resize_102 : decode cX4_resize 102 = .ok (.return_, 1) := by decide +kernel
theorem dX4_addVariable_0 : decode cX4_addVariable 0 = .ok (.aload_n 0, 1) := by decide +kernel
theorem dX4_addVariable_1 : decode cX4_addVariable 1 = .ok (.getfield 22, 3) := by decide +kernel
theorem dX4_addVariable_4 : decode cX4_addVariable 4 = .ok (.istore 4, 2) := by decide +kernel
theorem dX4_addVariable_6 : decode cX4_addVariable 6 = .ok (.aload_n 0, 1) := by decide +kernel
theorem dX4_addVariable_7 : decode cX4_addVariable 7 = .ok (.dup, 1) := by decide +kernel
theorem dX4_addVariable_8 : decode cX4_addVariable 8 = .ok (.getfield 22, 3) := by decide +kernel
theorem dX4_addVariable_11 : decode cX4_addVariable 11 = .ok (.iconst 1, 1) := by decide +kernel
theorem dX4_addVariable_12 : decode cX4_addVariable 12 = .ok (.iadd, 1) := by decide +kernel
theorem dX4_addVariable_13 : decode cX4_addVariable 13 = .ok (.putfield 22, 3) := by decide +kernel
theorem dX4_addVariable_16 : decode cX4_addVariable 16 = .ok (.aload_n 0, 1) := by decide +kernel
theorem dX4_addVariable_17 : decode cX4_addVariable 17 = .ok (.getfield 25, 3) := by decide +kernel
theorem dX4_addVariable_20 : decode cX4_addVariable 20 = .ok (.iconst 3, 1) := by decide +kernel
theorem dX4_addVariable_21 : decode cX4_addVariable 21 = .ok (.iload 4, 2) := by decide +kernel
theorem dX4_addVariable_23 : decode cX4_addVariable 23 = .ok (.imul, 1) := by decide +kernel
theorem dX4_addVariable_24 : decode cX4_addVariable 24 = .ok (.iload_n 1, 1) := by decide +kernel
theorem dX4_addVariable_25 : decode cX4_addVariable 25 = .ok (.iastore, 1) := by decide +kernel
theorem dX4_addVariable_26 : decode cX4_addVariable 26 = .ok (.aload_n 0, 1) := by decide +kernel
theorem dX4_addVariable_27 : decode cX4_addVariable 27 = .ok (.getfield 25, 3) := by decide +kernel
theorem dX4_addVariable_30 : decode cX4_addVariable 30 = .ok (.iconst 3, 1) := by decide +kernel
theorem dX4_addVariable_31 : decode cX4_addVariable 31 = .ok (.iload 4, 2) := by decide +kernel
theorem dX4_addVariable_33 : decode cX4_addVariable 33 = .ok (.imul, 1) := by decide +kernel
theorem dX4_addVariable_34 : decode cX4_addVariable 34 = .ok (.iconst 1, 1) := by decide +kernel
theorem dX4_addVariable_35 : decode cX4_addVariable 35 = .ok (.iadd, 1) := by decide +kernel
theorem dX4_addVariable_36 : decode cX4_addVariable 36 = .ok (.iload_n 2, 1) := by decide +kernel
theorem dX4_addVariable_37 : decode cX4_addVariable 37 = .ok (.iastore, 1) := by decide +kernel
theorem dX4_addVariable_38 : decode cX4_addVariable 38 = .ok (.aload_n 0, 1) := by decide +kernel
theorem dX4_addVariable_39 : decode cX4_addVariable 39 = .ok (.getfield 25, 3) := by decide +kernel
theorem dX4_addVariable_42 : decode cX4_addVariable 42 = .ok (.iconst 3, 1) := by decide +kernel
theorem dX4_addVariable_43 : decode cX4_addVariable 43 = .ok (.iload 4, 2) := by decide +kernel
theorem dX4_addVariable_45 : decode cX4_addVariable 45 = .ok (.imul, 1) := by decide +kernel
theorem dX4_addVariable_46 : decode cX4_addVariable 46 = .ok (.iconst 2, 1) := by decide +kernel
theorem dX4_addVariable_47 : decode cX4_addVariable 47 = .ok (.iadd, 1) := by decide +kernel
theorem dX4_addVariable_48 : decode cX4_addVariable 48 = .ok (.iload_n 3, 1) := by decide +kernel
theorem dX4_addVariable_49 : decode cX4_addVariable 49 = .ok (.iastore, 1) := by decide +kernel
theorem dX4_addVariable_50 : decode cX4_addVariable 50 = .ok (.aload_n 0, 1) := by decide +kernel
theorem dX4_addVariable_51 : decode cX4_addVariable 51 = .ok (.iload 4, 2) := by decide +kernel
theorem dX4_addVariable_53 : decode cX4_addVariable 53 = .ok (.iconst 0, 1) := by decide +kernel
theorem dX4_addVariable_54 : decode cX4_addVariable 54 = .ok (.iconst 0, 1) := by decide +kernel
theorem dX4_addVariable_55 : decode cX4_addVariable 55 = .ok (.iconst 0, 1) := by decide +kernel
theorem dX4_addVariable_56 : decode cX4_addVariable 56 = .ok (.invokevirtual 57, 3) := by decide +kernel
theorem dX4_addVariable_59 : decode cX4_addVariable 59 = .ok (.iload 4, 2) := by decide +kernel
theorem dX4_addVariable_61 : decode cX4_addVariable 61 = .ok (.ireturn, 1) := by decide +kernel
theorem dX4_setAct_0 : decode cX4_setAct 0 = .ok (.aload_n 0, 1) := by decide +kernel
theorem dX4_setAct_1 : decode cX4_setAct 1 = .ok (.getfield 28, 3) := by decide +kernel
theorem dX4_setAct_4 : decode cX4_setAct 4 = .ok (.iload_n 1, 1) := by decide +kernel
theorem dX4_setAct_5 : decode cX4_setAct 5 = .ok (.iload_n 2, 1) := by decide +kernel
theorem dX4_setAct_6 : decode cX4_setAct 6 = .ok (.iastore, 1) := by decide +kernel
theorem dX4_setAct_7 : decode cX4_setAct 7 = .ok (.aload_n 0, 1) := by decide +kernel
theorem dX4_setAct_8 : decode cX4_setAct 8 = .ok (.getfield 31, 3) := by decide +kernel
theorem dX4_setAct_11 : decode cX4_setAct 11 = .ok (.iload_n 1, 1) := by decide +kernel
theorem dX4_setAct_12 : decode cX4_setAct 12 = .ok (.iload_n 3, 1) := by decide +kernel
theorem dX4_setAct_13 : decode cX4_setAct 13 = .ok (.iastore, 1) := by decide +kernel
theorem dX4_setAct_14 : decode cX4_setAct 14 = .ok (.aload_n 0, 1) := by decide +kernel
theorem dX4_setAct_15 : decode cX4_setAct 15 = .ok (.getfield 34, 3) := by decide +kernel
theorem dX4_setAct_18 : decode cX4_setAct 18 = .ok (.iload_n 1, 1) := by decide +kernel
theorem dX4_setAct_19 : decode cX4_setAct 19 = .ok (.iload 4, 2) := by decide +kernel
theorem dX4_setAct_21 : decode cX4_setAct 21 = .ok (.iastore, 1) := by decide +kernel
theorem dX4_setAct_22 : decode cX4_setAct 22 = .ok (.aload_n 0, 1) := by decide +kernel
theorem dX4_setAct_23 : decode cX4_setAct 23 = .ok (.iconst 0, 1) := by decide +kernel
theorem dX4_setAct_24 : decode cX4_setAct 24 = .ok (.putfield 43, 3) := by decide +kernel
theorem dX4_setAct_27 : decode cX4_setAct 27 = .ok (.return_, 1) := by decide +kernel
theorem dX4_setEdge_0 : decode cX4_setEdge 0 = .ok (.aload_n 0, 1) := by decide +kernel
theorem dX4_setEdge_1 : decode cX4_setEdge 1 = .ok (.getfield 37, 3) := by decide +kernel
theorem dX4_setEdge_4 : decode cX4_setEdge 4 = .ok (.iload_n 1, 1) := by decide +kernel
theorem dX4_setEdge_5 : decode cX4_setEdge 5 = .ok (.sipush 512, 3) := by decide +kernel
theorem dX4_setEdge_8 : decode cX4_setEdge 8 = .ok (.imul, 1) := by decide +kernel
theorem dX4_setEdge_9 : decode cX4_setEdge 9 = .ok (.iload_n 2, 1) := by decide +kernel
theorem dX4_setEdge_10 : decode cX4_setEdge 10 = .ok (.iadd, 1) := by decide +kernel
theorem dX4_setEdge_11 : decode cX4_setEdge 11 = .ok (.iload_n 3, 1) := by decide +kernel
theorem dX4_setEdge_12 : decode cX4_setEdge 12 = .ok (.iastore, 1) := by decide +kernel
theorem dX4_setEdge_13 : decode cX4_setEdge 13 = .ok (.aload_n 0, 1) := by decide +kernel
theorem dX4_setEdge_14 : decode cX4_setEdge 14 = .ok (.iconst 0, 1) := by decide +kernel
theorem dX4_setEdge_15 : decode cX4_setEdge 15 = .ok (.putfield 43, 3) := by decide +kernel
theorem dX4_setEdge_18 : decode cX4_setEdge 18 = .ok (.return_, 1) := by decide +kernel
theorem dX4_dropVariables_0 : decode cX4_dropVariables 0 = .ok (.aload_n 0, 1) := by decide +kernel
theorem dX4_dropVariables_1 : decode cX4_dropVariables 1 = .ok (.iconst 0, 1) := by decide +kernel
theorem dX4_dropVariables_2 : decode cX4_dropVariables 2 = .ok (.putfield 22, 3) := by decide +kernel
theorem dX4_dropVariables_5 : decode cX4_dropVariables 5 = .ok (.aload_n 0, 1) := by decide +kernel
theorem dX4_dropVariables_6 : decode cX4_dropVariables 6 = .ok (.getfield 37, 3) := by decide +kernel
theorem dX4_dropVariables_9 : decode cX4_dropVariables 9 = .ok (.iconst 0, 1) := by decide +kernel
theorem dX4_dropVariables_10 : decode cX4_dropVariables 10 = .ok (.invokestatic 51, 3) := by decide +kernel
theorem dX4_dropVariables_13 : decode cX4_dropVariables 13 = .ok (.aload_n 0, 1) := by decide +kernel
theorem dX4_dropVariables_14 : decode cX4_dropVariables 14 = .ok (.iconst 0, 1) := by decide +kernel
theorem dX4_dropVariables_15 : decode cX4_dropVariables 15 = .ok (.putfield 43, 3) := by decide +kernel
theorem dX4_dropVariables_18 : decode cX4_dropVariables 18 = .ok (.return_, 1) := by decide +kernel
theorem dX4_has_0 : decode cX4_has 0 = .ok (.iload_n 1, 1) := by decide +kernel
theorem dX4_has_1 : decode cX4_has 1 = .ok (.ifCond .lt 15, 3) := by decide +kernel
theorem dX4_has_4 : decode cX4_has 4 = .ok (.iload_n 1, 1) := by decide +kernel
theorem dX4_has_5 : decode cX4_has 5 = .ok (.aload_n 0, 1) := by decide +kernel
theorem dX4_has_6 : decode cX4_has 6 = .ok (.getfield 22, 3) := by decide +kernel
theorem dX4_has_9 : decode cX4_has 9 = .ok (.if_icmp .ge 7, 3) := by decide +kernel
theorem dX4_has_12 : decode cX4_has 12 = .ok (.iconst 1, 1) := by decide +kernel
theorem dX4_has_13 : decode cX4_has 13 = .ok (.goto 4, 3) := by decide +kernel
theorem dX4_has_16 : decode cX4_has 16 = .ok (.iconst 0, 1) := by decide +kernel
theorem dX4_has_17 : decode cX4_has 17 = .ok (.ireturn, 1) := by decide +kernel
theorem dX4_codeOf_0 : decode cX4_codeOf 0 = .ok (.iload_n 1, 1) := by decide +kernel
theorem dX4_codeOf_1 : decode cX4_codeOf 1 = .ok (.ifCond .lt 41, 3) := by decide +kernel
theorem dX4_codeOf_4 : decode cX4_codeOf 4 = .ok (.iload_n 1, 1) := by decide +kernel
theorem dX4_codeOf_5 : decode cX4_codeOf 5 = .ok (.aload_n 0, 1) := by decide +kernel
theorem dX4_codeOf_6 : decode cX4_codeOf 6 = .ok (.getfield 9, 3) := by decide +kernel
theorem dX4_codeOf_9 : decode cX4_codeOf 9 = .ok (.iconst 0, 1) := by decide +kernel
theorem dX4_codeOf_10 : decode cX4_codeOf 10 = .ok (.iaload, 1) := by decide +kernel
theorem dX4_codeOf_11 : decode cX4_codeOf 11 = .ok (.if_icmp .ge 31, 3) := by decide +kernel
theorem dX4_codeOf_14 : decode cX4_codeOf 14 = .ok (.iload_n 2, 1) := by decide +kernel
theorem dX4_codeOf_15 : decode cX4_codeOf 15 = .ok (.ifCond .lt 27, 3) := by decide +kernel
theorem dX4_codeOf_18 : decode cX4_codeOf 18 = .ok (.iload_n 2, 1) := by decide +kernel
theorem dX4_codeOf_19 : decode cX4_codeOf 19 = .ok (.aload_n 0, 1) := by decide +kernel
theorem dX4_codeOf_20 : decode cX4_codeOf 20 = .ok (.getfield 9, 3) := by decide +kernel
theorem dX4_codeOf_23 : decode cX4_codeOf 23 = .ok (.iconst 1, 1) := by decide +kernel
theorem dX4_codeOf_24 : decode cX4_codeOf 24 = .ok (.iaload, 1) := by decide +kernel
theorem dX4_codeOf_25 : decode cX4_codeOf 25 = .ok (.if_icmp .ge 17, 3) := by decide +kernel
theorem dX4_codeOf_28 : decode cX4_codeOf 28 = .ok (.iload_n 3, 1) := by decide +kernel
theorem dX4_codeOf_29 : decode cX4_codeOf 29 = .ok (.ifCond .lt 13, 3) := by decide +kernel
theorem dX4_codeOf_32 : decode cX4_codeOf 32 = .ok (.iload_n 3, 1) := by decide +kernel
theorem dX4_codeOf_33 : decode cX4_codeOf 33 = .ok (.aload_n 0, 1) := by decide +kernel
theorem dX4_codeOf_34 : decode cX4_codeOf 34 = .ok (.getfield 9, 3) := by decide +kernel
theorem dX4_codeOf_37 : decode cX4_codeOf 37 = .ok (.iconst 2, 1) := by decide +kernel
theorem dX4_codeOf_38 : decode cX4_codeOf 38 = .ok (.iaload, 1) := by decide +kernel
theorem dX4_codeOf_39 : decode cX4_codeOf 39 = .ok (.if_icmp .lt 5, 3) := by decide +kernel
theorem dX4_codeOf_42 : decode cX4_codeOf 42 = .ok (.iconst (-1), 1) := by decide +kernel
theorem dX4_codeOf_43 : decode cX4_codeOf 43 = .ok (.ireturn, 1) := by decide +kernel
theorem dX4_codeOf_44 : decode cX4_codeOf 44 = .ok (.bipush 64, 2) := by decide +kernel
theorem dX4_codeOf_46 : decode cX4_codeOf 46 = .ok (.iload_n 1, 1) := by decide +kernel
theorem dX4_codeOf_47 : decode cX4_codeOf 47 = .ok (.imul, 1) := by decide +kernel
theorem dX4_codeOf_48 : decode cX4_codeOf 48 = .ok (.bipush 8, 2) := by decide +kernel
theorem dX4_codeOf_50 : decode cX4_codeOf 50 = .ok (.iload_n 2, 1) := by decide +kernel
theorem dX4_codeOf_51 : decode cX4_codeOf 51 = .ok (.imul, 1) := by decide +kernel
theorem dX4_codeOf_52 : decode cX4_codeOf 52 = .ok (.iadd, 1) := by decide +kernel
theorem dX4_codeOf_53 : decode cX4_codeOf 53 = .ok (.iload_n 3, 1) := by decide +kernel
theorem dX4_codeOf_54 : decode cX4_codeOf 54 = .ok (.iadd, 1) := by decide +kernel
theorem dX4_codeOf_55 : decode cX4_codeOf 55 = .ok (.ireturn, 1) := by decide +kernel
theorem dX4_isNeeded_0 : decode cX4_isNeeded 0 = .ok (.iconst 0, 1) := by decide +kernel
theorem dX4_isNeeded_1 : decode cX4_isNeeded 1 = .ok (.istore_n 2, 1) := by decide +kernel
theorem dX4_isNeeded_2 : decode cX4_isNeeded 2 = .ok (.iload_n 2, 1) := by decide +kernel
theorem dX4_isNeeded_3 : decode cX4_isNeeded 3 = .ok (.iconst 3, 1) := by decide +kernel
theorem dX4_isNeeded_4 : decode cX4_isNeeded 4 = .ok (.if_icmp .ge 33, 3) := by decide +kernel
theorem dX4_isNeeded_7 : decode cX4_isNeeded 7 = .ok (.aload_n 0, 1) := by decide +kernel
theorem dX4_isNeeded_8 : decode cX4_isNeeded 8 = .ok (.getfield 25, 3) := by decide +kernel
theorem dX4_isNeeded_11 : decode cX4_isNeeded 11 = .ok (.iconst 3, 1) := by decide +kernel
theorem dX4_isNeeded_12 : decode cX4_isNeeded 12 = .ok (.iload_n 1, 1) := by decide +kernel
theorem dX4_isNeeded_13 : decode cX4_isNeeded 13 = .ok (.imul, 1) := by decide +kernel
theorem dX4_isNeeded_14 : decode cX4_isNeeded 14 = .ok (.iload_n 2, 1) := by decide +kernel
theorem dX4_isNeeded_15 : decode cX4_isNeeded 15 = .ok (.iadd, 1) := by decide +kernel
theorem dX4_isNeeded_16 : decode cX4_isNeeded 16 = .ok (.iaload, 1) := by decide +kernel
theorem dX4_isNeeded_17 : decode cX4_isNeeded 17 = .ok (.invokestatic 61, 3) := by decide +kernel
theorem dX4_isNeeded_20 : decode cX4_isNeeded 20 = .ok (.aload_n 0, 1) := by decide +kernel
theorem dX4_isNeeded_21 : decode cX4_isNeeded 21 = .ok (.getfield 9, 3) := by decide +kernel
theorem dX4_isNeeded_24 : decode cX4_isNeeded 24 = .ok (.iload_n 2, 1) := by decide +kernel
theorem dX4_isNeeded_25 : decode cX4_isNeeded 25 = .ok (.iaload, 1) := by decide +kernel
theorem dX4_isNeeded_26 : decode cX4_isNeeded 26 = .ok (.if_icmp .lt 5, 3) := by decide +kernel
theorem dX4_isNeeded_29 : decode cX4_isNeeded 29 = .ok (.iconst 0, 1) := by decide +kernel
theorem dX4_isNeeded_30 : decode cX4_isNeeded 30 = .ok (.ireturn, 1) := by decide +kernel
theorem dX4_isNeeded_31 : decode cX4_isNeeded 31 = .ok (.iinc 2 1, 3) := by decide +kernel
theorem dX4_isNeeded_34 : decode cX4_isNeeded 34 = .ok (.goto (-32), 3) := by decide +kernel
theorem dX4_isNeeded_37 : decode cX4_isNeeded 37 = .ok (.iconst 1, 1) := by decide +kernel
theorem dX4_isNeeded_38 : decode cX4_isNeeded 38 = .ok (.ireturn, 1) := by decide +kernel
theorem dX4_stepped_0 : decode cX4_stepped 0 = .ok (.iload_n 2, 1) := by decide +kernel
theorem dX4_stepped_1 : decode cX4_stepped 1 = .ok (.bipush 6, 2) := by decide +kernel
theorem dX4_stepped_3 : decode cX4_stepped 3 = .ok (.ishr, 1) := by decide +kernel
theorem dX4_stepped_4 : decode cX4_stepped 4 = .ok (.iload_n 3, 1) := by decide +kernel
theorem dX4_stepped_5 : decode cX4_stepped 5 = .ok (.aload_n 0, 1) := by decide +kernel
theorem dX4_stepped_6 : decode cX4_stepped 6 = .ok (.getfield 25, 3) := by decide +kernel
theorem dX4_stepped_9 : decode cX4_stepped 9 = .ok (.iconst 3, 1) := by decide +kernel
theorem dX4_stepped_10 : decode cX4_stepped 10 = .ok (.iload_n 1, 1) := by decide +kernel
theorem dX4_stepped_11 : decode cX4_stepped 11 = .ok (.imul, 1) := by decide +kernel
theorem dX4_stepped_12 : decode cX4_stepped 12 = .ok (.iaload, 1) := by decide +kernel
theorem dX4_stepped_13 : decode cX4_stepped 13 = .ok (.imul, 1) := by decide +kernel
theorem dX4_stepped_14 : decode cX4_stepped 14 = .ok (.iadd, 1) := by decide +kernel
theorem dX4_stepped_15 : decode cX4_stepped 15 = .ok (.istore 4, 2) := by decide +kernel
theorem dX4_stepped_17 : decode cX4_stepped 17 = .ok (.iload_n 2, 1) := by decide +kernel
theorem dX4_stepped_18 : decode cX4_stepped 18 = .ok (.iconst 3, 1) := by decide +kernel
theorem dX4_stepped_19 : decode cX4_stepped 19 = .ok (.ishr, 1) := by decide +kernel
theorem dX4_stepped_20 : decode cX4_stepped 20 = .ok (.bipush 7, 2) := by decide +kernel
theorem dX4_stepped_22 : decode cX4_stepped 22 = .ok (.iand, 1) := by decide +kernel
theorem dX4_stepped_23 : decode cX4_stepped 23 = .ok (.iload_n 3, 1) := by decide +kernel
theorem dX4_stepped_24 : decode cX4_stepped 24 = .ok (.aload_n 0, 1) := by decide +kernel
theorem dX4_stepped_25 : decode cX4_stepped 25 = .ok (.getfield 25, 3) := by decide +kernel
theorem dX4_stepped_28 : decode cX4_stepped 28 = .ok (.iconst 3, 1) := by decide +kernel
theorem dX4_stepped_29 : decode cX4_stepped 29 = .ok (.iload_n 1, 1) := by decide +kernel
theorem dX4_stepped_30 : decode cX4_stepped 30 = .ok (.imul, 1) := by decide +kernel
theorem dX4_stepped_31 : decode cX4_stepped 31 = .ok (.iconst 1, 1) := by decide +kernel
theorem dX4_stepped_32 : decode cX4_stepped 32 = .ok (.iadd, 1) := by decide +kernel
theorem dX4_stepped_33 : decode cX4_stepped 33 = .ok (.iaload, 1) := by decide +kernel
theorem dX4_stepped_34 : decode cX4_stepped 34 = .ok (.imul, 1) := by decide +kernel
theorem dX4_stepped_35 : decode cX4_stepped 35 = .ok (.iadd, 1) := by decide +kernel
theorem dX4_stepped_36 : decode cX4_stepped 36 = .ok (.istore 5, 2) := by decide +kernel
theorem dX4_stepped_38 : decode cX4_stepped 38 = .ok (.iload_n 2, 1) := by decide +kernel
theorem dX4_stepped_39 : decode cX4_stepped 39 = .ok (.bipush 7, 2) := by decide +kernel
theorem dX4_stepped_41 : decode cX4_stepped 41 = .ok (.iand, 1) := by decide +kernel
theorem dX4_stepped_42 : decode cX4_stepped 42 = .ok (.iload_n 3, 1) := by decide +kernel
theorem dX4_stepped_43 : decode cX4_stepped 43 = .ok (.aload_n 0, 1) := by decide +kernel
theorem dX4_stepped_44 : decode cX4_stepped 44 = .ok (.getfield 25, 3) := by decide +kernel
theorem dX4_stepped_47 : decode cX4_stepped 47 = .ok (.iconst 3, 1) := by decide +kernel
theorem dX4_stepped_48 : decode cX4_stepped 48 = .ok (.iload_n 1, 1) := by decide +kernel
theorem dX4_stepped_49 : decode cX4_stepped 49 = .ok (.imul, 1) := by decide +kernel
theorem dX4_stepped_50 : decode cX4_stepped 50 = .ok (.iconst 2, 1) := by decide +kernel
theorem dX4_stepped_51 : decode cX4_stepped 51 = .ok (.iadd, 1) := by decide +kernel
theorem dX4_stepped_52 : decode cX4_stepped 52 = .ok (.iaload, 1) := by decide +kernel
theorem dX4_stepped_53 : decode cX4_stepped 53 = .ok (.imul, 1) := by decide +kernel
theorem dX4_stepped_54 : decode cX4_stepped 54 = .ok (.iadd, 1) := by decide +kernel
theorem dX4_stepped_55 : decode cX4_stepped 55 = .ok (.istore 6, 2) := by decide +kernel
theorem dX4_stepped_57 : decode cX4_stepped 57 = .ok (.aload_n 0, 1) := by decide +kernel
theorem dX4_stepped_58 : decode cX4_stepped 58 = .ok (.iload 4, 2) := by decide +kernel
theorem dX4_stepped_60 : decode cX4_stepped 60 = .ok (.iload 5, 2) := by decide +kernel
theorem dX4_stepped_62 : decode cX4_stepped 62 = .ok (.iload 6, 2) := by decide +kernel
theorem dX4_stepped_64 : decode cX4_stepped 64 = .ok (.invokevirtual 47, 3) := by decide +kernel
theorem dX4_stepped_67 : decode cX4_stepped 67 = .ok (.ireturn, 1) := by decide +kernel
theorem dX4_workPoint_0 : decode cX4_workPoint 0 = .ok (.iconst 0, 1) := by decide +kernel
theorem dX4_workPoint_1 : decode cX4_workPoint 1 = .ok (.istore_n 3, 1) := by decide +kernel
theorem dX4_workPoint_2 : decode cX4_workPoint 2 = .ok (.iload_n 3, 1) := by decide +kernel
theorem dX4_workPoint_3 : decode cX4_workPoint 3 = .ok (.aload_n 0, 1) := by decide +kernel
theorem dX4_workPoint_4 : decode cX4_workPoint 4 = .ok (.getfield 22, 3) := by decide +kernel
theorem dX4_workPoint_7 : decode cX4_workPoint 7 = .ok (.if_icmp .ge 70, 3) := by decide +kernel
theorem dX4_workPoint_10 : decode cX4_workPoint 10 = .ok (.aload_n 0, 1) := by decide +kernel
theorem dX4_workPoint_11 : decode cX4_workPoint 11 = .ok (.aload_n 1, 1) := by decide +kernel
theorem dX4_workPoint_12 : decode cX4_workPoint 12 = .ok (.iload_n 3, 1) := by decide +kernel
theorem dX4_workPoint_13 : decode cX4_workPoint 13 = .ok (.iload_n 2, 1) := by decide +kernel
theorem dX4_workPoint_14 : decode cX4_workPoint 14 = .ok (.invokevirtual 67, 3) := by decide +kernel
theorem dX4_workPoint_17 : decode cX4_workPoint 17 = .ok (.istore 4, 2) := by decide +kernel
theorem dX4_workPoint_19 : decode cX4_workPoint 19 = .ok (.aload_n 0, 1) := by decide +kernel
theorem dX4_workPoint_20 : decode cX4_workPoint 20 = .ok (.aload_n 1, 1) := by decide +kernel
theorem dX4_workPoint_21 : decode cX4_workPoint 21 = .ok (.aload_n 0, 1) := by decide +kernel
theorem dX4_workPoint_22 : decode cX4_workPoint 22 = .ok (.getfield 31, 3) := by decide +kernel
theorem dX4_workPoint_25 : decode cX4_workPoint 25 = .ok (.iload_n 3, 1) := by decide +kernel
theorem dX4_workPoint_26 : decode cX4_workPoint 26 = .ok (.iaload, 1) := by decide +kernel
theorem dX4_workPoint_27 : decode cX4_workPoint 27 = .ok (.iload_n 2, 1) := by decide +kernel
theorem dX4_workPoint_28 : decode cX4_workPoint 28 = .ok (.invokevirtual 67, 3) := by decide +kernel
theorem dX4_workPoint_31 : decode cX4_workPoint 31 = .ok (.istore 5, 2) := by decide +kernel
theorem dX4_workPoint_33 : decode cX4_workPoint 33 = .ok (.aload_n 0, 1) := by decide +kernel
theorem dX4_workPoint_34 : decode cX4_workPoint 34 = .ok (.aload_n 1, 1) := by decide +kernel
theorem dX4_workPoint_35 : decode cX4_workPoint 35 = .ok (.aload_n 0, 1) := by decide +kernel
theorem dX4_workPoint_36 : decode cX4_workPoint 36 = .ok (.getfield 34, 3) := by decide +kernel
theorem dX4_workPoint_39 : decode cX4_workPoint 39 = .ok (.iload_n 3, 1) := by decide +kernel
theorem dX4_workPoint_40 : decode cX4_workPoint 40 = .ok (.iaload, 1) := by decide +kernel
theorem dX4_workPoint_41 : decode cX4_workPoint 41 = .ok (.iload_n 2, 1) := by decide +kernel
theorem dX4_workPoint_42 : decode cX4_workPoint 42 = .ok (.invokevirtual 67, 3) := by decide +kernel
theorem dX4_workPoint_45 : decode cX4_workPoint 45 = .ok (.istore 6, 2) := by decide +kernel
theorem dX4_workPoint_47 : decode cX4_workPoint 47 = .ok (.aload_n 1, 1) := by decide +kernel
theorem dX4_workPoint_48 : decode cX4_workPoint 48 = .ok (.iload_n 3, 1) := by decide +kernel
theorem dX4_workPoint_49 : decode cX4_workPoint 49 = .ok (.sipush 512, 3) := by decide +kernel
theorem dX4_workPoint_52 : decode cX4_workPoint 52 = .ok (.imul, 1) := by decide +kernel
theorem dX4_workPoint_53 : decode cX4_workPoint 53 = .ok (.iload_n 2, 1) := by decide +kernel
theorem dX4_workPoint_54 : decode cX4_workPoint 54 = .ok (.iadd, 1) := by decide +kernel
theorem dX4_workPoint_55 : decode cX4_workPoint 55 = .ok (.aload_n 0, 1) := by decide +kernel
theorem dX4_workPoint_56 : decode cX4_workPoint 56 = .ok (.getfield 28, 3) := by decide +kernel
theorem dX4_workPoint_59 : decode cX4_workPoint 59 = .ok (.iload_n 3, 1) := by decide +kernel
theorem dX4_workPoint_60 : decode cX4_workPoint 60 = .ok (.iaload, 1) := by decide +kernel
theorem dX4_workPoint_61 : decode cX4_workPoint 61 = .ok (.iload 4, 2) := by decide +kernel
theorem dX4_workPoint_63 : decode cX4_workPoint 63 = .ok (.iload 5, 2) := by decide +kernel
theorem dX4_workPoint_65 : decode cX4_workPoint 65 = .ok (.iload 6, 2) := by decide +kernel
theorem dX4_workPoint_67 : decode cX4_workPoint 67 = .ok (.invokestatic 71, 3) := by decide +kernel
theorem dX4_workPoint_70 : decode cX4_workPoint 70 = .ok (.iastore, 1) := by decide +kernel
theorem dX4_workPoint_71 : decode cX4_workPoint 71 = .ok (.iinc 3 1, 3) := by decide +kernel
theorem dX4_workPoint_74 : decode cX4_workPoint 74 = .ok (.goto (-72), 3) := by decide +kernel
theorem dX4_workPoint_77 : decode cX4_workPoint 77 = .ok (.return_, 1) := by decide +kernel
theorem dX4_comes_0 : decode cX4_comes 0 = .ok (.aload_n 0, 1) := by decide +kernel
theorem dX4_comes_1 : decode cX4_comes 1 = .ok (.iload_n 2, 1) := by decide +kernel
theorem dX4_comes_2 : decode cX4_comes 2 = .ok (.iload_n 3, 1) := by decide +kernel
theorem dX4_comes_3 : decode cX4_comes 3 = .ok (.iconst (-1), 1) := by decide +kernel
theorem dX4_comes_4 : decode cX4_comes 4 = .ok (.invokevirtual 75, 3) := by decide +kernel
theorem dX4_comes_7 : decode cX4_comes 7 = .ok (.istore 4, 2) := by decide +kernel
theorem dX4_comes_9 : decode cX4_comes 9 = .ok (.iload 4, 2) := by decide +kernel
theorem dX4_comes_11 : decode cX4_comes 11 = .ok (.iconst (-1), 1) := by decide +kernel
theorem dX4_comes_12 : decode cX4_comes 12 = .ok (.if_icmp .ne 18, 3) := by decide +kernel
theorem dX4_comes_15 : decode cX4_comes 15 = .ok (.aload_n 0, 1) := by decide +kernel
theorem dX4_comes_16 : decode cX4_comes 16 = .ok (.getfield 37, 3) := by decide +kernel
theorem dX4_comes_19 : decode cX4_comes 19 = .ok (.iload_n 2, 1) := by decide +kernel
theorem dX4_comes_20 : decode cX4_comes 20 = .ok (.sipush 512, 3) := by decide +kernel
theorem dX4_comes_23 : decode cX4_comes 23 = .ok (.imul, 1) := by decide +kernel
theorem dX4_comes_24 : decode cX4_comes 24 = .ok (.iload_n 3, 1) := by decide +kernel
theorem dX4_comes_25 : decode cX4_comes 25 = .ok (.iadd, 1) := by decide +kernel
theorem dX4_comes_26 : decode cX4_comes 26 = .ok (.iaload, 1) := by decide +kernel
theorem dX4_comes_27 : decode cX4_comes 27 = .ok (.goto 13, 3) := by decide +kernel
theorem dX4_comes_30 : decode cX4_comes 30 = .ok (.aload_n 1, 1) := by decide +kernel
theorem dX4_comes_31 : decode cX4_comes 31 = .ok (.iload_n 2, 1) := by decide +kernel
theorem dX4_comes_32 : decode cX4_comes 32 = .ok (.sipush 512, 3) := by decide +kernel
theorem dX4_comes_35 : decode cX4_comes 35 = .ok (.imul, 1) := by decide +kernel
theorem dX4_comes_36 : decode cX4_comes 36 = .ok (.iload 4, 2) := by decide +kernel
theorem dX4_comes_38 : decode cX4_comes 38 = .ok (.iadd, 1) := by decide +kernel
theorem dX4_comes_39 : decode cX4_comes 39 = .ok (.iaload, 1) := by decide +kernel
theorem dX4_comes_40 : decode cX4_comes 40 = .ok (.ireturn, 1) := by decide +kernel
theorem dX4_made_0 : decode cX4_made 0 = .ok (.iload_n 0, 1) := by decide +kernel
theorem dX4_made_1 : decode cX4_made 1 = .ok (.tableswitch 81 1 7 #[43, 49, 57, 63, 69, 73, 77], 43) := by decide +kernel
theorem dX4_made_44 : decode cX4_made 44 = .ok (.iload_n 1, 1) := by decide +kernel
theorem dX4_made_45 : decode cX4_made 45 = .ok (.iload_n 2, 1) := by decide +kernel
theorem dX4_made_46 : decode cX4_made 46 = .ok (.iload_n 3, 1) := by decide +kernel
theorem dX4_made_47 : decode cX4_made 47 = .ok (.imul, 1) := by decide +kernel
theorem dX4_made_48 : decode cX4_made 48 = .ok (.iadd, 1) := by decide +kernel
theorem dX4_made_49 : decode cX4_made 49 = .ok (.ireturn, 1) := by decide +kernel
theorem dX4_made_50 : decode cX4_made 50 = .ok (.iload_n 1, 1) := by decide +kernel
theorem dX4_made_51 : decode cX4_made 51 = .ok (.iload_n 2, 1) := by decide +kernel
theorem dX4_made_52 : decode cX4_made 52 = .ok (.iload_n 3, 1) := by decide +kernel
theorem dX4_made_53 : decode cX4_made 53 = .ok (.iadd, 1) := by decide +kernel
theorem dX4_made_54 : decode cX4_made 54 = .ok (.invokestatic 78, 3) := by decide +kernel
theorem dX4_made_57 : decode cX4_made 57 = .ok (.ireturn, 1) := by decide +kernel
theorem dX4_made_58 : decode cX4_made 58 = .ok (.iload_n 2, 1) := by decide +kernel
theorem dX4_made_59 : decode cX4_made 59 = .ok (.iload_n 3, 1) := by decide +kernel
theorem dX4_made_60 : decode cX4_made 60 = .ok (.invokestatic 78, 3) := by decide +kernel
theorem dX4_made_63 : decode cX4_made 63 = .ok (.ireturn, 1) := by decide +kernel
theorem dX4_made_64 : decode cX4_made 64 = .ok (.iload_n 2, 1) := by decide +kernel
theorem dX4_made_65 : decode cX4_made 65 = .ok (.iload_n 3, 1) := by decide +kernel
theorem dX4_made_66 : decode cX4_made 66 = .ok (.invokestatic 82, 3) := by decide +kernel
theorem dX4_made_69 : decode cX4_made 69 = .ok (.ireturn, 1) := by decide +kernel
theorem dX4_made_70 : decode cX4_made 70 = .ok (.iload_n 2, 1) := by decide +kernel
theorem dX4_made_71 : decode cX4_made 71 = .ok (.iload_n 3, 1) := by decide +kernel
theorem dX4_made_72 : decode cX4_made 72 = .ok (.iadd, 1) := by decide +kernel
theorem dX4_made_73 : decode cX4_made 73 = .ok (.ireturn, 1) := by decide +kernel
theorem dX4_made_74 : decode cX4_made 74 = .ok (.iload_n 2, 1) := by decide +kernel
theorem dX4_made_75 : decode cX4_made 75 = .ok (.iload_n 3, 1) := by decide +kernel
theorem dX4_made_76 : decode cX4_made 76 = .ok (.isub, 1) := by decide +kernel
theorem dX4_made_77 : decode cX4_made 77 = .ok (.ireturn, 1) := by decide +kernel
theorem dX4_made_78 : decode cX4_made 78 = .ok (.iload_n 2, 1) := by decide +kernel
theorem dX4_made_79 : decode cX4_made 79 = .ok (.iload_n 3, 1) := by decide +kernel
theorem dX4_made_80 : decode cX4_made 80 = .ok (.ixor, 1) := by decide +kernel
theorem dX4_made_81 : decode cX4_made 81 = .ok (.ireturn, 1) := by decide +kernel
theorem dX4_made_82 : decode cX4_made 82 = .ok (.iload_n 1, 1) := by decide +kernel
theorem dX4_made_83 : decode cX4_made 83 = .ok (.ireturn, 1) := by decide +kernel
theorem dX4_plainValue_0 : decode cX4_plainValue 0 = .ok (.aload_n 0, 1) := by decide +kernel
theorem dX4_plainValue_1 : decode cX4_plainValue 1 = .ok (.getfield 43, 3) := by decide +kernel
theorem dX4_plainValue_4 : decode cX4_plainValue 4 = .ok (.ifCond .ne 38, 3) := by decide +kernel
theorem dX4_plainValue_7 : decode cX4_plainValue 7 = .ok (.iconst 0, 1) := by decide +kernel
theorem dX4_plainValue_8 : decode cX4_plainValue 8 = .ok (.istore_n 3, 1) := by decide +kernel
theorem dX4_plainValue_9 : decode cX4_plainValue 9 = .ok (.iload_n 3, 1) := by decide +kernel
theorem dX4_plainValue_10 : decode cX4_plainValue 10 = .ok (.aload_n 0, 1) := by decide +kernel
theorem dX4_plainValue_11 : decode cX4_plainValue 11 = .ok (.getfield 18, 3) := by decide +kernel
theorem dX4_plainValue_14 : decode cX4_plainValue 14 = .ok (.if_icmp .ge 23, 3) := by decide +kernel
theorem dX4_plainValue_17 : decode cX4_plainValue 17 = .ok (.aload_n 0, 1) := by decide +kernel
theorem dX4_plainValue_18 : decode cX4_plainValue 18 = .ok (.aload_n 0, 1) := by decide +kernel
theorem dX4_plainValue_19 : decode cX4_plainValue 19 = .ok (.getfield 40, 3) := by decide +kernel
theorem dX4_plainValue_22 : decode cX4_plainValue 22 = .ok (.aload_n 0, 1) := by decide +kernel
theorem dX4_plainValue_23 : decode cX4_plainValue 23 = .ok (.getfield 15, 3) := by decide +kernel
theorem dX4_plainValue_26 : decode cX4_plainValue 26 = .ok (.iload_n 3, 1) := by decide +kernel
theorem dX4_plainValue_27 : decode cX4_plainValue 27 = .ok (.iaload, 1) := by decide +kernel
theorem dX4_plainValue_28 : decode cX4_plainValue 28 = .ok (.invokevirtual 85, 3) := by decide +kernel
theorem dX4_plainValue_31 : decode cX4_plainValue 31 = .ok (.iinc 3 1, 3) := by decide +kernel
theorem dX4_plainValue_34 : decode cX4_plainValue 34 = .ok (.goto (-25), 3) := by decide +kernel
theorem dX4_plainValue_37 : decode cX4_plainValue 37 = .ok (.aload_n 0, 1) := by decide +kernel
theorem dX4_plainValue_38 : decode cX4_plainValue 38 = .ok (.iconst 1, 1) := by decide +kernel
theorem dX4_plainValue_39 : decode cX4_plainValue 39 = .ok (.putfield 43, 3) := by decide +kernel
theorem dX4_plainValue_42 : decode cX4_plainValue 42 = .ok (.aload_n 0, 1) := by decide +kernel
theorem dX4_plainValue_43 : decode cX4_plainValue 43 = .ok (.getfield 40, 3) := by decide +kernel
theorem dX4_plainValue_46 : decode cX4_plainValue 46 = .ok (.iload_n 1, 1) := by decide +kernel
theorem dX4_plainValue_47 : decode cX4_plainValue 47 = .ok (.sipush 512, 3) := by decide +kernel
theorem dX4_plainValue_50 : decode cX4_plainValue 50 = .ok (.imul, 1) := by decide +kernel
theorem dX4_plainValue_51 : decode cX4_plainValue 51 = .ok (.iload_n 2, 1) := by decide +kernel
theorem dX4_plainValue_52 : decode cX4_plainValue 52 = .ok (.iadd, 1) := by decide +kernel
theorem dX4_plainValue_53 : decode cX4_plainValue 53 = .ok (.iaload, 1) := by decide +kernel
theorem dX4_plainValue_54 : decode cX4_plainValue 54 = .ok (.ireturn, 1) := by decide +kernel
theorem dX4_resultCode_0 : decode cX4_resultCode 0 = .ok (.iconst 0, 1) := by decide +kernel
theorem dX4_resultCode_1 : decode cX4_resultCode 1 = .ok (.istore_n 3, 1) := by decide +kernel
theorem dX4_resultCode_2 : decode cX4_resultCode 2 = .ok (.iconst 0, 1) := by decide +kernel
theorem dX4_resultCode_3 : decode cX4_resultCode 3 = .ok (.istore 4, 2) := by decide +kernel
theorem dX4_resultCode_5 : decode cX4_resultCode 5 = .ok (.iload 4, 2) := by decide +kernel
theorem dX4_resultCode_7 : decode cX4_resultCode 7 = .ok (.aload_n 0, 1) := by decide +kernel
theorem dX4_resultCode_8 : decode cX4_resultCode 8 = .ok (.getfield 18, 3) := by decide +kernel
theorem dX4_resultCode_11 : decode cX4_resultCode 11 = .ok (.if_icmp .ge 42, 3) := by decide +kernel
theorem dX4_resultCode_14 : decode cX4_resultCode 14 = .ok (.aload_n 0, 1) := by decide +kernel
theorem dX4_resultCode_15 : decode cX4_resultCode 15 = .ok (.iload_n 1, 1) := by decide +kernel
theorem dX4_resultCode_16 : decode cX4_resultCode 16 = .ok (.aload_n 0, 1) := by decide +kernel
theorem dX4_resultCode_17 : decode cX4_resultCode 17 = .ok (.getfield 15, 3) := by decide +kernel
theorem dX4_resultCode_20 : decode cX4_resultCode 20 = .ok (.iload 4, 2) := by decide +kernel
theorem dX4_resultCode_22 : decode cX4_resultCode 22 = .ok (.iaload, 1) := by decide +kernel
theorem dX4_resultCode_23 : decode cX4_resultCode 23 = .ok (.iconst 1, 1) := by decide +kernel
theorem dX4_resultCode_24 : decode cX4_resultCode 24 = .ok (.invokevirtual 75, 3) := by decide +kernel
theorem dX4_resultCode_27 : decode cX4_resultCode 27 = .ok (.iconst (-1), 1) := by decide +kernel
theorem dX4_resultCode_28 : decode cX4_resultCode 28 = .ok (.if_icmp .ne 19, 3) := by decide +kernel
theorem dX4_resultCode_31 : decode cX4_resultCode 31 = .ok (.iload_n 3, 1) := by decide +kernel
theorem dX4_resultCode_32 : decode cX4_resultCode 32 = .ok (.iload_n 2, 1) := by decide +kernel
theorem dX4_resultCode_33 : decode cX4_resultCode 33 = .ok (.if_icmp .ne 11, 3) := by decide +kernel
theorem dX4_resultCode_36 : decode cX4_resultCode 36 = .ok (.aload_n 0, 1) := by decide +kernel
theorem dX4_resultCode_37 : decode cX4_resultCode 37 = .ok (.getfield 15, 3) := by decide +kernel
theorem dX4_resultCode_40 : decode cX4_resultCode 40 = .ok (.iload 4, 2) := by decide +kernel
theorem dX4_resultCode_42 : decode cX4_resultCode 42 = .ok (.iaload, 1) := by decide +kernel
theorem dX4_resultCode_43 : decode cX4_resultCode 43 = .ok (.ireturn, 1) := by decide +kernel
theorem dX4_resultCode_44 : decode cX4_resultCode 44 = .ok (.iinc 3 1, 3) := by decide +kernel
theorem dX4_resultCode_47 : decode cX4_resultCode 47 = .ok (.iinc 4 1, 3) := by decide +kernel
theorem dX4_resultCode_50 : decode cX4_resultCode 50 = .ok (.goto (-45), 3) := by decide +kernel
theorem dX4_resultCode_53 : decode cX4_resultCode 53 = .ok (.iconst (-1), 1) := by decide +kernel
theorem dX4_resultCode_54 : decode cX4_resultCode 54 = .ok (.ireturn, 1) := by decide +kernel
end
section
theorem dX5_init_0 : decode cX5_init 0 = .ok (.aload_n 0, 1) := by decide +kernel
theorem dX5_init_1 : decode cX5_init 1 = .ok (.invokespecial 3, 3) := by decide +kernel
theorem dX5_init_4 : decode cX5_init 4 = .ok (.aload_n 0, 1) := by decide +kernel
theorem dX5_init_5 : decode cX5_init 5 = .ok (.new 9, 3) := by decide +kernel
theorem dX5_init_8 : decode cX5_init 8 = .ok (.dup, 1) := by decide +kernel
theorem dX5_init_9 : decode cX5_init 9 = .ok (.invokespecial 11, 3) := by decide +kernel
theorem dX5_init_12 : decode cX5_init 12 = .ok (.putfield 12, 3) := by decide +kernel
theorem dX5_init_15 : decode cX5_init 15 = .ok (.aload_n 0, 1) := by decide +kernel
theorem dX5_init_16 : decode cX5_init 16 = .ok (.new 16, 3) := by decide +kernel
theorem dX5_init_19 : decode cX5_init 19 = .ok (.dup, 1) := by decide +kernel
theorem dX5_init_20 : decode cX5_init 20 = .ok (.invokespecial 18, 3) := by decide +kernel
theorem dX5_init_23 : decode cX5_init 23 = .ok (.putfield 19, 3) := by decide +kernel
theorem dX5_init_26 : decode cX5_init 26 = .ok (.aload_n 0, 1) := by decide +kernel
theorem dX5_init_27 : decode cX5_init 27 = .ok (.new 23, 3) := by decide +kernel
theorem dX5_init_30 : decode cX5_init 30 = .ok (.dup, 1) := by decide +kernel
theorem dX5_init_31 : decode cX5_init 31 = .ok (.invokespecial 25, 3) := by decide +kernel
theorem dX5_init_34 : decode cX5_init 34 = .ok (.putfield 26, 3) := by decide +kernel
theorem dX5_init_37 : decode cX5_init 37 = .ok (.aload_n 0, 1) := by decide +kernel
theorem dX5_init_38 : decode cX5_init 38 = .ok (.new 30, 3) := by decide +kernel
theorem dX5_init_41 : decode cX5_init 41 = .ok (.dup, 1) := by decide +kernel
theorem dX5_init_42 : decode cX5_init 42 = .ok (.invokespecial 32, 3) := by decide +kernel
theorem dX5_init_45 : decode cX5_init 45 = .ok (.putfield 33, 3) := by decide +kernel
theorem dX5_init_48 : decode cX5_init 48 = .ok (.aload_n 0, 1) := by decide +kernel
theorem dX5_init_49 : decode cX5_init 49 = .ok (.new 37, 3) := by decide +kernel
theorem dX5_init_52 : decode cX5_init 52 = .ok (.dup, 1) := by decide +kernel
theorem dX5_init_53 : decode cX5_init 53 = .ok (.invokespecial 39, 3) := by decide +kernel
theorem dX5_init_56 : decode cX5_init 56 = .ok (.putfield 40, 3) := by decide +kernel
theorem dX5_init_59 : decode cX5_init 59 = .ok (.return_, 1) := by decide +kernel
theorem dX5_sizes_0 : decode cX5_sizes 0 = .ok (.iload_n 1, 1) := by decide +kernel
theorem dX5_sizes_1 : decode cX5_sizes 1 = .ok (.invokestatic 44, 3) := by decide +kernel
theorem dX5_sizes_4 : decode cX5_sizes 4 = .ok (.ifCond .eq 17, 3) := by decide +kernel
theorem dX5_sizes_7 : decode cX5_sizes 7 = .ok (.iload_n 2, 1) := by decide +kernel
theorem dX5_sizes_8 : decode cX5_sizes 8 = .ok (.invokestatic 44, 3) := by decide +kernel
theorem dX5_sizes_11 : decode cX5_sizes 11 = .ok (.ifCond .eq 10, 3) := by decide +kernel
theorem dX5_sizes_14 : decode cX5_sizes 14 = .ok (.iload_n 3, 1) := by decide +kernel
theorem dX5_sizes_15 : decode cX5_sizes 15 = .ok (.invokestatic 44, 3) := by decide +kernel
theorem dX5_sizes_18 : decode cX5_sizes 18 = .ok (.ifCond .ne 5, 3) := by decide +kernel
theorem dX5_sizes_21 : decode cX5_sizes 21 = .ok (.iconst 0, 1) := by decide +kernel
theorem dX5_sizes_22 : decode cX5_sizes 22 = .ok (.ireturn, 1) := by decide +kernel
theorem dX5_sizes_23 : decode cX5_sizes 23 = .ok (.aload_n 0, 1) := by decide +kernel
theorem dX5_sizes_24 : decode cX5_sizes 24 = .ok (.getfield 12, 3) := by decide +kernel
theorem dX5_sizes_27 : decode cX5_sizes 27 = .ok (.iload_n 1, 1) := by decide +kernel
theorem dX5_sizes_28 : decode cX5_sizes 28 = .ok (.iload_n 2, 1) := by decide +kernel
theorem dX5_sizes_29 : decode cX5_sizes 29 = .ok (.iload_n 3, 1) := by decide +kernel
theorem dX5_sizes_30 : decode cX5_sizes 30 = .ok (.invokevirtual 48, 3) := by decide +kernel
theorem dX5_sizes_33 : decode cX5_sizes 33 = .ok (.aload_n 0, 1) := by decide +kernel
theorem dX5_sizes_34 : decode cX5_sizes 34 = .ok (.invokevirtual 52, 3) := by decide +kernel
theorem dX5_sizes_37 : decode cX5_sizes 37 = .ok (.iconst 1, 1) := by decide +kernel
theorem dX5_sizes_38 : decode cX5_sizes 38 = .ok (.ireturn, 1) := by decide +kernel
theorem dX5_variable_0 : decode cX5_variable 0 = .ok (.aload_n 0, 1) := by decide +kernel
theorem dX5_variable_1 : decode cX5_variable 1 = .ok (.getfield 12, 3) := by decide +kernel
theorem dX5_variable_4 : decode cX5_variable 4 = .ok (.getfield 55, 3) := by decide +kernel
theorem dX5_variable_7 : decode cX5_variable 7 = .ok (.iconst 4, 1) := by decide +kernel
theorem dX5_variable_8 : decode cX5_variable 8 = .ok (.if_icmp .ge 12, 3) := by decide +kernel
theorem dX5_variable_11 : decode cX5_variable 11 = .ok (.iload_n 1, 1) := by decide +kernel
theorem dX5_variable_12 : decode cX5_variable 12 = .ok (.iload_n 2, 1) := by decide +kernel
theorem dX5_variable_13 : decode cX5_variable 13 = .ok (.iload_n 3, 1) := by decide +kernel
theorem dX5_variable_14 : decode cX5_variable 14 = .ok (.invokestatic 59, 3) := by decide +kernel
theorem dX5_variable_17 : decode cX5_variable 17 = .ok (.ifCond .ne 5, 3) := by decide +kernel
theorem dX5_variable_20 : decode cX5_variable 20 = .ok (.iconst (-1), 1) := by decide +kernel
theorem dX5_variable_21 : decode cX5_variable 21 = .ok (.ireturn, 1) := by decide +kernel
theorem dX5_variable_22 : decode cX5_variable 22 = .ok (.aload_n 0, 1) := by decide +kernel
theorem dX5_variable_23 : decode cX5_variable 23 = .ok (.getfield 40, 3) := by decide +kernel
theorem dX5_variable_26 : decode cX5_variable 26 = .ok (.iconst 0, 1) := by decide +kernel
theorem dX5_variable_27 : decode cX5_variable 27 = .ok (.putfield 63, 3) := by decide +kernel
theorem dX5_variable_30 : decode cX5_variable 30 = .ok (.aload_n 0, 1) := by decide +kernel
theorem dX5_variable_31 : decode cX5_variable 31 = .ok (.getfield 12, 3) := by decide +kernel
theorem dX5_variable_34 : decode cX5_variable 34 = .ok (.iload_n 1, 1) := by decide +kernel
theorem dX5_variable_35 : decode cX5_variable 35 = .ok (.iload_n 2, 1) := by decide +kernel
theorem dX5_variable_36 : decode cX5_variable 36 = .ok (.iload_n 3, 1) := by decide +kernel
theorem dX5_variable_37 : decode cX5_variable 37 = .ok (.invokevirtual 67, 3) := by decide +kernel
theorem dX5_variable_40 : decode cX5_variable 40 = .ok (.ireturn, 1) := by decide +kernel
theorem dX5_act_0 : decode cX5_act 0 = .ok (.aload_n 0, 1) := by decide +kernel
theorem dX5_act_1 : decode cX5_act 1 = .ok (.getfield 12, 3) := by decide +kernel
theorem dX5_act_4 : decode cX5_act 4 = .ok (.iload_n 1, 1) := by decide +kernel
theorem dX5_act_5 : decode cX5_act 5 = .ok (.invokevirtual 71, 3) := by decide +kernel
theorem dX5_act_8 : decode cX5_act 8 = .ok (.ifCond .eq 36, 3) := by decide +kernel
theorem dX5_act_11 : decode cX5_act 11 = .ok (.aload_n 0, 1) := by decide +kernel
theorem dX5_act_12 : decode cX5_act 12 = .ok (.getfield 12, 3) := by decide +kernel
theorem dX5_act_15 : decode cX5_act 15 = .ok (.iload_n 3, 1) := by decide +kernel
theorem dX5_act_16 : decode cX5_act 16 = .ok (.invokevirtual 71, 3) := by decide +kernel
theorem dX5_act_19 : decode cX5_act 19 = .ok (.ifCond .eq 25, 3) := by decide +kernel
theorem dX5_act_22 : decode cX5_act 22 = .ok (.aload_n 0, 1) := by decide +kernel
theorem dX5_act_23 : decode cX5_act 23 = .ok (.getfield 12, 3) := by decide +kernel
theorem dX5_act_26 : decode cX5_act 26 = .ok (.iload 4, 2) := by decide +kernel
theorem dX5_act_28 : decode cX5_act 28 = .ok (.invokevirtual 71, 3) := by decide +kernel
theorem dX5_act_31 : decode cX5_act 31 = .ok (.ifCond .eq 13, 3) := by decide +kernel
theorem dX5_act_34 : decode cX5_act 34 = .ok (.iload_n 2, 1) := by decide +kernel
theorem dX5_act_35 : decode cX5_act 35 = .ok (.ifCond .lt 9, 3) := by decide +kernel
theorem dX5_act_38 : decode cX5_act 38 = .ok (.iload_n 2, 1) := by decide +kernel
theorem dX5_act_39 : decode cX5_act 39 = .ok (.bipush 8, 2) := by decide +kernel
theorem dX5_act_41 : decode cX5_act 41 = .ok (.if_icmp .lt 5, 3) := by decide +kernel
theorem dX5_act_44 : decode cX5_act 44 = .ok (.iconst 0, 1) := by decide +kernel
theorem dX5_act_45 : decode cX5_act 45 = .ok (.ireturn, 1) := by decide +kernel
theorem dX5_act_46 : decode cX5_act 46 = .ok (.aload_n 0, 1) := by decide +kernel
theorem dX5_act_47 : decode cX5_act 47 = .ok (.getfield 12, 3) := by decide +kernel
theorem dX5_act_50 : decode cX5_act 50 = .ok (.iload_n 1, 1) := by decide +kernel
theorem dX5_act_51 : decode cX5_act 51 = .ok (.iload_n 2, 1) := by decide +kernel
theorem dX5_act_52 : decode cX5_act 52 = .ok (.iload_n 3, 1) := by decide +kernel
theorem dX5_act_53 : decode cX5_act 53 = .ok (.iload 4, 2) := by decide +kernel
theorem dX5_act_55 : decode cX5_act 55 = .ok (.invokevirtual 74, 3) := by decide +kernel
theorem dX5_act_58 : decode cX5_act 58 = .ok (.aload_n 0, 1) := by decide +kernel
theorem dX5_act_59 : decode cX5_act 59 = .ok (.getfield 40, 3) := by decide +kernel
theorem dX5_act_62 : decode cX5_act 62 = .ok (.iconst 0, 1) := by decide +kernel
theorem dX5_act_63 : decode cX5_act 63 = .ok (.putfield 63, 3) := by decide +kernel
theorem dX5_act_66 : decode cX5_act 66 = .ok (.iconst 1, 1) := by decide +kernel
theorem dX5_act_67 : decode cX5_act 67 = .ok (.ireturn, 1) := by decide +kernel
theorem dX5_edge_0 : decode cX5_edge 0 = .ok (.aload_n 0, 1) := by decide +kernel
theorem dX5_edge_1 : decode cX5_edge 1 = .ok (.getfield 12, 3) := by decide +kernel
theorem dX5_edge_4 : decode cX5_edge 4 = .ok (.iload_n 2, 1) := by decide +kernel
theorem dX5_edge_5 : decode cX5_edge 5 = .ok (.iload_n 3, 1) := by decide +kernel
theorem dX5_edge_6 : decode cX5_edge 6 = .ok (.iload 4, 2) := by decide +kernel
theorem dX5_edge_8 : decode cX5_edge 8 = .ok (.invokevirtual 78, 3) := by decide +kernel
theorem dX5_edge_11 : decode cX5_edge 11 = .ok (.istore 6, 2) := by decide +kernel
theorem dX5_edge_13 : decode cX5_edge 13 = .ok (.aload_n 0, 1) := by decide +kernel
theorem dX5_edge_14 : decode cX5_edge 14 = .ok (.getfield 12, 3) := by decide +kernel
theorem dX5_edge_17 : decode cX5_edge 17 = .ok (.iload_n 1, 1) := by decide +kernel
theorem dX5_edge_18 : decode cX5_edge 18 = .ok (.invokevirtual 71, 3) := by decide +kernel
theorem dX5_edge_21 : decode cX5_edge 21 = .ok (.ifCond .eq 9, 3) := by decide +kernel
theorem dX5_edge_24 : decode cX5_edge 24 = .ok (.iload 6, 2) := by decide +kernel
theorem dX5_edge_26 : decode cX5_edge 26 = .ok (.iconst (-1), 1) := by decide +kernel
theorem dX5_edge_27 : decode cX5_edge 27 = .ok (.if_icmp .ne 5, 3) := by decide +kernel
theorem dX5_edge_30 : decode cX5_edge 30 = .ok (.iconst 0, 1) := by decide +kernel
theorem dX5_edge_31 : decode cX5_edge 31 = .ok (.ireturn, 1) := by decide +kernel
theorem dX5_edge_32 : decode cX5_edge 32 = .ok (.aload_n 0, 1) := by decide +kernel
theorem dX5_edge_33 : decode cX5_edge 33 = .ok (.getfield 12, 3) := by decide +kernel
theorem dX5_edge_36 : decode cX5_edge 36 = .ok (.iload_n 1, 1) := by decide +kernel
theorem dX5_edge_37 : decode cX5_edge 37 = .ok (.iload 6, 2) := by decide +kernel
theorem dX5_edge_39 : decode cX5_edge 39 = .ok (.iload 5, 2) := by decide +kernel
theorem dX5_edge_41 : decode cX5_edge 41 = .ok (.invokevirtual 81, 3) := by decide +kernel
theorem dX5_edge_44 : decode cX5_edge 44 = .ok (.aload_n 0, 1) := by decide +kernel
theorem dX5_edge_45 : decode cX5_edge 45 = .ok (.getfield 40, 3) := by decide +kernel
theorem dX5_edge_48 : decode cX5_edge 48 = .ok (.iconst 0, 1) := by decide +kernel
theorem dX5_edge_49 : decode cX5_edge 49 = .ok (.putfield 63, 3) := by decide +kernel
theorem dX5_edge_52 : decode cX5_edge 52 = .ok (.iconst 1, 1) := by decide +kernel
theorem dX5_edge_53 : decode cX5_edge 53 = .ok (.ireturn, 1) := by decide +kernel
theorem dX5_clear_0 : decode cX5_clear 0 = .ok (.aload_n 0, 1) := by decide +kernel
theorem dX5_clear_1 : decode cX5_clear 1 = .ok (.getfield 12, 3) := by decide +kernel
theorem dX5_clear_4 : decode cX5_clear 4 = .ok (.invokevirtual 84, 3) := by decide +kernel
theorem dX5_clear_7 : decode cX5_clear 7 = .ok (.aload_n 0, 1) := by decide +kernel
theorem dX5_clear_8 : decode cX5_clear 8 = .ok (.getfield 40, 3) := by decide +kernel
theorem dX5_clear_11 : decode cX5_clear 11 = .ok (.iconst 0, 1) := by decide +kernel
theorem dX5_clear_12 : decode cX5_clear 12 = .ok (.putfield 63, 3) := by decide +kernel
theorem dX5_clear_15 : decode cX5_clear 15 = .ok (.return_, 1) := by decide +kernel
theorem dX5_lay_0 : decode cX5_lay 0 = .ok (.iload_n 1, 1) := by decide +kernel
theorem dX5_lay_1 : decode cX5_lay 1 = .ok (.invokestatic 87, 3) := by decide +kernel
theorem dX5_lay_4 : decode cX5_lay 4 = .ok (.ifCond .eq 14, 3) := by decide +kernel
theorem dX5_lay_7 : decode cX5_lay 7 = .ok (.iconst 3, 1) := by decide +kernel
theorem dX5_lay_8 : decode cX5_lay 8 = .ok (.iload_n 2, 1) := by decide +kernel
theorem dX5_lay_9 : decode cX5_lay 9 = .ok (.iload_n 3, 1) := by decide +kernel
theorem dX5_lay_10 : decode cX5_lay 10 = .ok (.iload 4, 2) := by decide +kernel
theorem dX5_lay_12 : decode cX5_lay 12 = .ok (.invokestatic 90, 3) := by decide +kernel
theorem dX5_lay_15 : decode cX5_lay 15 = .ok (.ifCond .ne 5, 3) := by decide +kernel
theorem dX5_lay_18 : decode cX5_lay 18 = .ok (.iconst 0, 1) := by decide +kernel
theorem dX5_lay_19 : decode cX5_lay 19 = .ok (.ireturn, 1) := by decide +kernel
theorem dX5_lay_20 : decode cX5_lay 20 = .ok (.iload_n 1, 1) := by decide +kernel
theorem dX5_lay_21 : decode cX5_lay 21 = .ok (.iconst 1, 1) := by decide +kernel
theorem dX5_lay_22 : decode cX5_lay 22 = .ok (.if_icmp .ne 15, 3) := by decide +kernel
theorem dX5_lay_25 : decode cX5_lay 25 = .ok (.iload_n 2, 1) := by decide +kernel
theorem dX5_lay_26 : decode cX5_lay 26 = .ok (.iload_n 3, 1) := by decide +kernel
theorem dX5_lay_27 : decode cX5_lay 27 = .ok (.iload 4, 2) := by decide +kernel
theorem dX5_lay_29 : decode cX5_lay 29 = .ok (.invokestatic 94, 3) := by decide +kernel
theorem dX5_lay_32 : decode cX5_lay 32 = .ok (.ifCond .eq 5, 3) := by decide +kernel
theorem dX5_lay_35 : decode cX5_lay 35 = .ok (.iconst 0, 1) := by decide +kernel
theorem dX5_lay_36 : decode cX5_lay 36 = .ok (.ireturn, 1) := by decide +kernel
theorem dX5_lay_37 : decode cX5_lay 37 = .ok (.aload_n 0, 1) := by decide +kernel
theorem dX5_lay_38 : decode cX5_lay 38 = .ok (.getfield 19, 3) := by decide +kernel
theorem dX5_lay_41 : decode cX5_lay 41 = .ok (.iload_n 1, 1) := by decide +kernel
theorem dX5_lay_42 : decode cX5_lay 42 = .ok (.iload_n 2, 1) := by decide +kernel
theorem dX5_lay_43 : decode cX5_lay 43 = .ok (.iload_n 3, 1) := by decide +kernel
theorem dX5_lay_44 : decode cX5_lay 44 = .ok (.iload 4, 2) := by decide +kernel
theorem dX5_lay_46 : decode cX5_lay 46 = .ok (.invokevirtual 97, 3) := by decide +kernel
theorem dX5_lay_49 : decode cX5_lay 49 = .ok (.aload_n 0, 1) := by decide +kernel
theorem dX5_lay_50 : decode cX5_lay 50 = .ok (.invokevirtual 52, 3) := by decide +kernel
theorem dX5_lay_53 : decode cX5_lay 53 = .ok (.iconst 1, 1) := by decide +kernel
theorem dX5_lay_54 : decode cX5_lay 54 = .ok (.ireturn, 1) := by decide +kernel
theorem dX5_fold_0 : decode cX5_fold 0 = .ok (.iload_n 1, 1) := by decide +kernel
theorem dX5_fold_1 : decode cX5_fold 1 = .ok (.iconst 1, 1) := by decide +kernel
theorem dX5_fold_2 : decode cX5_fold 2 = .ok (.if_icmp .lt 9, 3) := by decide +kernel
theorem dX5_fold_5 : decode cX5_fold 5 = .ok (.iload_n 1, 1) := by decide +kernel
theorem dX5_fold_6 : decode cX5_fold 6 = .ok (.bipush 8, 2) := by decide +kernel
theorem dX5_fold_8 : decode cX5_fold 8 = .ok (.if_icmp .le 5, 3) := by decide +kernel
theorem dX5_fold_11 : decode cX5_fold 11 = .ok (.iconst 0, 1) := by decide +kernel
theorem dX5_fold_12 : decode cX5_fold 12 = .ok (.ireturn, 1) := by decide +kernel
theorem dX5_fold_13 : decode cX5_fold 13 = .ok (.aload_n 0, 1) := by decide +kernel
theorem dX5_fold_14 : decode cX5_fold 14 = .ok (.getfield 19, 3) := by decide +kernel
theorem dX5_fold_17 : decode cX5_fold 17 = .ok (.iload_n 1, 1) := by decide +kernel
theorem dX5_fold_18 : decode cX5_fold 18 = .ok (.putfield 100, 3) := by decide +kernel
theorem dX5_fold_21 : decode cX5_fold 21 = .ok (.aload_n 0, 1) := by decide +kernel
theorem dX5_fold_22 : decode cX5_fold 22 = .ok (.invokevirtual 52, 3) := by decide +kernel
theorem dX5_fold_25 : decode cX5_fold 25 = .ok (.iconst 1, 1) := by decide +kernel
theorem dX5_fold_26 : decode cX5_fold 26 = .ok (.ireturn, 1) := by decide +kernel
theorem dX5_why_0 : decode cX5_why 0 = .ok (.aload_n 0, 1) := by decide +kernel
theorem dX5_why_1 : decode cX5_why 1 = .ok (.invokevirtual 103, 3) := by decide +kernel
theorem dX5_why_4 : decode cX5_why 4 = .ok (.istore_n 2, 1) := by decide +kernel
theorem dX5_why_5 : decode cX5_why 5 = .ok (.iload_n 1, 1) := by decide +kernel
theorem dX5_why_6 : decode cX5_why 6 = .ok (.tableswitch 51 0 2 #[26, 28, 34], 26) := by decide +kernel
theorem dX5_why_32 : decode cX5_why 32 = .ok (.iload_n 2, 1) := by decide +kernel
theorem dX5_why_33 : decode cX5_why 33 = .ok (.ireturn, 1) := by decide +kernel
theorem dX5_why_34 : decode cX5_why 34 = .ok (.aload_n 0, 1) := by decide +kernel
theorem dX5_why_35 : decode cX5_why 35 = .ok (.iload_n 2, 1) := by decide +kernel
theorem dX5_why_36 : decode cX5_why 36 = .ok (.invokevirtual 107, 3) := by decide +kernel
theorem dX5_why_39 : decode cX5_why 39 = .ok (.ireturn, 1) := by decide +kernel
theorem dX5_why_40 : decode cX5_why 40 = .ok (.iload_n 2, 1) := by decide +kernel
theorem dX5_why_41 : decode cX5_why 41 = .ok (.iconst 3, 1) := by decide +kernel
theorem dX5_why_42 : decode cX5_why 42 = .ok (.if_icmp .ne 13, 3) := by decide +kernel
theorem dX5_why_45 : decode cX5_why 45 = .ok (.aload_n 0, 1) := by decide +kernel
theorem dX5_why_46 : decode cX5_why 46 = .ok (.getfield 26, 3) := by decide +kernel
theorem dX5_why_49 : decode cX5_why 49 = .ok (.getfield 111, 3) := by decide +kernel
theorem dX5_why_52 : decode cX5_why 52 = .ok (.goto 4, 3) := by decide +kernel
theorem dX5_why_55 : decode cX5_why 55 = .ok (.iconst (-1), 1) := by decide +kernel
theorem dX5_why_56 : decode cX5_why 56 = .ok (.ireturn, 1) := by decide +kernel
theorem dX5_why_57 : decode cX5_why 57 = .ok (.iconst (-1), 1) := by decide +kernel
theorem dX5_why_58 : decode cX5_why 58 = .ok (.ireturn, 1) := by decide +kernel
theorem dX5_laid_0 : decode cX5_laid 0 = .ok (.aload_n 0, 1) := by decide +kernel
theorem dX5_laid_1 : decode cX5_laid 1 = .ok (.invokevirtual 114, 3) := by decide +kernel
theorem dX5_laid_4 : decode cX5_laid 4 = .ok (.iload_n 1, 1) := by decide +kernel
theorem dX5_laid_5 : decode cX5_laid 5 = .ok (.tableswitch 71 0 3 #[31, 39, 47, 59], 31) := by decide +kernel
theorem dX5_laid_36 : decode cX5_laid 36 = .ok (.aload_n 0, 1) := by decide +kernel
theorem dX5_laid_37 : decode cX5_laid 37 = .ok (.getfield 26, 3) := by decide +kernel
theorem dX5_laid_40 : decode cX5_laid 40 = .ok (.getfield 117, 3) := by decide +kernel
theorem dX5_laid_43 : decode cX5_laid 43 = .ok (.ireturn, 1) := by decide +kernel
theorem dX5_laid_44 : decode cX5_laid 44 = .ok (.aload_n 0, 1) := by decide +kernel
theorem dX5_laid_45 : decode cX5_laid 45 = .ok (.getfield 26, 3) := by decide +kernel
theorem dX5_laid_48 : decode cX5_laid 48 = .ok (.getfield 120, 3) := by decide +kernel
theorem dX5_laid_51 : decode cX5_laid 51 = .ok (.ireturn, 1) := by decide +kernel
theorem dX5_laid_52 : decode cX5_laid 52 = .ok (.aload_n 0, 1) := by decide +kernel
theorem dX5_laid_53 : decode cX5_laid 53 = .ok (.getfield 26, 3) := by decide +kernel
theorem dX5_laid_56 : decode cX5_laid 56 = .ok (.aload_n 0, 1) := by decide +kernel
theorem dX5_laid_57 : decode cX5_laid 57 = .ok (.getfield 12, 3) := by decide +kernel
theorem dX5_laid_60 : decode cX5_laid 60 = .ok (.invokevirtual 123, 3) := by decide +kernel
theorem dX5_laid_63 : decode cX5_laid 63 = .ok (.ireturn, 1) := by decide +kernel
theorem dX5_laid_64 : decode cX5_laid 64 = .ok (.aload_n 0, 1) := by decide +kernel
theorem dX5_laid_65 : decode cX5_laid 65 = .ok (.getfield 26, 3) := by decide +kernel
theorem dX5_laid_68 : decode cX5_laid 68 = .ok (.aload_n 0, 1) := by decide +kernel
theorem dX5_laid_69 : decode cX5_laid 69 = .ok (.getfield 12, 3) := by decide +kernel
theorem dX5_laid_72 : decode cX5_laid 72 = .ok (.invokevirtual 127, 3) := by decide +kernel
theorem dX5_laid_75 : decode cX5_laid 75 = .ok (.ireturn, 1) := by decide +kernel
theorem dX5_laid_76 : decode cX5_laid 76 = .ok (.iconst (-1), 1) := by decide +kernel
theorem dX5_laid_77 : decode cX5_laid 77 = .ok (.ireturn, 1) := by decide +kernel
theorem dX5_where_0 : decode cX5_where 0 = .ok (.aload_n 0, 1) := by decide +kernel
theorem dX5_where_1 : decode cX5_where 1 = .ok (.getfield 12, 3) := by decide +kernel
theorem dX5_where_4 : decode cX5_where 4 = .ok (.iload_n 1, 1) := by decide +kernel
theorem dX5_where_5 : decode cX5_where 5 = .ok (.iload_n 2, 1) := by decide +kernel
theorem dX5_where_6 : decode cX5_where 6 = .ok (.iload_n 3, 1) := by decide +kernel
theorem dX5_where_7 : decode cX5_where 7 = .ok (.invokevirtual 78, 3) := by decide +kernel
theorem dX5_where_10 : decode cX5_where 10 = .ok (.istore 5, 2) := by decide +kernel
theorem dX5_where_12 : decode cX5_where 12 = .ok (.iload 5, 2) := by decide +kernel
theorem dX5_where_14 : decode cX5_where 14 = .ok (.iconst (-1), 1) := by decide +kernel
theorem dX5_where_15 : decode cX5_where 15 = .ok (.if_icmp .ne 5, 3) := by decide +kernel
theorem dX5_where_18 : decode cX5_where 18 = .ok (.iconst (-1), 1) := by decide +kernel
theorem dX5_where_19 : decode cX5_where 19 = .ok (.ireturn, 1) := by decide +kernel
theorem dX5_where_20 : decode cX5_where 20 = .ok (.aload_n 0, 1) := by decide +kernel
theorem dX5_where_21 : decode cX5_where 21 = .ok (.invokevirtual 114, 3) := by decide +kernel
theorem dX5_where_24 : decode cX5_where 24 = .ok (.iload 4, 2) := by decide +kernel
theorem dX5_where_26 : decode cX5_where 26 = .ok (.tableswitch 59 0 2 #[26, 37, 48], 26) := by decide +kernel
theorem dX5_where_52 : decode cX5_where 52 = .ok (.aload_n 0, 1) := by decide +kernel
theorem dX5_where_53 : decode cX5_where 53 = .ok (.getfield 26, 3) := by decide +kernel
theorem dX5_where_56 : decode cX5_where 56 = .ok (.getfield 130, 3) := by decide +kernel
theorem dX5_where_59 : decode cX5_where 59 = .ok (.iload 5, 2) := by decide +kernel
theorem dX5_where_61 : decode cX5_where 61 = .ok (.iaload, 1) := by decide +kernel
theorem dX5_where_62 : decode cX5_where 62 = .ok (.ireturn, 1) := by decide +kernel
theorem dX5_where_63 : decode cX5_where 63 = .ok (.aload_n 0, 1) := by decide +kernel
theorem dX5_where_64 : decode cX5_where 64 = .ok (.getfield 26, 3) := by decide +kernel
theorem dX5_where_67 : decode cX5_where 67 = .ok (.getfield 134, 3) := by decide +kernel
theorem dX5_where_70 : decode cX5_where 70 = .ok (.iload 5, 2) := by decide +kernel
theorem dX5_where_72 : decode cX5_where 72 = .ok (.iaload, 1) := by decide +kernel
theorem dX5_where_73 : decode cX5_where 73 = .ok (.ireturn, 1) := by decide +kernel
theorem dX5_where_74 : decode cX5_where 74 = .ok (.aload_n 0, 1) := by decide +kernel
theorem dX5_where_75 : decode cX5_where 75 = .ok (.getfield 26, 3) := by decide +kernel
theorem dX5_where_78 : decode cX5_where 78 = .ok (.getfield 137, 3) := by decide +kernel
theorem dX5_where_81 : decode cX5_where 81 = .ok (.iload 5, 2) := by decide +kernel
theorem dX5_where_83 : decode cX5_where 83 = .ok (.iaload, 1) := by decide +kernel
theorem dX5_where_84 : decode cX5_where 84 = .ok (.ireturn, 1) := by decide +kernel
theorem dX5_where_85 : decode cX5_where 85 = .ok (.iconst (-1), 1) := by decide +kernel
theorem dX5_where_86 : decode cX5_where 86 = .ok (.ireturn, 1) := by decide +kernel
theorem dX5_needs_0 : decode cX5_needs 0 = .ok (.aload_n 0, 1) := by decide +kernel
theorem dX5_needs_1 : decode cX5_needs 1 = .ok (.getfield 12, 3) := by decide +kernel
theorem dX5_needs_4 : decode cX5_needs 4 = .ok (.iload_n 1, 1) := by decide +kernel
theorem dX5_needs_5 : decode cX5_needs 5 = .ok (.invokevirtual 71, 3) := by decide +kernel
theorem dX5_needs_8 : decode cX5_needs 8 = .ok (.ifCond .ne 7, 3) := by decide +kernel
theorem dX5_needs_11 : decode cX5_needs 11 = .ok (.sipush (-1000), 3) := by decide +kernel
theorem dX5_needs_14 : decode cX5_needs 14 = .ok (.ireturn, 1) := by decide +kernel
theorem dX5_needs_15 : decode cX5_needs 15 = .ok (.iload_n 2, 1) := by decide +kernel
theorem dX5_needs_16 : decode cX5_needs 16 = .ok (.tableswitch 71 0 2 #[28, 41, 54], 28) := by decide +kernel
theorem dX5_needs_44 : decode cX5_needs 44 = .ok (.aload_n 0, 1) := by decide +kernel
theorem dX5_needs_45 : decode cX5_needs 45 = .ok (.getfield 19, 3) := by decide +kernel
theorem dX5_needs_48 : decode cX5_needs 48 = .ok (.aload_n 0, 1) := by decide +kernel
theorem dX5_needs_49 : decode cX5_needs 49 = .ok (.getfield 12, 3) := by decide +kernel
theorem dX5_needs_52 : decode cX5_needs 52 = .ok (.iload_n 1, 1) := by decide +kernel
theorem dX5_needs_53 : decode cX5_needs 53 = .ok (.invokevirtual 140, 3) := by decide +kernel
theorem dX5_needs_56 : decode cX5_needs 56 = .ok (.ireturn, 1) := by decide +kernel
theorem dX5_needs_57 : decode cX5_needs 57 = .ok (.aload_n 0, 1) := by decide +kernel
theorem dX5_needs_58 : decode cX5_needs 58 = .ok (.getfield 19, 3) := by decide +kernel
theorem dX5_needs_61 : decode cX5_needs 61 = .ok (.aload_n 0, 1) := by decide +kernel
theorem dX5_needs_62 : decode cX5_needs 62 = .ok (.getfield 12, 3) := by decide +kernel
theorem dX5_needs_65 : decode cX5_needs 65 = .ok (.iload_n 1, 1) := by decide +kernel
theorem dX5_needs_66 : decode cX5_needs 66 = .ok (.invokevirtual 144, 3) := by decide +kernel
theorem dX5_needs_69 : decode cX5_needs 69 = .ok (.ireturn, 1) := by decide +kernel
theorem dX5_needs_70 : decode cX5_needs 70 = .ok (.aload_n 0, 1) := by decide +kernel
theorem dX5_needs_71 : decode cX5_needs 71 = .ok (.getfield 12, 3) := by decide +kernel
theorem dX5_needs_74 : decode cX5_needs 74 = .ok (.iload_n 1, 1) := by decide +kernel
theorem dX5_needs_75 : decode cX5_needs 75 = .ok (.invokevirtual 147, 3) := by decide +kernel
theorem dX5_needs_78 : decode cX5_needs 78 = .ok (.ifCond .eq 7, 3) := by decide +kernel
theorem dX5_needs_81 : decode cX5_needs 81 = .ok (.iconst 1, 1) := by decide +kernel
theorem dX5_needs_82 : decode cX5_needs 82 = .ok (.goto 4, 3) := by decide +kernel
theorem dX5_needs_85 : decode cX5_needs 85 = .ok (.iconst 0, 1) := by decide +kernel
theorem dX5_needs_86 : decode cX5_needs 86 = .ok (.ireturn, 1) := by decide +kernel
theorem dX5_needs_87 : decode cX5_needs 87 = .ok (.sipush (-1000), 3) := by decide +kernel
theorem dX5_needs_90 : decode cX5_needs 90 = .ok (.ireturn, 1) := by decide +kernel
theorem dX5_best_0 : decode cX5_best 0 = .ok (.iload_n 1, 1) := by decide +kernel
theorem dX5_best_1 : decode cX5_best 1 = .ok (.iconst 1, 1) := by decide +kernel
theorem dX5_best_2 : decode cX5_best 2 = .ok (.if_icmp .ne 17, 3) := by decide +kernel
theorem dX5_best_5 : decode cX5_best 5 = .ok (.iload_n 2, 1) := by decide +kernel
theorem dX5_best_6 : decode cX5_best 6 = .ok (.iconst 1, 1) := by decide +kernel
theorem dX5_best_7 : decode cX5_best 7 = .ok (.if_icmp .eq 8, 3) := by decide +kernel
theorem dX5_best_10 : decode cX5_best 10 = .ok (.iload_n 2, 1) := by decide +kernel
theorem dX5_best_11 : decode cX5_best 11 = .ok (.iconst 2, 1) := by decide +kernel
theorem dX5_best_12 : decode cX5_best 12 = .ok (.if_icmp .ne 7, 3) := by decide +kernel
theorem dX5_best_15 : decode cX5_best 15 = .ok (.iconst 1, 1) := by decide +kernel
theorem dX5_best_16 : decode cX5_best 16 = .ok (.goto 4, 3) := by decide +kernel
theorem dX5_best_19 : decode cX5_best 19 = .ok (.iconst 0, 1) := by decide +kernel
theorem dX5_best_20 : decode cX5_best 20 = .ok (.istore_n 3, 1) := by decide +kernel
theorem dX5_best_21 : decode cX5_best 21 = .ok (.iload_n 1, 1) := by decide +kernel
theorem dX5_best_22 : decode cX5_best 22 = .ok (.iconst 2, 1) := by decide +kernel
theorem dX5_best_23 : decode cX5_best 23 = .ok (.if_icmp .ne 12, 3) := by decide +kernel
theorem dX5_best_26 : decode cX5_best 26 = .ok (.iload_n 2, 1) := by decide +kernel
theorem dX5_best_27 : decode cX5_best 27 = .ok (.iconst 1, 1) := by decide +kernel
theorem dX5_best_28 : decode cX5_best 28 = .ok (.if_icmp .ne 7, 3) := by decide +kernel
theorem dX5_best_31 : decode cX5_best 31 = .ok (.iconst 1, 1) := by decide +kernel
theorem dX5_best_32 : decode cX5_best 32 = .ok (.goto 4, 3) := by decide +kernel
theorem dX5_best_35 : decode cX5_best 35 = .ok (.iconst 0, 1) := by decide +kernel
theorem dX5_best_36 : decode cX5_best 36 = .ok (.istore 4, 2) := by decide +kernel
theorem dX5_best_38 : decode cX5_best 38 = .ok (.iload_n 3, 1) := by decide +kernel
theorem dX5_best_39 : decode cX5_best 39 = .ok (.ifCond .ne 10, 3) := by decide +kernel
theorem dX5_best_42 : decode cX5_best 42 = .ok (.iload 4, 2) := by decide +kernel
theorem dX5_best_44 : decode cX5_best 44 = .ok (.ifCond .ne 5, 3) := by decide +kernel
theorem dX5_best_47 : decode cX5_best 47 = .ok (.iconst (-1), 1) := by decide +kernel
theorem dX5_best_48 : decode cX5_best 48 = .ok (.ireturn, 1) := by decide +kernel
theorem dX5_best_49 : decode cX5_best 49 = .ok (.aload_n 0, 1) := by decide +kernel
theorem dX5_best_50 : decode cX5_best 50 = .ok (.getfield 33, 3) := by decide +kernel
theorem dX5_best_53 : decode cX5_best 53 = .ok (.aload_n 0, 1) := by decide +kernel
theorem dX5_best_54 : decode cX5_best 54 = .ok (.getfield 12, 3) := by decide +kernel
theorem dX5_best_57 : decode cX5_best 57 = .ok (.iload_n 1, 1) := by decide +kernel
theorem dX5_best_58 : decode cX5_best 58 = .ok (.iload_n 2, 1) := by decide +kernel
theorem dX5_best_59 : decode cX5_best 59 = .ok (.invokevirtual 150, 3) := by decide +kernel
theorem dX5_best_62 : decode cX5_best 62 = .ok (.ifCond .ne 5, 3) := by decide +kernel
theorem dX5_best_65 : decode cX5_best 65 = .ok (.iconst (-1), 1) := by decide +kernel
theorem dX5_best_66 : decode cX5_best 66 = .ok (.ireturn, 1) := by decide +kernel
theorem dX5_best_67 : decode cX5_best 67 = .ok (.aload_n 0, 1) := by decide +kernel
theorem dX5_best_68 : decode cX5_best 68 = .ok (.getfield 19, 3) := by decide +kernel
theorem dX5_best_71 : decode cX5_best 71 = .ok (.aload_n 0, 1) := by decide +kernel
theorem dX5_best_72 : decode cX5_best 72 = .ok (.getfield 33, 3) := by decide +kernel
theorem dX5_best_75 : decode cX5_best 75 = .ok (.getfield 154, 3) := by decide +kernel
theorem dX5_best_78 : decode cX5_best 78 = .ok (.invokevirtual 157, 3) := by decide +kernel
theorem dX5_best_81 : decode cX5_best 81 = .ok (.aload_n 0, 1) := by decide +kernel
theorem dX5_best_82 : decode cX5_best 82 = .ok (.invokevirtual 52, 3) := by decide +kernel
theorem dX5_best_85 : decode cX5_best 85 = .ok (.aload_n 0, 1) := by decide +kernel
theorem dX5_best_86 : decode cX5_best 86 = .ok (.invokevirtual 114, 3) := by decide +kernel
theorem dX5_best_89 : decode cX5_best 89 = .ok (.aload_n 0, 1) := by decide +kernel
theorem dX5_best_90 : decode cX5_best 90 = .ok (.getfield 26, 3) := by decide +kernel
theorem dX5_best_93 : decode cX5_best 93 = .ok (.getfield 117, 3) := by decide +kernel
theorem dX5_best_96 : decode cX5_best 96 = .ok (.ireturn, 1) := by decide +kernel
theorem dX5_laying_0 : decode cX5_laying 0 = .ok (.iload_n 1, 1) := by decide +kernel
theorem dX5_laying_1 : decode cX5_laying 1 = .ok (.invokestatic 87, 3) := by decide +kernel
theorem dX5_laying_4 : decode cX5_laying 4 = .ok (.ifCond .eq 26, 3) := by decide +kernel
theorem dX5_laying_7 : decode cX5_laying 7 = .ok (.iload_n 2, 1) := by decide +kernel
theorem dX5_laying_8 : decode cX5_laying 8 = .ok (.invokestatic 87, 3) := by decide +kernel
theorem dX5_laying_11 : decode cX5_laying 11 = .ok (.ifCond .eq 19, 3) := by decide +kernel
theorem dX5_laying_14 : decode cX5_laying 14 = .ok (.aload_n 0, 1) := by decide +kernel
theorem dX5_laying_15 : decode cX5_laying 15 = .ok (.getfield 19, 3) := by decide +kernel
theorem dX5_laying_18 : decode cX5_laying 18 = .ok (.getfield 161, 3) := by decide +kernel
theorem dX5_laying_21 : decode cX5_laying 21 = .ok (.iconst 3, 1) := by decide +kernel
theorem dX5_laying_22 : decode cX5_laying 22 = .ok (.iload_n 1, 1) := by decide +kernel
theorem dX5_laying_23 : decode cX5_laying 23 = .ok (.imul, 1) := by decide +kernel
theorem dX5_laying_24 : decode cX5_laying 24 = .ok (.iload_n 2, 1) := by decide +kernel
theorem dX5_laying_25 : decode cX5_laying 25 = .ok (.iadd, 1) := by decide +kernel
theorem dX5_laying_26 : decode cX5_laying 26 = .ok (.iaload, 1) := by decide +kernel
theorem dX5_laying_27 : decode cX5_laying 27 = .ok (.goto 6, 3) := by decide +kernel
theorem dX5_laying_30 : decode cX5_laying 30 = .ok (.sipush (-1000), 3) := by decide +kernel
theorem dX5_laying_33 : decode cX5_laying 33 = .ok (.ireturn, 1) := by decide +kernel
theorem dX5_run_0 : decode cX5_run 0 = .ok (.aload_n 0, 1) := by decide +kernel
theorem dX5_run_1 : decode cX5_run 1 = .ok (.invokevirtual 103, 3) := by decide +kernel
theorem dX5_run_4 : decode cX5_run 4 = .ok (.ifCond .eq 5, 3) := by decide +kernel
theorem dX5_run_7 : decode cX5_run 7 = .ok (.iconst (-1), 1) := by decide +kernel
theorem dX5_run_8 : decode cX5_run 8 = .ok (.ireturn, 1) := by decide +kernel
theorem dX5_run_9 : decode cX5_run 9 = .ok (.aload_n 0, 1) := by decide +kernel
theorem dX5_run_10 : decode cX5_run 10 = .ok (.getfield 40, 3) := by decide +kernel
theorem dX5_run_13 : decode cX5_run 13 = .ok (.aload_n 0, 1) := by decide +kernel
theorem dX5_run_14 : decode cX5_run 14 = .ok (.getfield 12, 3) := by decide +kernel
theorem dX5_run_17 : decode cX5_run 17 = .ok (.aload_n 0, 1) := by decide +kernel
theorem dX5_run_18 : decode cX5_run 18 = .ok (.getfield 26, 3) := by decide +kernel
theorem dX5_run_21 : decode cX5_run 21 = .ok (.invokevirtual 164, 3) := by decide +kernel
theorem dX5_run_24 : decode cX5_run 24 = .ok (.ireturn, 1) := by decide +kernel
theorem dX5_worked_0 : decode cX5_worked 0 = .ok (.aload_n 0, 1) := by decide +kernel
theorem dX5_worked_1 : decode cX5_worked 1 = .ok (.getfield 40, 3) := by decide +kernel
theorem dX5_worked_4 : decode cX5_worked 4 = .ok (.iload_n 1, 1) := by decide +kernel
theorem dX5_worked_5 : decode cX5_worked 5 = .ok (.invokevirtual 168, 3) := by decide +kernel
theorem dX5_worked_8 : decode cX5_worked 8 = .ok (.ifCond .eq 20, 3) := by decide +kernel
theorem dX5_worked_11 : decode cX5_worked 11 = .ok (.aload_n 0, 1) := by decide +kernel
theorem dX5_worked_12 : decode cX5_worked 12 = .ok (.getfield 40, 3) := by decide +kernel
theorem dX5_worked_15 : decode cX5_worked 15 = .ok (.aload_n 0, 1) := by decide +kernel
theorem dX5_worked_16 : decode cX5_worked 16 = .ok (.getfield 26, 3) := by decide +kernel
theorem dX5_worked_19 : decode cX5_worked 19 = .ok (.iload_n 1, 1) := by decide +kernel
theorem dX5_worked_20 : decode cX5_worked 20 = .ok (.iload_n 2, 1) := by decide +kernel
theorem dX5_worked_21 : decode cX5_worked 21 = .ok (.iload_n 3, 1) := by decide +kernel
theorem dX5_worked_22 : decode cX5_worked 22 = .ok (.invokevirtual 171, 3) := by decide +kernel
theorem dX5_worked_25 : decode cX5_worked 25 = .ok (.goto 4, 3) := by decide +kernel
theorem dX5_worked_28 : decode cX5_worked 28 = .ok (.iconst (-1), 1) := by decide +kernel
theorem dX5_worked_29 : decode cX5_worked 29 = .ok (.ireturn, 1) := by decide +kernel
theorem dX5_held_0 : decode cX5_held 0 = .ok (.aload_n 0, 1) := by decide +kernel
theorem dX5_held_1 : decode cX5_held 1 = .ok (.getfield 40, 3) := by decide +kernel
theorem dX5_held_4 : decode cX5_held 4 = .ok (.iload_n 1, 1) := by decide +kernel
theorem dX5_held_5 : decode cX5_held 5 = .ok (.invokevirtual 168, 3) := by decide +kernel
theorem dX5_held_8 : decode cX5_held 8 = .ok (.ifCond .eq 15, 3) := by decide +kernel
theorem dX5_held_11 : decode cX5_held 11 = .ok (.aload_n 0, 1) := by decide +kernel
theorem dX5_held_12 : decode cX5_held 12 = .ok (.getfield 40, 3) := by decide +kernel
theorem dX5_held_15 : decode cX5_held 15 = .ok (.getfield 175, 3) := by decide +kernel
theorem dX5_held_18 : decode cX5_held 18 = .ok (.iload_n 1, 1) := by decide +kernel
theorem dX5_held_19 : decode cX5_held 19 = .ok (.iaload, 1) := by decide +kernel
theorem dX5_held_20 : decode cX5_held 20 = .ok (.goto 4, 3) := by decide +kernel
theorem dX5_held_23 : decode cX5_held 23 = .ok (.iconst (-1), 1) := by decide +kernel
theorem dX5_held_24 : decode cX5_held 24 = .ok (.ireturn, 1) := by decide +kernel
theorem dX5_value_0 : decode cX5_value 0 = .ok (.aload_n 0, 1) := by decide +kernel
theorem dX5_value_1 : decode cX5_value 1 = .ok (.getfield 12, 3) := by decide +kernel
theorem dX5_value_4 : decode cX5_value 4 = .ok (.iload_n 2, 1) := by decide +kernel
theorem dX5_value_5 : decode cX5_value 5 = .ok (.iload_n 3, 1) := by decide +kernel
theorem dX5_value_6 : decode cX5_value 6 = .ok (.iload 4, 2) := by decide +kernel
theorem dX5_value_8 : decode cX5_value 8 = .ok (.invokevirtual 78, 3) := by decide +kernel
theorem dX5_value_11 : decode cX5_value 11 = .ok (.istore 5, 2) := by decide +kernel
theorem dX5_value_13 : decode cX5_value 13 = .ok (.aload_n 0, 1) := by decide +kernel
theorem dX5_value_14 : decode cX5_value 14 = .ok (.getfield 40, 3) := by decide +kernel
theorem dX5_value_17 : decode cX5_value 17 = .ok (.getfield 63, 3) := by decide +kernel
theorem dX5_value_20 : decode cX5_value 20 = .ok (.ifCond .eq 20, 3) := by decide +kernel
theorem dX5_value_23 : decode cX5_value 23 = .ok (.aload_n 0, 1) := by decide +kernel
theorem dX5_value_24 : decode cX5_value 24 = .ok (.getfield 12, 3) := by decide +kernel
theorem dX5_value_27 : decode cX5_value 27 = .ok (.iload_n 1, 1) := by decide +kernel
theorem dX5_value_28 : decode cX5_value 28 = .ok (.invokevirtual 71, 3) := by decide +kernel
theorem dX5_value_31 : decode cX5_value 31 = .ok (.ifCond .eq 9, 3) := by decide +kernel
theorem dX5_value_34 : decode cX5_value 34 = .ok (.iload 5, 2) := by decide +kernel
theorem dX5_value_36 : decode cX5_value 36 = .ok (.iconst (-1), 1) := by decide +kernel
theorem dX5_value_37 : decode cX5_value 37 = .ok (.if_icmp .ne 5, 3) := by decide +kernel
theorem dX5_value_40 : decode cX5_value 40 = .ok (.iconst 0, 1) := by decide +kernel
theorem dX5_value_41 : decode cX5_value 41 = .ok (.ireturn, 1) := by decide +kernel
theorem dX5_value_42 : decode cX5_value 42 = .ok (.aload_n 0, 1) := by decide +kernel
theorem dX5_value_43 : decode cX5_value 43 = .ok (.getfield 40, 3) := by decide +kernel
theorem dX5_value_46 : decode cX5_value 46 = .ok (.getfield 178, 3) := by decide +kernel
theorem dX5_value_49 : decode cX5_value 49 = .ok (.iload_n 1, 1) := by decide +kernel
theorem dX5_value_50 : decode cX5_value 50 = .ok (.sipush 512, 3) := by decide +kernel
theorem dX5_value_53 : decode cX5_value 53 = .ok (.imul, 1) := by decide +kernel
theorem dX5_value_54 : decode cX5_value 54 = .ok (.iload 5, 2) := by decide +kernel
theorem dX5_value_56 : decode cX5_value 56 = .ok (.iadd, 1) := by decide +kernel
theorem dX5_value_57 : decode cX5_value 57 = .ok (.iaload, 1) := by decide +kernel
theorem dX5_value_58 : decode cX5_value 58 = .ok (.ireturn, 1) := by decide +kernel
theorem dX5_plain_0 : decode cX5_plain 0 = .ok (.aload_n 0, 1) := by decide +kernel
theorem dX5_plain_1 : decode cX5_plain 1 = .ok (.getfield 12, 3) := by decide +kernel
theorem dX5_plain_4 : decode cX5_plain 4 = .ok (.iload_n 2, 1) := by decide +kernel
theorem dX5_plain_5 : decode cX5_plain 5 = .ok (.iload_n 3, 1) := by decide +kernel
theorem dX5_plain_6 : decode cX5_plain 6 = .ok (.iload 4, 2) := by decide +kernel
theorem dX5_plain_8 : decode cX5_plain 8 = .ok (.invokevirtual 78, 3) := by decide +kernel
theorem dX5_plain_11 : decode cX5_plain 11 = .ok (.istore 5, 2) := by decide +kernel
theorem dX5_plain_13 : decode cX5_plain 13 = .ok (.aload_n 0, 1) := by decide +kernel
theorem dX5_plain_14 : decode cX5_plain 14 = .ok (.getfield 12, 3) := by decide +kernel
theorem dX5_plain_17 : decode cX5_plain 17 = .ok (.iload_n 1, 1) := by decide +kernel
theorem dX5_plain_18 : decode cX5_plain 18 = .ok (.invokevirtual 71, 3) := by decide +kernel
theorem dX5_plain_21 : decode cX5_plain 21 = .ok (.ifCond .eq 9, 3) := by decide +kernel
theorem dX5_plain_24 : decode cX5_plain 24 = .ok (.iload 5, 2) := by decide +kernel
theorem dX5_plain_26 : decode cX5_plain 26 = .ok (.iconst (-1), 1) := by decide +kernel
theorem dX5_plain_27 : decode cX5_plain 27 = .ok (.if_icmp .ne 5, 3) := by decide +kernel
theorem dX5_plain_30 : decode cX5_plain 30 = .ok (.iconst 0, 1) := by decide +kernel
theorem dX5_plain_31 : decode cX5_plain 31 = .ok (.ireturn, 1) := by decide +kernel
theorem dX5_plain_32 : decode cX5_plain 32 = .ok (.aload_n 0, 1) := by decide +kernel
theorem dX5_plain_33 : decode cX5_plain 33 = .ok (.getfield 12, 3) := by decide +kernel
theorem dX5_plain_36 : decode cX5_plain 36 = .ok (.iload_n 1, 1) := by decide +kernel
theorem dX5_plain_37 : decode cX5_plain 37 = .ok (.iload 5, 2) := by decide +kernel
theorem dX5_plain_39 : decode cX5_plain 39 = .ok (.invokevirtual 181, 3) := by decide +kernel
theorem dX5_plain_42 : decode cX5_plain 42 = .ok (.ireturn, 1) := by decide +kernel
theorem dX5_result_0 : decode cX5_result 0 = .ok (.aload_n 0, 1) := by decide +kernel
theorem dX5_result_1 : decode cX5_result 1 = .ok (.getfield 12, 3) := by decide +kernel
theorem dX5_result_4 : decode cX5_result 4 = .ok (.iload_n 1, 1) := by decide +kernel
theorem dX5_result_5 : decode cX5_result 5 = .ok (.invokevirtual 71, 3) := by decide +kernel
theorem dX5_result_8 : decode cX5_result 8 = .ok (.ifCond .eq 12, 3) := by decide +kernel
theorem dX5_result_11 : decode cX5_result 11 = .ok (.iload_n 3, 1) := by decide +kernel
theorem dX5_result_12 : decode cX5_result 12 = .ok (.ifCond .lt 8, 3) := by decide +kernel
theorem dX5_result_15 : decode cX5_result 15 = .ok (.iload_n 3, 1) := by decide +kernel
theorem dX5_result_16 : decode cX5_result 16 = .ok (.iconst 1, 1) := by decide +kernel
theorem dX5_result_17 : decode cX5_result 17 = .ok (.if_icmp .le 5, 3) := by decide +kernel
theorem dX5_result_20 : decode cX5_result 20 = .ok (.iconst (-1), 1) := by decide +kernel
theorem dX5_result_21 : decode cX5_result 21 = .ok (.ireturn, 1) := by decide +kernel
theorem dX5_result_22 : decode cX5_result 22 = .ok (.aload_n 0, 1) := by decide +kernel
theorem dX5_result_23 : decode cX5_result 23 = .ok (.getfield 12, 3) := by decide +kernel
theorem dX5_result_26 : decode cX5_result 26 = .ok (.iload_n 1, 1) := by decide +kernel
theorem dX5_result_27 : decode cX5_result 27 = .ok (.iload_n 2, 1) := by decide +kernel
theorem dX5_result_28 : decode cX5_result 28 = .ok (.invokevirtual 185, 3) := by decide +kernel
theorem dX5_result_31 : decode cX5_result 31 = .ok (.istore 4, 2) := by decide +kernel
theorem dX5_result_33 : decode cX5_result 33 = .ok (.iload 4, 2) := by decide +kernel
theorem dX5_result_35 : decode cX5_result 35 = .ok (.iconst (-1), 1) := by decide +kernel
theorem dX5_result_36 : decode cX5_result 36 = .ok (.if_icmp .eq 7, 3) := by decide +kernel
theorem dX5_result_39 : decode cX5_result 39 = .ok (.iload_n 3, 1) := by decide +kernel
theorem dX5_result_40 : decode cX5_result 40 = .ok (.ifCond .ne 6, 3) := by decide +kernel
theorem dX5_result_43 : decode cX5_result 43 = .ok (.iload 4, 2) := by decide +kernel
theorem dX5_result_45 : decode cX5_result 45 = .ok (.ireturn, 1) := by decide +kernel
theorem dX5_result_46 : decode cX5_result 46 = .ok (.aload_n 0, 1) := by decide +kernel
theorem dX5_result_47 : decode cX5_result 47 = .ok (.getfield 12, 3) := by decide +kernel
theorem dX5_result_50 : decode cX5_result 50 = .ok (.iload_n 1, 1) := by decide +kernel
theorem dX5_result_51 : decode cX5_result 51 = .ok (.iload 4, 2) := by decide +kernel
theorem dX5_result_53 : decode cX5_result 53 = .ok (.invokevirtual 181, 3) := by decide +kernel
theorem dX5_result_56 : decode cX5_result 56 = .ok (.ireturn, 1) := by decide +kernel
theorem dX5_about_0 : decode cX5_about 0 = .ok (.iload_n 1, 1) := by decide +kernel
theorem dX5_about_1 : decode cX5_about 1 = .ok (.tableswitch 120 0 12 #[67, 75, 83, 99, 120, 120, 120, 120, 120, 120, 107, 107, 107], 67) := by decide +kernel
theorem dX5_about_68 : decode cX5_about 68 = .ok (.aload_n 0, 1) := by decide +kernel
theorem dX5_about_69 : decode cX5_about 69 = .ok (.getfield 12, 3) := by decide +kernel
theorem dX5_about_72 : decode cX5_about 72 = .ok (.getfield 55, 3) := by decide +kernel
theorem dX5_about_75 : decode cX5_about 75 = .ok (.ireturn, 1) := by decide +kernel
theorem dX5_about_76 : decode cX5_about 76 = .ok (.aload_n 0, 1) := by decide +kernel
theorem dX5_about_77 : decode cX5_about 77 = .ok (.getfield 12, 3) := by decide +kernel
theorem dX5_about_80 : decode cX5_about 80 = .ok (.getfield 188, 3) := by decide +kernel
theorem dX5_about_83 : decode cX5_about 83 = .ok (.ireturn, 1) := by decide +kernel
theorem dX5_about_84 : decode cX5_about 84 = .ok (.aload_n 0, 1) := by decide +kernel
theorem dX5_about_85 : decode cX5_about 85 = .ok (.getfield 40, 3) := by decide +kernel
theorem dX5_about_88 : decode cX5_about 88 = .ok (.getfield 63, 3) := by decide +kernel
theorem dX5_about_91 : decode cX5_about 91 = .ok (.ifCond .eq 7, 3) := by decide +kernel
theorem dX5_about_94 : decode cX5_about 94 = .ok (.iconst 1, 1) := by decide +kernel
theorem dX5_about_95 : decode cX5_about 95 = .ok (.goto 4, 3) := by decide +kernel
theorem dX5_about_98 : decode cX5_about 98 = .ok (.iconst 0, 1) := by decide +kernel
theorem dX5_about_99 : decode cX5_about 99 = .ok (.ireturn, 1) := by decide +kernel
theorem dX5_about_100 : decode cX5_about 100 = .ok (.aload_n 0, 1) := by decide +kernel
theorem dX5_about_101 : decode cX5_about 101 = .ok (.getfield 19, 3) := by decide +kernel
theorem dX5_about_104 : decode cX5_about 104 = .ok (.getfield 100, 3) := by decide +kernel
theorem dX5_about_107 : decode cX5_about 107 = .ok (.ireturn, 1) := by decide +kernel
theorem dX5_about_108 : decode cX5_about 108 = .ok (.aload_n 0, 1) := by decide +kernel
theorem dX5_about_109 : decode cX5_about 109 = .ok (.getfield 12, 3) := by decide +kernel
theorem dX5_about_112 : decode cX5_about 112 = .ok (.getfield 191, 3) := by decide +kernel
theorem dX5_about_115 : decode cX5_about 115 = .ok (.iload_n 1, 1) := by decide +kernel
theorem dX5_about_116 : decode cX5_about 116 = .ok (.bipush 10, 2) := by decide +kernel
theorem dX5_about_118 : decode cX5_about 118 = .ok (.isub, 1) := by decide +kernel
theorem dX5_about_119 : decode cX5_about 119 = .ok (.iaload, 1) := by decide +kernel
theorem dX5_about_120 : decode cX5_about 120 = .ok (.ireturn, 1) := by decide +kernel
theorem dX5_about_121 : decode cX5_about 121 = .ok (.iconst (-1), 1) := by decide +kernel
theorem dX5_about_122 : decode cX5_about 122 = .ok (.ireturn, 1) := by decide +kernel
theorem dX5_forgetPlaces_0 : decode cX5_forgetPlaces 0 = .ok (.aload_n 0, 1) := by decide +kernel
theorem dX5_forgetPlaces_1 : decode cX5_forgetPlaces 1 = .ok (.getfield 26, 3) := by decide +kernel
theorem dX5_forgetPlaces_4 : decode cX5_forgetPlaces 4 = .ok (.iconst 0, 1) := by decide +kernel
theorem dX5_forgetPlaces_5 : decode cX5_forgetPlaces 5 = .ok (.putfield 194, 3) := by decide +kernel
theorem dX5_forgetPlaces_8 : decode cX5_forgetPlaces 8 = .ok (.aload_n 0, 1) := by decide +kernel
theorem dX5_forgetPlaces_9 : decode cX5_forgetPlaces 9 = .ok (.getfield 40, 3) := by decide +kernel
theorem dX5_forgetPlaces_12 : decode cX5_forgetPlaces 12 = .ok (.iconst 0, 1) := by decide +kernel
theorem dX5_forgetPlaces_13 : decode cX5_forgetPlaces 13 = .ok (.putfield 63, 3) := by decide +kernel
theorem dX5_forgetPlaces_16 : decode cX5_forgetPlaces 16 = .ok (.return_, 1) := by decide +kernel
theorem dX5_settle_0 : decode cX5_settle 0 = .ok (.aload_n 0, 1) := by decide +kernel
theorem dX5_settle_1 : decode cX5_settle 1 = .ok (.getfield 26, 3) := by decide +kernel
theorem dX5_settle_4 : decode cX5_settle 4 = .ok (.getfield 194, 3) := by decide +kernel
theorem dX5_settle_7 : decode cX5_settle 7 = .ok (.ifCond .ne 18, 3) := by decide +kernel
theorem dX5_settle_10 : decode cX5_settle 10 = .ok (.aload_n 0, 1) := by decide +kernel
theorem dX5_settle_11 : decode cX5_settle 11 = .ok (.getfield 26, 3) := by decide +kernel
theorem dX5_settle_14 : decode cX5_settle 14 = .ok (.aload_n 0, 1) := by decide +kernel
theorem dX5_settle_15 : decode cX5_settle 15 = .ok (.getfield 12, 3) := by decide +kernel
theorem dX5_settle_18 : decode cX5_settle 18 = .ok (.aload_n 0, 1) := by decide +kernel
theorem dX5_settle_19 : decode cX5_settle 19 = .ok (.getfield 19, 3) := by decide +kernel
theorem dX5_settle_22 : decode cX5_settle 22 = .ok (.invokevirtual 197, 3) := by decide +kernel
theorem dX5_settle_25 : decode cX5_settle 25 = .ok (.return_, 1) := by decide +kernel
theorem dX5_reason_0 : decode cX5_reason 0 = .ok (.aload_n 0, 1) := by decide +kernel
theorem dX5_reason_1 : decode cX5_reason 1 = .ok (.getfield 19, 3) := by decide +kernel
theorem dX5_reason_4 : decode cX5_reason 4 = .ok (.aload_n 0, 1) := by decide +kernel
theorem dX5_reason_5 : decode cX5_reason 5 = .ok (.getfield 12, 3) := by decide +kernel
theorem dX5_reason_8 : decode cX5_reason 8 = .ok (.invokevirtual 201, 3) := by decide +kernel
theorem dX5_reason_11 : decode cX5_reason 11 = .ok (.iconst (-1), 1) := by decide +kernel
theorem dX5_reason_12 : decode cX5_reason 12 = .ok (.if_icmp .eq 5, 3) := by decide +kernel
theorem dX5_reason_15 : decode cX5_reason 15 = .ok (.iconst 1, 1) := by decide +kernel
theorem dX5_reason_16 : decode cX5_reason 16 = .ok (.ireturn, 1) := by decide +kernel
theorem dX5_reason_17 : decode cX5_reason 17 = .ok (.aload_n 0, 1) := by decide +kernel
theorem dX5_reason_18 : decode cX5_reason 18 = .ok (.getfield 19, 3) := by decide +kernel
theorem dX5_reason_21 : decode cX5_reason 21 = .ok (.aload_n 0, 1) := by decide +kernel
theorem dX5_reason_22 : decode cX5_reason 22 = .ok (.getfield 12, 3) := by decide +kernel
theorem dX5_reason_25 : decode cX5_reason 25 = .ok (.invokevirtual 204, 3) := by decide +kernel
theorem dX5_reason_28 : decode cX5_reason 28 = .ok (.iconst (-1), 1) := by decide +kernel
theorem dX5_reason_29 : decode cX5_reason 29 = .ok (.if_icmp .eq 5, 3) := by decide +kernel
theorem dX5_reason_32 : decode cX5_reason 32 = .ok (.iconst 2, 1) := by decide +kernel
theorem dX5_reason_33 : decode cX5_reason 33 = .ok (.ireturn, 1) := by decide +kernel
theorem dX5_reason_34 : decode cX5_reason 34 = .ok (.aload_n 0, 1) := by decide +kernel
theorem dX5_reason_35 : decode cX5_reason 35 = .ok (.invokevirtual 114, 3) := by decide +kernel
theorem dX5_reason_38 : decode cX5_reason 38 = .ok (.aload_n 0, 1) := by decide +kernel
theorem dX5_reason_39 : decode cX5_reason 39 = .ok (.getfield 26, 3) := by decide +kernel
theorem dX5_reason_42 : decode cX5_reason 42 = .ok (.getfield 207, 3) := by decide +kernel
theorem dX5_reason_45 : decode cX5_reason 45 = .ok (.iconst (-1), 1) := by decide +kernel
theorem dX5_reason_46 : decode cX5_reason 46 = .ok (.if_icmp .ne 7, 3) := by decide +kernel
theorem dX5_reason_49 : decode cX5_reason 49 = .ok (.iconst 0, 1) := by decide +kernel
theorem dX5_reason_50 : decode cX5_reason 50 = .ok (.goto 4, 3) := by decide +kernel
theorem dX5_reason_53 : decode cX5_reason 53 = .ok (.iconst 3, 1) := by decide +kernel
theorem dX5_reason_54 : decode cX5_reason 54 = .ok (.ireturn, 1) := by decide +kernel
theorem dX5_culprit_0 : decode cX5_culprit 0 = .ok (.iload_n 1, 1) := by decide +kernel
theorem dX5_culprit_1 : decode cX5_culprit 1 = .ok (.tableswitch 59 1 3 #[27, 39, 51], 27) := by decide +kernel
theorem dX5_culprit_28 : decode cX5_culprit 28 = .ok (.aload_n 0, 1) := by decide +kernel
theorem dX5_culprit_29 : decode cX5_culprit 29 = .ok (.getfield 19, 3) := by decide +kernel
theorem dX5_culprit_32 : decode cX5_culprit 32 = .ok (.aload_n 0, 1) := by decide +kernel
theorem dX5_culprit_33 : decode cX5_culprit 33 = .ok (.getfield 12, 3) := by decide +kernel
theorem dX5_culprit_36 : decode cX5_culprit 36 = .ok (.invokevirtual 201, 3) := by decide +kernel
theorem dX5_culprit_39 : decode cX5_culprit 39 = .ok (.ireturn, 1) := by decide +kernel
theorem dX5_culprit_40 : decode cX5_culprit 40 = .ok (.aload_n 0, 1) := by decide +kernel
theorem dX5_culprit_41 : decode cX5_culprit 41 = .ok (.getfield 19, 3) := by decide +kernel
theorem dX5_culprit_44 : decode cX5_culprit 44 = .ok (.aload_n 0, 1) := by decide +kernel
theorem dX5_culprit_45 : decode cX5_culprit 45 = .ok (.getfield 12, 3) := by decide +kernel
theorem dX5_culprit_48 : decode cX5_culprit 48 = .ok (.invokevirtual 204, 3) := by decide +kernel
theorem dX5_culprit_51 : decode cX5_culprit 51 = .ok (.ireturn, 1) := by decide +kernel
theorem dX5_culprit_52 : decode cX5_culprit 52 = .ok (.aload_n 0, 1) := by decide +kernel
theorem dX5_culprit_53 : decode cX5_culprit 53 = .ok (.getfield 26, 3) := by decide +kernel
theorem dX5_culprit_56 : decode cX5_culprit 56 = .ok (.getfield 207, 3) := by decide +kernel
theorem dX5_culprit_59 : decode cX5_culprit 59 = .ok (.ireturn, 1) := by decide +kernel
theorem dX5_culprit_60 : decode cX5_culprit 60 = .ok (.iconst (-1), 1) := by decide +kernel
theorem dX5_culprit_61 : decode cX5_culprit 61 = .ok (.ireturn, 1) := by decide +kernel
theorem dX5_isSize_0 : decode cX5_isSize 0 = .ok (.iload_n 0, 1) := by decide +kernel
theorem dX5_isSize_1 : decode cX5_isSize 1 = .ok (.iconst 1, 1) := by decide +kernel
theorem dX5_isSize_2 : decode cX5_isSize 2 = .ok (.if_icmp .lt 13, 3) := by decide +kernel
theorem dX5_isSize_5 : decode cX5_isSize 5 = .ok (.iload_n 0, 1) := by decide +kernel
theorem dX5_isSize_6 : decode cX5_isSize 6 = .ok (.bipush 8, 2) := by decide +kernel
theorem dX5_isSize_8 : decode cX5_isSize 8 = .ok (.if_icmp .gt 7, 3) := by decide +kernel
theorem dX5_isSize_11 : decode cX5_isSize 11 = .ok (.iconst 1, 1) := by decide +kernel
theorem dX5_isSize_12 : decode cX5_isSize 12 = .ok (.goto 4, 3) := by decide +kernel
theorem dX5_isSize_15 : decode cX5_isSize 15 = .ok (.iconst 0, 1) := by decide +kernel
theorem dX5_isSize_16 : decode cX5_isSize 16 = .ok (.ireturn, 1) := by decide +kernel
theorem dX5_isIndex_0 : decode cX5_isIndex 0 = .ok (.iload_n 0, 1) := by decide +kernel
theorem dX5_isIndex_1 : decode cX5_isIndex 1 = .ok (.ifCond .lt 12, 3) := by decide +kernel
theorem dX5_isIndex_4 : decode cX5_isIndex 4 = .ok (.iload_n 0, 1) := by decide +kernel
theorem dX5_isIndex_5 : decode cX5_isIndex 5 = .ok (.iconst 2, 1) := by decide +kernel
theorem dX5_isIndex_6 : decode cX5_isIndex 6 = .ok (.if_icmp .gt 7, 3) := by decide +kernel
theorem dX5_isIndex_9 : decode cX5_isIndex 9 = .ok (.iconst 1, 1) := by decide +kernel
theorem dX5_isIndex_10 : decode cX5_isIndex 10 = .ok (.goto 4, 3) := by decide +kernel
theorem dX5_isIndex_13 : decode cX5_isIndex 13 = .ok (.iconst 0, 1) := by decide +kernel
theorem dX5_isIndex_14 : decode cX5_isIndex 14 = .ok (.ireturn, 1) := by decide +kernel
theorem dX5_within_0 : decode cX5_within 0 = .ok (.iload_n 1, 1) := by decide +kernel
theorem dX5_within_1 : decode cX5_within 1 = .ok (.iload_n 0, 1) := by decide +kernel
theorem dX5_within_2 : decode cX5_within 2 = .ok (.ineg, 1) := by decide +kernel
theorem dX5_within_3 : decode cX5_within 3 = .ok (.if_icmp .lt 34, 3) := by decide +kernel
theorem dX5_within_6 : decode cX5_within 6 = .ok (.iload_n 1, 1) := by decide +kernel
theorem dX5_within_7 : decode cX5_within 7 = .ok (.iload_n 0, 1) := by decide +kernel
theorem dX5_within_8 : decode cX5_within 8 = .ok (.if_icmp .gt 29, 3) := by decide +kernel
theorem dX5_within_11 : decode cX5_within 11 = .ok (.iload_n 2, 1) := by decide +kernel
theorem dX5_within_12 : decode cX5_within 12 = .ok (.iload_n 0, 1) := by decide +kernel
theorem dX5_within_13 : decode cX5_within 13 = .ok (.ineg, 1) := by decide +kernel
theorem dX5_within_14 : decode cX5_within 14 = .ok (.if_icmp .lt 23, 3) := by decide +kernel
theorem dX5_within_17 : decode cX5_within 17 = .ok (.iload_n 2, 1) := by decide +kernel
theorem dX5_within_18 : decode cX5_within 18 = .ok (.iload_n 0, 1) := by decide +kernel
theorem dX5_within_19 : decode cX5_within 19 = .ok (.if_icmp .gt 18, 3) := by decide +kernel
theorem dX5_within_22 : decode cX5_within 22 = .ok (.iload_n 3, 1) := by decide +kernel
theorem dX5_within_23 : decode cX5_within 23 = .ok (.iload_n 0, 1) := by decide +kernel
theorem dX5_within_24 : decode cX5_within 24 = .ok (.ineg, 1) := by decide +kernel
theorem dX5_within_25 : decode cX5_within 25 = .ok (.if_icmp .lt 12, 3) := by decide +kernel
theorem dX5_within_28 : decode cX5_within 28 = .ok (.iload_n 3, 1) := by decide +kernel
theorem dX5_within_29 : decode cX5_within 29 = .ok (.iload_n 0, 1) := by decide +kernel
theorem dX5_within_30 : decode cX5_within 30 = .ok (.if_icmp .gt 7, 3) := by decide +kernel
theorem dX5_within_33 : decode cX5_within 33 = .ok (.iconst 1, 1) := by decide +kernel
theorem dX5_within_34 : decode cX5_within 34 = .ok (.goto 4, 3) := by decide +kernel
theorem dX5_within_37 : decode cX5_within 37 = .ok (.iconst 0, 1) := by decide +kernel
theorem dX5_within_38 : decode cX5_within 38 = .ok (.ireturn, 1) := by decide +kernel
theorem dX5_areZeros_0 : decode cX5_areZeros 0 = .ok (.iload_n 0, 1) := by decide +kernel
theorem dX5_areZeros_1 : decode cX5_areZeros 1 = .ok (.ifCond .ne 15, 3) := by decide +kernel
theorem dX5_areZeros_4 : decode cX5_areZeros 4 = .ok (.iload_n 1, 1) := by decide +kernel
theorem dX5_areZeros_5 : decode cX5_areZeros 5 = .ok (.ifCond .ne 11, 3) := by decide +kernel
theorem dX5_areZeros_8 : decode cX5_areZeros 8 = .ok (.iload_n 2, 1) := by decide +kernel
theorem dX5_areZeros_9 : decode cX5_areZeros 9 = .ok (.ifCond .ne 7, 3) := by decide +kernel
theorem dX5_areZeros_12 : decode cX5_areZeros 12 = .ok (.iconst 1, 1) := by decide +kernel
theorem dX5_areZeros_13 : decode cX5_areZeros 13 = .ok (.goto 4, 3) := by decide +kernel
theorem dX5_areZeros_16 : decode cX5_areZeros 16 = .ok (.iconst 0, 1) := by decide +kernel
theorem dX5_areZeros_17 : decode cX5_areZeros 17 = .ok (.ireturn, 1) := by decide +kernel
theorem dX5_isStep_0 : decode cX5_isStep 0 = .ok (.iconst 2, 1) := by decide +kernel
theorem dX5_isStep_1 : decode cX5_isStep 1 = .ok (.iload_n 0, 1) := by decide +kernel
theorem dX5_isStep_2 : decode cX5_isStep 2 = .ok (.iload_n 1, 1) := by decide +kernel
theorem dX5_isStep_3 : decode cX5_isStep 3 = .ok (.iload_n 2, 1) := by decide +kernel
theorem dX5_isStep_4 : decode cX5_isStep 4 = .ok (.invokestatic 90, 3) := by decide +kernel
theorem dX5_isStep_7 : decode cX5_isStep 7 = .ok (.ifCond .eq 16, 3) := by decide +kernel
theorem dX5_isStep_10 : decode cX5_isStep 10 = .ok (.iload_n 0, 1) := by decide +kernel
theorem dX5_isStep_11 : decode cX5_isStep 11 = .ok (.iload_n 1, 1) := by decide +kernel
theorem dX5_isStep_12 : decode cX5_isStep 12 = .ok (.iload_n 2, 1) := by decide +kernel
theorem dX5_isStep_13 : decode cX5_isStep 13 = .ok (.invokestatic 210, 3) := by decide +kernel
theorem dX5_isStep_16 : decode cX5_isStep 16 = .ok (.ifCond .eq 7, 3) := by decide +kernel
theorem dX5_isStep_19 : decode cX5_isStep 19 = .ok (.iconst 1, 1) := by decide +kernel
theorem dX5_isStep_20 : decode cX5_isStep 20 = .ok (.goto 4, 3) := by decide +kernel
theorem dX5_isStep_23 : decode cX5_isStep 23 = .ok (.iconst 0, 1) := by decide +kernel
theorem dX5_isStep_24 : decode cX5_isStep 24 = .ok (.ireturn, 1) := by decide +kernel
theorem dX5_leadsUp_0 : decode cX5_leadsUp 0 = .ok (.iload_n 0, 1) := by decide +kernel
theorem dX5_leadsUp_1 : decode cX5_leadsUp 1 = .ok (.ifCond .eq 13, 3) := by decide +kernel
theorem dX5_leadsUp_4 : decode cX5_leadsUp 4 = .ok (.iload_n 0, 1) := by decide +kernel
theorem dX5_leadsUp_5 : decode cX5_leadsUp 5 = .ok (.ifCond .le 7, 3) := by decide +kernel
theorem dX5_leadsUp_8 : decode cX5_leadsUp 8 = .ok (.iconst 1, 1) := by decide +kernel
theorem dX5_leadsUp_9 : decode cX5_leadsUp 9 = .ok (.goto 4, 3) := by decide +kernel
theorem dX5_leadsUp_12 : decode cX5_leadsUp 12 = .ok (.iconst 0, 1) := by decide +kernel
theorem dX5_leadsUp_13 : decode cX5_leadsUp 13 = .ok (.ireturn, 1) := by decide +kernel
theorem dX5_leadsUp_14 : decode cX5_leadsUp 14 = .ok (.iload_n 1, 1) := by decide +kernel
theorem dX5_leadsUp_15 : decode cX5_leadsUp 15 = .ok (.ifCond .eq 15, 3) := by decide +kernel
theorem dX5_leadsUp_18 : decode cX5_leadsUp 18 = .ok (.iload_n 1, 1) := by decide +kernel
theorem dX5_leadsUp_19 : decode cX5_leadsUp 19 = .ok (.ifCond .le 7, 3) := by decide +kernel
theorem dX5_leadsUp_22 : decode cX5_leadsUp 22 = .ok (.iconst 1, 1) := by decide +kernel
theorem dX5_leadsUp_23 : decode cX5_leadsUp 23 = .ok (.goto 16, 3) := by decide +kernel
theorem dX5_leadsUp_26 : decode cX5_leadsUp 26 = .ok (.iconst 0, 1) := by decide +kernel
theorem dX5_leadsUp_27 : decode cX5_leadsUp 27 = .ok (.goto 12, 3) := by decide +kernel
theorem dX5_leadsUp_30 : decode cX5_leadsUp 30 = .ok (.iload_n 2, 1) := by decide +kernel
theorem dX5_leadsUp_31 : decode cX5_leadsUp 31 = .ok (.ifCond .le 7, 3) := by decide +kernel
theorem dX5_leadsUp_34 : decode cX5_leadsUp 34 = .ok (.iconst 1, 1) := by decide +kernel
theorem dX5_leadsUp_35 : decode cX5_leadsUp 35 = .ok (.goto 4, 3) := by decide +kernel
theorem dX5_leadsUp_38 : decode cX5_leadsUp 38 = .ok (.iconst 0, 1) := by decide +kernel
end
section
theorem dX5_leadsUp_39 : decode cX5_leadsUp 39 = .ok (.ireturn, 1) := by decide +kernel
end
section
theorem dX6_init_0 : decode cX6_init 0 = .ok (.aload_n 0, 1) := by decide +kernel
theorem dX6_init_1 : decode cX6_init 1 = .ok (.invokespecial 1, 3) := by decide +kernel
theorem dX6_init_4 : decode cX6_init 4 = .ok (.aload_n 0, 1) := by decide +kernel
theorem dX6_init_5 : decode cX6_init 5 = .ok (.iconst 3, 1) := by decide +kernel
theorem dX6_init_6 : decode cX6_init 6 = .ok (.newarray .int, 2) := by decide +kernel
theorem dX6_init_8 : decode cX6_init 8 = .ok (.dup, 1) := by decide +kernel
theorem dX6_init_9 : decode cX6_init 9 = .ok (.iconst 0, 1) := by decide +kernel
theorem dX6_init_10 : decode cX6_init 10 = .ok (.iconst 1, 1) := by decide +kernel
theorem dX6_init_11 : decode cX6_init 11 = .ok (.iastore, 1) := by decide +kernel
theorem dX6_init_12 : decode cX6_init 12 = .ok (.dup, 1) := by decide +kernel
theorem dX6_init_13 : decode cX6_init 13 = .ok (.iconst 1, 1) := by decide +kernel
theorem dX6_init_14 : decode cX6_init 14 = .ok (.iconst 1, 1) := by decide +kernel
theorem dX6_init_15 : decode cX6_init 15 = .ok (.iastore, 1) := by decide +kernel
theorem dX6_init_16 : decode cX6_init 16 = .ok (.dup, 1) := by decide +kernel
theorem dX6_init_17 : decode cX6_init 17 = .ok (.iconst 2, 1) := by decide +kernel
theorem dX6_init_18 : decode cX6_init 18 = .ok (.iconst 1, 1) := by decide +kernel
theorem dX6_init_19 : decode cX6_init 19 = .ok (.iastore, 1) := by decide +kernel
theorem dX6_init_20 : decode cX6_init 20 = .ok (.putfield 7, 3) := by decide +kernel
theorem dX6_init_23 : decode cX6_init 23 = .ok (.aload_n 0, 1) := by decide +kernel
theorem dX6_init_24 : decode cX6_init 24 = .ok (.bipush 12, 2) := by decide +kernel
theorem dX6_init_26 : decode cX6_init 26 = .ok (.newarray .int, 2) := by decide +kernel
theorem dX6_init_28 : decode cX6_init 28 = .ok (.putfield 13, 3) := by decide +kernel
theorem dX6_init_31 : decode cX6_init 31 = .ok (.aload_n 0, 1) := by decide +kernel
theorem dX6_init_32 : decode cX6_init 32 = .ok (.iconst 4, 1) := by decide +kernel
theorem dX6_init_33 : decode cX6_init 33 = .ok (.newarray .int, 2) := by decide +kernel
theorem dX6_init_35 : decode cX6_init 35 = .ok (.putfield 16, 3) := by decide +kernel
theorem dX6_init_38 : decode cX6_init 38 = .ok (.aload_n 0, 1) := by decide +kernel
theorem dX6_init_39 : decode cX6_init 39 = .ok (.iconst 4, 1) := by decide +kernel
theorem dX6_init_40 : decode cX6_init 40 = .ok (.newarray .int, 2) := by decide +kernel
theorem dX6_init_42 : decode cX6_init 42 = .ok (.putfield 19, 3) := by decide +kernel
theorem dX6_init_45 : decode cX6_init 45 = .ok (.aload_n 0, 1) := by decide +kernel
theorem dX6_init_46 : decode cX6_init 46 = .ok (.iconst 4, 1) := by decide +kernel
theorem dX6_init_47 : decode cX6_init 47 = .ok (.newarray .int, 2) := by decide +kernel
theorem dX6_init_49 : decode cX6_init 49 = .ok (.putfield 22, 3) := by decide +kernel
theorem dX6_init_52 : decode cX6_init 52 = .ok (.aload_n 0, 1) := by decide +kernel
theorem dX6_init_53 : decode cX6_init 53 = .ok (.sipush 2048, 3) := by decide +kernel
theorem dX6_init_56 : decode cX6_init 56 = .ok (.newarray .int, 2) := by decide +kernel
theorem dX6_init_58 : decode cX6_init 58 = .ok (.putfield 25, 3) := by decide +kernel
theorem dX6_init_61 : decode cX6_init 61 = .ok (.aload_n 0, 1) := by decide +kernel
theorem dX6_init_62 : decode cX6_init 62 = .ok (.bipush 9, 2) := by decide +kernel
theorem dX6_init_64 : decode cX6_init 64 = .ok (.newarray .int, 2) := by decide +kernel
theorem dX6_init_66 : decode cX6_init 66 = .ok (.dup, 1) := by decide +kernel
theorem dX6_init_67 : decode cX6_init 67 = .ok (.iconst 0, 1) := by decide +kernel
theorem dX6_init_68 : decode cX6_init 68 = .ok (.iconst 1, 1) := by decide +kernel
theorem dX6_init_69 : decode cX6_init 69 = .ok (.iastore, 1) := by decide +kernel
theorem dX6_init_70 : decode cX6_init 70 = .ok (.dup, 1) := by decide +kernel
theorem dX6_init_71 : decode cX6_init 71 = .ok (.iconst 1, 1) := by decide +kernel
theorem dX6_init_72 : decode cX6_init 72 = .ok (.iconst 1, 1) := by decide +kernel
theorem dX6_init_73 : decode cX6_init 73 = .ok (.iastore, 1) := by decide +kernel
theorem dX6_init_74 : decode cX6_init 74 = .ok (.dup, 1) := by decide +kernel
theorem dX6_init_75 : decode cX6_init 75 = .ok (.iconst 2, 1) := by decide +kernel
theorem dX6_init_76 : decode cX6_init 76 = .ok (.iconst 1, 1) := by decide +kernel
theorem dX6_init_77 : decode cX6_init 77 = .ok (.iastore, 1) := by decide +kernel
theorem dX6_init_78 : decode cX6_init 78 = .ok (.dup, 1) := by decide +kernel
theorem dX6_init_79 : decode cX6_init 79 = .ok (.iconst 3, 1) := by decide +kernel
theorem dX6_init_80 : decode cX6_init 80 = .ok (.iconst 1, 1) := by decide +kernel
theorem dX6_init_81 : decode cX6_init 81 = .ok (.iastore, 1) := by decide +kernel
theorem dX6_init_82 : decode cX6_init 82 = .ok (.dup, 1) := by decide +kernel
theorem dX6_init_83 : decode cX6_init 83 = .ok (.iconst 4, 1) := by decide +kernel
theorem dX6_init_84 : decode cX6_init 84 = .ok (.iconst 0, 1) := by decide +kernel
theorem dX6_init_85 : decode cX6_init 85 = .ok (.iastore, 1) := by decide +kernel
theorem dX6_init_86 : decode cX6_init 86 = .ok (.dup, 1) := by decide +kernel
theorem dX6_init_87 : decode cX6_init 87 = .ok (.iconst 5, 1) := by decide +kernel
theorem dX6_init_88 : decode cX6_init 88 = .ok (.iconst 0, 1) := by decide +kernel
theorem dX6_init_89 : decode cX6_init 89 = .ok (.iastore, 1) := by decide +kernel
theorem dX6_init_90 : decode cX6_init 90 = .ok (.dup, 1) := by decide +kernel
theorem dX6_init_91 : decode cX6_init 91 = .ok (.bipush 6, 2) := by decide +kernel
theorem dX6_init_93 : decode cX6_init 93 = .ok (.iconst 0, 1) := by decide +kernel
theorem dX6_init_94 : decode cX6_init 94 = .ok (.iastore, 1) := by decide +kernel
theorem dX6_init_95 : decode cX6_init 95 = .ok (.dup, 1) := by decide +kernel
theorem dX6_init_96 : decode cX6_init 96 = .ok (.bipush 7, 2) := by decide +kernel
theorem dX6_init_98 : decode cX6_init 98 = .ok (.iconst 0, 1) := by decide +kernel
theorem dX6_init_99 : decode cX6_init 99 = .ok (.iastore, 1) := by decide +kernel
theorem dX6_init_100 : decode cX6_init 100 = .ok (.dup, 1) := by decide +kernel
theorem dX6_init_101 : decode cX6_init 101 = .ok (.bipush 8, 2) := by decide +kernel
theorem dX6_init_103 : decode cX6_init 103 = .ok (.iconst 0, 1) := by decide +kernel
theorem dX6_init_104 : decode cX6_init 104 = .ok (.iastore, 1) := by decide +kernel
theorem dX6_init_105 : decode cX6_init 105 = .ok (.putfield 28, 3) := by decide +kernel
theorem dX6_init_108 : decode cX6_init 108 = .ok (.aload_n 0, 1) := by decide +kernel
theorem dX6_init_109 : decode cX6_init 109 = .ok (.iconst 1, 1) := by decide +kernel
theorem dX6_init_110 : decode cX6_init 110 = .ok (.putfield 31, 3) := by decide +kernel
theorem dX6_init_113 : decode cX6_init 113 = .ok (.aload_n 0, 1) := by decide +kernel
theorem dX6_init_114 : decode cX6_init 114 = .ok (.sipush 2048, 3) := by decide +kernel
theorem dX6_init_117 : decode cX6_init 117 = .ok (.newarray .int, 2) := by decide +kernel
theorem dX6_init_119 : decode cX6_init 119 = .ok (.putfield 35, 3) := by decide +kernel
theorem dX6_init_122 : decode cX6_init 122 = .ok (.aload_n 0, 1) := by decide +kernel
theorem dX6_init_123 : decode cX6_init 123 = .ok (.sipush 2048, 3) := by decide +kernel
theorem dX6_init_126 : decode cX6_init 126 = .ok (.newarray .int, 2) := by decide +kernel
theorem dX6_init_128 : decode cX6_init 128 = .ok (.putfield 38, 3) := by decide +kernel
theorem dX6_init_131 : decode cX6_init 131 = .ok (.aload_n 0, 1) := by decide +kernel
theorem dX6_init_132 : decode cX6_init 132 = .ok (.sipush 4096, 3) := by decide +kernel
theorem dX6_init_135 : decode cX6_init 135 = .ok (.newarray .boolean, 2) := by decide +kernel
theorem dX6_init_137 : decode cX6_init 137 = .ok (.putfield 41, 3) := by decide +kernel
theorem dX6_init_140 : decode cX6_init 140 = .ok (.aload_n 0, 1) := by decide +kernel
theorem dX6_init_141 : decode cX6_init 141 = .ok (.sipush 1024, 3) := by decide +kernel
theorem dX6_init_144 : decode cX6_init 144 = .ok (.newarray .boolean, 2) := by decide +kernel
theorem dX6_init_146 : decode cX6_init 146 = .ok (.putfield 45, 3) := by decide +kernel
theorem dX6_init_149 : decode cX6_init 149 = .ok (.aload_n 0, 1) := by decide +kernel
theorem dX6_init_150 : decode cX6_init 150 = .ok (.bipush 9, 2) := by decide +kernel
theorem dX6_init_152 : decode cX6_init 152 = .ok (.newarray .int, 2) := by decide +kernel
theorem dX6_init_154 : decode cX6_init 154 = .ok (.putfield 48, 3) := by decide +kernel
theorem dX6_init_157 : decode cX6_init 157 = .ok (.aload_n 0, 1) := by decide +kernel
theorem dX6_init_158 : decode cX6_init 158 = .ok (.bipush 9, 2) := by decide +kernel
theorem dX6_init_160 : decode cX6_init 160 = .ok (.newarray .int, 2) := by decide +kernel
theorem dX6_init_162 : decode cX6_init 162 = .ok (.putfield 51, 3) := by decide +kernel
theorem dX6_init_165 : decode cX6_init 165 = .ok (.return_, 1) := by decide +kernel
theorem dX6_in_0 : decode cX6_in 0 = .ok (.iload_n 0, 1) := by decide +kernel
theorem dX6_in_1 : decode cX6_in 1 = .ok (.iload_n 1, 1) := by decide +kernel
theorem dX6_in_2 : decode cX6_in 2 = .ok (.if_icmp .lt 12, 3) := by decide +kernel
theorem dX6_in_5 : decode cX6_in 5 = .ok (.iload_n 0, 1) := by decide +kernel
theorem dX6_in_6 : decode cX6_in 6 = .ok (.iload_n 2, 1) := by decide +kernel
theorem dX6_in_7 : decode cX6_in 7 = .ok (.if_icmp .gt 7, 3) := by decide +kernel
theorem dX6_in_10 : decode cX6_in 10 = .ok (.iconst 1, 1) := by decide +kernel
theorem dX6_in_11 : decode cX6_in 11 = .ok (.goto 4, 3) := by decide +kernel
theorem dX6_in_14 : decode cX6_in 14 = .ok (.iconst 0, 1) := by decide +kernel
theorem dX6_in_15 : decode cX6_in 15 = .ok (.ireturn, 1) := by decide +kernel
theorem dX6_absolute_0 : decode cX6_absolute 0 = .ok (.iload_n 0, 1) := by decide +kernel
theorem dX6_absolute_1 : decode cX6_absolute 1 = .ok (.ifCond .ge 8, 3) := by decide +kernel
theorem dX6_absolute_4 : decode cX6_absolute 4 = .ok (.iload_n 0, 1) := by decide +kernel
theorem dX6_absolute_5 : decode cX6_absolute 5 = .ok (.ineg, 1) := by decide +kernel
theorem dX6_absolute_6 : decode cX6_absolute 6 = .ok (.goto 4, 3) := by decide +kernel
theorem dX6_absolute_9 : decode cX6_absolute 9 = .ok (.iload_n 0, 1) := by decide +kernel
theorem dX6_absolute_10 : decode cX6_absolute 10 = .ok (.ireturn, 1) := by decide +kernel
theorem dX6_isPoint_0 : decode cX6_isPoint 0 = .ok (.iload_n 1, 1) := by decide +kernel
theorem dX6_isPoint_1 : decode cX6_isPoint 1 = .ok (.iconst 0, 1) := by decide +kernel
theorem dX6_isPoint_2 : decode cX6_isPoint 2 = .ok (.aload_n 0, 1) := by decide +kernel
theorem dX6_isPoint_3 : decode cX6_isPoint 3 = .ok (.getfield 7, 3) := by decide +kernel
theorem dX6_isPoint_6 : decode cX6_isPoint 6 = .ok (.iconst 0, 1) := by decide +kernel
theorem dX6_isPoint_7 : decode cX6_isPoint 7 = .ok (.iaload, 1) := by decide +kernel
theorem dX6_isPoint_8 : decode cX6_isPoint 8 = .ok (.iconst 1, 1) := by decide +kernel
theorem dX6_isPoint_9 : decode cX6_isPoint 9 = .ok (.isub, 1) := by decide +kernel
theorem dX6_isPoint_10 : decode cX6_isPoint 10 = .ok (.invokestatic 54, 3) := by decide +kernel
theorem dX6_isPoint_13 : decode cX6_isPoint 13 = .ok (.ifCond .eq 39, 3) := by decide +kernel
theorem dX6_isPoint_16 : decode cX6_isPoint 16 = .ok (.iload_n 2, 1) := by decide +kernel
theorem dX6_isPoint_17 : decode cX6_isPoint 17 = .ok (.iconst 0, 1) := by decide +kernel
theorem dX6_isPoint_18 : decode cX6_isPoint 18 = .ok (.aload_n 0, 1) := by decide +kernel
theorem dX6_isPoint_19 : decode cX6_isPoint 19 = .ok (.getfield 7, 3) := by decide +kernel
theorem dX6_isPoint_22 : decode cX6_isPoint 22 = .ok (.iconst 1, 1) := by decide +kernel
theorem dX6_isPoint_23 : decode cX6_isPoint 23 = .ok (.iaload, 1) := by decide +kernel
theorem dX6_isPoint_24 : decode cX6_isPoint 24 = .ok (.iconst 1, 1) := by decide +kernel
theorem dX6_isPoint_25 : decode cX6_isPoint 25 = .ok (.isub, 1) := by decide +kernel
theorem dX6_isPoint_26 : decode cX6_isPoint 26 = .ok (.invokestatic 54, 3) := by decide +kernel
theorem dX6_isPoint_29 : decode cX6_isPoint 29 = .ok (.ifCond .eq 23, 3) := by decide +kernel
theorem dX6_isPoint_32 : decode cX6_isPoint 32 = .ok (.iload_n 3, 1) := by decide +kernel
theorem dX6_isPoint_33 : decode cX6_isPoint 33 = .ok (.iconst 0, 1) := by decide +kernel
theorem dX6_isPoint_34 : decode cX6_isPoint 34 = .ok (.aload_n 0, 1) := by decide +kernel
theorem dX6_isPoint_35 : decode cX6_isPoint 35 = .ok (.getfield 7, 3) := by decide +kernel
theorem dX6_isPoint_38 : decode cX6_isPoint 38 = .ok (.iconst 2, 1) := by decide +kernel
theorem dX6_isPoint_39 : decode cX6_isPoint 39 = .ok (.iaload, 1) := by decide +kernel
theorem dX6_isPoint_40 : decode cX6_isPoint 40 = .ok (.iconst 1, 1) := by decide +kernel
theorem dX6_isPoint_41 : decode cX6_isPoint 41 = .ok (.isub, 1) := by decide +kernel
theorem dX6_isPoint_42 : decode cX6_isPoint 42 = .ok (.invokestatic 54, 3) := by decide +kernel
theorem dX6_isPoint_45 : decode cX6_isPoint 45 = .ok (.ifCond .eq 7, 3) := by decide +kernel
theorem dX6_isPoint_48 : decode cX6_isPoint 48 = .ok (.iconst 1, 1) := by decide +kernel
theorem dX6_isPoint_49 : decode cX6_isPoint 49 = .ok (.goto 4, 3) := by decide +kernel
theorem dX6_isPoint_52 : decode cX6_isPoint 52 = .ok (.iconst 0, 1) := by decide +kernel
theorem dX6_isPoint_53 : decode cX6_isPoint 53 = .ok (.ireturn, 1) := by decide +kernel
theorem dX6_isVariable_0 : decode cX6_isVariable 0 = .ok (.iload_n 1, 1) := by decide +kernel
theorem dX6_isVariable_1 : decode cX6_isVariable 1 = .ok (.iconst 0, 1) := by decide +kernel
theorem dX6_isVariable_2 : decode cX6_isVariable 2 = .ok (.aload_n 0, 1) := by decide +kernel
theorem dX6_isVariable_3 : decode cX6_isVariable 3 = .ok (.getfield 58, 3) := by decide +kernel
theorem dX6_isVariable_6 : decode cX6_isVariable 6 = .ok (.iconst 1, 1) := by decide +kernel
theorem dX6_isVariable_7 : decode cX6_isVariable 7 = .ok (.isub, 1) := by decide +kernel
theorem dX6_isVariable_8 : decode cX6_isVariable 8 = .ok (.invokestatic 54, 3) := by decide +kernel
theorem dX6_isVariable_11 : decode cX6_isVariable 11 = .ok (.ireturn, 1) := by decide +kernel
theorem dX6_ahead_0 : decode cX6_ahead 0 = .ok (.iload_n 2, 1) := by decide +kernel
theorem dX6_ahead_1 : decode cX6_ahead 1 = .ok (.bipush 64, 2) := by decide +kernel
theorem dX6_ahead_3 : decode cX6_ahead 3 = .ok (.idiv, 1) := by decide +kernel
theorem dX6_ahead_4 : decode cX6_ahead 4 = .ok (.aload_n 0, 1) := by decide +kernel
theorem dX6_ahead_5 : decode cX6_ahead 5 = .ok (.getfield 13, 3) := by decide +kernel
theorem dX6_ahead_8 : decode cX6_ahead 8 = .ok (.iconst 3, 1) := by decide +kernel
theorem dX6_ahead_9 : decode cX6_ahead 9 = .ok (.iload_n 1, 1) := by decide +kernel
theorem dX6_ahead_10 : decode cX6_ahead 10 = .ok (.imul, 1) := by decide +kernel
theorem dX6_ahead_11 : decode cX6_ahead 11 = .ok (.iaload, 1) := by decide +kernel
theorem dX6_ahead_12 : decode cX6_ahead 12 = .ok (.isub, 1) := by decide +kernel
theorem dX6_ahead_13 : decode cX6_ahead 13 = .ok (.istore_n 3, 1) := by decide +kernel
theorem dX6_ahead_14 : decode cX6_ahead 14 = .ok (.iload_n 2, 1) := by decide +kernel
theorem dX6_ahead_15 : decode cX6_ahead 15 = .ok (.bipush 8, 2) := by decide +kernel
theorem dX6_ahead_17 : decode cX6_ahead 17 = .ok (.idiv, 1) := by decide +kernel
theorem dX6_ahead_18 : decode cX6_ahead 18 = .ok (.bipush 8, 2) := by decide +kernel
theorem dX6_ahead_20 : decode cX6_ahead 20 = .ok (.irem, 1) := by decide +kernel
theorem dX6_ahead_21 : decode cX6_ahead 21 = .ok (.aload_n 0, 1) := by decide +kernel
theorem dX6_ahead_22 : decode cX6_ahead 22 = .ok (.getfield 13, 3) := by decide +kernel
theorem dX6_ahead_25 : decode cX6_ahead 25 = .ok (.iconst 3, 1) := by decide +kernel
theorem dX6_ahead_26 : decode cX6_ahead 26 = .ok (.iload_n 1, 1) := by decide +kernel
theorem dX6_ahead_27 : decode cX6_ahead 27 = .ok (.imul, 1) := by decide +kernel
theorem dX6_ahead_28 : decode cX6_ahead 28 = .ok (.iconst 1, 1) := by decide +kernel
theorem dX6_ahead_29 : decode cX6_ahead 29 = .ok (.iadd, 1) := by decide +kernel
theorem dX6_ahead_30 : decode cX6_ahead 30 = .ok (.iaload, 1) := by decide +kernel
theorem dX6_ahead_31 : decode cX6_ahead 31 = .ok (.isub, 1) := by decide +kernel
theorem dX6_ahead_32 : decode cX6_ahead 32 = .ok (.istore 4, 2) := by decide +kernel
theorem dX6_ahead_34 : decode cX6_ahead 34 = .ok (.iload_n 2, 1) := by decide +kernel
theorem dX6_ahead_35 : decode cX6_ahead 35 = .ok (.bipush 8, 2) := by decide +kernel
theorem dX6_ahead_37 : decode cX6_ahead 37 = .ok (.irem, 1) := by decide +kernel
theorem dX6_ahead_38 : decode cX6_ahead 38 = .ok (.aload_n 0, 1) := by decide +kernel
theorem dX6_ahead_39 : decode cX6_ahead 39 = .ok (.getfield 13, 3) := by decide +kernel
theorem dX6_ahead_42 : decode cX6_ahead 42 = .ok (.iconst 3, 1) := by decide +kernel
theorem dX6_ahead_43 : decode cX6_ahead 43 = .ok (.iload_n 1, 1) := by decide +kernel
theorem dX6_ahead_44 : decode cX6_ahead 44 = .ok (.imul, 1) := by decide +kernel
theorem dX6_ahead_45 : decode cX6_ahead 45 = .ok (.iconst 2, 1) := by decide +kernel
theorem dX6_ahead_46 : decode cX6_ahead 46 = .ok (.iadd, 1) := by decide +kernel
theorem dX6_ahead_47 : decode cX6_ahead 47 = .ok (.iaload, 1) := by decide +kernel
theorem dX6_ahead_48 : decode cX6_ahead 48 = .ok (.isub, 1) := by decide +kernel
theorem dX6_ahead_49 : decode cX6_ahead 49 = .ok (.istore 5, 2) := by decide +kernel
theorem dX6_ahead_51 : decode cX6_ahead 51 = .ok (.aload_n 0, 1) := by decide +kernel
theorem dX6_ahead_52 : decode cX6_ahead 52 = .ok (.iload_n 3, 1) := by decide +kernel
theorem dX6_ahead_53 : decode cX6_ahead 53 = .ok (.iload 4, 2) := by decide +kernel
theorem dX6_ahead_55 : decode cX6_ahead 55 = .ok (.iload 5, 2) := by decide +kernel
theorem dX6_ahead_57 : decode cX6_ahead 57 = .ok (.invokevirtual 61, 3) := by decide +kernel
theorem dX6_ahead_60 : decode cX6_ahead 60 = .ok (.ifCond .eq 19, 3) := by decide +kernel
theorem dX6_ahead_63 : decode cX6_ahead 63 = .ok (.bipush 64, 2) := by decide +kernel
theorem dX6_ahead_65 : decode cX6_ahead 65 = .ok (.iload_n 3, 1) := by decide +kernel
theorem dX6_ahead_66 : decode cX6_ahead 66 = .ok (.imul, 1) := by decide +kernel
theorem dX6_ahead_67 : decode cX6_ahead 67 = .ok (.bipush 8, 2) := by decide +kernel
theorem dX6_ahead_69 : decode cX6_ahead 69 = .ok (.iload 4, 2) := by decide +kernel
theorem dX6_ahead_71 : decode cX6_ahead 71 = .ok (.imul, 1) := by decide +kernel
theorem dX6_ahead_72 : decode cX6_ahead 72 = .ok (.iadd, 1) := by decide +kernel
theorem dX6_ahead_73 : decode cX6_ahead 73 = .ok (.iload 5, 2) := by decide +kernel
theorem dX6_ahead_75 : decode cX6_ahead 75 = .ok (.iadd, 1) := by decide +kernel
theorem dX6_ahead_76 : decode cX6_ahead 76 = .ok (.goto 4, 3) := by decide +kernel
theorem dX6_ahead_79 : decode cX6_ahead 79 = .ok (.iconst (-1), 1) := by decide +kernel
theorem dX6_ahead_80 : decode cX6_ahead 80 = .ok (.ireturn, 1) := by decide +kernel
theorem dX6_behind_0 : decode cX6_behind 0 = .ok (.iload_n 2, 1) := by decide +kernel
theorem dX6_behind_1 : decode cX6_behind 1 = .ok (.bipush 64, 2) := by decide +kernel
theorem dX6_behind_3 : decode cX6_behind 3 = .ok (.idiv, 1) := by decide +kernel
theorem dX6_behind_4 : decode cX6_behind 4 = .ok (.aload_n 0, 1) := by decide +kernel
theorem dX6_behind_5 : decode cX6_behind 5 = .ok (.getfield 13, 3) := by decide +kernel
theorem dX6_behind_8 : decode cX6_behind 8 = .ok (.iconst 3, 1) := by decide +kernel
theorem dX6_behind_9 : decode cX6_behind 9 = .ok (.iload_n 1, 1) := by decide +kernel
theorem dX6_behind_10 : decode cX6_behind 10 = .ok (.imul, 1) := by decide +kernel
theorem dX6_behind_11 : decode cX6_behind 11 = .ok (.iaload, 1) := by decide +kernel
theorem dX6_behind_12 : decode cX6_behind 12 = .ok (.iadd, 1) := by decide +kernel
theorem dX6_behind_13 : decode cX6_behind 13 = .ok (.istore_n 3, 1) := by decide +kernel
theorem dX6_behind_14 : decode cX6_behind 14 = .ok (.iload_n 2, 1) := by decide +kernel
theorem dX6_behind_15 : decode cX6_behind 15 = .ok (.bipush 8, 2) := by decide +kernel
theorem dX6_behind_17 : decode cX6_behind 17 = .ok (.idiv, 1) := by decide +kernel
theorem dX6_behind_18 : decode cX6_behind 18 = .ok (.bipush 8, 2) := by decide +kernel
theorem dX6_behind_20 : decode cX6_behind 20 = .ok (.irem, 1) := by decide +kernel
theorem dX6_behind_21 : decode cX6_behind 21 = .ok (.aload_n 0, 1) := by decide +kernel
theorem dX6_behind_22 : decode cX6_behind 22 = .ok (.getfield 13, 3) := by decide +kernel
theorem dX6_behind_25 : decode cX6_behind 25 = .ok (.iconst 3, 1) := by decide +kernel
theorem dX6_behind_26 : decode cX6_behind 26 = .ok (.iload_n 1, 1) := by decide +kernel
theorem dX6_behind_27 : decode cX6_behind 27 = .ok (.imul, 1) := by decide +kernel
theorem dX6_behind_28 : decode cX6_behind 28 = .ok (.iconst 1, 1) := by decide +kernel
theorem dX6_behind_29 : decode cX6_behind 29 = .ok (.iadd, 1) := by decide +kernel
theorem dX6_behind_30 : decode cX6_behind 30 = .ok (.iaload, 1) := by decide +kernel
theorem dX6_behind_31 : decode cX6_behind 31 = .ok (.iadd, 1) := by decide +kernel
theorem dX6_behind_32 : decode cX6_behind 32 = .ok (.istore 4, 2) := by decide +kernel
theorem dX6_behind_34 : decode cX6_behind 34 = .ok (.iload_n 2, 1) := by decide +kernel
theorem dX6_behind_35 : decode cX6_behind 35 = .ok (.bipush 8, 2) := by decide +kernel
theorem dX6_behind_37 : decode cX6_behind 37 = .ok (.irem, 1) := by decide +kernel
theorem dX6_behind_38 : decode cX6_behind 38 = .ok (.aload_n 0, 1) := by decide +kernel
theorem dX6_behind_39 : decode cX6_behind 39 = .ok (.getfield 13, 3) := by decide +kernel
theorem dX6_behind_42 : decode cX6_behind 42 = .ok (.iconst 3, 1) := by decide +kernel
theorem dX6_behind_43 : decode cX6_behind 43 = .ok (.iload_n 1, 1) := by decide +kernel
theorem dX6_behind_44 : decode cX6_behind 44 = .ok (.imul, 1) := by decide +kernel
theorem dX6_behind_45 : decode cX6_behind 45 = .ok (.iconst 2, 1) := by decide +kernel
theorem dX6_behind_46 : decode cX6_behind 46 = .ok (.iadd, 1) := by decide +kernel
theorem dX6_behind_47 : decode cX6_behind 47 = .ok (.iaload, 1) := by decide +kernel
theorem dX6_behind_48 : decode cX6_behind 48 = .ok (.iadd, 1) := by decide +kernel
theorem dX6_behind_49 : decode cX6_behind 49 = .ok (.istore 5, 2) := by decide +kernel
theorem dX6_behind_51 : decode cX6_behind 51 = .ok (.aload_n 0, 1) := by decide +kernel
theorem dX6_behind_52 : decode cX6_behind 52 = .ok (.iload_n 3, 1) := by decide +kernel
theorem dX6_behind_53 : decode cX6_behind 53 = .ok (.iload 4, 2) := by decide +kernel
theorem dX6_behind_55 : decode cX6_behind 55 = .ok (.iload 5, 2) := by decide +kernel
theorem dX6_behind_57 : decode cX6_behind 57 = .ok (.invokevirtual 61, 3) := by decide +kernel
theorem dX6_behind_60 : decode cX6_behind 60 = .ok (.ifCond .eq 19, 3) := by decide +kernel
theorem dX6_behind_63 : decode cX6_behind 63 = .ok (.bipush 64, 2) := by decide +kernel
theorem dX6_behind_65 : decode cX6_behind 65 = .ok (.iload_n 3, 1) := by decide +kernel
theorem dX6_behind_66 : decode cX6_behind 66 = .ok (.imul, 1) := by decide +kernel
theorem dX6_behind_67 : decode cX6_behind 67 = .ok (.bipush 8, 2) := by decide +kernel
theorem dX6_behind_69 : decode cX6_behind 69 = .ok (.iload 4, 2) := by decide +kernel
theorem dX6_behind_71 : decode cX6_behind 71 = .ok (.imul, 1) := by decide +kernel
theorem dX6_behind_72 : decode cX6_behind 72 = .ok (.iadd, 1) := by decide +kernel
theorem dX6_behind_73 : decode cX6_behind 73 = .ok (.iload 5, 2) := by decide +kernel
theorem dX6_behind_75 : decode cX6_behind 75 = .ok (.iadd, 1) := by decide +kernel
theorem dX6_behind_76 : decode cX6_behind 76 = .ok (.goto 4, 3) := by decide +kernel
theorem dX6_behind_79 : decode cX6_behind 79 = .ok (.iconst (-1), 1) := by decide +kernel
theorem dX6_behind_80 : decode cX6_behind 80 = .ok (.ireturn, 1) := by decide +kernel
theorem dX6_isPointNumber_0 : decode cX6_isPointNumber 0 = .ok (.aload_n 0, 1) := by decide +kernel
theorem dX6_isPointNumber_1 : decode cX6_isPointNumber 1 = .ok (.iload_n 1, 1) := by decide +kernel
theorem dX6_isPointNumber_2 : decode cX6_isPointNumber 2 = .ok (.bipush 64, 2) := by decide +kernel
theorem dX6_isPointNumber_4 : decode cX6_isPointNumber 4 = .ok (.idiv, 1) := by decide +kernel
theorem dX6_isPointNumber_5 : decode cX6_isPointNumber 5 = .ok (.iload_n 1, 1) := by decide +kernel
theorem dX6_isPointNumber_6 : decode cX6_isPointNumber 6 = .ok (.bipush 8, 2) := by decide +kernel
theorem dX6_isPointNumber_8 : decode cX6_isPointNumber 8 = .ok (.idiv, 1) := by decide +kernel
theorem dX6_isPointNumber_9 : decode cX6_isPointNumber 9 = .ok (.bipush 8, 2) := by decide +kernel
theorem dX6_isPointNumber_11 : decode cX6_isPointNumber 11 = .ok (.irem, 1) := by decide +kernel
theorem dX6_isPointNumber_12 : decode cX6_isPointNumber 12 = .ok (.iload_n 1, 1) := by decide +kernel
theorem dX6_isPointNumber_13 : decode cX6_isPointNumber 13 = .ok (.bipush 8, 2) := by decide +kernel
theorem dX6_isPointNumber_15 : decode cX6_isPointNumber 15 = .ok (.irem, 1) := by decide +kernel
theorem dX6_isPointNumber_16 : decode cX6_isPointNumber 16 = .ok (.invokevirtual 61, 3) := by decide +kernel
theorem dX6_isPointNumber_19 : decode cX6_isPointNumber 19 = .ok (.ireturn, 1) := by decide +kernel
theorem dX6_points_0 : decode cX6_points 0 = .ok (.aload_n 0, 1) := by decide +kernel
theorem dX6_points_1 : decode cX6_points 1 = .ok (.getfield 7, 3) := by decide +kernel
theorem dX6_points_4 : decode cX6_points 4 = .ok (.iconst 0, 1) := by decide +kernel
theorem dX6_points_5 : decode cX6_points 5 = .ok (.iaload, 1) := by decide +kernel
theorem dX6_points_6 : decode cX6_points 6 = .ok (.aload_n 0, 1) := by decide +kernel
theorem dX6_points_7 : decode cX6_points 7 = .ok (.getfield 7, 3) := by decide +kernel
theorem dX6_points_10 : decode cX6_points 10 = .ok (.iconst 1, 1) := by decide +kernel
theorem dX6_points_11 : decode cX6_points 11 = .ok (.iaload, 1) := by decide +kernel
theorem dX6_points_12 : decode cX6_points 12 = .ok (.imul, 1) := by decide +kernel
theorem dX6_points_13 : decode cX6_points 13 = .ok (.aload_n 0, 1) := by decide +kernel
theorem dX6_points_14 : decode cX6_points 14 = .ok (.getfield 7, 3) := by decide +kernel
theorem dX6_points_17 : decode cX6_points 17 = .ok (.iconst 2, 1) := by decide +kernel
theorem dX6_points_18 : decode cX6_points 18 = .ok (.iaload, 1) := by decide +kernel
theorem dX6_points_19 : decode cX6_points 19 = .ok (.imul, 1) := by decide +kernel
theorem dX6_points_20 : decode cX6_points 20 = .ok (.ireturn, 1) := by decide +kernel
theorem dX6_sizes_0 : decode cX6_sizes 0 = .ok (.iload_n 1, 1) := by decide +kernel
theorem dX6_sizes_1 : decode cX6_sizes 1 = .ok (.iconst 1, 1) := by decide +kernel
theorem dX6_sizes_2 : decode cX6_sizes 2 = .ok (.bipush 8, 2) := by decide +kernel
theorem dX6_sizes_4 : decode cX6_sizes 4 = .ok (.invokestatic 54, 3) := by decide +kernel
theorem dX6_sizes_7 : decode cX6_sizes 7 = .ok (.ifCond .eq 23, 3) := by decide +kernel
theorem dX6_sizes_10 : decode cX6_sizes 10 = .ok (.iload_n 2, 1) := by decide +kernel
theorem dX6_sizes_11 : decode cX6_sizes 11 = .ok (.iconst 1, 1) := by decide +kernel
theorem dX6_sizes_12 : decode cX6_sizes 12 = .ok (.bipush 8, 2) := by decide +kernel
theorem dX6_sizes_14 : decode cX6_sizes 14 = .ok (.invokestatic 54, 3) := by decide +kernel
theorem dX6_sizes_17 : decode cX6_sizes 17 = .ok (.ifCond .eq 13, 3) := by decide +kernel
theorem dX6_sizes_20 : decode cX6_sizes 20 = .ok (.iload_n 3, 1) := by decide +kernel
theorem dX6_sizes_21 : decode cX6_sizes 21 = .ok (.iconst 1, 1) := by decide +kernel
theorem dX6_sizes_22 : decode cX6_sizes 22 = .ok (.bipush 8, 2) := by decide +kernel
theorem dX6_sizes_24 : decode cX6_sizes 24 = .ok (.invokestatic 54, 3) := by decide +kernel
theorem dX6_sizes_27 : decode cX6_sizes 27 = .ok (.ifCond .ne 5, 3) := by decide +kernel
theorem dX6_sizes_30 : decode cX6_sizes 30 = .ok (.iconst 0, 1) := by decide +kernel
theorem dX6_sizes_31 : decode cX6_sizes 31 = .ok (.ireturn, 1) := by decide +kernel
theorem dX6_sizes_32 : decode cX6_sizes 32 = .ok (.aload_n 0, 1) := by decide +kernel
theorem dX6_sizes_33 : decode cX6_sizes 33 = .ok (.getfield 7, 3) := by decide +kernel
theorem dX6_sizes_36 : decode cX6_sizes 36 = .ok (.iconst 0, 1) := by decide +kernel
theorem dX6_sizes_37 : decode cX6_sizes 37 = .ok (.iload_n 1, 1) := by decide +kernel
theorem dX6_sizes_38 : decode cX6_sizes 38 = .ok (.iastore, 1) := by decide +kernel
theorem dX6_sizes_39 : decode cX6_sizes 39 = .ok (.aload_n 0, 1) := by decide +kernel
theorem dX6_sizes_40 : decode cX6_sizes 40 = .ok (.getfield 7, 3) := by decide +kernel
theorem dX6_sizes_43 : decode cX6_sizes 43 = .ok (.iconst 1, 1) := by decide +kernel
theorem dX6_sizes_44 : decode cX6_sizes 44 = .ok (.iload_n 2, 1) := by decide +kernel
theorem dX6_sizes_45 : decode cX6_sizes 45 = .ok (.iastore, 1) := by decide +kernel
theorem dX6_sizes_46 : decode cX6_sizes 46 = .ok (.aload_n 0, 1) := by decide +kernel
theorem dX6_sizes_47 : decode cX6_sizes 47 = .ok (.getfield 7, 3) := by decide +kernel
theorem dX6_sizes_50 : decode cX6_sizes 50 = .ok (.iconst 2, 1) := by decide +kernel
theorem dX6_sizes_51 : decode cX6_sizes 51 = .ok (.iload_n 3, 1) := by decide +kernel
theorem dX6_sizes_52 : decode cX6_sizes 52 = .ok (.iastore, 1) := by decide +kernel
theorem dX6_sizes_53 : decode cX6_sizes 53 = .ok (.aload_n 0, 1) := by decide +kernel
theorem dX6_sizes_54 : decode cX6_sizes 54 = .ok (.invokevirtual 64, 3) := by decide +kernel
theorem dX6_sizes_57 : decode cX6_sizes 57 = .ok (.aload_n 0, 1) := by decide +kernel
theorem dX6_sizes_58 : decode cX6_sizes 58 = .ok (.iconst 0, 1) := by decide +kernel
theorem dX6_sizes_59 : decode cX6_sizes 59 = .ok (.putfield 67, 3) := by decide +kernel
theorem dX6_sizes_62 : decode cX6_sizes 62 = .ok (.iconst 1, 1) := by decide +kernel
theorem dX6_sizes_63 : decode cX6_sizes 63 = .ok (.ireturn, 1) := by decide +kernel
theorem dX6_noEdges_0 : decode cX6_noEdges 0 = .ok (.iconst 0, 1) := by decide +kernel
theorem dX6_noEdges_1 : decode cX6_noEdges 1 = .ok (.istore_n 1, 1) := by decide +kernel
theorem dX6_noEdges_2 : decode cX6_noEdges 2 = .ok (.iload_n 1, 1) := by decide +kernel
theorem dX6_noEdges_3 : decode cX6_noEdges 3 = .ok (.sipush 2048, 3) := by decide +kernel
theorem dX6_noEdges_6 : decode cX6_noEdges 6 = .ok (.if_icmp .ge 16, 3) := by decide +kernel
theorem dX6_noEdges_9 : decode cX6_noEdges 9 = .ok (.aload_n 0, 1) := by decide +kernel
theorem dX6_noEdges_10 : decode cX6_noEdges 10 = .ok (.getfield 25, 3) := by decide +kernel
theorem dX6_noEdges_13 : decode cX6_noEdges 13 = .ok (.iload_n 1, 1) := by decide +kernel
theorem dX6_noEdges_14 : decode cX6_noEdges 14 = .ok (.iconst 0, 1) := by decide +kernel
theorem dX6_noEdges_15 : decode cX6_noEdges 15 = .ok (.iastore, 1) := by decide +kernel
theorem dX6_noEdges_16 : decode cX6_noEdges 16 = .ok (.iinc 1 1, 3) := by decide +kernel
theorem dX6_noEdges_19 : decode cX6_noEdges 19 = .ok (.goto (-17), 3) := by decide +kernel
theorem dX6_noEdges_22 : decode cX6_noEdges 22 = .ok (.return_, 1) := by decide +kernel
theorem dX6_variable_0 : decode cX6_variable 0 = .ok (.iload_n 1, 1) := by decide +kernel
theorem dX6_variable_1 : decode cX6_variable 1 = .ok (.ifCond .eq 7, 3) := by decide +kernel
theorem dX6_variable_4 : decode cX6_variable 4 = .ok (.iload_n 1, 1) := by decide +kernel
theorem dX6_variable_5 : decode cX6_variable 5 = .ok (.goto 12, 3) := by decide +kernel
theorem dX6_variable_8 : decode cX6_variable 8 = .ok (.iload_n 2, 1) := by decide +kernel
theorem dX6_variable_9 : decode cX6_variable 9 = .ok (.ifCond .eq 7, 3) := by decide +kernel
theorem dX6_variable_12 : decode cX6_variable 12 = .ok (.iload_n 2, 1) := by decide +kernel
theorem dX6_variable_13 : decode cX6_variable 13 = .ok (.goto 4, 3) := by decide +kernel
theorem dX6_variable_16 : decode cX6_variable 16 = .ok (.iload_n 3, 1) := by decide +kernel
theorem dX6_variable_17 : decode cX6_variable 17 = .ok (.istore 4, 2) := by decide +kernel
theorem dX6_variable_19 : decode cX6_variable 19 = .ok (.iload_n 1, 1) := by decide +kernel
theorem dX6_variable_20 : decode cX6_variable 20 = .ok (.bipush (-2), 2) := by decide +kernel
theorem dX6_variable_22 : decode cX6_variable 22 = .ok (.iconst 2, 1) := by decide +kernel
theorem dX6_variable_23 : decode cX6_variable 23 = .ok (.invokestatic 54, 3) := by decide +kernel
theorem dX6_variable_26 : decode cX6_variable 26 = .ok (.ifCond .eq 36, 3) := by decide +kernel
theorem dX6_variable_29 : decode cX6_variable 29 = .ok (.iload_n 2, 1) := by decide +kernel
theorem dX6_variable_30 : decode cX6_variable 30 = .ok (.bipush (-2), 2) := by decide +kernel
theorem dX6_variable_32 : decode cX6_variable 32 = .ok (.iconst 2, 1) := by decide +kernel
theorem dX6_variable_33 : decode cX6_variable 33 = .ok (.invokestatic 54, 3) := by decide +kernel
theorem dX6_variable_36 : decode cX6_variable 36 = .ok (.ifCond .eq 26, 3) := by decide +kernel
theorem dX6_variable_39 : decode cX6_variable 39 = .ok (.iload_n 3, 1) := by decide +kernel
theorem dX6_variable_40 : decode cX6_variable 40 = .ok (.bipush (-2), 2) := by decide +kernel
theorem dX6_variable_42 : decode cX6_variable 42 = .ok (.iconst 2, 1) := by decide +kernel
theorem dX6_variable_43 : decode cX6_variable 43 = .ok (.invokestatic 54, 3) := by decide +kernel
theorem dX6_variable_46 : decode cX6_variable 46 = .ok (.ifCond .eq 16, 3) := by decide +kernel
theorem dX6_variable_49 : decode cX6_variable 49 = .ok (.iload 4, 2) := by decide +kernel
theorem dX6_variable_51 : decode cX6_variable 51 = .ok (.ifCond .le 11, 3) := by decide +kernel
theorem dX6_variable_54 : decode cX6_variable 54 = .ok (.aload_n 0, 1) := by decide +kernel
theorem dX6_variable_55 : decode cX6_variable 55 = .ok (.getfield 58, 3) := by decide +kernel
theorem dX6_variable_58 : decode cX6_variable 58 = .ok (.iconst 4, 1) := by decide +kernel
theorem dX6_variable_59 : decode cX6_variable 59 = .ok (.if_icmp .ne 5, 3) := by decide +kernel
theorem dX6_variable_62 : decode cX6_variable 62 = .ok (.iconst (-1), 1) := by decide +kernel
theorem dX6_variable_63 : decode cX6_variable 63 = .ok (.ireturn, 1) := by decide +kernel
theorem dX6_variable_64 : decode cX6_variable 64 = .ok (.aload_n 0, 1) := by decide +kernel
theorem dX6_variable_65 : decode cX6_variable 65 = .ok (.getfield 58, 3) := by decide +kernel
theorem dX6_variable_68 : decode cX6_variable 68 = .ok (.istore 5, 2) := by decide +kernel
theorem dX6_variable_70 : decode cX6_variable 70 = .ok (.aload_n 0, 1) := by decide +kernel
theorem dX6_variable_71 : decode cX6_variable 71 = .ok (.getfield 13, 3) := by decide +kernel
theorem dX6_variable_74 : decode cX6_variable 74 = .ok (.iconst 3, 1) := by decide +kernel
theorem dX6_variable_75 : decode cX6_variable 75 = .ok (.iload 5, 2) := by decide +kernel
theorem dX6_variable_77 : decode cX6_variable 77 = .ok (.imul, 1) := by decide +kernel
theorem dX6_variable_78 : decode cX6_variable 78 = .ok (.iload_n 1, 1) := by decide +kernel
theorem dX6_variable_79 : decode cX6_variable 79 = .ok (.iastore, 1) := by decide +kernel
theorem dX6_variable_80 : decode cX6_variable 80 = .ok (.aload_n 0, 1) := by decide +kernel
theorem dX6_variable_81 : decode cX6_variable 81 = .ok (.getfield 13, 3) := by decide +kernel
theorem dX6_variable_84 : decode cX6_variable 84 = .ok (.iconst 3, 1) := by decide +kernel
theorem dX6_variable_85 : decode cX6_variable 85 = .ok (.iload 5, 2) := by decide +kernel
theorem dX6_variable_87 : decode cX6_variable 87 = .ok (.imul, 1) := by decide +kernel
theorem dX6_variable_88 : decode cX6_variable 88 = .ok (.iconst 1, 1) := by decide +kernel
theorem dX6_variable_89 : decode cX6_variable 89 = .ok (.iadd, 1) := by decide +kernel
theorem dX6_variable_90 : decode cX6_variable 90 = .ok (.iload_n 2, 1) := by decide +kernel
theorem dX6_variable_91 : decode cX6_variable 91 = .ok (.iastore, 1) := by decide +kernel
theorem dX6_variable_92 : decode cX6_variable 92 = .ok (.aload_n 0, 1) := by decide +kernel
theorem dX6_variable_93 : decode cX6_variable 93 = .ok (.getfield 13, 3) := by decide +kernel
theorem dX6_variable_96 : decode cX6_variable 96 = .ok (.iconst 3, 1) := by decide +kernel
theorem dX6_variable_97 : decode cX6_variable 97 = .ok (.iload 5, 2) := by decide +kernel
theorem dX6_variable_99 : decode cX6_variable 99 = .ok (.imul, 1) := by decide +kernel
theorem dX6_variable_100 : decode cX6_variable 100 = .ok (.iconst 2, 1) := by decide +kernel
theorem dX6_variable_101 : decode cX6_variable 101 = .ok (.iadd, 1) := by decide +kernel
theorem dX6_variable_102 : decode cX6_variable 102 = .ok (.iload_n 3, 1) := by decide +kernel
theorem dX6_variable_103 : decode cX6_variable 103 = .ok (.iastore, 1) := by decide +kernel
theorem dX6_variable_104 : decode cX6_variable 104 = .ok (.aload_n 0, 1) := by decide +kernel
theorem dX6_variable_105 : decode cX6_variable 105 = .ok (.getfield 16, 3) := by decide +kernel
theorem dX6_variable_108 : decode cX6_variable 108 = .ok (.iload 5, 2) := by decide +kernel
theorem dX6_variable_110 : decode cX6_variable 110 = .ok (.iconst 0, 1) := by decide +kernel
theorem dX6_variable_111 : decode cX6_variable 111 = .ok (.iastore, 1) := by decide +kernel
theorem dX6_variable_112 : decode cX6_variable 112 = .ok (.aload_n 0, 1) := by decide +kernel
theorem dX6_variable_113 : decode cX6_variable 113 = .ok (.getfield 19, 3) := by decide +kernel
theorem dX6_variable_116 : decode cX6_variable 116 = .ok (.iload 5, 2) := by decide +kernel
theorem dX6_variable_118 : decode cX6_variable 118 = .ok (.iconst 0, 1) := by decide +kernel
theorem dX6_variable_119 : decode cX6_variable 119 = .ok (.iastore, 1) := by decide +kernel
theorem dX6_variable_120 : decode cX6_variable 120 = .ok (.aload_n 0, 1) := by decide +kernel
theorem dX6_variable_121 : decode cX6_variable 121 = .ok (.getfield 22, 3) := by decide +kernel
theorem dX6_variable_124 : decode cX6_variable 124 = .ok (.iload 5, 2) := by decide +kernel
theorem dX6_variable_126 : decode cX6_variable 126 = .ok (.iconst 0, 1) := by decide +kernel
theorem dX6_variable_127 : decode cX6_variable 127 = .ok (.iastore, 1) := by decide +kernel
theorem dX6_variable_128 : decode cX6_variable 128 = .ok (.aload_n 0, 1) := by decide +kernel
theorem dX6_variable_129 : decode cX6_variable 129 = .ok (.dup, 1) := by decide +kernel
theorem dX6_variable_130 : decode cX6_variable 130 = .ok (.getfield 58, 3) := by decide +kernel
theorem dX6_variable_133 : decode cX6_variable 133 = .ok (.iconst 1, 1) := by decide +kernel
theorem dX6_variable_134 : decode cX6_variable 134 = .ok (.iadd, 1) := by decide +kernel
theorem dX6_variable_135 : decode cX6_variable 135 = .ok (.putfield 58, 3) := by decide +kernel
theorem dX6_variable_138 : decode cX6_variable 138 = .ok (.aload_n 0, 1) := by decide +kernel
theorem dX6_variable_139 : decode cX6_variable 139 = .ok (.iconst 0, 1) := by decide +kernel
theorem dX6_variable_140 : decode cX6_variable 140 = .ok (.putfield 67, 3) := by decide +kernel
theorem dX6_variable_143 : decode cX6_variable 143 = .ok (.iload 5, 2) := by decide +kernel
theorem dX6_variable_145 : decode cX6_variable 145 = .ok (.ireturn, 1) := by decide +kernel
theorem dX6_act_0 : decode cX6_act 0 = .ok (.aload_n 0, 1) := by decide +kernel
theorem dX6_act_1 : decode cX6_act 1 = .ok (.iload_n 1, 1) := by decide +kernel
theorem dX6_act_2 : decode cX6_act 2 = .ok (.invokevirtual 71, 3) := by decide +kernel
theorem dX6_act_5 : decode cX6_act 5 = .ok (.ifCond .eq 30, 3) := by decide +kernel
theorem dX6_act_8 : decode cX6_act 8 = .ok (.iload_n 2, 1) := by decide +kernel
theorem dX6_act_9 : decode cX6_act 9 = .ok (.iconst 0, 1) := by decide +kernel
theorem dX6_act_10 : decode cX6_act 10 = .ok (.bipush 7, 2) := by decide +kernel
theorem dX6_act_12 : decode cX6_act 12 = .ok (.invokestatic 54, 3) := by decide +kernel
theorem dX6_act_15 : decode cX6_act 15 = .ok (.ifCond .eq 20, 3) := by decide +kernel
theorem dX6_act_18 : decode cX6_act 18 = .ok (.aload_n 0, 1) := by decide +kernel
theorem dX6_act_19 : decode cX6_act 19 = .ok (.iload_n 3, 1) := by decide +kernel
theorem dX6_act_20 : decode cX6_act 20 = .ok (.invokevirtual 71, 3) := by decide +kernel
theorem dX6_act_23 : decode cX6_act 23 = .ok (.ifCond .eq 12, 3) := by decide +kernel
theorem dX6_act_26 : decode cX6_act 26 = .ok (.aload_n 0, 1) := by decide +kernel
theorem dX6_act_27 : decode cX6_act 27 = .ok (.iload 4, 2) := by decide +kernel
theorem dX6_act_29 : decode cX6_act 29 = .ok (.invokevirtual 71, 3) := by decide +kernel
theorem dX6_act_32 : decode cX6_act 32 = .ok (.ifCond .ne 5, 3) := by decide +kernel
theorem dX6_act_35 : decode cX6_act 35 = .ok (.iconst 0, 1) := by decide +kernel
theorem dX6_act_36 : decode cX6_act 36 = .ok (.ireturn, 1) := by decide +kernel
theorem dX6_act_37 : decode cX6_act 37 = .ok (.aload_n 0, 1) := by decide +kernel
theorem dX6_act_38 : decode cX6_act 38 = .ok (.getfield 16, 3) := by decide +kernel
theorem dX6_act_41 : decode cX6_act 41 = .ok (.iload_n 1, 1) := by decide +kernel
theorem dX6_act_42 : decode cX6_act 42 = .ok (.iload_n 2, 1) := by decide +kernel
theorem dX6_act_43 : decode cX6_act 43 = .ok (.iastore, 1) := by decide +kernel
theorem dX6_act_44 : decode cX6_act 44 = .ok (.aload_n 0, 1) := by decide +kernel
theorem dX6_act_45 : decode cX6_act 45 = .ok (.getfield 19, 3) := by decide +kernel
theorem dX6_act_48 : decode cX6_act 48 = .ok (.iload_n 1, 1) := by decide +kernel
theorem dX6_act_49 : decode cX6_act 49 = .ok (.iload_n 3, 1) := by decide +kernel
theorem dX6_act_50 : decode cX6_act 50 = .ok (.iastore, 1) := by decide +kernel
theorem dX6_act_51 : decode cX6_act 51 = .ok (.aload_n 0, 1) := by decide +kernel
theorem dX6_act_52 : decode cX6_act 52 = .ok (.getfield 22, 3) := by decide +kernel
theorem dX6_act_55 : decode cX6_act 55 = .ok (.iload_n 1, 1) := by decide +kernel
theorem dX6_act_56 : decode cX6_act 56 = .ok (.iload 4, 2) := by decide +kernel
theorem dX6_act_58 : decode cX6_act 58 = .ok (.iastore, 1) := by decide +kernel
theorem dX6_act_59 : decode cX6_act 59 = .ok (.aload_n 0, 1) := by decide +kernel
theorem dX6_act_60 : decode cX6_act 60 = .ok (.iconst 0, 1) := by decide +kernel
theorem dX6_act_61 : decode cX6_act 61 = .ok (.putfield 67, 3) := by decide +kernel
theorem dX6_act_64 : decode cX6_act 64 = .ok (.iconst 1, 1) := by decide +kernel
theorem dX6_act_65 : decode cX6_act 65 = .ok (.ireturn, 1) := by decide +kernel
theorem dX6_edge_0 : decode cX6_edge 0 = .ok (.aload_n 0, 1) := by decide +kernel
theorem dX6_edge_1 : decode cX6_edge 1 = .ok (.iload_n 1, 1) := by decide +kernel
theorem dX6_edge_2 : decode cX6_edge 2 = .ok (.invokevirtual 71, 3) := by decide +kernel
theorem dX6_edge_5 : decode cX6_edge 5 = .ok (.ifCond .eq 14, 3) := by decide +kernel
theorem dX6_edge_8 : decode cX6_edge 8 = .ok (.aload_n 0, 1) := by decide +kernel
theorem dX6_edge_9 : decode cX6_edge 9 = .ok (.iload_n 2, 1) := by decide +kernel
theorem dX6_edge_10 : decode cX6_edge 10 = .ok (.iload_n 3, 1) := by decide +kernel
theorem dX6_edge_11 : decode cX6_edge 11 = .ok (.iload 4, 2) := by decide +kernel
theorem dX6_edge_13 : decode cX6_edge 13 = .ok (.invokevirtual 61, 3) := by decide +kernel
theorem dX6_edge_16 : decode cX6_edge 16 = .ok (.ifCond .ne 5, 3) := by decide +kernel
theorem dX6_edge_19 : decode cX6_edge 19 = .ok (.iconst 0, 1) := by decide +kernel
theorem dX6_edge_20 : decode cX6_edge 20 = .ok (.ireturn, 1) := by decide +kernel
theorem dX6_edge_21 : decode cX6_edge 21 = .ok (.aload_n 0, 1) := by decide +kernel
theorem dX6_edge_22 : decode cX6_edge 22 = .ok (.getfield 25, 3) := by decide +kernel
theorem dX6_edge_25 : decode cX6_edge 25 = .ok (.sipush 512, 3) := by decide +kernel
theorem dX6_edge_28 : decode cX6_edge 28 = .ok (.iload_n 1, 1) := by decide +kernel
theorem dX6_edge_29 : decode cX6_edge 29 = .ok (.imul, 1) := by decide +kernel
theorem dX6_edge_30 : decode cX6_edge 30 = .ok (.bipush 64, 2) := by decide +kernel
theorem dX6_edge_32 : decode cX6_edge 32 = .ok (.iload_n 2, 1) := by decide +kernel
theorem dX6_edge_33 : decode cX6_edge 33 = .ok (.imul, 1) := by decide +kernel
theorem dX6_edge_34 : decode cX6_edge 34 = .ok (.iadd, 1) := by decide +kernel
theorem dX6_edge_35 : decode cX6_edge 35 = .ok (.bipush 8, 2) := by decide +kernel
theorem dX6_edge_37 : decode cX6_edge 37 = .ok (.iload_n 3, 1) := by decide +kernel
theorem dX6_edge_38 : decode cX6_edge 38 = .ok (.imul, 1) := by decide +kernel
theorem dX6_edge_39 : decode cX6_edge 39 = .ok (.iadd, 1) := by decide +kernel
theorem dX6_edge_40 : decode cX6_edge 40 = .ok (.iload 4, 2) := by decide +kernel
theorem dX6_edge_42 : decode cX6_edge 42 = .ok (.iadd, 1) := by decide +kernel
theorem dX6_edge_43 : decode cX6_edge 43 = .ok (.iload 5, 2) := by decide +kernel
theorem dX6_edge_45 : decode cX6_edge 45 = .ok (.iastore, 1) := by decide +kernel
theorem dX6_edge_46 : decode cX6_edge 46 = .ok (.aload_n 0, 1) := by decide +kernel
theorem dX6_edge_47 : decode cX6_edge 47 = .ok (.iconst 0, 1) := by decide +kernel
theorem dX6_edge_48 : decode cX6_edge 48 = .ok (.putfield 67, 3) := by decide +kernel
theorem dX6_edge_51 : decode cX6_edge 51 = .ok (.iconst 1, 1) := by decide +kernel
theorem dX6_edge_52 : decode cX6_edge 52 = .ok (.ireturn, 1) := by decide +kernel
theorem dX6_clear_0 : decode cX6_clear 0 = .ok (.aload_n 0, 1) := by decide +kernel
theorem dX6_clear_1 : decode cX6_clear 1 = .ok (.iconst 0, 1) := by decide +kernel
theorem dX6_clear_2 : decode cX6_clear 2 = .ok (.putfield 58, 3) := by decide +kernel
theorem dX6_clear_5 : decode cX6_clear 5 = .ok (.aload_n 0, 1) := by decide +kernel
theorem dX6_clear_6 : decode cX6_clear 6 = .ok (.invokevirtual 64, 3) := by decide +kernel
theorem dX6_clear_9 : decode cX6_clear 9 = .ok (.aload_n 0, 1) := by decide +kernel
theorem dX6_clear_10 : decode cX6_clear 10 = .ok (.iconst 0, 1) := by decide +kernel
theorem dX6_clear_11 : decode cX6_clear 11 = .ok (.putfield 67, 3) := by decide +kernel
theorem dX6_clear_14 : decode cX6_clear 14 = .ok (.return_, 1) := by decide +kernel
theorem dX6_lay_0 : decode cX6_lay 0 = .ok (.iload_n 2, 1) := by decide +kernel
theorem dX6_lay_1 : decode cX6_lay 1 = .ok (.ifCond .ne 16, 3) := by decide +kernel
theorem dX6_lay_4 : decode cX6_lay 4 = .ok (.iload_n 3, 1) := by decide +kernel
theorem dX6_lay_5 : decode cX6_lay 5 = .ok (.ifCond .ne 12, 3) := by decide +kernel
theorem dX6_lay_8 : decode cX6_lay 8 = .ok (.iload 4, 2) := by decide +kernel
theorem dX6_lay_10 : decode cX6_lay 10 = .ok (.ifCond .ne 7, 3) := by decide +kernel
theorem dX6_lay_13 : decode cX6_lay 13 = .ok (.iconst 1, 1) := by decide +kernel
theorem dX6_lay_14 : decode cX6_lay 14 = .ok (.goto 4, 3) := by decide +kernel
theorem dX6_lay_17 : decode cX6_lay 17 = .ok (.iconst 0, 1) := by decide +kernel
theorem dX6_lay_18 : decode cX6_lay 18 = .ok (.istore 5, 2) := by decide +kernel
theorem dX6_lay_20 : decode cX6_lay 20 = .ok (.iload_n 1, 1) := by decide +kernel
theorem dX6_lay_21 : decode cX6_lay 21 = .ok (.iconst 0, 1) := by decide +kernel
theorem dX6_lay_22 : decode cX6_lay 22 = .ok (.iconst 2, 1) := by decide +kernel
theorem dX6_lay_23 : decode cX6_lay 23 = .ok (.invokestatic 54, 3) := by decide +kernel
theorem dX6_lay_26 : decode cX6_lay 26 = .ok (.ifCond .eq 44, 3) := by decide +kernel
theorem dX6_lay_29 : decode cX6_lay 29 = .ok (.iload_n 2, 1) := by decide +kernel
theorem dX6_lay_30 : decode cX6_lay 30 = .ok (.bipush (-3), 2) := by decide +kernel
theorem dX6_lay_32 : decode cX6_lay 32 = .ok (.iconst 3, 1) := by decide +kernel
theorem dX6_lay_33 : decode cX6_lay 33 = .ok (.invokestatic 54, 3) := by decide +kernel
theorem dX6_lay_36 : decode cX6_lay 36 = .ok (.ifCond .eq 34, 3) := by decide +kernel
theorem dX6_lay_39 : decode cX6_lay 39 = .ok (.iload_n 3, 1) := by decide +kernel
theorem dX6_lay_40 : decode cX6_lay 40 = .ok (.bipush (-3), 2) := by decide +kernel
theorem dX6_lay_42 : decode cX6_lay 42 = .ok (.iconst 3, 1) := by decide +kernel
theorem dX6_lay_43 : decode cX6_lay 43 = .ok (.invokestatic 54, 3) := by decide +kernel
theorem dX6_lay_46 : decode cX6_lay 46 = .ok (.ifCond .eq 24, 3) := by decide +kernel
theorem dX6_lay_49 : decode cX6_lay 49 = .ok (.iload 4, 2) := by decide +kernel
theorem dX6_lay_51 : decode cX6_lay 51 = .ok (.bipush (-3), 2) := by decide +kernel
theorem dX6_lay_53 : decode cX6_lay 53 = .ok (.iconst 3, 1) := by decide +kernel
theorem dX6_lay_54 : decode cX6_lay 54 = .ok (.invokestatic 54, 3) := by decide +kernel
theorem dX6_lay_57 : decode cX6_lay 57 = .ok (.ifCond .eq 13, 3) := by decide +kernel
theorem dX6_lay_60 : decode cX6_lay 60 = .ok (.iload_n 1, 1) := by decide +kernel
theorem dX6_lay_61 : decode cX6_lay 61 = .ok (.iconst 1, 1) := by decide +kernel
theorem dX6_lay_62 : decode cX6_lay 62 = .ok (.if_icmp .ne 10, 3) := by decide +kernel
theorem dX6_lay_65 : decode cX6_lay 65 = .ok (.iload 5, 2) := by decide +kernel
theorem dX6_lay_67 : decode cX6_lay 67 = .ok (.ifCond .eq 5, 3) := by decide +kernel
theorem dX6_lay_70 : decode cX6_lay 70 = .ok (.iconst 0, 1) := by decide +kernel
theorem dX6_lay_71 : decode cX6_lay 71 = .ok (.ireturn, 1) := by decide +kernel
theorem dX6_lay_72 : decode cX6_lay 72 = .ok (.aload_n 0, 1) := by decide +kernel
theorem dX6_lay_73 : decode cX6_lay 73 = .ok (.getfield 28, 3) := by decide +kernel
theorem dX6_lay_76 : decode cX6_lay 76 = .ok (.iconst 3, 1) := by decide +kernel
theorem dX6_lay_77 : decode cX6_lay 77 = .ok (.iload_n 1, 1) := by decide +kernel
theorem dX6_lay_78 : decode cX6_lay 78 = .ok (.imul, 1) := by decide +kernel
theorem dX6_lay_79 : decode cX6_lay 79 = .ok (.iload_n 2, 1) := by decide +kernel
theorem dX6_lay_80 : decode cX6_lay 80 = .ok (.iastore, 1) := by decide +kernel
theorem dX6_lay_81 : decode cX6_lay 81 = .ok (.aload_n 0, 1) := by decide +kernel
theorem dX6_lay_82 : decode cX6_lay 82 = .ok (.getfield 28, 3) := by decide +kernel
theorem dX6_lay_85 : decode cX6_lay 85 = .ok (.iconst 3, 1) := by decide +kernel
theorem dX6_lay_86 : decode cX6_lay 86 = .ok (.iload_n 1, 1) := by decide +kernel
theorem dX6_lay_87 : decode cX6_lay 87 = .ok (.imul, 1) := by decide +kernel
theorem dX6_lay_88 : decode cX6_lay 88 = .ok (.iconst 1, 1) := by decide +kernel
theorem dX6_lay_89 : decode cX6_lay 89 = .ok (.iadd, 1) := by decide +kernel
theorem dX6_lay_90 : decode cX6_lay 90 = .ok (.iload_n 3, 1) := by decide +kernel
theorem dX6_lay_91 : decode cX6_lay 91 = .ok (.iastore, 1) := by decide +kernel
theorem dX6_lay_92 : decode cX6_lay 92 = .ok (.aload_n 0, 1) := by decide +kernel
theorem dX6_lay_93 : decode cX6_lay 93 = .ok (.getfield 28, 3) := by decide +kernel
theorem dX6_lay_96 : decode cX6_lay 96 = .ok (.iconst 3, 1) := by decide +kernel
theorem dX6_lay_97 : decode cX6_lay 97 = .ok (.iload_n 1, 1) := by decide +kernel
theorem dX6_lay_98 : decode cX6_lay 98 = .ok (.imul, 1) := by decide +kernel
theorem dX6_lay_99 : decode cX6_lay 99 = .ok (.iconst 2, 1) := by decide +kernel
theorem dX6_lay_100 : decode cX6_lay 100 = .ok (.iadd, 1) := by decide +kernel
theorem dX6_lay_101 : decode cX6_lay 101 = .ok (.iload 4, 2) := by decide +kernel
theorem dX6_lay_103 : decode cX6_lay 103 = .ok (.iastore, 1) := by decide +kernel
theorem dX6_lay_104 : decode cX6_lay 104 = .ok (.aload_n 0, 1) := by decide +kernel
theorem dX6_lay_105 : decode cX6_lay 105 = .ok (.iconst 0, 1) := by decide +kernel
theorem dX6_lay_106 : decode cX6_lay 106 = .ok (.putfield 67, 3) := by decide +kernel
theorem dX6_lay_109 : decode cX6_lay 109 = .ok (.iconst 1, 1) := by decide +kernel
theorem dX6_lay_110 : decode cX6_lay 110 = .ok (.ireturn, 1) := by decide +kernel
theorem dX6_fold_0 : decode cX6_fold 0 = .ok (.iload_n 1, 1) := by decide +kernel
theorem dX6_fold_1 : decode cX6_fold 1 = .ok (.iconst 1, 1) := by decide +kernel
theorem dX6_fold_2 : decode cX6_fold 2 = .ok (.bipush 8, 2) := by decide +kernel
theorem dX6_fold_4 : decode cX6_fold 4 = .ok (.invokestatic 54, 3) := by decide +kernel
theorem dX6_fold_7 : decode cX6_fold 7 = .ok (.ifCond .ne 5, 3) := by decide +kernel
theorem dX6_fold_10 : decode cX6_fold 10 = .ok (.iconst 0, 1) := by decide +kernel
theorem dX6_fold_11 : decode cX6_fold 11 = .ok (.ireturn, 1) := by decide +kernel
theorem dX6_fold_12 : decode cX6_fold 12 = .ok (.aload_n 0, 1) := by decide +kernel
theorem dX6_fold_13 : decode cX6_fold 13 = .ok (.iload_n 1, 1) := by decide +kernel
theorem dX6_fold_14 : decode cX6_fold 14 = .ok (.putfield 31, 3) := by decide +kernel
theorem dX6_fold_17 : decode cX6_fold 17 = .ok (.aload_n 0, 1) := by decide +kernel
theorem dX6_fold_18 : decode cX6_fold 18 = .ok (.iconst 0, 1) := by decide +kernel
theorem dX6_fold_19 : decode cX6_fold 19 = .ok (.putfield 67, 3) := by decide +kernel
theorem dX6_fold_22 : decode cX6_fold 22 = .ok (.iconst 1, 1) := by decide +kernel
theorem dX6_fold_23 : decode cX6_fold 23 = .ok (.ireturn, 1) := by decide +kernel
theorem dX6_at_0 : decode cX6_at 0 = .ok (.aload_n 0, 1) := by decide +kernel
theorem dX6_at_1 : decode cX6_at 1 = .ok (.getfield 28, 3) := by decide +kernel
theorem dX6_at_4 : decode cX6_at 4 = .ok (.iconst 3, 1) := by decide +kernel
theorem dX6_at_5 : decode cX6_at 5 = .ok (.iload_n 1, 1) := by decide +kernel
theorem dX6_at_6 : decode cX6_at 6 = .ok (.imul, 1) := by decide +kernel
theorem dX6_at_7 : decode cX6_at 7 = .ok (.iaload, 1) := by decide +kernel
theorem dX6_at_8 : decode cX6_at 8 = .ok (.iload_n 2, 1) := by decide +kernel
theorem dX6_at_9 : decode cX6_at 9 = .ok (.bipush 64, 2) := by decide +kernel
theorem dX6_at_11 : decode cX6_at 11 = .ok (.idiv, 1) := by decide +kernel
theorem dX6_at_12 : decode cX6_at 12 = .ok (.imul, 1) := by decide +kernel
theorem dX6_at_13 : decode cX6_at 13 = .ok (.aload_n 0, 1) := by decide +kernel
theorem dX6_at_14 : decode cX6_at 14 = .ok (.getfield 28, 3) := by decide +kernel
theorem dX6_at_17 : decode cX6_at 17 = .ok (.iconst 3, 1) := by decide +kernel
theorem dX6_at_18 : decode cX6_at 18 = .ok (.iload_n 1, 1) := by decide +kernel
theorem dX6_at_19 : decode cX6_at 19 = .ok (.imul, 1) := by decide +kernel
theorem dX6_at_20 : decode cX6_at 20 = .ok (.iconst 1, 1) := by decide +kernel
theorem dX6_at_21 : decode cX6_at 21 = .ok (.iadd, 1) := by decide +kernel
theorem dX6_at_22 : decode cX6_at 22 = .ok (.iaload, 1) := by decide +kernel
theorem dX6_at_23 : decode cX6_at 23 = .ok (.iload_n 2, 1) := by decide +kernel
theorem dX6_at_24 : decode cX6_at 24 = .ok (.bipush 8, 2) := by decide +kernel
theorem dX6_at_26 : decode cX6_at 26 = .ok (.idiv, 1) := by decide +kernel
theorem dX6_at_27 : decode cX6_at 27 = .ok (.bipush 8, 2) := by decide +kernel
theorem dX6_at_29 : decode cX6_at 29 = .ok (.irem, 1) := by decide +kernel
theorem dX6_at_30 : decode cX6_at 30 = .ok (.imul, 1) := by decide +kernel
theorem dX6_at_31 : decode cX6_at 31 = .ok (.iadd, 1) := by decide +kernel
theorem dX6_at_32 : decode cX6_at 32 = .ok (.aload_n 0, 1) := by decide +kernel
theorem dX6_at_33 : decode cX6_at 33 = .ok (.getfield 28, 3) := by decide +kernel
theorem dX6_at_36 : decode cX6_at 36 = .ok (.iconst 3, 1) := by decide +kernel
theorem dX6_at_37 : decode cX6_at 37 = .ok (.iload_n 1, 1) := by decide +kernel
theorem dX6_at_38 : decode cX6_at 38 = .ok (.imul, 1) := by decide +kernel
theorem dX6_at_39 : decode cX6_at 39 = .ok (.iconst 2, 1) := by decide +kernel
theorem dX6_at_40 : decode cX6_at 40 = .ok (.iadd, 1) := by decide +kernel
theorem dX6_at_41 : decode cX6_at 41 = .ok (.iaload, 1) := by decide +kernel
theorem dX6_at_42 : decode cX6_at 42 = .ok (.iload_n 2, 1) := by decide +kernel
theorem dX6_at_43 : decode cX6_at 43 = .ok (.bipush 8, 2) := by decide +kernel
theorem dX6_at_45 : decode cX6_at 45 = .ok (.irem, 1) := by decide +kernel
theorem dX6_at_46 : decode cX6_at 46 = .ok (.imul, 1) := by decide +kernel
theorem dX6_at_47 : decode cX6_at 47 = .ok (.iadd, 1) := by decide +kernel
theorem dX6_at_48 : decode cX6_at 48 = .ok (.istore_n 3, 1) := by decide +kernel
theorem dX6_at_49 : decode cX6_at 49 = .ok (.iconst 0, 1) := by decide +kernel
theorem dX6_at_50 : decode cX6_at 50 = .ok (.istore 4, 2) := by decide +kernel
theorem dX6_at_52 : decode cX6_at 52 = .ok (.iload 4, 2) := by decide +kernel
theorem dX6_at_54 : decode cX6_at 54 = .ok (.iconst 3, 1) := by decide +kernel
theorem dX6_at_55 : decode cX6_at 55 = .ok (.if_icmp .ge 46, 3) := by decide +kernel
theorem dX6_at_58 : decode cX6_at 58 = .ok (.aload_n 0, 1) := by decide +kernel
theorem dX6_at_59 : decode cX6_at 59 = .ok (.getfield 28, 3) := by decide +kernel
theorem dX6_at_62 : decode cX6_at 62 = .ok (.iconst 3, 1) := by decide +kernel
theorem dX6_at_63 : decode cX6_at 63 = .ok (.iload_n 1, 1) := by decide +kernel
theorem dX6_at_64 : decode cX6_at 64 = .ok (.imul, 1) := by decide +kernel
theorem dX6_at_65 : decode cX6_at 65 = .ok (.iload 4, 2) := by decide +kernel
theorem dX6_at_67 : decode cX6_at 67 = .ok (.iadd, 1) := by decide +kernel
theorem dX6_at_68 : decode cX6_at 68 = .ok (.iaload, 1) := by decide +kernel
theorem dX6_at_69 : decode cX6_at 69 = .ok (.istore 5, 2) := by decide +kernel
theorem dX6_at_71 : decode cX6_at 71 = .ok (.iload_n 3, 1) := by decide +kernel
theorem dX6_at_72 : decode cX6_at 72 = .ok (.iload 5, 2) := by decide +kernel
theorem dX6_at_74 : decode cX6_at 74 = .ok (.ifCond .ge 18, 3) := by decide +kernel
theorem dX6_at_77 : decode cX6_at 77 = .ok (.iload 5, 2) := by decide +kernel
theorem dX6_at_79 : decode cX6_at 79 = .ok (.aload_n 0, 1) := by decide +kernel
theorem dX6_at_80 : decode cX6_at 80 = .ok (.getfield 7, 3) := by decide +kernel
theorem dX6_at_83 : decode cX6_at 83 = .ok (.iload 4, 2) := by decide +kernel
theorem dX6_at_85 : decode cX6_at 85 = .ok (.iaload, 1) := by decide +kernel
theorem dX6_at_86 : decode cX6_at 86 = .ok (.iconst 1, 1) := by decide +kernel
theorem dX6_at_87 : decode cX6_at 87 = .ok (.isub, 1) := by decide +kernel
theorem dX6_at_88 : decode cX6_at 88 = .ok (.imul, 1) := by decide +kernel
theorem dX6_at_89 : decode cX6_at 89 = .ok (.goto 4, 3) := by decide +kernel
theorem dX6_at_92 : decode cX6_at 92 = .ok (.iconst 0, 1) := by decide +kernel
theorem dX6_at_93 : decode cX6_at 93 = .ok (.isub, 1) := by decide +kernel
theorem dX6_at_94 : decode cX6_at 94 = .ok (.istore_n 3, 1) := by decide +kernel
theorem dX6_at_95 : decode cX6_at 95 = .ok (.iinc 4 1, 3) := by decide +kernel
theorem dX6_at_98 : decode cX6_at 98 = .ok (.goto (-46), 3) := by decide +kernel
theorem dX6_at_101 : decode cX6_at 101 = .ok (.iload_n 3, 1) := by decide +kernel
theorem dX6_at_102 : decode cX6_at 102 = .ok (.ireturn, 1) := by decide +kernel
theorem dX6_beatOf_0 : decode cX6_beatOf 0 = .ok (.aload_n 0, 1) := by decide +kernel
theorem dX6_beatOf_1 : decode cX6_beatOf 1 = .ok (.getfield 31, 3) := by decide +kernel
theorem dX6_beatOf_4 : decode cX6_beatOf 4 = .ok (.aload_n 0, 1) := by decide +kernel
theorem dX6_beatOf_5 : decode cX6_beatOf 5 = .ok (.iconst 0, 1) := by decide +kernel
theorem dX6_beatOf_6 : decode cX6_beatOf 6 = .ok (.iload_n 1, 1) := by decide +kernel
theorem dX6_beatOf_7 : decode cX6_beatOf 7 = .ok (.invokevirtual 75, 3) := by decide +kernel
theorem dX6_beatOf_10 : decode cX6_beatOf 10 = .ok (.imul, 1) := by decide +kernel
theorem dX6_beatOf_11 : decode cX6_beatOf 11 = .ok (.aload_n 0, 1) := by decide +kernel
theorem dX6_beatOf_12 : decode cX6_beatOf 12 = .ok (.iconst 1, 1) := by decide +kernel
theorem dX6_beatOf_13 : decode cX6_beatOf 13 = .ok (.iload_n 1, 1) := by decide +kernel
theorem dX6_beatOf_14 : decode cX6_beatOf 14 = .ok (.invokevirtual 75, 3) := by decide +kernel
theorem dX6_beatOf_17 : decode cX6_beatOf 17 = .ok (.aload_n 0, 1) := by decide +kernel
theorem dX6_beatOf_18 : decode cX6_beatOf 18 = .ok (.getfield 31, 3) := by decide +kernel
theorem dX6_beatOf_21 : decode cX6_beatOf 21 = .ok (.irem, 1) := by decide +kernel
theorem dX6_beatOf_22 : decode cX6_beatOf 22 = .ok (.iadd, 1) := by decide +kernel
theorem dX6_beatOf_23 : decode cX6_beatOf 23 = .ok (.ireturn, 1) := by decide +kernel
theorem dX6_cellOf_0 : decode cX6_cellOf 0 = .ok (.aload_n 0, 1) := by decide +kernel
end
section
theorem dX6_cellOf_1 : decode cX6_cellOf 1 = .ok (.iconst 1, 1) := by decide +kernel
theorem dX6_cellOf_2 : decode cX6_cellOf 2 = .ok (.iload_n 1, 1) := by decide +kernel
theorem dX6_cellOf_3 : decode cX6_cellOf 3 = .ok (.invokevirtual 75, 3) := by decide +kernel
theorem dX6_cellOf_6 : decode cX6_cellOf 6 = .ok (.aload_n 0, 1) := by decide +kernel
theorem dX6_cellOf_7 : decode cX6_cellOf 7 = .ok (.getfield 31, 3) := by decide +kernel
theorem dX6_cellOf_10 : decode cX6_cellOf 10 = .ok (.idiv, 1) := by decide +kernel
theorem dX6_cellOf_11 : decode cX6_cellOf 11 = .ok (.ireturn, 1) := by decide +kernel
theorem dX6_stepBy_0 : decode cX6_stepBy 0 = .ok (.aload_n 0, 1) := by decide +kernel
theorem dX6_stepBy_1 : decode cX6_stepBy 1 = .ok (.getfield 28, 3) := by decide +kernel
theorem dX6_stepBy_4 : decode cX6_stepBy 4 = .ok (.iconst 3, 1) := by decide +kernel
theorem dX6_stepBy_5 : decode cX6_stepBy 5 = .ok (.iload_n 1, 1) := by decide +kernel
theorem dX6_stepBy_6 : decode cX6_stepBy 6 = .ok (.imul, 1) := by decide +kernel
theorem dX6_stepBy_7 : decode cX6_stepBy 7 = .ok (.iaload, 1) := by decide +kernel
theorem dX6_stepBy_8 : decode cX6_stepBy 8 = .ok (.aload_n 0, 1) := by decide +kernel
theorem dX6_stepBy_9 : decode cX6_stepBy 9 = .ok (.getfield 13, 3) := by decide +kernel
theorem dX6_stepBy_12 : decode cX6_stepBy 12 = .ok (.iconst 3, 1) := by decide +kernel
theorem dX6_stepBy_13 : decode cX6_stepBy 13 = .ok (.iload_n 2, 1) := by decide +kernel
theorem dX6_stepBy_14 : decode cX6_stepBy 14 = .ok (.imul, 1) := by decide +kernel
theorem dX6_stepBy_15 : decode cX6_stepBy 15 = .ok (.iaload, 1) := by decide +kernel
theorem dX6_stepBy_16 : decode cX6_stepBy 16 = .ok (.imul, 1) := by decide +kernel
theorem dX6_stepBy_17 : decode cX6_stepBy 17 = .ok (.aload_n 0, 1) := by decide +kernel
theorem dX6_stepBy_18 : decode cX6_stepBy 18 = .ok (.getfield 28, 3) := by decide +kernel
theorem dX6_stepBy_21 : decode cX6_stepBy 21 = .ok (.iconst 3, 1) := by decide +kernel
theorem dX6_stepBy_22 : decode cX6_stepBy 22 = .ok (.iload_n 1, 1) := by decide +kernel
theorem dX6_stepBy_23 : decode cX6_stepBy 23 = .ok (.imul, 1) := by decide +kernel
theorem dX6_stepBy_24 : decode cX6_stepBy 24 = .ok (.iconst 1, 1) := by decide +kernel
theorem dX6_stepBy_25 : decode cX6_stepBy 25 = .ok (.iadd, 1) := by decide +kernel
theorem dX6_stepBy_26 : decode cX6_stepBy 26 = .ok (.iaload, 1) := by decide +kernel
theorem dX6_stepBy_27 : decode cX6_stepBy 27 = .ok (.aload_n 0, 1) := by decide +kernel
theorem dX6_stepBy_28 : decode cX6_stepBy 28 = .ok (.getfield 13, 3) := by decide +kernel
theorem dX6_stepBy_31 : decode cX6_stepBy 31 = .ok (.iconst 3, 1) := by decide +kernel
theorem dX6_stepBy_32 : decode cX6_stepBy 32 = .ok (.iload_n 2, 1) := by decide +kernel
theorem dX6_stepBy_33 : decode cX6_stepBy 33 = .ok (.imul, 1) := by decide +kernel
theorem dX6_stepBy_34 : decode cX6_stepBy 34 = .ok (.iconst 1, 1) := by decide +kernel
theorem dX6_stepBy_35 : decode cX6_stepBy 35 = .ok (.iadd, 1) := by decide +kernel
theorem dX6_stepBy_36 : decode cX6_stepBy 36 = .ok (.iaload, 1) := by decide +kernel
theorem dX6_stepBy_37 : decode cX6_stepBy 37 = .ok (.imul, 1) := by decide +kernel
theorem dX6_stepBy_38 : decode cX6_stepBy 38 = .ok (.iadd, 1) := by decide +kernel
theorem dX6_stepBy_39 : decode cX6_stepBy 39 = .ok (.aload_n 0, 1) := by decide +kernel
theorem dX6_stepBy_40 : decode cX6_stepBy 40 = .ok (.getfield 28, 3) := by decide +kernel
theorem dX6_stepBy_43 : decode cX6_stepBy 43 = .ok (.iconst 3, 1) := by decide +kernel
theorem dX6_stepBy_44 : decode cX6_stepBy 44 = .ok (.iload_n 1, 1) := by decide +kernel
theorem dX6_stepBy_45 : decode cX6_stepBy 45 = .ok (.imul, 1) := by decide +kernel
theorem dX6_stepBy_46 : decode cX6_stepBy 46 = .ok (.iconst 2, 1) := by decide +kernel
theorem dX6_stepBy_47 : decode cX6_stepBy 47 = .ok (.iadd, 1) := by decide +kernel
theorem dX6_stepBy_48 : decode cX6_stepBy 48 = .ok (.iaload, 1) := by decide +kernel
theorem dX6_stepBy_49 : decode cX6_stepBy 49 = .ok (.aload_n 0, 1) := by decide +kernel
theorem dX6_stepBy_50 : decode cX6_stepBy 50 = .ok (.getfield 13, 3) := by decide +kernel
theorem dX6_stepBy_53 : decode cX6_stepBy 53 = .ok (.iconst 3, 1) := by decide +kernel
theorem dX6_stepBy_54 : decode cX6_stepBy 54 = .ok (.iload_n 2, 1) := by decide +kernel
theorem dX6_stepBy_55 : decode cX6_stepBy 55 = .ok (.imul, 1) := by decide +kernel
theorem dX6_stepBy_56 : decode cX6_stepBy 56 = .ok (.iconst 2, 1) := by decide +kernel
theorem dX6_stepBy_57 : decode cX6_stepBy 57 = .ok (.iadd, 1) := by decide +kernel
theorem dX6_stepBy_58 : decode cX6_stepBy 58 = .ok (.iaload, 1) := by decide +kernel
theorem dX6_stepBy_59 : decode cX6_stepBy 59 = .ok (.imul, 1) := by decide +kernel
theorem dX6_stepBy_60 : decode cX6_stepBy 60 = .ok (.iadd, 1) := by decide +kernel
theorem dX6_stepBy_61 : decode cX6_stepBy 61 = .ok (.ireturn, 1) := by decide +kernel
theorem dX6_delayOf_0 : decode cX6_delayOf 0 = .ok (.aload_n 0, 1) := by decide +kernel
theorem dX6_delayOf_1 : decode cX6_delayOf 1 = .ok (.iconst 0, 1) := by decide +kernel
theorem dX6_delayOf_2 : decode cX6_delayOf 2 = .ok (.iload_n 1, 1) := by decide +kernel
theorem dX6_delayOf_3 : decode cX6_delayOf 3 = .ok (.invokevirtual 79, 3) := by decide +kernel
theorem dX6_delayOf_6 : decode cX6_delayOf 6 = .ok (.ireturn, 1) := by decide +kernel
theorem dX6_wayOf_0 : decode cX6_wayOf 0 = .ok (.aload_n 0, 1) := by decide +kernel
theorem dX6_wayOf_1 : decode cX6_wayOf 1 = .ok (.iconst 1, 1) := by decide +kernel
theorem dX6_wayOf_2 : decode cX6_wayOf 2 = .ok (.iload_n 1, 1) := by decide +kernel
theorem dX6_wayOf_3 : decode cX6_wayOf 3 = .ok (.invokevirtual 79, 3) := by decide +kernel
theorem dX6_wayOf_6 : decode cX6_wayOf 6 = .ok (.invokestatic 82, 3) := by decide +kernel
theorem dX6_wayOf_9 : decode cX6_wayOf 9 = .ok (.aload_n 0, 1) := by decide +kernel
theorem dX6_wayOf_10 : decode cX6_wayOf 10 = .ok (.iconst 2, 1) := by decide +kernel
theorem dX6_wayOf_11 : decode cX6_wayOf 11 = .ok (.iload_n 1, 1) := by decide +kernel
theorem dX6_wayOf_12 : decode cX6_wayOf 12 = .ok (.invokevirtual 79, 3) := by decide +kernel
theorem dX6_wayOf_15 : decode cX6_wayOf 15 = .ok (.invokestatic 82, 3) := by decide +kernel
theorem dX6_wayOf_18 : decode cX6_wayOf 18 = .ok (.iadd, 1) := by decide +kernel
theorem dX6_wayOf_19 : decode cX6_wayOf 19 = .ok (.ireturn, 1) := by decide +kernel
theorem dX6_isNeeded_0 : decode cX6_isNeeded 0 = .ok (.aload_n 0, 1) := by decide +kernel
theorem dX6_isNeeded_1 : decode cX6_isNeeded 1 = .ok (.getfield 13, 3) := by decide +kernel
theorem dX6_isNeeded_4 : decode cX6_isNeeded 4 = .ok (.iconst 3, 1) := by decide +kernel
theorem dX6_isNeeded_5 : decode cX6_isNeeded 5 = .ok (.iload_n 1, 1) := by decide +kernel
theorem dX6_isNeeded_6 : decode cX6_isNeeded 6 = .ok (.imul, 1) := by decide +kernel
theorem dX6_isNeeded_7 : decode cX6_isNeeded 7 = .ok (.iaload, 1) := by decide +kernel
theorem dX6_isNeeded_8 : decode cX6_isNeeded 8 = .ok (.invokestatic 82, 3) := by decide +kernel
theorem dX6_isNeeded_11 : decode cX6_isNeeded 11 = .ok (.aload_n 0, 1) := by decide +kernel
theorem dX6_isNeeded_12 : decode cX6_isNeeded 12 = .ok (.getfield 7, 3) := by decide +kernel
theorem dX6_isNeeded_15 : decode cX6_isNeeded 15 = .ok (.iconst 0, 1) := by decide +kernel
theorem dX6_isNeeded_16 : decode cX6_isNeeded 16 = .ok (.iaload, 1) := by decide +kernel
theorem dX6_isNeeded_17 : decode cX6_isNeeded 17 = .ok (.if_icmp .ge 51, 3) := by decide +kernel
theorem dX6_isNeeded_20 : decode cX6_isNeeded 20 = .ok (.aload_n 0, 1) := by decide +kernel
theorem dX6_isNeeded_21 : decode cX6_isNeeded 21 = .ok (.getfield 13, 3) := by decide +kernel
theorem dX6_isNeeded_24 : decode cX6_isNeeded 24 = .ok (.iconst 3, 1) := by decide +kernel
theorem dX6_isNeeded_25 : decode cX6_isNeeded 25 = .ok (.iload_n 1, 1) := by decide +kernel
theorem dX6_isNeeded_26 : decode cX6_isNeeded 26 = .ok (.imul, 1) := by decide +kernel
theorem dX6_isNeeded_27 : decode cX6_isNeeded 27 = .ok (.iconst 1, 1) := by decide +kernel
theorem dX6_isNeeded_28 : decode cX6_isNeeded 28 = .ok (.iadd, 1) := by decide +kernel
theorem dX6_isNeeded_29 : decode cX6_isNeeded 29 = .ok (.iaload, 1) := by decide +kernel
theorem dX6_isNeeded_30 : decode cX6_isNeeded 30 = .ok (.invokestatic 82, 3) := by decide +kernel
theorem dX6_isNeeded_33 : decode cX6_isNeeded 33 = .ok (.aload_n 0, 1) := by decide +kernel
theorem dX6_isNeeded_34 : decode cX6_isNeeded 34 = .ok (.getfield 7, 3) := by decide +kernel
theorem dX6_isNeeded_37 : decode cX6_isNeeded 37 = .ok (.iconst 1, 1) := by decide +kernel
theorem dX6_isNeeded_38 : decode cX6_isNeeded 38 = .ok (.iaload, 1) := by decide +kernel
theorem dX6_isNeeded_39 : decode cX6_isNeeded 39 = .ok (.if_icmp .ge 29, 3) := by decide +kernel
theorem dX6_isNeeded_42 : decode cX6_isNeeded 42 = .ok (.aload_n 0, 1) := by decide +kernel
theorem dX6_isNeeded_43 : decode cX6_isNeeded 43 = .ok (.getfield 13, 3) := by decide +kernel
theorem dX6_isNeeded_46 : decode cX6_isNeeded 46 = .ok (.iconst 3, 1) := by decide +kernel
theorem dX6_isNeeded_47 : decode cX6_isNeeded 47 = .ok (.iload_n 1, 1) := by decide +kernel
theorem dX6_isNeeded_48 : decode cX6_isNeeded 48 = .ok (.imul, 1) := by decide +kernel
theorem dX6_isNeeded_49 : decode cX6_isNeeded 49 = .ok (.iconst 2, 1) := by decide +kernel
theorem dX6_isNeeded_50 : decode cX6_isNeeded 50 = .ok (.iadd, 1) := by decide +kernel
theorem dX6_isNeeded_51 : decode cX6_isNeeded 51 = .ok (.iaload, 1) := by decide +kernel
theorem dX6_isNeeded_52 : decode cX6_isNeeded 52 = .ok (.invokestatic 82, 3) := by decide +kernel
theorem dX6_isNeeded_55 : decode cX6_isNeeded 55 = .ok (.aload_n 0, 1) := by decide +kernel
theorem dX6_isNeeded_56 : decode cX6_isNeeded 56 = .ok (.getfield 7, 3) := by decide +kernel
theorem dX6_isNeeded_59 : decode cX6_isNeeded 59 = .ok (.iconst 2, 1) := by decide +kernel
theorem dX6_isNeeded_60 : decode cX6_isNeeded 60 = .ok (.iaload, 1) := by decide +kernel
theorem dX6_isNeeded_61 : decode cX6_isNeeded 61 = .ok (.if_icmp .ge 7, 3) := by decide +kernel
theorem dX6_isNeeded_64 : decode cX6_isNeeded 64 = .ok (.iconst 1, 1) := by decide +kernel
theorem dX6_isNeeded_65 : decode cX6_isNeeded 65 = .ok (.goto 4, 3) := by decide +kernel
theorem dX6_isNeeded_68 : decode cX6_isNeeded 68 = .ok (.iconst 0, 1) := by decide +kernel
theorem dX6_isNeeded_69 : decode cX6_isNeeded 69 = .ok (.ireturn, 1) := by decide +kernel
theorem dX6_meets_0 : decode cX6_meets 0 = .ok (.iconst 0, 1) := by decide +kernel
theorem dX6_meets_1 : decode cX6_meets 1 = .ok (.istore_n 1, 1) := by decide +kernel
theorem dX6_meets_2 : decode cX6_meets 2 = .ok (.iload_n 1, 1) := by decide +kernel
theorem dX6_meets_3 : decode cX6_meets 3 = .ok (.aload_n 0, 1) := by decide +kernel
theorem dX6_meets_4 : decode cX6_meets 4 = .ok (.getfield 7, 3) := by decide +kernel
theorem dX6_meets_7 : decode cX6_meets 7 = .ok (.iconst 0, 1) := by decide +kernel
theorem dX6_meets_8 : decode cX6_meets 8 = .ok (.iaload, 1) := by decide +kernel
theorem dX6_meets_9 : decode cX6_meets 9 = .ok (.if_icmp .ge 154, 3) := by decide +kernel
theorem dX6_meets_12 : decode cX6_meets 12 = .ok (.iconst 1, 1) := by decide +kernel
theorem dX6_meets_13 : decode cX6_meets 13 = .ok (.aload_n 0, 1) := by decide +kernel
theorem dX6_meets_14 : decode cX6_meets 14 = .ok (.getfield 7, 3) := by decide +kernel
theorem dX6_meets_17 : decode cX6_meets 17 = .ok (.iconst 1, 1) := by decide +kernel
theorem dX6_meets_18 : decode cX6_meets 18 = .ok (.iaload, 1) := by decide +kernel
theorem dX6_meets_19 : decode cX6_meets 19 = .ok (.isub, 1) := by decide +kernel
theorem dX6_meets_20 : decode cX6_meets 20 = .ok (.istore_n 2, 1) := by decide +kernel
theorem dX6_meets_21 : decode cX6_meets 21 = .ok (.iload_n 2, 1) := by decide +kernel
theorem dX6_meets_22 : decode cX6_meets 22 = .ok (.aload_n 0, 1) := by decide +kernel
theorem dX6_meets_23 : decode cX6_meets 23 = .ok (.getfield 7, 3) := by decide +kernel
theorem dX6_meets_26 : decode cX6_meets 26 = .ok (.iconst 1, 1) := by decide +kernel
theorem dX6_meets_27 : decode cX6_meets 27 = .ok (.iaload, 1) := by decide +kernel
theorem dX6_meets_28 : decode cX6_meets 28 = .ok (.if_icmp .ge 129, 3) := by decide +kernel
theorem dX6_meets_31 : decode cX6_meets 31 = .ok (.iconst 1, 1) := by decide +kernel
theorem dX6_meets_32 : decode cX6_meets 32 = .ok (.aload_n 0, 1) := by decide +kernel
theorem dX6_meets_33 : decode cX6_meets 33 = .ok (.getfield 7, 3) := by decide +kernel
theorem dX6_meets_36 : decode cX6_meets 36 = .ok (.iconst 2, 1) := by decide +kernel
theorem dX6_meets_37 : decode cX6_meets 37 = .ok (.iaload, 1) := by decide +kernel
theorem dX6_meets_38 : decode cX6_meets 38 = .ok (.isub, 1) := by decide +kernel
theorem dX6_meets_39 : decode cX6_meets 39 = .ok (.istore_n 3, 1) := by decide +kernel
theorem dX6_meets_40 : decode cX6_meets 40 = .ok (.iload_n 3, 1) := by decide +kernel
theorem dX6_meets_41 : decode cX6_meets 41 = .ok (.aload_n 0, 1) := by decide +kernel
theorem dX6_meets_42 : decode cX6_meets 42 = .ok (.getfield 7, 3) := by decide +kernel
theorem dX6_meets_45 : decode cX6_meets 45 = .ok (.iconst 2, 1) := by decide +kernel
theorem dX6_meets_46 : decode cX6_meets 46 = .ok (.iaload, 1) := by decide +kernel
theorem dX6_meets_47 : decode cX6_meets 47 = .ok (.if_icmp .ge 104, 3) := by decide +kernel
theorem dX6_meets_50 : decode cX6_meets 50 = .ok (.iload_n 1, 1) := by decide +kernel
theorem dX6_meets_51 : decode cX6_meets 51 = .ok (.ifCond .ne 11, 3) := by decide +kernel
theorem dX6_meets_54 : decode cX6_meets 54 = .ok (.iload_n 2, 1) := by decide +kernel
theorem dX6_meets_55 : decode cX6_meets 55 = .ok (.ifCond .ne 7, 3) := by decide +kernel
theorem dX6_meets_58 : decode cX6_meets 58 = .ok (.iload_n 3, 1) := by decide +kernel
theorem dX6_meets_59 : decode cX6_meets 59 = .ok (.ifCond .eq 7, 3) := by decide +kernel
theorem dX6_meets_62 : decode cX6_meets 62 = .ok (.iconst 1, 1) := by decide +kernel
theorem dX6_meets_63 : decode cX6_meets 63 = .ok (.goto 4, 3) := by decide +kernel
theorem dX6_meets_66 : decode cX6_meets 66 = .ok (.iconst 0, 1) := by decide +kernel
theorem dX6_meets_67 : decode cX6_meets 67 = .ok (.istore 4, 2) := by decide +kernel
theorem dX6_meets_69 : decode cX6_meets 69 = .ok (.iconst 0, 1) := by decide +kernel
theorem dX6_meets_70 : decode cX6_meets 70 = .ok (.istore 5, 2) := by decide +kernel
theorem dX6_meets_72 : decode cX6_meets 72 = .ok (.iload 5, 2) := by decide +kernel
theorem dX6_meets_74 : decode cX6_meets 74 = .ok (.iconst 3, 1) := by decide +kernel
theorem dX6_meets_75 : decode cX6_meets 75 = .ok (.if_icmp .ge 63, 3) := by decide +kernel
theorem dX6_meets_78 : decode cX6_meets 78 = .ok (.iload 4, 2) := by decide +kernel
theorem dX6_meets_80 : decode cX6_meets 80 = .ok (.ifCond .eq 58, 3) := by decide +kernel
theorem dX6_meets_83 : decode cX6_meets 83 = .ok (.aload_n 0, 1) := by decide +kernel
theorem dX6_meets_84 : decode cX6_meets 84 = .ok (.getfield 28, 3) := by decide +kernel
theorem dX6_meets_87 : decode cX6_meets 87 = .ok (.iconst 3, 1) := by decide +kernel
theorem dX6_meets_88 : decode cX6_meets 88 = .ok (.iload 5, 2) := by decide +kernel
theorem dX6_meets_90 : decode cX6_meets 90 = .ok (.imul, 1) := by decide +kernel
theorem dX6_meets_91 : decode cX6_meets 91 = .ok (.iaload, 1) := by decide +kernel
theorem dX6_meets_92 : decode cX6_meets 92 = .ok (.iload_n 1, 1) := by decide +kernel
theorem dX6_meets_93 : decode cX6_meets 93 = .ok (.imul, 1) := by decide +kernel
theorem dX6_meets_94 : decode cX6_meets 94 = .ok (.aload_n 0, 1) := by decide +kernel
theorem dX6_meets_95 : decode cX6_meets 95 = .ok (.getfield 28, 3) := by decide +kernel
theorem dX6_meets_98 : decode cX6_meets 98 = .ok (.iconst 3, 1) := by decide +kernel
theorem dX6_meets_99 : decode cX6_meets 99 = .ok (.iload 5, 2) := by decide +kernel
theorem dX6_meets_101 : decode cX6_meets 101 = .ok (.imul, 1) := by decide +kernel
theorem dX6_meets_102 : decode cX6_meets 102 = .ok (.iconst 1, 1) := by decide +kernel
theorem dX6_meets_103 : decode cX6_meets 103 = .ok (.iadd, 1) := by decide +kernel
theorem dX6_meets_104 : decode cX6_meets 104 = .ok (.iaload, 1) := by decide +kernel
theorem dX6_meets_105 : decode cX6_meets 105 = .ok (.iload_n 2, 1) := by decide +kernel
theorem dX6_meets_106 : decode cX6_meets 106 = .ok (.imul, 1) := by decide +kernel
theorem dX6_meets_107 : decode cX6_meets 107 = .ok (.iadd, 1) := by decide +kernel
theorem dX6_meets_108 : decode cX6_meets 108 = .ok (.aload_n 0, 1) := by decide +kernel
theorem dX6_meets_109 : decode cX6_meets 109 = .ok (.getfield 28, 3) := by decide +kernel
theorem dX6_meets_112 : decode cX6_meets 112 = .ok (.iconst 3, 1) := by decide +kernel
theorem dX6_meets_113 : decode cX6_meets 113 = .ok (.iload 5, 2) := by decide +kernel
theorem dX6_meets_115 : decode cX6_meets 115 = .ok (.imul, 1) := by decide +kernel
theorem dX6_meets_116 : decode cX6_meets 116 = .ok (.iconst 2, 1) := by decide +kernel
theorem dX6_meets_117 : decode cX6_meets 117 = .ok (.iadd, 1) := by decide +kernel
theorem dX6_meets_118 : decode cX6_meets 118 = .ok (.iaload, 1) := by decide +kernel
theorem dX6_meets_119 : decode cX6_meets 119 = .ok (.iload_n 3, 1) := by decide +kernel
theorem dX6_meets_120 : decode cX6_meets 120 = .ok (.imul, 1) := by decide +kernel
theorem dX6_meets_121 : decode cX6_meets 121 = .ok (.iadd, 1) := by decide +kernel
theorem dX6_meets_122 : decode cX6_meets 122 = .ok (.ifCond .ne 7, 3) := by decide +kernel
theorem dX6_meets_125 : decode cX6_meets 125 = .ok (.iconst 1, 1) := by decide +kernel
theorem dX6_meets_126 : decode cX6_meets 126 = .ok (.goto 4, 3) := by decide +kernel
theorem dX6_meets_129 : decode cX6_meets 129 = .ok (.iconst 0, 1) := by decide +kernel
theorem dX6_meets_130 : decode cX6_meets 130 = .ok (.istore 4, 2) := by decide +kernel
theorem dX6_meets_132 : decode cX6_meets 132 = .ok (.iinc 5 1, 3) := by decide +kernel
theorem dX6_meets_135 : decode cX6_meets 135 = .ok (.goto (-63), 3) := by decide +kernel
theorem dX6_meets_138 : decode cX6_meets 138 = .ok (.iload 4, 2) := by decide +kernel
theorem dX6_meets_140 : decode cX6_meets 140 = .ok (.ifCond .eq 5, 3) := by decide +kernel
theorem dX6_meets_143 : decode cX6_meets 143 = .ok (.iconst 1, 1) := by decide +kernel
theorem dX6_meets_144 : decode cX6_meets 144 = .ok (.ireturn, 1) := by decide +kernel
theorem dX6_meets_145 : decode cX6_meets 145 = .ok (.iinc 3 1, 3) := by decide +kernel
theorem dX6_meets_148 : decode cX6_meets 148 = .ok (.goto (-108), 3) := by decide +kernel
theorem dX6_meets_151 : decode cX6_meets 151 = .ok (.iinc 2 1, 3) := by decide +kernel
theorem dX6_meets_154 : decode cX6_meets 154 = .ok (.goto (-133), 3) := by decide +kernel
theorem dX6_meets_157 : decode cX6_meets 157 = .ok (.iinc 1 1, 3) := by decide +kernel
theorem dX6_meets_160 : decode cX6_meets 160 = .ok (.goto (-158), 3) := by decide +kernel
theorem dX6_meets_163 : decode cX6_meets 163 = .ok (.iconst 0, 1) := by decide +kernel
theorem dX6_meets_164 : decode cX6_meets 164 = .ok (.ireturn, 1) := by decide +kernel
theorem dX6_wrongDelay_0 : decode cX6_wrongDelay 0 = .ok (.iconst (-1), 1) := by decide +kernel
theorem dX6_wrongDelay_1 : decode cX6_wrongDelay 1 = .ok (.istore_n 1, 1) := by decide +kernel
theorem dX6_wrongDelay_2 : decode cX6_wrongDelay 2 = .ok (.aload_n 0, 1) := by decide +kernel
theorem dX6_wrongDelay_3 : decode cX6_wrongDelay 3 = .ok (.getfield 58, 3) := by decide +kernel
theorem dX6_wrongDelay_6 : decode cX6_wrongDelay 6 = .ok (.iconst 1, 1) := by decide +kernel
theorem dX6_wrongDelay_7 : decode cX6_wrongDelay 7 = .ok (.isub, 1) := by decide +kernel
theorem dX6_wrongDelay_8 : decode cX6_wrongDelay 8 = .ok (.istore_n 2, 1) := by decide +kernel
theorem dX6_wrongDelay_9 : decode cX6_wrongDelay 9 = .ok (.iload_n 2, 1) := by decide +kernel
theorem dX6_wrongDelay_10 : decode cX6_wrongDelay 10 = .ok (.ifCond .lt 32, 3) := by decide +kernel
theorem dX6_wrongDelay_13 : decode cX6_wrongDelay 13 = .ok (.aload_n 0, 1) := by decide +kernel
theorem dX6_wrongDelay_14 : decode cX6_wrongDelay 14 = .ok (.iload_n 2, 1) := by decide +kernel
theorem dX6_wrongDelay_15 : decode cX6_wrongDelay 15 = .ok (.invokevirtual 86, 3) := by decide +kernel
theorem dX6_wrongDelay_18 : decode cX6_wrongDelay 18 = .ok (.ifCond .eq 16, 3) := by decide +kernel
theorem dX6_wrongDelay_21 : decode cX6_wrongDelay 21 = .ok (.aload_n 0, 1) := by decide +kernel
theorem dX6_wrongDelay_22 : decode cX6_wrongDelay 22 = .ok (.iload_n 2, 1) := by decide +kernel
theorem dX6_wrongDelay_23 : decode cX6_wrongDelay 23 = .ok (.invokevirtual 89, 3) := by decide +kernel
theorem dX6_wrongDelay_26 : decode cX6_wrongDelay 26 = .ok (.iconst 1, 1) := by decide +kernel
theorem dX6_wrongDelay_27 : decode cX6_wrongDelay 27 = .ok (.if_icmp .ge 7, 3) := by decide +kernel
theorem dX6_wrongDelay_30 : decode cX6_wrongDelay 30 = .ok (.iload_n 2, 1) := by decide +kernel
theorem dX6_wrongDelay_31 : decode cX6_wrongDelay 31 = .ok (.goto 4, 3) := by decide +kernel
theorem dX6_wrongDelay_34 : decode cX6_wrongDelay 34 = .ok (.iload_n 1, 1) := by decide +kernel
theorem dX6_wrongDelay_35 : decode cX6_wrongDelay 35 = .ok (.istore_n 1, 1) := by decide +kernel
theorem dX6_wrongDelay_36 : decode cX6_wrongDelay 36 = .ok (.iinc 2 (-1), 3) := by decide +kernel
theorem dX6_wrongDelay_39 : decode cX6_wrongDelay 39 = .ok (.goto (-30), 3) := by decide +kernel
theorem dX6_wrongDelay_42 : decode cX6_wrongDelay 42 = .ok (.iload_n 1, 1) := by decide +kernel
theorem dX6_wrongDelay_43 : decode cX6_wrongDelay 43 = .ok (.ireturn, 1) := by decide +kernel
theorem dX6_wrongWay_0 : decode cX6_wrongWay 0 = .ok (.iconst (-1), 1) := by decide +kernel
theorem dX6_wrongWay_1 : decode cX6_wrongWay 1 = .ok (.istore_n 1, 1) := by decide +kernel
theorem dX6_wrongWay_2 : decode cX6_wrongWay 2 = .ok (.aload_n 0, 1) := by decide +kernel
theorem dX6_wrongWay_3 : decode cX6_wrongWay 3 = .ok (.getfield 58, 3) := by decide +kernel
theorem dX6_wrongWay_6 : decode cX6_wrongWay 6 = .ok (.iconst 1, 1) := by decide +kernel
theorem dX6_wrongWay_7 : decode cX6_wrongWay 7 = .ok (.isub, 1) := by decide +kernel
theorem dX6_wrongWay_8 : decode cX6_wrongWay 8 = .ok (.istore_n 2, 1) := by decide +kernel
theorem dX6_wrongWay_9 : decode cX6_wrongWay 9 = .ok (.iload_n 2, 1) := by decide +kernel
theorem dX6_wrongWay_10 : decode cX6_wrongWay 10 = .ok (.ifCond .lt 36, 3) := by decide +kernel
theorem dX6_wrongWay_13 : decode cX6_wrongWay 13 = .ok (.aload_n 0, 1) := by decide +kernel
theorem dX6_wrongWay_14 : decode cX6_wrongWay 14 = .ok (.iload_n 2, 1) := by decide +kernel
theorem dX6_wrongWay_15 : decode cX6_wrongWay 15 = .ok (.invokevirtual 86, 3) := by decide +kernel
theorem dX6_wrongWay_18 : decode cX6_wrongWay 18 = .ok (.ifCond .eq 20, 3) := by decide +kernel
theorem dX6_wrongWay_21 : decode cX6_wrongWay 21 = .ok (.aload_n 0, 1) := by decide +kernel
theorem dX6_wrongWay_22 : decode cX6_wrongWay 22 = .ok (.iload_n 2, 1) := by decide +kernel
theorem dX6_wrongWay_23 : decode cX6_wrongWay 23 = .ok (.invokevirtual 92, 3) := by decide +kernel
theorem dX6_wrongWay_26 : decode cX6_wrongWay 26 = .ok (.aload_n 0, 1) := by decide +kernel
theorem dX6_wrongWay_27 : decode cX6_wrongWay 27 = .ok (.iload_n 2, 1) := by decide +kernel
theorem dX6_wrongWay_28 : decode cX6_wrongWay 28 = .ok (.invokevirtual 89, 3) := by decide +kernel
theorem dX6_wrongWay_31 : decode cX6_wrongWay 31 = .ok (.if_icmp .le 7, 3) := by decide +kernel
theorem dX6_wrongWay_34 : decode cX6_wrongWay 34 = .ok (.iload_n 2, 1) := by decide +kernel
theorem dX6_wrongWay_35 : decode cX6_wrongWay 35 = .ok (.goto 4, 3) := by decide +kernel
theorem dX6_wrongWay_38 : decode cX6_wrongWay 38 = .ok (.iload_n 1, 1) := by decide +kernel
theorem dX6_wrongWay_39 : decode cX6_wrongWay 39 = .ok (.istore_n 1, 1) := by decide +kernel
theorem dX6_wrongWay_40 : decode cX6_wrongWay 40 = .ok (.iinc 2 (-1), 3) := by decide +kernel
theorem dX6_wrongWay_43 : decode cX6_wrongWay 43 = .ok (.goto (-34), 3) := by decide +kernel
theorem dX6_wrongWay_46 : decode cX6_wrongWay 46 = .ok (.iload_n 1, 1) := by decide +kernel
theorem dX6_wrongWay_47 : decode cX6_wrongWay 47 = .ok (.ireturn, 1) := by decide +kernel
theorem dX6_isRight_0 : decode cX6_isRight 0 = .ok (.aload_n 0, 1) := by decide +kernel
theorem dX6_isRight_1 : decode cX6_isRight 1 = .ok (.invokevirtual 95, 3) := by decide +kernel
theorem dX6_isRight_4 : decode cX6_isRight 4 = .ok (.ifCond .ge 21, 3) := by decide +kernel
theorem dX6_isRight_7 : decode cX6_isRight 7 = .ok (.aload_n 0, 1) := by decide +kernel
theorem dX6_isRight_8 : decode cX6_isRight 8 = .ok (.invokevirtual 99, 3) := by decide +kernel
theorem dX6_isRight_11 : decode cX6_isRight 11 = .ok (.ifCond .ge 14, 3) := by decide +kernel
theorem dX6_isRight_14 : decode cX6_isRight 14 = .ok (.aload_n 0, 1) := by decide +kernel
theorem dX6_isRight_15 : decode cX6_isRight 15 = .ok (.invokevirtual 102, 3) := by decide +kernel
theorem dX6_isRight_18 : decode cX6_isRight 18 = .ok (.ifCond .ne 7, 3) := by decide +kernel
theorem dX6_isRight_21 : decode cX6_isRight 21 = .ok (.iconst 1, 1) := by decide +kernel
theorem dX6_isRight_22 : decode cX6_isRight 22 = .ok (.goto 4, 3) := by decide +kernel
theorem dX6_isRight_25 : decode cX6_isRight 25 = .ok (.iconst 0, 1) := by decide +kernel
theorem dX6_isRight_26 : decode cX6_isRight 26 = .ok (.ireturn, 1) := by decide +kernel
theorem dX6_sameAs_0 : decode cX6_sameAs 0 = .ok (.iconst 0, 1) := by decide +kernel
theorem dX6_sameAs_1 : decode cX6_sameAs 1 = .ok (.istore_n 2, 1) := by decide +kernel
theorem dX6_sameAs_2 : decode cX6_sameAs 2 = .ok (.iload_n 2, 1) := by decide +kernel
theorem dX6_sameAs_3 : decode cX6_sameAs 3 = .ok (.iload_n 1, 1) := by decide +kernel
theorem dX6_sameAs_4 : decode cX6_sameAs 4 = .ok (.if_icmp .ge 64, 3) := by decide +kernel
theorem dX6_sameAs_7 : decode cX6_sameAs 7 = .ok (.aload_n 0, 1) := by decide +kernel
theorem dX6_sameAs_8 : decode cX6_sameAs 8 = .ok (.iload_n 2, 1) := by decide +kernel
theorem dX6_sameAs_9 : decode cX6_sameAs 9 = .ok (.invokevirtual 106, 3) := by decide +kernel
theorem dX6_sameAs_12 : decode cX6_sameAs 12 = .ok (.ifCond .eq 50, 3) := by decide +kernel
theorem dX6_sameAs_15 : decode cX6_sameAs 15 = .ok (.aload_n 0, 1) := by decide +kernel
theorem dX6_sameAs_16 : decode cX6_sameAs 16 = .ok (.iconst 0, 1) := by decide +kernel
theorem dX6_sameAs_17 : decode cX6_sameAs 17 = .ok (.iload_n 2, 1) := by decide +kernel
theorem dX6_sameAs_18 : decode cX6_sameAs 18 = .ok (.invokevirtual 75, 3) := by decide +kernel
theorem dX6_sameAs_21 : decode cX6_sameAs 21 = .ok (.aload_n 0, 1) := by decide +kernel
theorem dX6_sameAs_22 : decode cX6_sameAs 22 = .ok (.iconst 0, 1) := by decide +kernel
theorem dX6_sameAs_23 : decode cX6_sameAs 23 = .ok (.iload_n 1, 1) := by decide +kernel
theorem dX6_sameAs_24 : decode cX6_sameAs 24 = .ok (.invokevirtual 75, 3) := by decide +kernel
theorem dX6_sameAs_27 : decode cX6_sameAs 27 = .ok (.if_icmp .ne 35, 3) := by decide +kernel
theorem dX6_sameAs_30 : decode cX6_sameAs 30 = .ok (.aload_n 0, 1) := by decide +kernel
theorem dX6_sameAs_31 : decode cX6_sameAs 31 = .ok (.iconst 1, 1) := by decide +kernel
theorem dX6_sameAs_32 : decode cX6_sameAs 32 = .ok (.iload_n 2, 1) := by decide +kernel
theorem dX6_sameAs_33 : decode cX6_sameAs 33 = .ok (.invokevirtual 75, 3) := by decide +kernel
theorem dX6_sameAs_36 : decode cX6_sameAs 36 = .ok (.aload_n 0, 1) := by decide +kernel
theorem dX6_sameAs_37 : decode cX6_sameAs 37 = .ok (.iconst 1, 1) := by decide +kernel
theorem dX6_sameAs_38 : decode cX6_sameAs 38 = .ok (.iload_n 1, 1) := by decide +kernel
theorem dX6_sameAs_39 : decode cX6_sameAs 39 = .ok (.invokevirtual 75, 3) := by decide +kernel
theorem dX6_sameAs_42 : decode cX6_sameAs 42 = .ok (.if_icmp .ne 20, 3) := by decide +kernel
theorem dX6_sameAs_45 : decode cX6_sameAs 45 = .ok (.aload_n 0, 1) := by decide +kernel
theorem dX6_sameAs_46 : decode cX6_sameAs 46 = .ok (.iconst 2, 1) := by decide +kernel
theorem dX6_sameAs_47 : decode cX6_sameAs 47 = .ok (.iload_n 2, 1) := by decide +kernel
theorem dX6_sameAs_48 : decode cX6_sameAs 48 = .ok (.invokevirtual 75, 3) := by decide +kernel
theorem dX6_sameAs_51 : decode cX6_sameAs 51 = .ok (.aload_n 0, 1) := by decide +kernel
theorem dX6_sameAs_52 : decode cX6_sameAs 52 = .ok (.iconst 2, 1) := by decide +kernel
theorem dX6_sameAs_53 : decode cX6_sameAs 53 = .ok (.iload_n 1, 1) := by decide +kernel
theorem dX6_sameAs_54 : decode cX6_sameAs 54 = .ok (.invokevirtual 75, 3) := by decide +kernel
theorem dX6_sameAs_57 : decode cX6_sameAs 57 = .ok (.if_icmp .ne 5, 3) := by decide +kernel
theorem dX6_sameAs_60 : decode cX6_sameAs 60 = .ok (.iload_n 2, 1) := by decide +kernel
theorem dX6_sameAs_61 : decode cX6_sameAs 61 = .ok (.ireturn, 1) := by decide +kernel
theorem dX6_sameAs_62 : decode cX6_sameAs 62 = .ok (.iinc 2 1, 3) := by decide +kernel
theorem dX6_sameAs_65 : decode cX6_sameAs 65 = .ok (.goto (-63), 3) := by decide +kernel
theorem dX6_sameAs_68 : decode cX6_sameAs 68 = .ok (.iconst (-1), 1) := by decide +kernel
theorem dX6_sameAs_69 : decode cX6_sameAs 69 = .ok (.ireturn, 1) := by decide +kernel
theorem dX6_why_0 : decode cX6_why 0 = .ok (.iload_n 1, 1) := by decide +kernel
theorem dX6_why_1 : decode cX6_why 1 = .ok (.iconst 0, 1) := by decide +kernel
theorem dX6_why_2 : decode cX6_why 2 = .ok (.iconst 2, 1) := by decide +kernel
theorem dX6_why_3 : decode cX6_why 3 = .ok (.invokestatic 54, 3) := by decide +kernel
theorem dX6_why_6 : decode cX6_why 6 = .ok (.ifCond .ne 5, 3) := by decide +kernel
theorem dX6_why_9 : decode cX6_why 9 = .ok (.iconst (-1), 1) := by decide +kernel
theorem dX6_why_10 : decode cX6_why 10 = .ok (.ireturn, 1) := by decide +kernel
theorem dX6_why_11 : decode cX6_why 11 = .ok (.aload_n 0, 1) := by decide +kernel
theorem dX6_why_12 : decode cX6_why 12 = .ok (.invokevirtual 95, 3) := by decide +kernel
theorem dX6_why_15 : decode cX6_why 15 = .ok (.istore_n 2, 1) := by decide +kernel
theorem dX6_why_16 : decode cX6_why 16 = .ok (.aload_n 0, 1) := by decide +kernel
theorem dX6_why_17 : decode cX6_why 17 = .ok (.invokevirtual 99, 3) := by decide +kernel
theorem dX6_why_20 : decode cX6_why 20 = .ok (.istore_n 3, 1) := by decide +kernel
theorem dX6_why_21 : decode cX6_why 21 = .ok (.iload_n 2, 1) := by decide +kernel
theorem dX6_why_22 : decode cX6_why 22 = .ok (.ifCond .ge 7, 3) := by decide +kernel
theorem dX6_why_25 : decode cX6_why 25 = .ok (.iload_n 3, 1) := by decide +kernel
theorem dX6_why_26 : decode cX6_why 26 = .ok (.ifCond .lt 38, 3) := by decide +kernel
theorem dX6_why_29 : decode cX6_why 29 = .ok (.iload_n 1, 1) := by decide +kernel
theorem dX6_why_30 : decode cX6_why 30 = .ok (.ifCond .ne 15, 3) := by decide +kernel
theorem dX6_why_33 : decode cX6_why 33 = .ok (.iload_n 2, 1) := by decide +kernel
theorem dX6_why_34 : decode cX6_why 34 = .ok (.ifCond .lt 7, 3) := by decide +kernel
theorem dX6_why_37 : decode cX6_why 37 = .ok (.iconst 1, 1) := by decide +kernel
theorem dX6_why_38 : decode cX6_why 38 = .ok (.goto 25, 3) := by decide +kernel
theorem dX6_why_41 : decode cX6_why 41 = .ok (.iconst 2, 1) := by decide +kernel
theorem dX6_why_42 : decode cX6_why 42 = .ok (.goto 21, 3) := by decide +kernel
theorem dX6_why_45 : decode cX6_why 45 = .ok (.iload_n 1, 1) := by decide +kernel
theorem dX6_why_46 : decode cX6_why 46 = .ok (.iconst 1, 1) := by decide +kernel
theorem dX6_why_47 : decode cX6_why 47 = .ok (.if_icmp .ne 15, 3) := by decide +kernel
theorem dX6_why_50 : decode cX6_why 50 = .ok (.iload_n 2, 1) := by decide +kernel
theorem dX6_why_51 : decode cX6_why 51 = .ok (.ifCond .lt 7, 3) := by decide +kernel
theorem dX6_why_54 : decode cX6_why 54 = .ok (.iload_n 2, 1) := by decide +kernel
theorem dX6_why_55 : decode cX6_why 55 = .ok (.goto 8, 3) := by decide +kernel
theorem dX6_why_58 : decode cX6_why 58 = .ok (.iload_n 3, 1) := by decide +kernel
theorem dX6_why_59 : decode cX6_why 59 = .ok (.goto 4, 3) := by decide +kernel
theorem dX6_why_62 : decode cX6_why 62 = .ok (.iconst (-1), 1) := by decide +kernel
theorem dX6_why_63 : decode cX6_why 63 = .ok (.ireturn, 1) := by decide +kernel
theorem dX6_why_64 : decode cX6_why 64 = .ok (.aload_n 0, 1) := by decide +kernel
theorem dX6_why_65 : decode cX6_why 65 = .ok (.invokevirtual 102, 3) := by decide +kernel
theorem dX6_why_68 : decode cX6_why 68 = .ok (.ifCond .ne 13, 3) := by decide +kernel
theorem dX6_why_71 : decode cX6_why 71 = .ok (.iload_n 1, 1) := by decide +kernel
theorem dX6_why_72 : decode cX6_why 72 = .ok (.ifCond .ne 7, 3) := by decide +kernel
theorem dX6_why_75 : decode cX6_why 75 = .ok (.iconst 0, 1) := by decide +kernel
theorem dX6_why_76 : decode cX6_why 76 = .ok (.goto 4, 3) := by decide +kernel
theorem dX6_why_79 : decode cX6_why 79 = .ok (.iconst (-1), 1) := by decide +kernel
theorem dX6_why_80 : decode cX6_why 80 = .ok (.ireturn, 1) := by decide +kernel
theorem dX6_why_81 : decode cX6_why 81 = .ok (.iload_n 1, 1) := by decide +kernel
theorem dX6_why_82 : decode cX6_why 82 = .ok (.ifCond .ne 5, 3) := by decide +kernel
theorem dX6_why_85 : decode cX6_why 85 = .ok (.iconst 3, 1) := by decide +kernel
theorem dX6_why_86 : decode cX6_why 86 = .ok (.ireturn, 1) := by decide +kernel
theorem dX6_why_87 : decode cX6_why 87 = .ok (.iconst 0, 1) := by decide +kernel
theorem dX6_why_88 : decode cX6_why 88 = .ok (.istore 4, 2) := by decide +kernel
theorem dX6_why_90 : decode cX6_why 90 = .ok (.iload 4, 2) := by decide +kernel
theorem dX6_why_92 : decode cX6_why 92 = .ok (.sipush 512, 3) := by decide +kernel
theorem dX6_why_95 : decode cX6_why 95 = .ok (.if_icmp .ge 44, 3) := by decide +kernel
theorem dX6_why_98 : decode cX6_why 98 = .ok (.aload_n 0, 1) := by decide +kernel
theorem dX6_why_99 : decode cX6_why 99 = .ok (.iload 4, 2) := by decide +kernel
theorem dX6_why_101 : decode cX6_why 101 = .ok (.invokevirtual 106, 3) := by decide +kernel
theorem dX6_why_104 : decode cX6_why 104 = .ok (.ifCond .eq 29, 3) := by decide +kernel
theorem dX6_why_107 : decode cX6_why 107 = .ok (.aload_n 0, 1) := by decide +kernel
theorem dX6_why_108 : decode cX6_why 108 = .ok (.iload 4, 2) := by decide +kernel
theorem dX6_why_110 : decode cX6_why 110 = .ok (.invokevirtual 109, 3) := by decide +kernel
theorem dX6_why_113 : decode cX6_why 113 = .ok (.ifCond .lt 20, 3) := by decide +kernel
theorem dX6_why_116 : decode cX6_why 116 = .ok (.iload_n 1, 1) := by decide +kernel
theorem dX6_why_117 : decode cX6_why 117 = .ok (.iconst 1, 1) := by decide +kernel
theorem dX6_why_118 : decode cX6_why 118 = .ok (.if_icmp .ne 8, 3) := by decide +kernel
theorem dX6_why_121 : decode cX6_why 121 = .ok (.iload 4, 2) := by decide +kernel
theorem dX6_why_123 : decode cX6_why 123 = .ok (.goto 9, 3) := by decide +kernel
theorem dX6_why_126 : decode cX6_why 126 = .ok (.aload_n 0, 1) := by decide +kernel
theorem dX6_why_127 : decode cX6_why 127 = .ok (.iload 4, 2) := by decide +kernel
theorem dX6_why_129 : decode cX6_why 129 = .ok (.invokevirtual 109, 3) := by decide +kernel
theorem dX6_why_132 : decode cX6_why 132 = .ok (.ireturn, 1) := by decide +kernel
theorem dX6_why_133 : decode cX6_why 133 = .ok (.iinc 4 1, 3) := by decide +kernel
theorem dX6_why_136 : decode cX6_why 136 = .ok (.goto (-46), 3) := by decide +kernel
theorem dX6_why_139 : decode cX6_why 139 = .ok (.iconst (-1), 1) := by decide +kernel
theorem dX6_why_140 : decode cX6_why 140 = .ok (.ireturn, 1) := by decide +kernel
theorem dX6_beats_0 : decode cX6_beats 0 = .ok (.iconst 0, 1) := by decide +kernel
theorem dX6_beats_1 : decode cX6_beats 1 = .ok (.istore_n 1, 1) := by decide +kernel
theorem dX6_beats_2 : decode cX6_beats 2 = .ok (.iconst 0, 1) := by decide +kernel
theorem dX6_beats_3 : decode cX6_beats 3 = .ok (.istore_n 2, 1) := by decide +kernel
theorem dX6_beats_4 : decode cX6_beats 4 = .ok (.iload_n 2, 1) := by decide +kernel
theorem dX6_beats_5 : decode cX6_beats 5 = .ok (.sipush 512, 3) := by decide +kernel
theorem dX6_beats_8 : decode cX6_beats 8 = .ok (.if_icmp .ge 34, 3) := by decide +kernel
theorem dX6_beats_11 : decode cX6_beats 11 = .ok (.aload_n 0, 1) := by decide +kernel
theorem dX6_beats_12 : decode cX6_beats 12 = .ok (.iload_n 2, 1) := by decide +kernel
theorem dX6_beats_13 : decode cX6_beats 13 = .ok (.invokevirtual 106, 3) := by decide +kernel
theorem dX6_beats_16 : decode cX6_beats 16 = .ok (.ifCond .eq 20, 3) := by decide +kernel
theorem dX6_beats_19 : decode cX6_beats 19 = .ok (.aload_n 0, 1) := by decide +kernel
theorem dX6_beats_20 : decode cX6_beats 20 = .ok (.iload_n 2, 1) := by decide +kernel
theorem dX6_beats_21 : decode cX6_beats 21 = .ok (.invokevirtual 112, 3) := by decide +kernel
theorem dX6_beats_24 : decode cX6_beats 24 = .ok (.istore_n 3, 1) := by decide +kernel
theorem dX6_beats_25 : decode cX6_beats 25 = .ok (.iload_n 3, 1) := by decide +kernel
theorem dX6_beats_26 : decode cX6_beats 26 = .ok (.iload_n 1, 1) := by decide +kernel
theorem dX6_beats_27 : decode cX6_beats 27 = .ok (.if_icmp .le 7, 3) := by decide +kernel
theorem dX6_beats_30 : decode cX6_beats 30 = .ok (.iload_n 3, 1) := by decide +kernel
theorem dX6_beats_31 : decode cX6_beats 31 = .ok (.goto 4, 3) := by decide +kernel
theorem dX6_beats_34 : decode cX6_beats 34 = .ok (.iload_n 1, 1) := by decide +kernel
theorem dX6_beats_35 : decode cX6_beats 35 = .ok (.istore_n 1, 1) := by decide +kernel
theorem dX6_beats_36 : decode cX6_beats 36 = .ok (.iinc 2 1, 3) := by decide +kernel
theorem dX6_beats_39 : decode cX6_beats 39 = .ok (.goto (-35), 3) := by decide +kernel
theorem dX6_beats_42 : decode cX6_beats 42 = .ok (.iload_n 1, 1) := by decide +kernel
theorem dX6_beats_43 : decode cX6_beats 43 = .ok (.iconst 1, 1) := by decide +kernel
theorem dX6_beats_44 : decode cX6_beats 44 = .ok (.iadd, 1) := by decide +kernel
theorem dX6_beats_45 : decode cX6_beats 45 = .ok (.ireturn, 1) := by decide +kernel
theorem dX6_cells_0 : decode cX6_cells 0 = .ok (.iconst 0, 1) := by decide +kernel
theorem dX6_cells_1 : decode cX6_cells 1 = .ok (.istore_n 1, 1) := by decide +kernel
theorem dX6_cells_2 : decode cX6_cells 2 = .ok (.iload_n 1, 1) := by decide +kernel
theorem dX6_cells_3 : decode cX6_cells 3 = .ok (.sipush 4096, 3) := by decide +kernel
theorem dX6_cells_6 : decode cX6_cells 6 = .ok (.if_icmp .ge 16, 3) := by decide +kernel
theorem dX6_cells_9 : decode cX6_cells 9 = .ok (.aload_n 0, 1) := by decide +kernel
theorem dX6_cells_10 : decode cX6_cells 10 = .ok (.getfield 41, 3) := by decide +kernel
theorem dX6_cells_13 : decode cX6_cells 13 = .ok (.iload_n 1, 1) := by decide +kernel
theorem dX6_cells_14 : decode cX6_cells 14 = .ok (.iconst 0, 1) := by decide +kernel
theorem dX6_cells_15 : decode cX6_cells 15 = .ok (.bastore, 1) := by decide +kernel
theorem dX6_cells_16 : decode cX6_cells 16 = .ok (.iinc 1 1, 3) := by decide +kernel
theorem dX6_cells_19 : decode cX6_cells 19 = .ok (.goto (-17), 3) := by decide +kernel
theorem dX6_cells_22 : decode cX6_cells 22 = .ok (.iconst 0, 1) := by decide +kernel
theorem dX6_cells_23 : decode cX6_cells 23 = .ok (.istore_n 1, 1) := by decide +kernel
theorem dX6_cells_24 : decode cX6_cells 24 = .ok (.iconst 0, 1) := by decide +kernel
theorem dX6_cells_25 : decode cX6_cells 25 = .ok (.istore_n 2, 1) := by decide +kernel
theorem dX6_cells_26 : decode cX6_cells 26 = .ok (.iload_n 2, 1) := by decide +kernel
theorem dX6_cells_27 : decode cX6_cells 27 = .ok (.sipush 512, 3) := by decide +kernel
theorem dX6_cells_30 : decode cX6_cells 30 = .ok (.if_icmp .ge 60, 3) := by decide +kernel
theorem dX6_cells_33 : decode cX6_cells 33 = .ok (.aload_n 0, 1) := by decide +kernel
theorem dX6_cells_34 : decode cX6_cells 34 = .ok (.iload_n 2, 1) := by decide +kernel
theorem dX6_cells_35 : decode cX6_cells 35 = .ok (.invokevirtual 106, 3) := by decide +kernel
theorem dX6_cells_38 : decode cX6_cells 38 = .ok (.ifCond .ne 6, 3) := by decide +kernel
theorem dX6_cells_41 : decode cX6_cells 41 = .ok (.goto 43, 3) := by decide +kernel
theorem dX6_cells_44 : decode cX6_cells 44 = .ok (.bipush 64, 2) := by decide +kernel
theorem dX6_cells_46 : decode cX6_cells 46 = .ok (.aload_n 0, 1) := by decide +kernel
theorem dX6_cells_47 : decode cX6_cells 47 = .ok (.iload_n 2, 1) := by decide +kernel
theorem dX6_cells_48 : decode cX6_cells 48 = .ok (.invokevirtual 115, 3) := by decide +kernel
theorem dX6_cells_51 : decode cX6_cells 51 = .ok (.imul, 1) := by decide +kernel
theorem dX6_cells_52 : decode cX6_cells 52 = .ok (.aload_n 0, 1) := by decide +kernel
theorem dX6_cells_53 : decode cX6_cells 53 = .ok (.iconst 2, 1) := by decide +kernel
theorem dX6_cells_54 : decode cX6_cells 54 = .ok (.iload_n 2, 1) := by decide +kernel
theorem dX6_cells_55 : decode cX6_cells 55 = .ok (.invokevirtual 75, 3) := by decide +kernel
theorem dX6_cells_58 : decode cX6_cells 58 = .ok (.iadd, 1) := by decide +kernel
theorem dX6_cells_59 : decode cX6_cells 59 = .ok (.istore_n 3, 1) := by decide +kernel
theorem dX6_cells_60 : decode cX6_cells 60 = .ok (.iload_n 1, 1) := by decide +kernel
theorem dX6_cells_61 : decode cX6_cells 61 = .ok (.aload_n 0, 1) := by decide +kernel
theorem dX6_cells_62 : decode cX6_cells 62 = .ok (.getfield 41, 3) := by decide +kernel
theorem dX6_cells_65 : decode cX6_cells 65 = .ok (.iload_n 3, 1) := by decide +kernel
theorem dX6_cells_66 : decode cX6_cells 66 = .ok (.baload, 1) := by decide +kernel
theorem dX6_cells_67 : decode cX6_cells 67 = .ok (.ifCond .eq 7, 3) := by decide +kernel
theorem dX6_cells_70 : decode cX6_cells 70 = .ok (.iconst 0, 1) := by decide +kernel
theorem dX6_cells_71 : decode cX6_cells 71 = .ok (.goto 4, 3) := by decide +kernel
theorem dX6_cells_74 : decode cX6_cells 74 = .ok (.iconst 1, 1) := by decide +kernel
theorem dX6_cells_75 : decode cX6_cells 75 = .ok (.iadd, 1) := by decide +kernel
theorem dX6_cells_76 : decode cX6_cells 76 = .ok (.istore_n 1, 1) := by decide +kernel
theorem dX6_cells_77 : decode cX6_cells 77 = .ok (.aload_n 0, 1) := by decide +kernel
theorem dX6_cells_78 : decode cX6_cells 78 = .ok (.getfield 41, 3) := by decide +kernel
theorem dX6_cells_81 : decode cX6_cells 81 = .ok (.iload_n 3, 1) := by decide +kernel
theorem dX6_cells_82 : decode cX6_cells 82 = .ok (.iconst 1, 1) := by decide +kernel
theorem dX6_cells_83 : decode cX6_cells 83 = .ok (.bastore, 1) := by decide +kernel
theorem dX6_cells_84 : decode cX6_cells 84 = .ok (.iinc 2 1, 3) := by decide +kernel
theorem dX6_cells_87 : decode cX6_cells 87 = .ok (.goto (-61), 3) := by decide +kernel
theorem dX6_cells_90 : decode cX6_cells 90 = .ok (.iload_n 1, 1) := by decide +kernel
theorem dX6_cells_91 : decode cX6_cells 91 = .ok (.ireturn, 1) := by decide +kernel
theorem dX6_apart_0 : decode cX6_apart 0 = .ok (.iconst 0, 1) := by decide +kernel
theorem dX6_apart_1 : decode cX6_apart 1 = .ok (.istore_n 1, 1) := by decide +kernel
theorem dX6_apart_2 : decode cX6_apart 2 = .ok (.iload_n 1, 1) := by decide +kernel
theorem dX6_apart_3 : decode cX6_apart 3 = .ok (.sipush 1024, 3) := by decide +kernel
theorem dX6_apart_6 : decode cX6_apart 6 = .ok (.if_icmp .ge 16, 3) := by decide +kernel
theorem dX6_apart_9 : decode cX6_apart 9 = .ok (.aload_n 0, 1) := by decide +kernel
theorem dX6_apart_10 : decode cX6_apart 10 = .ok (.getfield 45, 3) := by decide +kernel
theorem dX6_apart_13 : decode cX6_apart 13 = .ok (.iload_n 1, 1) := by decide +kernel
theorem dX6_apart_14 : decode cX6_apart 14 = .ok (.iconst 0, 1) := by decide +kernel
theorem dX6_apart_15 : decode cX6_apart 15 = .ok (.bastore, 1) := by decide +kernel
theorem dX6_apart_16 : decode cX6_apart 16 = .ok (.iinc 1 1, 3) := by decide +kernel
theorem dX6_apart_19 : decode cX6_apart 19 = .ok (.goto (-17), 3) := by decide +kernel
theorem dX6_apart_22 : decode cX6_apart 22 = .ok (.iconst 0, 1) := by decide +kernel
theorem dX6_apart_23 : decode cX6_apart 23 = .ok (.istore_n 1, 1) := by decide +kernel
theorem dX6_apart_24 : decode cX6_apart 24 = .ok (.iload_n 1, 1) := by decide +kernel
theorem dX6_apart_25 : decode cX6_apart 25 = .ok (.sipush 512, 3) := by decide +kernel
theorem dX6_apart_28 : decode cX6_apart 28 = .ok (.if_icmp .ge 86, 3) := by decide +kernel
theorem dX6_apart_31 : decode cX6_apart 31 = .ok (.iconst 0, 1) := by decide +kernel
theorem dX6_apart_32 : decode cX6_apart 32 = .ok (.istore_n 2, 1) := by decide +kernel
theorem dX6_apart_33 : decode cX6_apart 33 = .ok (.iload_n 2, 1) := by decide +kernel
theorem dX6_apart_34 : decode cX6_apart 34 = .ok (.iload_n 1, 1) := by decide +kernel
theorem dX6_apart_35 : decode cX6_apart 35 = .ok (.if_icmp .ge 73, 3) := by decide +kernel
theorem dX6_apart_38 : decode cX6_apart 38 = .ok (.aload_n 0, 1) := by decide +kernel
theorem dX6_apart_39 : decode cX6_apart 39 = .ok (.iload_n 1, 1) := by decide +kernel
theorem dX6_apart_40 : decode cX6_apart 40 = .ok (.invokevirtual 106, 3) := by decide +kernel
theorem dX6_apart_43 : decode cX6_apart 43 = .ok (.ifCond .eq 65, 3) := by decide +kernel
theorem dX6_apart_46 : decode cX6_apart 46 = .ok (.aload_n 0, 1) := by decide +kernel
theorem dX6_apart_47 : decode cX6_apart 47 = .ok (.iload_n 2, 1) := by decide +kernel
theorem dX6_apart_48 : decode cX6_apart 48 = .ok (.invokevirtual 106, 3) := by decide +kernel
theorem dX6_apart_51 : decode cX6_apart 51 = .ok (.ifCond .eq 51, 3) := by decide +kernel
theorem dX6_apart_54 : decode cX6_apart 54 = .ok (.aload_n 0, 1) := by decide +kernel
theorem dX6_apart_55 : decode cX6_apart 55 = .ok (.iload_n 1, 1) := by decide +kernel
theorem dX6_apart_56 : decode cX6_apart 56 = .ok (.invokevirtual 115, 3) := by decide +kernel
theorem dX6_apart_59 : decode cX6_apart 59 = .ok (.aload_n 0, 1) := by decide +kernel
theorem dX6_apart_60 : decode cX6_apart 60 = .ok (.iload_n 2, 1) := by decide +kernel
theorem dX6_apart_61 : decode cX6_apart 61 = .ok (.invokevirtual 115, 3) := by decide +kernel
theorem dX6_apart_64 : decode cX6_apart 64 = .ok (.if_icmp .ne 38, 3) := by decide +kernel
theorem dX6_apart_67 : decode cX6_apart 67 = .ok (.aload_n 0, 1) := by decide +kernel
theorem dX6_apart_68 : decode cX6_apart 68 = .ok (.iconst 2, 1) := by decide +kernel
theorem dX6_apart_69 : decode cX6_apart 69 = .ok (.iload_n 1, 1) := by decide +kernel
theorem dX6_apart_70 : decode cX6_apart 70 = .ok (.invokevirtual 75, 3) := by decide +kernel
theorem dX6_apart_73 : decode cX6_apart 73 = .ok (.aload_n 0, 1) := by decide +kernel
theorem dX6_apart_74 : decode cX6_apart 74 = .ok (.iconst 2, 1) := by decide +kernel
theorem dX6_apart_75 : decode cX6_apart 75 = .ok (.iload_n 2, 1) := by decide +kernel
theorem dX6_apart_76 : decode cX6_apart 76 = .ok (.invokevirtual 75, 3) := by decide +kernel
theorem dX6_apart_79 : decode cX6_apart 79 = .ok (.if_icmp .ne 23, 3) := by decide +kernel
theorem dX6_apart_82 : decode cX6_apart 82 = .ok (.aload_n 0, 1) := by decide +kernel
theorem dX6_apart_83 : decode cX6_apart 83 = .ok (.getfield 45, 3) := by decide +kernel
theorem dX6_apart_86 : decode cX6_apart 86 = .ok (.aload_n 0, 1) := by decide +kernel
theorem dX6_apart_87 : decode cX6_apart 87 = .ok (.iload_n 1, 1) := by decide +kernel
theorem dX6_apart_88 : decode cX6_apart 88 = .ok (.invokevirtual 112, 3) := by decide +kernel
theorem dX6_apart_91 : decode cX6_apart 91 = .ok (.aload_n 0, 1) := by decide +kernel
theorem dX6_apart_92 : decode cX6_apart 92 = .ok (.iload_n 2, 1) := by decide +kernel
theorem dX6_apart_93 : decode cX6_apart 93 = .ok (.invokevirtual 112, 3) := by decide +kernel
theorem dX6_apart_96 : decode cX6_apart 96 = .ok (.isub, 1) := by decide +kernel
theorem dX6_apart_97 : decode cX6_apart 97 = .ok (.invokestatic 82, 3) := by decide +kernel
theorem dX6_apart_100 : decode cX6_apart 100 = .ok (.iconst 1, 1) := by decide +kernel
theorem dX6_apart_101 : decode cX6_apart 101 = .ok (.bastore, 1) := by decide +kernel
theorem dX6_apart_102 : decode cX6_apart 102 = .ok (.iinc 2 1, 3) := by decide +kernel
theorem dX6_apart_105 : decode cX6_apart 105 = .ok (.goto (-72), 3) := by decide +kernel
theorem dX6_apart_108 : decode cX6_apart 108 = .ok (.iinc 1 1, 3) := by decide +kernel
theorem dX6_apart_111 : decode cX6_apart 111 = .ok (.goto (-87), 3) := by decide +kernel
theorem dX6_apart_114 : decode cX6_apart 114 = .ok (.aload_n 0, 1) := by decide +kernel
theorem dX6_apart_115 : decode cX6_apart 115 = .ok (.getfield 45, 3) := by decide +kernel
theorem dX6_apart_118 : decode cX6_apart 118 = .ok (.iconst 0, 1) := by decide +kernel
theorem dX6_apart_119 : decode cX6_apart 119 = .ok (.baload, 1) := by decide +kernel
theorem dX6_apart_120 : decode cX6_apart 120 = .ok (.ifCond .eq 5, 3) := by decide +kernel
theorem dX6_apart_123 : decode cX6_apart 123 = .ok (.iconst (-1), 1) := by decide +kernel
theorem dX6_apart_124 : decode cX6_apart 124 = .ok (.ireturn, 1) := by decide +kernel
theorem dX6_apart_125 : decode cX6_apart 125 = .ok (.iconst 1, 1) := by decide +kernel
theorem dX6_apart_126 : decode cX6_apart 126 = .ok (.istore_n 1, 1) := by decide +kernel
theorem dX6_apart_127 : decode cX6_apart 127 = .ok (.aload_n 0, 1) := by decide +kernel
theorem dX6_apart_128 : decode cX6_apart 128 = .ok (.iload_n 1, 1) := by decide +kernel
theorem dX6_apart_129 : decode cX6_apart 129 = .ok (.invokevirtual 118, 3) := by decide +kernel
theorem dX6_apart_132 : decode cX6_apart 132 = .ok (.ifCond .eq 9, 3) := by decide +kernel
theorem dX6_apart_135 : decode cX6_apart 135 = .ok (.iinc 1 1, 3) := by decide +kernel
theorem dX6_apart_138 : decode cX6_apart 138 = .ok (.goto (-11), 3) := by decide +kernel
theorem dX6_apart_141 : decode cX6_apart 141 = .ok (.iload_n 1, 1) := by decide +kernel
theorem dX6_apart_142 : decode cX6_apart 142 = .ok (.ireturn, 1) := by decide +kernel
theorem dX6_divides_0 : decode cX6_divides 0 = .ok (.iconst 0, 1) := by decide +kernel
theorem dX6_divides_1 : decode cX6_divides 1 = .ok (.istore_n 2, 1) := by decide +kernel
theorem dX6_divides_2 : decode cX6_divides 2 = .ok (.iload_n 1, 1) := by decide +kernel
theorem dX6_divides_3 : decode cX6_divides 3 = .ok (.istore_n 3, 1) := by decide +kernel
theorem dX6_divides_4 : decode cX6_divides 4 = .ok (.iload_n 3, 1) := by decide +kernel
theorem dX6_divides_5 : decode cX6_divides 5 = .ok (.sipush 1024, 3) := by decide +kernel
theorem dX6_divides_8 : decode cX6_divides 8 = .ok (.if_icmp .ge 29, 3) := by decide +kernel
theorem dX6_divides_11 : decode cX6_divides 11 = .ok (.iload_n 2, 1) := by decide +kernel
theorem dX6_divides_12 : decode cX6_divides 12 = .ok (.ifCond .ne 12, 3) := by decide +kernel
theorem dX6_divides_15 : decode cX6_divides 15 = .ok (.aload_n 0, 1) := by decide +kernel
theorem dX6_divides_16 : decode cX6_divides 16 = .ok (.getfield 45, 3) := by decide +kernel
theorem dX6_divides_19 : decode cX6_divides 19 = .ok (.iload_n 3, 1) := by decide +kernel
theorem dX6_divides_20 : decode cX6_divides 20 = .ok (.baload, 1) := by decide +kernel
theorem dX6_divides_21 : decode cX6_divides 21 = .ok (.ifCond .eq 7, 3) := by decide +kernel
theorem dX6_divides_24 : decode cX6_divides 24 = .ok (.iconst 1, 1) := by decide +kernel
theorem dX6_divides_25 : decode cX6_divides 25 = .ok (.goto 4, 3) := by decide +kernel
theorem dX6_divides_28 : decode cX6_divides 28 = .ok (.iconst 0, 1) := by decide +kernel
theorem dX6_divides_29 : decode cX6_divides 29 = .ok (.istore_n 2, 1) := by decide +kernel
theorem dX6_divides_30 : decode cX6_divides 30 = .ok (.iload_n 3, 1) := by decide +kernel
theorem dX6_divides_31 : decode cX6_divides 31 = .ok (.iload_n 1, 1) := by decide +kernel
theorem dX6_divides_32 : decode cX6_divides 32 = .ok (.iadd, 1) := by decide +kernel
theorem dX6_divides_33 : decode cX6_divides 33 = .ok (.istore_n 3, 1) := by decide +kernel
theorem dX6_divides_34 : decode cX6_divides 34 = .ok (.goto (-30), 3) := by decide +kernel
theorem dX6_divides_37 : decode cX6_divides 37 = .ok (.iload_n 2, 1) := by decide +kernel
theorem dX6_divides_38 : decode cX6_divides 38 = .ok (.ireturn, 1) := by decide +kernel
theorem dX6_laid_0 : decode cX6_laid 0 = .ok (.iload_n 1, 1) := by decide +kernel
theorem dX6_laid_1 : decode cX6_laid 1 = .ok (.tableswitch 65 0 3 #[31, 36, 41, 60], 31) := by decide +kernel
theorem dX6_laid_32 : decode cX6_laid 32 = .ok (.aload_n 0, 1) := by decide +kernel
theorem dX6_laid_33 : decode cX6_laid 33 = .ok (.invokevirtual 121, 3) := by decide +kernel
theorem dX6_laid_36 : decode cX6_laid 36 = .ok (.ireturn, 1) := by decide +kernel
theorem dX6_laid_37 : decode cX6_laid 37 = .ok (.aload_n 0, 1) := by decide +kernel
theorem dX6_laid_38 : decode cX6_laid 38 = .ok (.invokevirtual 124, 3) := by decide +kernel
theorem dX6_laid_41 : decode cX6_laid 41 = .ok (.ireturn, 1) := by decide +kernel
theorem dX6_laid_42 : decode cX6_laid 42 = .ok (.sipush 1000, 3) := by decide +kernel
theorem dX6_laid_45 : decode cX6_laid 45 = .ok (.aload_n 0, 1) := by decide +kernel
theorem dX6_laid_46 : decode cX6_laid 46 = .ok (.invokevirtual 127, 3) := by decide +kernel
theorem dX6_laid_49 : decode cX6_laid 49 = .ok (.imul, 1) := by decide +kernel
theorem dX6_laid_50 : decode cX6_laid 50 = .ok (.aload_n 0, 1) := by decide +kernel
theorem dX6_laid_51 : decode cX6_laid 51 = .ok (.invokevirtual 121, 3) := by decide +kernel
theorem dX6_laid_54 : decode cX6_laid 54 = .ok (.aload_n 0, 1) := by decide +kernel
theorem dX6_laid_55 : decode cX6_laid 55 = .ok (.invokevirtual 124, 3) := by decide +kernel
theorem dX6_laid_58 : decode cX6_laid 58 = .ok (.imul, 1) := by decide +kernel
theorem dX6_laid_59 : decode cX6_laid 59 = .ok (.idiv, 1) := by decide +kernel
theorem dX6_laid_60 : decode cX6_laid 60 = .ok (.ireturn, 1) := by decide +kernel
theorem dX6_laid_61 : decode cX6_laid 61 = .ok (.aload_n 0, 1) := by decide +kernel
theorem dX6_laid_62 : decode cX6_laid 62 = .ok (.invokevirtual 130, 3) := by decide +kernel
theorem dX6_laid_65 : decode cX6_laid 65 = .ok (.ireturn, 1) := by decide +kernel
theorem dX6_laid_66 : decode cX6_laid 66 = .ok (.iconst (-1), 1) := by decide +kernel
theorem dX6_laid_67 : decode cX6_laid 67 = .ok (.ireturn, 1) := by decide +kernel
theorem dX6_where_0 : decode cX6_where 0 = .ok (.aload_n 0, 1) := by decide +kernel
theorem dX6_where_1 : decode cX6_where 1 = .ok (.iload_n 1, 1) := by decide +kernel
theorem dX6_where_2 : decode cX6_where 2 = .ok (.iload_n 2, 1) := by decide +kernel
theorem dX6_where_3 : decode cX6_where 3 = .ok (.iload_n 3, 1) := by decide +kernel
theorem dX6_where_4 : decode cX6_where 4 = .ok (.invokevirtual 61, 3) := by decide +kernel
theorem dX6_where_7 : decode cX6_where 7 = .ok (.ifCond .ne 5, 3) := by decide +kernel
theorem dX6_where_10 : decode cX6_where 10 = .ok (.iconst (-1), 1) := by decide +kernel
theorem dX6_where_11 : decode cX6_where 11 = .ok (.ireturn, 1) := by decide +kernel
theorem dX6_where_12 : decode cX6_where 12 = .ok (.bipush 64, 2) := by decide +kernel
theorem dX6_where_14 : decode cX6_where 14 = .ok (.iload_n 1, 1) := by decide +kernel
theorem dX6_where_15 : decode cX6_where 15 = .ok (.imul, 1) := by decide +kernel
theorem dX6_where_16 : decode cX6_where 16 = .ok (.bipush 8, 2) := by decide +kernel
theorem dX6_where_18 : decode cX6_where 18 = .ok (.iload_n 2, 1) := by decide +kernel
theorem dX6_where_19 : decode cX6_where 19 = .ok (.imul, 1) := by decide +kernel
theorem dX6_where_20 : decode cX6_where 20 = .ok (.iadd, 1) := by decide +kernel
theorem dX6_where_21 : decode cX6_where 21 = .ok (.iload_n 3, 1) := by decide +kernel
theorem dX6_where_22 : decode cX6_where 22 = .ok (.iadd, 1) := by decide +kernel
theorem dX6_where_23 : decode cX6_where 23 = .ok (.istore 5, 2) := by decide +kernel
theorem dX6_where_25 : decode cX6_where 25 = .ok (.iload 4, 2) := by decide +kernel
theorem dX6_where_27 : decode cX6_where 27 = .ok (.ifCond .ne 12, 3) := by decide +kernel
theorem dX6_where_30 : decode cX6_where 30 = .ok (.aload_n 0, 1) := by decide +kernel
theorem dX6_where_31 : decode cX6_where 31 = .ok (.iload 5, 2) := by decide +kernel
theorem dX6_where_33 : decode cX6_where 33 = .ok (.invokevirtual 112, 3) := by decide +kernel
theorem dX6_where_36 : decode cX6_where 36 = .ok (.goto 35, 3) := by decide +kernel
theorem dX6_where_39 : decode cX6_where 39 = .ok (.iload 4, 2) := by decide +kernel
theorem dX6_where_41 : decode cX6_where 41 = .ok (.iconst 1, 1) := by decide +kernel
theorem dX6_where_42 : decode cX6_where 42 = .ok (.if_icmp .ne 12, 3) := by decide +kernel
theorem dX6_where_45 : decode cX6_where 45 = .ok (.aload_n 0, 1) := by decide +kernel
theorem dX6_where_46 : decode cX6_where 46 = .ok (.iload 5, 2) := by decide +kernel
theorem dX6_where_48 : decode cX6_where 48 = .ok (.invokevirtual 115, 3) := by decide +kernel
theorem dX6_where_51 : decode cX6_where 51 = .ok (.goto 20, 3) := by decide +kernel
theorem dX6_where_54 : decode cX6_where 54 = .ok (.iload 4, 2) := by decide +kernel
theorem dX6_where_56 : decode cX6_where 56 = .ok (.iconst 2, 1) := by decide +kernel
theorem dX6_where_57 : decode cX6_where 57 = .ok (.if_icmp .ne 13, 3) := by decide +kernel
theorem dX6_where_60 : decode cX6_where 60 = .ok (.aload_n 0, 1) := by decide +kernel
theorem dX6_where_61 : decode cX6_where 61 = .ok (.iconst 2, 1) := by decide +kernel
theorem dX6_where_62 : decode cX6_where 62 = .ok (.iload 5, 2) := by decide +kernel
theorem dX6_where_64 : decode cX6_where 64 = .ok (.invokevirtual 75, 3) := by decide +kernel
theorem dX6_where_67 : decode cX6_where 67 = .ok (.goto 4, 3) := by decide +kernel
theorem dX6_where_70 : decode cX6_where 70 = .ok (.iconst (-1), 1) := by decide +kernel
theorem dX6_where_71 : decode cX6_where 71 = .ok (.ireturn, 1) := by decide +kernel
theorem dX6_needs_0 : decode cX6_needs 0 = .ok (.aload_n 0, 1) := by decide +kernel
theorem dX6_needs_1 : decode cX6_needs 1 = .ok (.iload_n 1, 1) := by decide +kernel
theorem dX6_needs_2 : decode cX6_needs 2 = .ok (.invokevirtual 71, 3) := by decide +kernel
theorem dX6_needs_5 : decode cX6_needs 5 = .ok (.ifCond .ne 7, 3) := by decide +kernel
theorem dX6_needs_8 : decode cX6_needs 8 = .ok (.sipush (-1000), 3) := by decide +kernel
theorem dX6_needs_11 : decode cX6_needs 11 = .ok (.ireturn, 1) := by decide +kernel
theorem dX6_needs_12 : decode cX6_needs 12 = .ok (.iload_n 2, 1) := by decide +kernel
theorem dX6_needs_13 : decode cX6_needs 13 = .ok (.ifCond .ne 11, 3) := by decide +kernel
theorem dX6_needs_16 : decode cX6_needs 16 = .ok (.aload_n 0, 1) := by decide +kernel
theorem dX6_needs_17 : decode cX6_needs 17 = .ok (.iload_n 1, 1) := by decide +kernel
theorem dX6_needs_18 : decode cX6_needs 18 = .ok (.invokevirtual 89, 3) := by decide +kernel
theorem dX6_needs_21 : decode cX6_needs 21 = .ok (.goto 40, 3) := by decide +kernel
theorem dX6_needs_24 : decode cX6_needs 24 = .ok (.iload_n 2, 1) := by decide +kernel
theorem dX6_needs_25 : decode cX6_needs 25 = .ok (.iconst 1, 1) := by decide +kernel
theorem dX6_needs_26 : decode cX6_needs 26 = .ok (.if_icmp .ne 11, 3) := by decide +kernel
theorem dX6_needs_29 : decode cX6_needs 29 = .ok (.aload_n 0, 1) := by decide +kernel
theorem dX6_needs_30 : decode cX6_needs 30 = .ok (.iload_n 1, 1) := by decide +kernel
theorem dX6_needs_31 : decode cX6_needs 31 = .ok (.invokevirtual 92, 3) := by decide +kernel
theorem dX6_needs_34 : decode cX6_needs 34 = .ok (.goto 27, 3) := by decide +kernel
theorem dX6_needs_37 : decode cX6_needs 37 = .ok (.iload_n 2, 1) := by decide +kernel
theorem dX6_needs_38 : decode cX6_needs 38 = .ok (.iconst 2, 1) := by decide +kernel
theorem dX6_needs_39 : decode cX6_needs 39 = .ok (.if_icmp .ne 19, 3) := by decide +kernel
theorem dX6_needs_42 : decode cX6_needs 42 = .ok (.aload_n 0, 1) := by decide +kernel
theorem dX6_needs_43 : decode cX6_needs 43 = .ok (.iload_n 1, 1) := by decide +kernel
theorem dX6_needs_44 : decode cX6_needs 44 = .ok (.invokevirtual 86, 3) := by decide +kernel
theorem dX6_needs_47 : decode cX6_needs 47 = .ok (.ifCond .eq 7, 3) := by decide +kernel
theorem dX6_needs_50 : decode cX6_needs 50 = .ok (.iconst 1, 1) := by decide +kernel
theorem dX6_needs_51 : decode cX6_needs 51 = .ok (.goto 10, 3) := by decide +kernel
theorem dX6_needs_54 : decode cX6_needs 54 = .ok (.iconst 0, 1) := by decide +kernel
theorem dX6_needs_55 : decode cX6_needs 55 = .ok (.goto 6, 3) := by decide +kernel
theorem dX6_needs_58 : decode cX6_needs 58 = .ok (.sipush (-1000), 3) := by decide +kernel
theorem dX6_needs_61 : decode cX6_needs 61 = .ok (.ireturn, 1) := by decide +kernel
theorem dX6_numbers_0 : decode cX6_numbers 0 = .ok (.iconst 2, 1) := by decide +kernel
theorem dX6_numbers_1 : decode cX6_numbers 1 = .ok (.iload_n 3, 1) := by decide +kernel
theorem dX6_numbers_2 : decode cX6_numbers 2 = .ok (.imul, 1) := by decide +kernel
theorem dX6_numbers_3 : decode cX6_numbers 3 = .ok (.iconst 1, 1) := by decide +kernel
theorem dX6_numbers_4 : decode cX6_numbers 4 = .ok (.iadd, 1) := by decide +kernel
theorem dX6_numbers_5 : decode cX6_numbers 5 = .ok (.istore 4, 2) := by decide +kernel
theorem dX6_numbers_7 : decode cX6_numbers 7 = .ok (.aload_n 0, 1) := by decide +kernel
theorem dX6_numbers_8 : decode cX6_numbers 8 = .ok (.getfield 28, 3) := by decide +kernel
theorem dX6_numbers_11 : decode cX6_numbers 11 = .ok (.iconst 3, 1) := by decide +kernel
theorem dX6_numbers_12 : decode cX6_numbers 12 = .ok (.iload_n 1, 1) := by decide +kernel
theorem dX6_numbers_13 : decode cX6_numbers 13 = .ok (.imul, 1) := by decide +kernel
theorem dX6_numbers_14 : decode cX6_numbers 14 = .ok (.iload_n 2, 1) := by decide +kernel
theorem dX6_numbers_15 : decode cX6_numbers 15 = .ok (.iload 4, 2) := by decide +kernel
theorem dX6_numbers_17 : decode cX6_numbers 17 = .ok (.idiv, 1) := by decide +kernel
end
section
theorem dX6_numbers_18 : decode cX6_numbers 18 = .ok (.iload 4, 2) := by decide +kernel
theorem dX6_numbers_20 : decode cX6_numbers 20 = .ok (.idiv, 1) := by decide +kernel
theorem dX6_numbers_21 : decode cX6_numbers 21 = .ok (.iload_n 3, 1) := by decide +kernel
theorem dX6_numbers_22 : decode cX6_numbers 22 = .ok (.isub, 1) := by decide +kernel
theorem dX6_numbers_23 : decode cX6_numbers 23 = .ok (.iastore, 1) := by decide +kernel
theorem dX6_numbers_24 : decode cX6_numbers 24 = .ok (.aload_n 0, 1) := by decide +kernel
theorem dX6_numbers_25 : decode cX6_numbers 25 = .ok (.getfield 28, 3) := by decide +kernel
theorem dX6_numbers_28 : decode cX6_numbers 28 = .ok (.iconst 3, 1) := by decide +kernel
theorem dX6_numbers_29 : decode cX6_numbers 29 = .ok (.iload_n 1, 1) := by decide +kernel
theorem dX6_numbers_30 : decode cX6_numbers 30 = .ok (.imul, 1) := by decide +kernel
theorem dX6_numbers_31 : decode cX6_numbers 31 = .ok (.iconst 1, 1) := by decide +kernel
theorem dX6_numbers_32 : decode cX6_numbers 32 = .ok (.iadd, 1) := by decide +kernel
theorem dX6_numbers_33 : decode cX6_numbers 33 = .ok (.iload_n 2, 1) := by decide +kernel
theorem dX6_numbers_34 : decode cX6_numbers 34 = .ok (.iload 4, 2) := by decide +kernel
theorem dX6_numbers_36 : decode cX6_numbers 36 = .ok (.idiv, 1) := by decide +kernel
theorem dX6_numbers_37 : decode cX6_numbers 37 = .ok (.iload 4, 2) := by decide +kernel
theorem dX6_numbers_39 : decode cX6_numbers 39 = .ok (.irem, 1) := by decide +kernel
theorem dX6_numbers_40 : decode cX6_numbers 40 = .ok (.iload_n 3, 1) := by decide +kernel
theorem dX6_numbers_41 : decode cX6_numbers 41 = .ok (.isub, 1) := by decide +kernel
theorem dX6_numbers_42 : decode cX6_numbers 42 = .ok (.iastore, 1) := by decide +kernel
theorem dX6_numbers_43 : decode cX6_numbers 43 = .ok (.aload_n 0, 1) := by decide +kernel
theorem dX6_numbers_44 : decode cX6_numbers 44 = .ok (.getfield 28, 3) := by decide +kernel
theorem dX6_numbers_47 : decode cX6_numbers 47 = .ok (.iconst 3, 1) := by decide +kernel
theorem dX6_numbers_48 : decode cX6_numbers 48 = .ok (.iload_n 1, 1) := by decide +kernel
theorem dX6_numbers_49 : decode cX6_numbers 49 = .ok (.imul, 1) := by decide +kernel
theorem dX6_numbers_50 : decode cX6_numbers 50 = .ok (.iconst 2, 1) := by decide +kernel
theorem dX6_numbers_51 : decode cX6_numbers 51 = .ok (.iadd, 1) := by decide +kernel
theorem dX6_numbers_52 : decode cX6_numbers 52 = .ok (.iload_n 2, 1) := by decide +kernel
theorem dX6_numbers_53 : decode cX6_numbers 53 = .ok (.iload 4, 2) := by decide +kernel
theorem dX6_numbers_55 : decode cX6_numbers 55 = .ok (.irem, 1) := by decide +kernel
theorem dX6_numbers_56 : decode cX6_numbers 56 = .ok (.iload_n 3, 1) := by decide +kernel
theorem dX6_numbers_57 : decode cX6_numbers 57 = .ok (.isub, 1) := by decide +kernel
theorem dX6_numbers_58 : decode cX6_numbers 58 = .ok (.iastore, 1) := by decide +kernel
theorem dX6_numbers_59 : decode cX6_numbers 59 = .ok (.return_, 1) := by decide +kernel
theorem dX6_best_0 : decode cX6_best 0 = .ok (.iload_n 1, 1) := by decide +kernel
theorem dX6_best_1 : decode cX6_best 1 = .ok (.iconst 1, 1) := by decide +kernel
theorem dX6_best_2 : decode cX6_best 2 = .ok (.iconst 2, 1) := by decide +kernel
theorem dX6_best_3 : decode cX6_best 3 = .ok (.invokestatic 54, 3) := by decide +kernel
theorem dX6_best_6 : decode cX6_best 6 = .ok (.ifCond .eq 22, 3) := by decide +kernel
theorem dX6_best_9 : decode cX6_best 9 = .ok (.iload_n 2, 1) := by decide +kernel
theorem dX6_best_10 : decode cX6_best 10 = .ok (.iconst 1, 1) := by decide +kernel
theorem dX6_best_11 : decode cX6_best 11 = .ok (.iconst 2, 1) := by decide +kernel
theorem dX6_best_12 : decode cX6_best 12 = .ok (.invokestatic 54, 3) := by decide +kernel
theorem dX6_best_15 : decode cX6_best 15 = .ok (.ifCond .eq 13, 3) := by decide +kernel
theorem dX6_best_18 : decode cX6_best 18 = .ok (.iload_n 1, 1) := by decide +kernel
theorem dX6_best_19 : decode cX6_best 19 = .ok (.iconst 2, 1) := by decide +kernel
theorem dX6_best_20 : decode cX6_best 20 = .ok (.if_icmp .ne 10, 3) := by decide +kernel
theorem dX6_best_23 : decode cX6_best 23 = .ok (.iload_n 2, 1) := by decide +kernel
theorem dX6_best_24 : decode cX6_best 24 = .ok (.iconst 2, 1) := by decide +kernel
theorem dX6_best_25 : decode cX6_best 25 = .ok (.if_icmp .ne 5, 3) := by decide +kernel
theorem dX6_best_28 : decode cX6_best 28 = .ok (.iconst (-1), 1) := by decide +kernel
theorem dX6_best_29 : decode cX6_best 29 = .ok (.ireturn, 1) := by decide +kernel
theorem dX6_best_30 : decode cX6_best 30 = .ok (.iconst 2, 1) := by decide +kernel
theorem dX6_best_31 : decode cX6_best 31 = .ok (.iload_n 1, 1) := by decide +kernel
theorem dX6_best_32 : decode cX6_best 32 = .ok (.imul, 1) := by decide +kernel
theorem dX6_best_33 : decode cX6_best 33 = .ok (.iconst 1, 1) := by decide +kernel
theorem dX6_best_34 : decode cX6_best 34 = .ok (.iadd, 1) := by decide +kernel
theorem dX6_best_35 : decode cX6_best 35 = .ok (.iconst 2, 1) := by decide +kernel
theorem dX6_best_36 : decode cX6_best 36 = .ok (.iload_n 1, 1) := by decide +kernel
theorem dX6_best_37 : decode cX6_best 37 = .ok (.imul, 1) := by decide +kernel
theorem dX6_best_38 : decode cX6_best 38 = .ok (.iconst 1, 1) := by decide +kernel
theorem dX6_best_39 : decode cX6_best 39 = .ok (.iadd, 1) := by decide +kernel
theorem dX6_best_40 : decode cX6_best 40 = .ok (.imul, 1) := by decide +kernel
theorem dX6_best_41 : decode cX6_best 41 = .ok (.iconst 2, 1) := by decide +kernel
theorem dX6_best_42 : decode cX6_best 42 = .ok (.iload_n 1, 1) := by decide +kernel
theorem dX6_best_43 : decode cX6_best 43 = .ok (.imul, 1) := by decide +kernel
theorem dX6_best_44 : decode cX6_best 44 = .ok (.iconst 1, 1) := by decide +kernel
theorem dX6_best_45 : decode cX6_best 45 = .ok (.iadd, 1) := by decide +kernel
theorem dX6_best_46 : decode cX6_best 46 = .ok (.imul, 1) := by decide +kernel
theorem dX6_best_47 : decode cX6_best 47 = .ok (.istore_n 3, 1) := by decide +kernel
theorem dX6_best_48 : decode cX6_best 48 = .ok (.iload_n 3, 1) := by decide +kernel
theorem dX6_best_49 : decode cX6_best 49 = .ok (.iconst 2, 1) := by decide +kernel
theorem dX6_best_50 : decode cX6_best 50 = .ok (.idiv, 1) := by decide +kernel
theorem dX6_best_51 : decode cX6_best 51 = .ok (.istore 4, 2) := by decide +kernel
theorem dX6_best_53 : decode cX6_best 53 = .ok (.aload_n 0, 1) := by decide +kernel
theorem dX6_best_54 : decode cX6_best 54 = .ok (.getfield 31, 3) := by decide +kernel
theorem dX6_best_57 : decode cX6_best 57 = .ok (.istore 5, 2) := by decide +kernel
theorem dX6_best_59 : decode cX6_best 59 = .ok (.iconst 0, 1) := by decide +kernel
theorem dX6_best_60 : decode cX6_best 60 = .ok (.istore 6, 2) := by decide +kernel
theorem dX6_best_62 : decode cX6_best 62 = .ok (.iload 6, 2) := by decide +kernel
theorem dX6_best_64 : decode cX6_best 64 = .ok (.bipush 9, 2) := by decide +kernel
theorem dX6_best_66 : decode cX6_best 66 = .ok (.if_icmp .ge 23, 3) := by decide +kernel
theorem dX6_best_69 : decode cX6_best 69 = .ok (.aload_n 0, 1) := by decide +kernel
theorem dX6_best_70 : decode cX6_best 70 = .ok (.getfield 48, 3) := by decide +kernel
theorem dX6_best_73 : decode cX6_best 73 = .ok (.iload 6, 2) := by decide +kernel
theorem dX6_best_75 : decode cX6_best 75 = .ok (.aload_n 0, 1) := by decide +kernel
theorem dX6_best_76 : decode cX6_best 76 = .ok (.getfield 28, 3) := by decide +kernel
theorem dX6_best_79 : decode cX6_best 79 = .ok (.iload 6, 2) := by decide +kernel
theorem dX6_best_81 : decode cX6_best 81 = .ok (.iaload, 1) := by decide +kernel
theorem dX6_best_82 : decode cX6_best 82 = .ok (.iastore, 1) := by decide +kernel
theorem dX6_best_83 : decode cX6_best 83 = .ok (.iinc 6 1, 3) := by decide +kernel
theorem dX6_best_86 : decode cX6_best 86 = .ok (.goto (-24), 3) := by decide +kernel
theorem dX6_best_89 : decode cX6_best 89 = .ok (.aload_n 0, 1) := by decide +kernel
theorem dX6_best_90 : decode cX6_best 90 = .ok (.iconst 1, 1) := by decide +kernel
theorem dX6_best_91 : decode cX6_best 91 = .ok (.putfield 31, 3) := by decide +kernel
theorem dX6_best_94 : decode cX6_best 94 = .ok (.iconst (-1), 1) := by decide +kernel
theorem dX6_best_95 : decode cX6_best 95 = .ok (.istore 6, 2) := by decide +kernel
theorem dX6_best_97 : decode cX6_best 97 = .ok (.iconst 0, 1) := by decide +kernel
theorem dX6_best_98 : decode cX6_best 98 = .ok (.istore 7, 2) := by decide +kernel
theorem dX6_best_100 : decode cX6_best 100 = .ok (.aload_n 0, 1) := by decide +kernel
theorem dX6_best_101 : decode cX6_best 101 = .ok (.iconst 2, 1) := by decide +kernel
theorem dX6_best_102 : decode cX6_best 102 = .ok (.iload 4, 2) := by decide +kernel
theorem dX6_best_104 : decode cX6_best 104 = .ok (.iload_n 1, 1) := by decide +kernel
theorem dX6_best_105 : decode cX6_best 105 = .ok (.invokevirtual 133, 3) := by decide +kernel
theorem dX6_best_108 : decode cX6_best 108 = .ok (.iconst 0, 1) := by decide +kernel
theorem dX6_best_109 : decode cX6_best 109 = .ok (.istore 8, 2) := by decide +kernel
theorem dX6_best_111 : decode cX6_best 111 = .ok (.iload 8, 2) := by decide +kernel
theorem dX6_best_113 : decode cX6_best 113 = .ok (.iload_n 3, 1) := by decide +kernel
theorem dX6_best_114 : decode cX6_best 114 = .ok (.if_icmp .ge 211, 3) := by decide +kernel
theorem dX6_best_117 : decode cX6_best 117 = .ok (.aload_n 0, 1) := by decide +kernel
theorem dX6_best_118 : decode cX6_best 118 = .ok (.iconst 0, 1) := by decide +kernel
theorem dX6_best_119 : decode cX6_best 119 = .ok (.iload 8, 2) := by decide +kernel
theorem dX6_best_121 : decode cX6_best 121 = .ok (.iload_n 1, 1) := by decide +kernel
theorem dX6_best_122 : decode cX6_best 122 = .ok (.invokevirtual 133, 3) := by decide +kernel
theorem dX6_best_125 : decode cX6_best 125 = .ok (.aload_n 0, 1) := by decide +kernel
theorem dX6_best_126 : decode cX6_best 126 = .ok (.invokevirtual 95, 3) := by decide +kernel
theorem dX6_best_129 : decode cX6_best 129 = .ok (.ifCond .lt 6, 3) := by decide +kernel
theorem dX6_best_132 : decode cX6_best 132 = .ok (.goto 187, 3) := by decide +kernel
theorem dX6_best_135 : decode cX6_best 135 = .ok (.iconst 0, 1) := by decide +kernel
theorem dX6_best_136 : decode cX6_best 136 = .ok (.istore 9, 2) := by decide +kernel
theorem dX6_best_138 : decode cX6_best 138 = .ok (.iload 9, 2) := by decide +kernel
theorem dX6_best_140 : decode cX6_best 140 = .ok (.iload_n 3, 1) := by decide +kernel
theorem dX6_best_141 : decode cX6_best 141 = .ok (.if_icmp .ge 178, 3) := by decide +kernel
theorem dX6_best_144 : decode cX6_best 144 = .ok (.iload 9, 2) := by decide +kernel
theorem dX6_best_146 : decode cX6_best 146 = .ok (.iload 4, 2) := by decide +kernel
theorem dX6_best_148 : decode cX6_best 148 = .ok (.if_icmp .ne 6, 3) := by decide +kernel
theorem dX6_best_151 : decode cX6_best 151 = .ok (.goto 162, 3) := by decide +kernel
theorem dX6_best_154 : decode cX6_best 154 = .ok (.aload_n 0, 1) := by decide +kernel
theorem dX6_best_155 : decode cX6_best 155 = .ok (.iconst 1, 1) := by decide +kernel
theorem dX6_best_156 : decode cX6_best 156 = .ok (.iload 9, 2) := by decide +kernel
theorem dX6_best_158 : decode cX6_best 158 = .ok (.iload_n 1, 1) := by decide +kernel
theorem dX6_best_159 : decode cX6_best 159 = .ok (.invokevirtual 133, 3) := by decide +kernel
theorem dX6_best_162 : decode cX6_best 162 = .ok (.iload_n 2, 1) := by decide +kernel
theorem dX6_best_163 : decode cX6_best 163 = .ok (.iconst 1, 1) := by decide +kernel
theorem dX6_best_164 : decode cX6_best 164 = .ok (.if_icmp .ne 8, 3) := by decide +kernel
theorem dX6_best_167 : decode cX6_best 167 = .ok (.iload 4, 2) := by decide +kernel
theorem dX6_best_169 : decode cX6_best 169 = .ok (.goto 4, 3) := by decide +kernel
theorem dX6_best_172 : decode cX6_best 172 = .ok (.iconst 0, 1) := by decide +kernel
theorem dX6_best_173 : decode cX6_best 173 = .ok (.istore 10, 2) := by decide +kernel
theorem dX6_best_175 : decode cX6_best 175 = .ok (.iload 10, 2) := by decide +kernel
theorem dX6_best_177 : decode cX6_best 177 = .ok (.iload_n 2, 1) := by decide +kernel
theorem dX6_best_178 : decode cX6_best 178 = .ok (.iconst 1, 1) := by decide +kernel
theorem dX6_best_179 : decode cX6_best 179 = .ok (.if_icmp .ne 10, 3) := by decide +kernel
theorem dX6_best_182 : decode cX6_best 182 = .ok (.iload 4, 2) := by decide +kernel
theorem dX6_best_184 : decode cX6_best 184 = .ok (.iconst 1, 1) := by decide +kernel
theorem dX6_best_185 : decode cX6_best 185 = .ok (.iadd, 1) := by decide +kernel
theorem dX6_best_186 : decode cX6_best 186 = .ok (.goto 4, 3) := by decide +kernel
theorem dX6_best_189 : decode cX6_best 189 = .ok (.iload_n 3, 1) := by decide +kernel
theorem dX6_best_190 : decode cX6_best 190 = .ok (.if_icmp .ge 123, 3) := by decide +kernel
theorem dX6_best_193 : decode cX6_best 193 = .ok (.aload_n 0, 1) := by decide +kernel
theorem dX6_best_194 : decode cX6_best 194 = .ok (.iconst 2, 1) := by decide +kernel
theorem dX6_best_195 : decode cX6_best 195 = .ok (.iload 10, 2) := by decide +kernel
theorem dX6_best_197 : decode cX6_best 197 = .ok (.iload_n 1, 1) := by decide +kernel
theorem dX6_best_198 : decode cX6_best 198 = .ok (.invokevirtual 133, 3) := by decide +kernel
theorem dX6_best_201 : decode cX6_best 201 = .ok (.iload_n 2, 1) := by decide +kernel
theorem dX6_best_202 : decode cX6_best 202 = .ok (.iconst 2, 1) := by decide +kernel
theorem dX6_best_203 : decode cX6_best 203 = .ok (.if_icmp .ne 10, 3) := by decide +kernel
theorem dX6_best_206 : decode cX6_best 206 = .ok (.iload 10, 2) := by decide +kernel
theorem dX6_best_208 : decode cX6_best 208 = .ok (.iload 4, 2) := by decide +kernel
theorem dX6_best_210 : decode cX6_best 210 = .ok (.if_icmp .eq 97, 3) := by decide +kernel
theorem dX6_best_213 : decode cX6_best 213 = .ok (.aload_n 0, 1) := by decide +kernel
theorem dX6_best_214 : decode cX6_best 214 = .ok (.invokevirtual 136, 3) := by decide +kernel
theorem dX6_best_217 : decode cX6_best 217 = .ok (.ifCond .ne 6, 3) := by decide +kernel
theorem dX6_best_220 : decode cX6_best 220 = .ok (.goto 87, 3) := by decide +kernel
theorem dX6_best_223 : decode cX6_best 223 = .ok (.aload_n 0, 1) := by decide +kernel
theorem dX6_best_224 : decode cX6_best 224 = .ok (.invokevirtual 121, 3) := by decide +kernel
theorem dX6_best_227 : decode cX6_best 227 = .ok (.istore 11, 2) := by decide +kernel
theorem dX6_best_229 : decode cX6_best 229 = .ok (.iload 6, 2) := by decide +kernel
theorem dX6_best_231 : decode cX6_best 231 = .ok (.ifCond .lt 13, 3) := by decide +kernel
theorem dX6_best_234 : decode cX6_best 234 = .ok (.iload 11, 2) := by decide +kernel
theorem dX6_best_236 : decode cX6_best 236 = .ok (.iload 6, 2) := by decide +kernel
theorem dX6_best_238 : decode cX6_best 238 = .ok (.if_icmp .le 6, 3) := by decide +kernel
theorem dX6_best_241 : decode cX6_best 241 = .ok (.goto 66, 3) := by decide +kernel
theorem dX6_best_244 : decode cX6_best 244 = .ok (.aload_n 0, 1) := by decide +kernel
theorem dX6_best_245 : decode cX6_best 245 = .ok (.invokevirtual 124, 3) := by decide +kernel
theorem dX6_best_248 : decode cX6_best 248 = .ok (.istore 12, 2) := by decide +kernel
theorem dX6_best_250 : decode cX6_best 250 = .ok (.iload 6, 2) := by decide +kernel
theorem dX6_best_252 : decode cX6_best 252 = .ok (.ifCond .lt 17, 3) := by decide +kernel
theorem dX6_best_255 : decode cX6_best 255 = .ok (.iload 11, 2) := by decide +kernel
theorem dX6_best_257 : decode cX6_best 257 = .ok (.iload 6, 2) := by decide +kernel
theorem dX6_best_259 : decode cX6_best 259 = .ok (.if_icmp .lt 10, 3) := by decide +kernel
theorem dX6_best_262 : decode cX6_best 262 = .ok (.iload 12, 2) := by decide +kernel
theorem dX6_best_264 : decode cX6_best 264 = .ok (.iload 7, 2) := by decide +kernel
theorem dX6_best_266 : decode cX6_best 266 = .ok (.if_icmp .ge 41, 3) := by decide +kernel
theorem dX6_best_269 : decode cX6_best 269 = .ok (.iload 11, 2) := by decide +kernel
theorem dX6_best_271 : decode cX6_best 271 = .ok (.istore 6, 2) := by decide +kernel
theorem dX6_best_273 : decode cX6_best 273 = .ok (.iload 12, 2) := by decide +kernel
theorem dX6_best_275 : decode cX6_best 275 = .ok (.istore 7, 2) := by decide +kernel
theorem dX6_best_277 : decode cX6_best 277 = .ok (.iconst 0, 1) := by decide +kernel
theorem dX6_best_278 : decode cX6_best 278 = .ok (.istore 13, 2) := by decide +kernel
theorem dX6_best_280 : decode cX6_best 280 = .ok (.iload 13, 2) := by decide +kernel
theorem dX6_best_282 : decode cX6_best 282 = .ok (.bipush 9, 2) := by decide +kernel
theorem dX6_best_284 : decode cX6_best 284 = .ok (.if_icmp .ge 23, 3) := by decide +kernel
theorem dX6_best_287 : decode cX6_best 287 = .ok (.aload_n 0, 1) := by decide +kernel
theorem dX6_best_288 : decode cX6_best 288 = .ok (.getfield 51, 3) := by decide +kernel
theorem dX6_best_291 : decode cX6_best 291 = .ok (.iload 13, 2) := by decide +kernel
theorem dX6_best_293 : decode cX6_best 293 = .ok (.aload_n 0, 1) := by decide +kernel
theorem dX6_best_294 : decode cX6_best 294 = .ok (.getfield 28, 3) := by decide +kernel
theorem dX6_best_297 : decode cX6_best 297 = .ok (.iload 13, 2) := by decide +kernel
theorem dX6_best_299 : decode cX6_best 299 = .ok (.iaload, 1) := by decide +kernel
theorem dX6_best_300 : decode cX6_best 300 = .ok (.iastore, 1) := by decide +kernel
theorem dX6_best_301 : decode cX6_best 301 = .ok (.iinc 13 1, 3) := by decide +kernel
theorem dX6_best_304 : decode cX6_best 304 = .ok (.goto (-24), 3) := by decide +kernel
theorem dX6_best_307 : decode cX6_best 307 = .ok (.iinc 10 1, 3) := by decide +kernel
theorem dX6_best_310 : decode cX6_best 310 = .ok (.goto (-135), 3) := by decide +kernel
theorem dX6_best_313 : decode cX6_best 313 = .ok (.iinc 9 1, 3) := by decide +kernel
theorem dX6_best_316 : decode cX6_best 316 = .ok (.goto (-178), 3) := by decide +kernel
theorem dX6_best_319 : decode cX6_best 319 = .ok (.iinc 8 1, 3) := by decide +kernel
theorem dX6_best_322 : decode cX6_best 322 = .ok (.goto (-211), 3) := by decide +kernel
theorem dX6_best_325 : decode cX6_best 325 = .ok (.aload_n 0, 1) := by decide +kernel
theorem dX6_best_326 : decode cX6_best 326 = .ok (.iload 5, 2) := by decide +kernel
theorem dX6_best_328 : decode cX6_best 328 = .ok (.putfield 31, 3) := by decide +kernel
theorem dX6_best_331 : decode cX6_best 331 = .ok (.iconst 0, 1) := by decide +kernel
theorem dX6_best_332 : decode cX6_best 332 = .ok (.istore 8, 2) := by decide +kernel
theorem dX6_best_334 : decode cX6_best 334 = .ok (.iload 8, 2) := by decide +kernel
theorem dX6_best_336 : decode cX6_best 336 = .ok (.bipush 9, 2) := by decide +kernel
theorem dX6_best_338 : decode cX6_best 338 = .ok (.if_icmp .ge 38, 3) := by decide +kernel
theorem dX6_best_341 : decode cX6_best 341 = .ok (.aload_n 0, 1) := by decide +kernel
theorem dX6_best_342 : decode cX6_best 342 = .ok (.getfield 28, 3) := by decide +kernel
theorem dX6_best_345 : decode cX6_best 345 = .ok (.iload 8, 2) := by decide +kernel
theorem dX6_best_347 : decode cX6_best 347 = .ok (.iload 6, 2) := by decide +kernel
theorem dX6_best_349 : decode cX6_best 349 = .ok (.ifCond .ge 13, 3) := by decide +kernel
theorem dX6_best_352 : decode cX6_best 352 = .ok (.aload_n 0, 1) := by decide +kernel
theorem dX6_best_353 : decode cX6_best 353 = .ok (.getfield 48, 3) := by decide +kernel
theorem dX6_best_356 : decode cX6_best 356 = .ok (.iload 8, 2) := by decide +kernel
theorem dX6_best_358 : decode cX6_best 358 = .ok (.iaload, 1) := by decide +kernel
theorem dX6_best_359 : decode cX6_best 359 = .ok (.goto 10, 3) := by decide +kernel
theorem dX6_best_362 : decode cX6_best 362 = .ok (.aload_n 0, 1) := by decide +kernel
theorem dX6_best_363 : decode cX6_best 363 = .ok (.getfield 51, 3) := by decide +kernel
theorem dX6_best_366 : decode cX6_best 366 = .ok (.iload 8, 2) := by decide +kernel
theorem dX6_best_368 : decode cX6_best 368 = .ok (.iaload, 1) := by decide +kernel
theorem dX6_best_369 : decode cX6_best 369 = .ok (.iastore, 1) := by decide +kernel
theorem dX6_best_370 : decode cX6_best 370 = .ok (.iinc 8 1, 3) := by decide +kernel
theorem dX6_best_373 : decode cX6_best 373 = .ok (.goto (-39), 3) := by decide +kernel
theorem dX6_best_376 : decode cX6_best 376 = .ok (.iload 6, 2) := by decide +kernel
theorem dX6_best_378 : decode cX6_best 378 = .ok (.ifCond .ge 5, 3) := by decide +kernel
theorem dX6_best_381 : decode cX6_best 381 = .ok (.iconst (-1), 1) := by decide +kernel
theorem dX6_best_382 : decode cX6_best 382 = .ok (.ireturn, 1) := by decide +kernel
theorem dX6_best_383 : decode cX6_best 383 = .ok (.aload_n 0, 1) := by decide +kernel
theorem dX6_best_384 : decode cX6_best 384 = .ok (.iconst 0, 1) := by decide +kernel
theorem dX6_best_385 : decode cX6_best 385 = .ok (.putfield 67, 3) := by decide +kernel
theorem dX6_best_388 : decode cX6_best 388 = .ok (.aload_n 0, 1) := by decide +kernel
theorem dX6_best_389 : decode cX6_best 389 = .ok (.invokevirtual 121, 3) := by decide +kernel
theorem dX6_best_392 : decode cX6_best 392 = .ok (.ireturn, 1) := by decide +kernel
theorem dX6_laying_0 : decode cX6_laying 0 = .ok (.iload_n 1, 1) := by decide +kernel
theorem dX6_laying_1 : decode cX6_laying 1 = .ok (.iconst 0, 1) := by decide +kernel
theorem dX6_laying_2 : decode cX6_laying 2 = .ok (.iconst 2, 1) := by decide +kernel
theorem dX6_laying_3 : decode cX6_laying 3 = .ok (.invokestatic 54, 3) := by decide +kernel
theorem dX6_laying_6 : decode cX6_laying 6 = .ok (.ifCond .eq 25, 3) := by decide +kernel
theorem dX6_laying_9 : decode cX6_laying 9 = .ok (.iload_n 2, 1) := by decide +kernel
theorem dX6_laying_10 : decode cX6_laying 10 = .ok (.iconst 0, 1) := by decide +kernel
theorem dX6_laying_11 : decode cX6_laying 11 = .ok (.iconst 2, 1) := by decide +kernel
theorem dX6_laying_12 : decode cX6_laying 12 = .ok (.invokestatic 54, 3) := by decide +kernel
theorem dX6_laying_15 : decode cX6_laying 15 = .ok (.ifCond .eq 16, 3) := by decide +kernel
theorem dX6_laying_18 : decode cX6_laying 18 = .ok (.aload_n 0, 1) := by decide +kernel
theorem dX6_laying_19 : decode cX6_laying 19 = .ok (.getfield 28, 3) := by decide +kernel
theorem dX6_laying_22 : decode cX6_laying 22 = .ok (.iconst 3, 1) := by decide +kernel
theorem dX6_laying_23 : decode cX6_laying 23 = .ok (.iload_n 1, 1) := by decide +kernel
theorem dX6_laying_24 : decode cX6_laying 24 = .ok (.imul, 1) := by decide +kernel
theorem dX6_laying_25 : decode cX6_laying 25 = .ok (.iload_n 2, 1) := by decide +kernel
theorem dX6_laying_26 : decode cX6_laying 26 = .ok (.iadd, 1) := by decide +kernel
theorem dX6_laying_27 : decode cX6_laying 27 = .ok (.iaload, 1) := by decide +kernel
theorem dX6_laying_28 : decode cX6_laying 28 = .ok (.goto 6, 3) := by decide +kernel
theorem dX6_laying_31 : decode cX6_laying 31 = .ok (.sipush (-1000), 3) := by decide +kernel
theorem dX6_laying_34 : decode cX6_laying 34 = .ok (.ireturn, 1) := by decide +kernel
theorem dX6_comes_0 : decode cX6_comes 0 = .ok (.aload_n 0, 1) := by decide +kernel
theorem dX6_comes_1 : decode cX6_comes 1 = .ok (.iload_n 2, 1) := by decide +kernel
theorem dX6_comes_2 : decode cX6_comes 2 = .ok (.iload_n 3, 1) := by decide +kernel
theorem dX6_comes_3 : decode cX6_comes 3 = .ok (.invokevirtual 139, 3) := by decide +kernel
theorem dX6_comes_6 : decode cX6_comes 6 = .ok (.istore 4, 2) := by decide +kernel
theorem dX6_comes_8 : decode cX6_comes 8 = .ok (.iload 4, 2) := by decide +kernel
theorem dX6_comes_10 : decode cX6_comes 10 = .ok (.ifCond .ge 18, 3) := by decide +kernel
theorem dX6_comes_13 : decode cX6_comes 13 = .ok (.aload_n 0, 1) := by decide +kernel
theorem dX6_comes_14 : decode cX6_comes 14 = .ok (.getfield 25, 3) := by decide +kernel
theorem dX6_comes_17 : decode cX6_comes 17 = .ok (.sipush 512, 3) := by decide +kernel
theorem dX6_comes_20 : decode cX6_comes 20 = .ok (.iload_n 2, 1) := by decide +kernel
theorem dX6_comes_21 : decode cX6_comes 21 = .ok (.imul, 1) := by decide +kernel
theorem dX6_comes_22 : decode cX6_comes 22 = .ok (.iload_n 3, 1) := by decide +kernel
theorem dX6_comes_23 : decode cX6_comes 23 = .ok (.iadd, 1) := by decide +kernel
theorem dX6_comes_24 : decode cX6_comes 24 = .ok (.iaload, 1) := by decide +kernel
theorem dX6_comes_25 : decode cX6_comes 25 = .ok (.goto 13, 3) := by decide +kernel
theorem dX6_comes_28 : decode cX6_comes 28 = .ok (.aload_n 1, 1) := by decide +kernel
theorem dX6_comes_29 : decode cX6_comes 29 = .ok (.sipush 512, 3) := by decide +kernel
theorem dX6_comes_32 : decode cX6_comes 32 = .ok (.iload_n 2, 1) := by decide +kernel
theorem dX6_comes_33 : decode cX6_comes 33 = .ok (.imul, 1) := by decide +kernel
theorem dX6_comes_34 : decode cX6_comes 34 = .ok (.iload 4, 2) := by decide +kernel
theorem dX6_comes_36 : decode cX6_comes 36 = .ok (.iadd, 1) := by decide +kernel
theorem dX6_comes_37 : decode cX6_comes 37 = .ok (.iaload, 1) := by decide +kernel
theorem dX6_comes_38 : decode cX6_comes 38 = .ok (.ireturn, 1) := by decide +kernel
theorem dX6_work_0 : decode cX6_work 0 = .ok (.iconst 0, 1) := by decide +kernel
theorem dX6_work_1 : decode cX6_work 1 = .ok (.istore_n 3, 1) := by decide +kernel
theorem dX6_work_2 : decode cX6_work 2 = .ok (.iload_n 3, 1) := by decide +kernel
theorem dX6_work_3 : decode cX6_work 3 = .ok (.aload_n 0, 1) := by decide +kernel
theorem dX6_work_4 : decode cX6_work 4 = .ok (.getfield 58, 3) := by decide +kernel
theorem dX6_work_7 : decode cX6_work 7 = .ok (.if_icmp .ge 70, 3) := by decide +kernel
theorem dX6_work_10 : decode cX6_work 10 = .ok (.aload_n 0, 1) := by decide +kernel
theorem dX6_work_11 : decode cX6_work 11 = .ok (.aload_n 1, 1) := by decide +kernel
theorem dX6_work_12 : decode cX6_work 12 = .ok (.iload_n 3, 1) := by decide +kernel
theorem dX6_work_13 : decode cX6_work 13 = .ok (.iload_n 2, 1) := by decide +kernel
theorem dX6_work_14 : decode cX6_work 14 = .ok (.invokevirtual 142, 3) := by decide +kernel
theorem dX6_work_17 : decode cX6_work 17 = .ok (.istore 4, 2) := by decide +kernel
theorem dX6_work_19 : decode cX6_work 19 = .ok (.aload_n 0, 1) := by decide +kernel
theorem dX6_work_20 : decode cX6_work 20 = .ok (.aload_n 1, 1) := by decide +kernel
theorem dX6_work_21 : decode cX6_work 21 = .ok (.aload_n 0, 1) := by decide +kernel
theorem dX6_work_22 : decode cX6_work 22 = .ok (.getfield 19, 3) := by decide +kernel
theorem dX6_work_25 : decode cX6_work 25 = .ok (.iload_n 3, 1) := by decide +kernel
theorem dX6_work_26 : decode cX6_work 26 = .ok (.iaload, 1) := by decide +kernel
theorem dX6_work_27 : decode cX6_work 27 = .ok (.iload_n 2, 1) := by decide +kernel
theorem dX6_work_28 : decode cX6_work 28 = .ok (.invokevirtual 142, 3) := by decide +kernel
theorem dX6_work_31 : decode cX6_work 31 = .ok (.istore 5, 2) := by decide +kernel
theorem dX6_work_33 : decode cX6_work 33 = .ok (.aload_n 0, 1) := by decide +kernel
theorem dX6_work_34 : decode cX6_work 34 = .ok (.aload_n 1, 1) := by decide +kernel
theorem dX6_work_35 : decode cX6_work 35 = .ok (.aload_n 0, 1) := by decide +kernel
theorem dX6_work_36 : decode cX6_work 36 = .ok (.getfield 22, 3) := by decide +kernel
theorem dX6_work_39 : decode cX6_work 39 = .ok (.iload_n 3, 1) := by decide +kernel
theorem dX6_work_40 : decode cX6_work 40 = .ok (.iaload, 1) := by decide +kernel
theorem dX6_work_41 : decode cX6_work 41 = .ok (.iload_n 2, 1) := by decide +kernel
theorem dX6_work_42 : decode cX6_work 42 = .ok (.invokevirtual 142, 3) := by decide +kernel
theorem dX6_work_45 : decode cX6_work 45 = .ok (.istore 6, 2) := by decide +kernel
theorem dX6_work_47 : decode cX6_work 47 = .ok (.aload_n 1, 1) := by decide +kernel
theorem dX6_work_48 : decode cX6_work 48 = .ok (.sipush 512, 3) := by decide +kernel
theorem dX6_work_51 : decode cX6_work 51 = .ok (.iload_n 3, 1) := by decide +kernel
theorem dX6_work_52 : decode cX6_work 52 = .ok (.imul, 1) := by decide +kernel
theorem dX6_work_53 : decode cX6_work 53 = .ok (.iload_n 2, 1) := by decide +kernel
theorem dX6_work_54 : decode cX6_work 54 = .ok (.iadd, 1) := by decide +kernel
theorem dX6_work_55 : decode cX6_work 55 = .ok (.aload_n 0, 1) := by decide +kernel
theorem dX6_work_56 : decode cX6_work 56 = .ok (.getfield 16, 3) := by decide +kernel
theorem dX6_work_59 : decode cX6_work 59 = .ok (.iload_n 3, 1) := by decide +kernel
theorem dX6_work_60 : decode cX6_work 60 = .ok (.iaload, 1) := by decide +kernel
theorem dX6_work_61 : decode cX6_work 61 = .ok (.iload 4, 2) := by decide +kernel
theorem dX6_work_63 : decode cX6_work 63 = .ok (.iload 5, 2) := by decide +kernel
theorem dX6_work_65 : decode cX6_work 65 = .ok (.iload 6, 2) := by decide +kernel
theorem dX6_work_67 : decode cX6_work 67 = .ok (.invokestatic 146, 3) := by decide +kernel
theorem dX6_work_70 : decode cX6_work 70 = .ok (.iastore, 1) := by decide +kernel
theorem dX6_work_71 : decode cX6_work 71 = .ok (.iinc 3 1, 3) := by decide +kernel
theorem dX6_work_74 : decode cX6_work 74 = .ok (.goto (-72), 3) := by decide +kernel
theorem dX6_work_77 : decode cX6_work 77 = .ok (.return_, 1) := by decide +kernel
theorem dX6_made_0 : decode cX6_made 0 = .ok (.iload_n 0, 1) := by decide +kernel
theorem dX6_made_1 : decode cX6_made 1 = .ok (.tableswitch 96 0 6 #[43, 45, 51, 66, 77, 88, 92], 43) := by decide +kernel
theorem dX6_made_44 : decode cX6_made 44 = .ok (.iload_n 1, 1) := by decide +kernel
theorem dX6_made_45 : decode cX6_made 45 = .ok (.ireturn, 1) := by decide +kernel
theorem dX6_made_46 : decode cX6_made 46 = .ok (.iload_n 1, 1) := by decide +kernel
theorem dX6_made_47 : decode cX6_made 47 = .ok (.iload_n 2, 1) := by decide +kernel
theorem dX6_made_48 : decode cX6_made 48 = .ok (.iload_n 3, 1) := by decide +kernel
theorem dX6_made_49 : decode cX6_made 49 = .ok (.imul, 1) := by decide +kernel
theorem dX6_made_50 : decode cX6_made 50 = .ok (.iadd, 1) := by decide +kernel
theorem dX6_made_51 : decode cX6_made 51 = .ok (.ireturn, 1) := by decide +kernel
theorem dX6_made_52 : decode cX6_made 52 = .ok (.iload_n 1, 1) := by decide +kernel
theorem dX6_made_53 : decode cX6_made 53 = .ok (.iload_n 2, 1) := by decide +kernel
theorem dX6_made_54 : decode cX6_made 54 = .ok (.iload_n 3, 1) := by decide +kernel
theorem dX6_made_55 : decode cX6_made 55 = .ok (.iadd, 1) := by decide +kernel
theorem dX6_made_56 : decode cX6_made 56 = .ok (.if_icmp .ge 7, 3) := by decide +kernel
theorem dX6_made_59 : decode cX6_made 59 = .ok (.iload_n 1, 1) := by decide +kernel
theorem dX6_made_60 : decode cX6_made 60 = .ok (.goto 6, 3) := by decide +kernel
theorem dX6_made_63 : decode cX6_made 63 = .ok (.iload_n 2, 1) := by decide +kernel
theorem dX6_made_64 : decode cX6_made 64 = .ok (.iload_n 3, 1) := by decide +kernel
theorem dX6_made_65 : decode cX6_made 65 = .ok (.iadd, 1) := by decide +kernel
theorem dX6_made_66 : decode cX6_made 66 = .ok (.ireturn, 1) := by decide +kernel
theorem dX6_made_67 : decode cX6_made 67 = .ok (.iload_n 2, 1) := by decide +kernel
theorem dX6_made_68 : decode cX6_made 68 = .ok (.iload_n 3, 1) := by decide +kernel
theorem dX6_made_69 : decode cX6_made 69 = .ok (.if_icmp .ge 7, 3) := by decide +kernel
theorem dX6_made_72 : decode cX6_made 72 = .ok (.iload_n 2, 1) := by decide +kernel
theorem dX6_made_73 : decode cX6_made 73 = .ok (.goto 4, 3) := by decide +kernel
theorem dX6_made_76 : decode cX6_made 76 = .ok (.iload_n 3, 1) := by decide +kernel
theorem dX6_made_77 : decode cX6_made 77 = .ok (.ireturn, 1) := by decide +kernel
theorem dX6_made_78 : decode cX6_made 78 = .ok (.iload_n 2, 1) := by decide +kernel
theorem dX6_made_79 : decode cX6_made 79 = .ok (.iload_n 3, 1) := by decide +kernel
theorem dX6_made_80 : decode cX6_made 80 = .ok (.if_icmp .le 7, 3) := by decide +kernel
theorem dX6_made_83 : decode cX6_made 83 = .ok (.iload_n 2, 1) := by decide +kernel
theorem dX6_made_84 : decode cX6_made 84 = .ok (.goto 4, 3) := by decide +kernel
theorem dX6_made_87 : decode cX6_made 87 = .ok (.iload_n 3, 1) := by decide +kernel
theorem dX6_made_88 : decode cX6_made 88 = .ok (.ireturn, 1) := by decide +kernel
theorem dX6_made_89 : decode cX6_made 89 = .ok (.iload_n 2, 1) := by decide +kernel
theorem dX6_made_90 : decode cX6_made 90 = .ok (.iload_n 3, 1) := by decide +kernel
theorem dX6_made_91 : decode cX6_made 91 = .ok (.iadd, 1) := by decide +kernel
theorem dX6_made_92 : decode cX6_made 92 = .ok (.ireturn, 1) := by decide +kernel
theorem dX6_made_93 : decode cX6_made 93 = .ok (.iload_n 2, 1) := by decide +kernel
theorem dX6_made_94 : decode cX6_made 94 = .ok (.iload_n 3, 1) := by decide +kernel
theorem dX6_made_95 : decode cX6_made 95 = .ok (.isub, 1) := by decide +kernel
theorem dX6_made_96 : decode cX6_made 96 = .ok (.ireturn, 1) := by decide +kernel
theorem dX6_made_97 : decode cX6_made 97 = .ok (.iload_n 2, 1) := by decide +kernel
theorem dX6_made_98 : decode cX6_made 98 = .ok (.iload_n 3, 1) := by decide +kernel
theorem dX6_made_99 : decode cX6_made 99 = .ok (.ixor, 1) := by decide +kernel
theorem dX6_made_100 : decode cX6_made 100 = .ok (.ireturn, 1) := by decide +kernel
theorem dX6_run_0 : decode cX6_run 0 = .ok (.aload_n 0, 1) := by decide +kernel
theorem dX6_run_1 : decode cX6_run 1 = .ok (.invokevirtual 136, 3) := by decide +kernel
theorem dX6_run_4 : decode cX6_run 4 = .ok (.ifCond .ne 5, 3) := by decide +kernel
theorem dX6_run_7 : decode cX6_run 7 = .ok (.iconst (-1), 1) := by decide +kernel
theorem dX6_run_8 : decode cX6_run 8 = .ok (.ireturn, 1) := by decide +kernel
theorem dX6_run_9 : decode cX6_run 9 = .ok (.aload_n 0, 1) := by decide +kernel
theorem dX6_run_10 : decode cX6_run 10 = .ok (.invokevirtual 121, 3) := by decide +kernel
theorem dX6_run_13 : decode cX6_run 13 = .ok (.istore_n 1, 1) := by decide +kernel
theorem dX6_run_14 : decode cX6_run 14 = .ok (.iconst 0, 1) := by decide +kernel
theorem dX6_run_15 : decode cX6_run 15 = .ok (.istore_n 2, 1) := by decide +kernel
theorem dX6_run_16 : decode cX6_run 16 = .ok (.iload_n 2, 1) := by decide +kernel
theorem dX6_run_17 : decode cX6_run 17 = .ok (.iload_n 1, 1) := by decide +kernel
theorem dX6_run_18 : decode cX6_run 18 = .ok (.if_icmp .ge 50, 3) := by decide +kernel
theorem dX6_run_21 : decode cX6_run 21 = .ok (.iconst 0, 1) := by decide +kernel
theorem dX6_run_22 : decode cX6_run 22 = .ok (.istore_n 3, 1) := by decide +kernel
theorem dX6_run_23 : decode cX6_run 23 = .ok (.iload_n 3, 1) := by decide +kernel
theorem dX6_run_24 : decode cX6_run 24 = .ok (.sipush 512, 3) := by decide +kernel
theorem dX6_run_27 : decode cX6_run 27 = .ok (.if_icmp .ge 35, 3) := by decide +kernel
theorem dX6_run_30 : decode cX6_run 30 = .ok (.aload_n 0, 1) := by decide +kernel
theorem dX6_run_31 : decode cX6_run 31 = .ok (.iload_n 3, 1) := by decide +kernel
theorem dX6_run_32 : decode cX6_run 32 = .ok (.invokevirtual 106, 3) := by decide +kernel
theorem dX6_run_35 : decode cX6_run 35 = .ok (.ifCond .eq 21, 3) := by decide +kernel
theorem dX6_run_38 : decode cX6_run 38 = .ok (.aload_n 0, 1) := by decide +kernel
theorem dX6_run_39 : decode cX6_run 39 = .ok (.iload_n 3, 1) := by decide +kernel
theorem dX6_run_40 : decode cX6_run 40 = .ok (.invokevirtual 112, 3) := by decide +kernel
theorem dX6_run_43 : decode cX6_run 43 = .ok (.iload_n 2, 1) := by decide +kernel
theorem dX6_run_44 : decode cX6_run 44 = .ok (.if_icmp .ne 12, 3) := by decide +kernel
theorem dX6_run_47 : decode cX6_run 47 = .ok (.aload_n 0, 1) := by decide +kernel
theorem dX6_run_48 : decode cX6_run 48 = .ok (.aload_n 0, 1) := by decide +kernel
theorem dX6_run_49 : decode cX6_run 49 = .ok (.getfield 35, 3) := by decide +kernel
theorem dX6_run_52 : decode cX6_run 52 = .ok (.iload_n 3, 1) := by decide +kernel
theorem dX6_run_53 : decode cX6_run 53 = .ok (.invokevirtual 150, 3) := by decide +kernel
theorem dX6_run_56 : decode cX6_run 56 = .ok (.iinc 3 1, 3) := by decide +kernel
theorem dX6_run_59 : decode cX6_run 59 = .ok (.goto (-36), 3) := by decide +kernel
theorem dX6_run_62 : decode cX6_run 62 = .ok (.iinc 2 1, 3) := by decide +kernel
theorem dX6_run_65 : decode cX6_run 65 = .ok (.goto (-49), 3) := by decide +kernel
theorem dX6_run_68 : decode cX6_run 68 = .ok (.aload_n 0, 1) := by decide +kernel
theorem dX6_run_69 : decode cX6_run 69 = .ok (.iconst 1, 1) := by decide +kernel
theorem dX6_run_70 : decode cX6_run 70 = .ok (.putfield 67, 3) := by decide +kernel
theorem dX6_run_73 : decode cX6_run 73 = .ok (.aload_n 0, 1) := by decide +kernel
theorem dX6_run_74 : decode cX6_run 74 = .ok (.invokevirtual 127, 3) := by decide +kernel
theorem dX6_run_77 : decode cX6_run 77 = .ok (.ireturn, 1) := by decide +kernel
theorem dX6_worked_0 : decode cX6_worked 0 = .ok (.iconst 0, 1) := by decide +kernel
theorem dX6_worked_1 : decode cX6_worked 1 = .ok (.istore 4, 2) := by decide +kernel
theorem dX6_worked_3 : decode cX6_worked 3 = .ok (.iload 4, 2) := by decide +kernel
theorem dX6_worked_5 : decode cX6_worked 5 = .ok (.sipush 512, 3) := by decide +kernel
theorem dX6_worked_8 : decode cX6_worked 8 = .ok (.if_icmp .ge 59, 3) := by decide +kernel
theorem dX6_worked_11 : decode cX6_worked 11 = .ok (.aload_n 0, 1) := by decide +kernel
theorem dX6_worked_12 : decode cX6_worked 12 = .ok (.getfield 67, 3) := by decide +kernel
theorem dX6_worked_15 : decode cX6_worked 15 = .ok (.ifCond .eq 52, 3) := by decide +kernel
theorem dX6_worked_18 : decode cX6_worked 18 = .ok (.aload_n 0, 1) := by decide +kernel
theorem dX6_worked_19 : decode cX6_worked 19 = .ok (.iload 4, 2) := by decide +kernel
theorem dX6_worked_21 : decode cX6_worked 21 = .ok (.invokevirtual 106, 3) := by decide +kernel
theorem dX6_worked_24 : decode cX6_worked 24 = .ok (.ifCond .eq 37, 3) := by decide +kernel
theorem dX6_worked_27 : decode cX6_worked 27 = .ok (.aload_n 0, 1) := by decide +kernel
theorem dX6_worked_28 : decode cX6_worked 28 = .ok (.iload 4, 2) := by decide +kernel
theorem dX6_worked_30 : decode cX6_worked 30 = .ok (.invokevirtual 112, 3) := by decide +kernel
theorem dX6_worked_33 : decode cX6_worked 33 = .ok (.iload_n 1, 1) := by decide +kernel
theorem dX6_worked_34 : decode cX6_worked 34 = .ok (.if_icmp .ne 27, 3) := by decide +kernel
theorem dX6_worked_37 : decode cX6_worked 37 = .ok (.aload_n 0, 1) := by decide +kernel
theorem dX6_worked_38 : decode cX6_worked 38 = .ok (.iload 4, 2) := by decide +kernel
theorem dX6_worked_40 : decode cX6_worked 40 = .ok (.invokevirtual 115, 3) := by decide +kernel
theorem dX6_worked_43 : decode cX6_worked 43 = .ok (.iload_n 2, 1) := by decide +kernel
theorem dX6_worked_44 : decode cX6_worked 44 = .ok (.if_icmp .ne 17, 3) := by decide +kernel
theorem dX6_worked_47 : decode cX6_worked 47 = .ok (.aload_n 0, 1) := by decide +kernel
theorem dX6_worked_48 : decode cX6_worked 48 = .ok (.iconst 2, 1) := by decide +kernel
theorem dX6_worked_49 : decode cX6_worked 49 = .ok (.iload 4, 2) := by decide +kernel
theorem dX6_worked_51 : decode cX6_worked 51 = .ok (.invokevirtual 75, 3) := by decide +kernel
theorem dX6_worked_54 : decode cX6_worked 54 = .ok (.iload_n 3, 1) := by decide +kernel
theorem dX6_worked_55 : decode cX6_worked 55 = .ok (.if_icmp .ne 6, 3) := by decide +kernel
theorem dX6_worked_58 : decode cX6_worked 58 = .ok (.iload 4, 2) := by decide +kernel
theorem dX6_worked_60 : decode cX6_worked 60 = .ok (.ireturn, 1) := by decide +kernel
theorem dX6_worked_61 : decode cX6_worked 61 = .ok (.iinc 4 1, 3) := by decide +kernel
theorem dX6_worked_64 : decode cX6_worked 64 = .ok (.goto (-61), 3) := by decide +kernel
theorem dX6_worked_67 : decode cX6_worked 67 = .ok (.iconst (-1), 1) := by decide +kernel
theorem dX6_worked_68 : decode cX6_worked 68 = .ok (.ireturn, 1) := by decide +kernel
theorem dX6_held_0 : decode cX6_held 0 = .ok (.aload_n 0, 1) := by decide +kernel
theorem dX6_held_1 : decode cX6_held 1 = .ok (.getfield 67, 3) := by decide +kernel
theorem dX6_held_4 : decode cX6_held 4 = .ok (.ifCond .eq 17, 3) := by decide +kernel
theorem dX6_held_7 : decode cX6_held 7 = .ok (.iload_n 1, 1) := by decide +kernel
theorem dX6_held_8 : decode cX6_held 8 = .ok (.iconst 0, 1) := by decide +kernel
theorem dX6_held_9 : decode cX6_held 9 = .ok (.aload_n 0, 1) := by decide +kernel
theorem dX6_held_10 : decode cX6_held 10 = .ok (.invokevirtual 121, 3) := by decide +kernel
theorem dX6_held_13 : decode cX6_held 13 = .ok (.iconst 1, 1) := by decide +kernel
theorem dX6_held_14 : decode cX6_held 14 = .ok (.isub, 1) := by decide +kernel
theorem dX6_held_15 : decode cX6_held 15 = .ok (.invokestatic 54, 3) := by decide +kernel
theorem dX6_held_18 : decode cX6_held 18 = .ok (.ifCond .ne 5, 3) := by decide +kernel
theorem dX6_held_21 : decode cX6_held 21 = .ok (.iconst (-1), 1) := by decide +kernel
theorem dX6_held_22 : decode cX6_held 22 = .ok (.ireturn, 1) := by decide +kernel
theorem dX6_held_23 : decode cX6_held 23 = .ok (.iconst 0, 1) := by decide +kernel
theorem dX6_held_24 : decode cX6_held 24 = .ok (.istore_n 2, 1) := by decide +kernel
theorem dX6_held_25 : decode cX6_held 25 = .ok (.iconst 0, 1) := by decide +kernel
theorem dX6_held_26 : decode cX6_held 26 = .ok (.istore_n 3, 1) := by decide +kernel
theorem dX6_held_27 : decode cX6_held 27 = .ok (.iload_n 3, 1) := by decide +kernel
theorem dX6_held_28 : decode cX6_held 28 = .ok (.aload_n 0, 1) := by decide +kernel
theorem dX6_held_29 : decode cX6_held 29 = .ok (.getfield 58, 3) := by decide +kernel
theorem dX6_held_32 : decode cX6_held 32 = .ok (.if_icmp .ge 81, 3) := by decide +kernel
theorem dX6_held_35 : decode cX6_held 35 = .ok (.iconst 0, 1) := by decide +kernel
theorem dX6_held_36 : decode cX6_held 36 = .ok (.istore 4, 2) := by decide +kernel
theorem dX6_held_38 : decode cX6_held 38 = .ok (.iload 4, 2) := by decide +kernel
theorem dX6_held_40 : decode cX6_held 40 = .ok (.sipush 512, 3) := by decide +kernel
theorem dX6_held_43 : decode cX6_held 43 = .ok (.if_icmp .ge 64, 3) := by decide +kernel
theorem dX6_held_46 : decode cX6_held 46 = .ok (.aload_n 0, 1) := by decide +kernel
theorem dX6_held_47 : decode cX6_held 47 = .ok (.iload 4, 2) := by decide +kernel
theorem dX6_held_49 : decode cX6_held 49 = .ok (.invokevirtual 106, 3) := by decide +kernel
theorem dX6_held_52 : decode cX6_held 52 = .ok (.ifCond .eq 13, 3) := by decide +kernel
theorem dX6_held_55 : decode cX6_held 55 = .ok (.aload_n 0, 1) := by decide +kernel
theorem dX6_held_56 : decode cX6_held 56 = .ok (.iload_n 3, 1) := by decide +kernel
theorem dX6_held_57 : decode cX6_held 57 = .ok (.iload 4, 2) := by decide +kernel
theorem dX6_held_59 : decode cX6_held 59 = .ok (.invokevirtual 154, 3) := by decide +kernel
theorem dX6_held_62 : decode cX6_held 62 = .ok (.goto 4, 3) := by decide +kernel
theorem dX6_held_65 : decode cX6_held 65 = .ok (.iconst (-1), 1) := by decide +kernel
theorem dX6_held_66 : decode cX6_held 66 = .ok (.istore 5, 2) := by decide +kernel
theorem dX6_held_68 : decode cX6_held 68 = .ok (.iload_n 2, 1) := by decide +kernel
theorem dX6_held_69 : decode cX6_held 69 = .ok (.iload 5, 2) := by decide +kernel
theorem dX6_held_71 : decode cX6_held 71 = .ok (.ifCond .lt 27, 3) := by decide +kernel
theorem dX6_held_74 : decode cX6_held 74 = .ok (.aload_n 0, 1) := by decide +kernel
theorem dX6_held_75 : decode cX6_held 75 = .ok (.iload 4, 2) := by decide +kernel
theorem dX6_held_77 : decode cX6_held 77 = .ok (.invokevirtual 112, 3) := by decide +kernel
theorem dX6_held_80 : decode cX6_held 80 = .ok (.iload_n 1, 1) := by decide +kernel
theorem dX6_held_81 : decode cX6_held 81 = .ok (.if_icmp .gt 17, 3) := by decide +kernel
theorem dX6_held_84 : decode cX6_held 84 = .ok (.aload_n 0, 1) := by decide +kernel
theorem dX6_held_85 : decode cX6_held 85 = .ok (.iload 5, 2) := by decide +kernel
theorem dX6_held_87 : decode cX6_held 87 = .ok (.invokevirtual 112, 3) := by decide +kernel
theorem dX6_held_90 : decode cX6_held 90 = .ok (.iload_n 1, 1) := by decide +kernel
theorem dX6_held_91 : decode cX6_held 91 = .ok (.if_icmp .le 7, 3) := by decide +kernel
theorem dX6_held_94 : decode cX6_held 94 = .ok (.iconst 1, 1) := by decide +kernel
theorem dX6_held_95 : decode cX6_held 95 = .ok (.goto 4, 3) := by decide +kernel
theorem dX6_held_98 : decode cX6_held 98 = .ok (.iconst 0, 1) := by decide +kernel
theorem dX6_held_99 : decode cX6_held 99 = .ok (.iadd, 1) := by decide +kernel
theorem dX6_held_100 : decode cX6_held 100 = .ok (.istore_n 2, 1) := by decide +kernel
theorem dX6_held_101 : decode cX6_held 101 = .ok (.iinc 4 1, 3) := by decide +kernel
theorem dX6_held_104 : decode cX6_held 104 = .ok (.goto (-66), 3) := by decide +kernel
theorem dX6_held_107 : decode cX6_held 107 = .ok (.iinc 3 1, 3) := by decide +kernel
theorem dX6_held_110 : decode cX6_held 110 = .ok (.goto (-83), 3) := by decide +kernel
theorem dX6_held_113 : decode cX6_held 113 = .ok (.iload_n 2, 1) := by decide +kernel
theorem dX6_held_114 : decode cX6_held 114 = .ok (.ireturn, 1) := by decide +kernel
theorem dX6_value_0 : decode cX6_value 0 = .ok (.aload_n 0, 1) := by decide +kernel
theorem dX6_value_1 : decode cX6_value 1 = .ok (.getfield 67, 3) := by decide +kernel
theorem dX6_value_4 : decode cX6_value 4 = .ok (.ifCond .eq 48, 3) := by decide +kernel
theorem dX6_value_7 : decode cX6_value 7 = .ok (.aload_n 0, 1) := by decide +kernel
theorem dX6_value_8 : decode cX6_value 8 = .ok (.iload_n 1, 1) := by decide +kernel
theorem dX6_value_9 : decode cX6_value 9 = .ok (.invokevirtual 71, 3) := by decide +kernel
theorem dX6_value_12 : decode cX6_value 12 = .ok (.ifCond .eq 40, 3) := by decide +kernel
theorem dX6_value_15 : decode cX6_value 15 = .ok (.aload_n 0, 1) := by decide +kernel
theorem dX6_value_16 : decode cX6_value 16 = .ok (.iload_n 2, 1) := by decide +kernel
theorem dX6_value_17 : decode cX6_value 17 = .ok (.iload_n 3, 1) := by decide +kernel
theorem dX6_value_18 : decode cX6_value 18 = .ok (.iload 4, 2) := by decide +kernel
theorem dX6_value_20 : decode cX6_value 20 = .ok (.invokevirtual 61, 3) := by decide +kernel
theorem dX6_value_23 : decode cX6_value 23 = .ok (.ifCond .eq 29, 3) := by decide +kernel
theorem dX6_value_26 : decode cX6_value 26 = .ok (.aload_n 0, 1) := by decide +kernel
theorem dX6_value_27 : decode cX6_value 27 = .ok (.getfield 35, 3) := by decide +kernel
theorem dX6_value_30 : decode cX6_value 30 = .ok (.sipush 512, 3) := by decide +kernel
theorem dX6_value_33 : decode cX6_value 33 = .ok (.iload_n 1, 1) := by decide +kernel
theorem dX6_value_34 : decode cX6_value 34 = .ok (.imul, 1) := by decide +kernel
theorem dX6_value_35 : decode cX6_value 35 = .ok (.bipush 64, 2) := by decide +kernel
theorem dX6_value_37 : decode cX6_value 37 = .ok (.iload_n 2, 1) := by decide +kernel
theorem dX6_value_38 : decode cX6_value 38 = .ok (.imul, 1) := by decide +kernel
theorem dX6_value_39 : decode cX6_value 39 = .ok (.iadd, 1) := by decide +kernel
theorem dX6_value_40 : decode cX6_value 40 = .ok (.bipush 8, 2) := by decide +kernel
theorem dX6_value_42 : decode cX6_value 42 = .ok (.iload_n 3, 1) := by decide +kernel
theorem dX6_value_43 : decode cX6_value 43 = .ok (.imul, 1) := by decide +kernel
theorem dX6_value_44 : decode cX6_value 44 = .ok (.iadd, 1) := by decide +kernel
theorem dX6_value_45 : decode cX6_value 45 = .ok (.iload 4, 2) := by decide +kernel
theorem dX6_value_47 : decode cX6_value 47 = .ok (.iadd, 1) := by decide +kernel
theorem dX6_value_48 : decode cX6_value 48 = .ok (.iaload, 1) := by decide +kernel
theorem dX6_value_49 : decode cX6_value 49 = .ok (.goto 4, 3) := by decide +kernel
theorem dX6_value_52 : decode cX6_value 52 = .ok (.iconst 0, 1) := by decide +kernel
theorem dX6_value_53 : decode cX6_value 53 = .ok (.ireturn, 1) := by decide +kernel
theorem dX6_plainly_0 : decode cX6_plainly 0 = .ok (.iconst 0, 1) := by decide +kernel
theorem dX6_plainly_1 : decode cX6_plainly 1 = .ok (.istore_n 1, 1) := by decide +kernel
theorem dX6_plainly_2 : decode cX6_plainly 2 = .ok (.iload_n 1, 1) := by decide +kernel
theorem dX6_plainly_3 : decode cX6_plainly 3 = .ok (.sipush 512, 3) := by decide +kernel
theorem dX6_plainly_6 : decode cX6_plainly 6 = .ok (.if_icmp .ge 26, 3) := by decide +kernel
theorem dX6_plainly_9 : decode cX6_plainly 9 = .ok (.aload_n 0, 1) := by decide +kernel
theorem dX6_plainly_10 : decode cX6_plainly 10 = .ok (.iload_n 1, 1) := by decide +kernel
theorem dX6_plainly_11 : decode cX6_plainly 11 = .ok (.invokevirtual 106, 3) := by decide +kernel
theorem dX6_plainly_14 : decode cX6_plainly 14 = .ok (.ifCond .eq 12, 3) := by decide +kernel
theorem dX6_plainly_17 : decode cX6_plainly 17 = .ok (.aload_n 0, 1) := by decide +kernel
theorem dX6_plainly_18 : decode cX6_plainly 18 = .ok (.aload_n 0, 1) := by decide +kernel
theorem dX6_plainly_19 : decode cX6_plainly 19 = .ok (.getfield 38, 3) := by decide +kernel
theorem dX6_plainly_22 : decode cX6_plainly 22 = .ok (.iload_n 1, 1) := by decide +kernel
theorem dX6_plainly_23 : decode cX6_plainly 23 = .ok (.invokevirtual 150, 3) := by decide +kernel
theorem dX6_plainly_26 : decode cX6_plainly 26 = .ok (.iinc 1 1, 3) := by decide +kernel
theorem dX6_plainly_29 : decode cX6_plainly 29 = .ok (.goto (-27), 3) := by decide +kernel
theorem dX6_plainly_32 : decode cX6_plainly 32 = .ok (.return_, 1) := by decide +kernel
theorem dX6_plain_0 : decode cX6_plain 0 = .ok (.aload_n 0, 1) := by decide +kernel
theorem dX6_plain_1 : decode cX6_plain 1 = .ok (.iload_n 1, 1) := by decide +kernel
theorem dX6_plain_2 : decode cX6_plain 2 = .ok (.invokevirtual 71, 3) := by decide +kernel
theorem dX6_plain_5 : decode cX6_plain 5 = .ok (.ifCond .eq 14, 3) := by decide +kernel
theorem dX6_plain_8 : decode cX6_plain 8 = .ok (.aload_n 0, 1) := by decide +kernel
theorem dX6_plain_9 : decode cX6_plain 9 = .ok (.iload_n 2, 1) := by decide +kernel
theorem dX6_plain_10 : decode cX6_plain 10 = .ok (.iload_n 3, 1) := by decide +kernel
theorem dX6_plain_11 : decode cX6_plain 11 = .ok (.iload 4, 2) := by decide +kernel
theorem dX6_plain_13 : decode cX6_plain 13 = .ok (.invokevirtual 61, 3) := by decide +kernel
theorem dX6_plain_16 : decode cX6_plain 16 = .ok (.ifCond .ne 5, 3) := by decide +kernel
theorem dX6_plain_19 : decode cX6_plain 19 = .ok (.iconst 0, 1) := by decide +kernel
theorem dX6_plain_20 : decode cX6_plain 20 = .ok (.ireturn, 1) := by decide +kernel
theorem dX6_plain_21 : decode cX6_plain 21 = .ok (.aload_n 0, 1) := by decide +kernel
theorem dX6_plain_22 : decode cX6_plain 22 = .ok (.invokevirtual 157, 3) := by decide +kernel
theorem dX6_plain_25 : decode cX6_plain 25 = .ok (.aload_n 0, 1) := by decide +kernel
theorem dX6_plain_26 : decode cX6_plain 26 = .ok (.getfield 38, 3) := by decide +kernel
theorem dX6_plain_29 : decode cX6_plain 29 = .ok (.sipush 512, 3) := by decide +kernel
theorem dX6_plain_32 : decode cX6_plain 32 = .ok (.iload_n 1, 1) := by decide +kernel
theorem dX6_plain_33 : decode cX6_plain 33 = .ok (.imul, 1) := by decide +kernel
theorem dX6_plain_34 : decode cX6_plain 34 = .ok (.bipush 64, 2) := by decide +kernel
theorem dX6_plain_36 : decode cX6_plain 36 = .ok (.iload_n 2, 1) := by decide +kernel
theorem dX6_plain_37 : decode cX6_plain 37 = .ok (.imul, 1) := by decide +kernel
theorem dX6_plain_38 : decode cX6_plain 38 = .ok (.iadd, 1) := by decide +kernel
theorem dX6_plain_39 : decode cX6_plain 39 = .ok (.bipush 8, 2) := by decide +kernel
theorem dX6_plain_41 : decode cX6_plain 41 = .ok (.iload_n 3, 1) := by decide +kernel
theorem dX6_plain_42 : decode cX6_plain 42 = .ok (.imul, 1) := by decide +kernel
theorem dX6_plain_43 : decode cX6_plain 43 = .ok (.iadd, 1) := by decide +kernel
theorem dX6_plain_44 : decode cX6_plain 44 = .ok (.iload 4, 2) := by decide +kernel
theorem dX6_plain_46 : decode cX6_plain 46 = .ok (.iadd, 1) := by decide +kernel
theorem dX6_plain_47 : decode cX6_plain 47 = .ok (.iaload, 1) := by decide +kernel
theorem dX6_plain_48 : decode cX6_plain 48 = .ok (.ireturn, 1) := by decide +kernel
theorem dX6_result_0 : decode cX6_result 0 = .ok (.aload_n 0, 1) := by decide +kernel
theorem dX6_result_1 : decode cX6_result 1 = .ok (.iload_n 1, 1) := by decide +kernel
theorem dX6_result_2 : decode cX6_result 2 = .ok (.invokevirtual 71, 3) := by decide +kernel
theorem dX6_result_5 : decode cX6_result 5 = .ok (.ifCond .eq 12, 3) := by decide +kernel
theorem dX6_result_8 : decode cX6_result 8 = .ok (.iload_n 3, 1) := by decide +kernel
theorem dX6_result_9 : decode cX6_result 9 = .ok (.iconst 0, 1) := by decide +kernel
theorem dX6_result_10 : decode cX6_result 10 = .ok (.iconst 1, 1) := by decide +kernel
theorem dX6_result_11 : decode cX6_result 11 = .ok (.invokestatic 54, 3) := by decide +kernel
theorem dX6_result_14 : decode cX6_result 14 = .ok (.ifCond .ne 5, 3) := by decide +kernel
theorem dX6_result_17 : decode cX6_result 17 = .ok (.iconst (-1), 1) := by decide +kernel
theorem dX6_result_18 : decode cX6_result 18 = .ok (.ireturn, 1) := by decide +kernel
theorem dX6_result_19 : decode cX6_result 19 = .ok (.aload_n 0, 1) := by decide +kernel
theorem dX6_result_20 : decode cX6_result 20 = .ok (.invokevirtual 157, 3) := by decide +kernel
theorem dX6_result_23 : decode cX6_result 23 = .ok (.iconst 0, 1) := by decide +kernel
theorem dX6_result_24 : decode cX6_result 24 = .ok (.istore 4, 2) := by decide +kernel
theorem dX6_result_26 : decode cX6_result 26 = .ok (.iconst 0, 1) := by decide +kernel
theorem dX6_result_27 : decode cX6_result 27 = .ok (.istore 5, 2) := by decide +kernel
theorem dX6_result_29 : decode cX6_result 29 = .ok (.iload 5, 2) := by decide +kernel
theorem dX6_result_31 : decode cX6_result 31 = .ok (.sipush 512, 3) := by decide +kernel
theorem dX6_result_34 : decode cX6_result 34 = .ok (.if_icmp .ge 60, 3) := by decide +kernel
theorem dX6_result_37 : decode cX6_result 37 = .ok (.aload_n 0, 1) := by decide +kernel
theorem dX6_result_38 : decode cX6_result 38 = .ok (.iload 5, 2) := by decide +kernel
theorem dX6_result_40 : decode cX6_result 40 = .ok (.invokevirtual 106, 3) := by decide +kernel
theorem dX6_result_43 : decode cX6_result 43 = .ok (.ifCond .eq 45, 3) := by decide +kernel
theorem dX6_result_46 : decode cX6_result 46 = .ok (.aload_n 0, 1) := by decide +kernel
theorem dX6_result_47 : decode cX6_result 47 = .ok (.iload_n 1, 1) := by decide +kernel
theorem dX6_result_48 : decode cX6_result 48 = .ok (.iload 5, 2) := by decide +kernel
theorem dX6_result_50 : decode cX6_result 50 = .ok (.invokevirtual 154, 3) := by decide +kernel
theorem dX6_result_53 : decode cX6_result 53 = .ok (.ifCond .ge 35, 3) := by decide +kernel
theorem dX6_result_56 : decode cX6_result 56 = .ok (.iload 4, 2) := by decide +kernel
theorem dX6_result_58 : decode cX6_result 58 = .ok (.iload_n 2, 1) := by decide +kernel
theorem dX6_result_59 : decode cX6_result 59 = .ok (.if_icmp .ne 26, 3) := by decide +kernel
theorem dX6_result_62 : decode cX6_result 62 = .ok (.iload_n 3, 1) := by decide +kernel
theorem dX6_result_63 : decode cX6_result 63 = .ok (.ifCond .ne 8, 3) := by decide +kernel
theorem dX6_result_66 : decode cX6_result 66 = .ok (.iload 5, 2) := by decide +kernel
theorem dX6_result_68 : decode cX6_result 68 = .ok (.goto 16, 3) := by decide +kernel
theorem dX6_result_71 : decode cX6_result 71 = .ok (.aload_n 0, 1) := by decide +kernel
theorem dX6_result_72 : decode cX6_result 72 = .ok (.getfield 38, 3) := by decide +kernel
theorem dX6_result_75 : decode cX6_result 75 = .ok (.sipush 512, 3) := by decide +kernel
theorem dX6_result_78 : decode cX6_result 78 = .ok (.iload_n 1, 1) := by decide +kernel
theorem dX6_result_79 : decode cX6_result 79 = .ok (.imul, 1) := by decide +kernel
theorem dX6_result_80 : decode cX6_result 80 = .ok (.iload 5, 2) := by decide +kernel
theorem dX6_result_82 : decode cX6_result 82 = .ok (.iadd, 1) := by decide +kernel
theorem dX6_result_83 : decode cX6_result 83 = .ok (.iaload, 1) := by decide +kernel
theorem dX6_result_84 : decode cX6_result 84 = .ok (.ireturn, 1) := by decide +kernel
theorem dX6_result_85 : decode cX6_result 85 = .ok (.iinc 4 1, 3) := by decide +kernel
theorem dX6_result_88 : decode cX6_result 88 = .ok (.iinc 5 1, 3) := by decide +kernel
theorem dX6_result_91 : decode cX6_result 91 = .ok (.goto (-62), 3) := by decide +kernel
theorem dX6_result_94 : decode cX6_result 94 = .ok (.iconst (-1), 1) := by decide +kernel
theorem dX6_result_95 : decode cX6_result 95 = .ok (.ireturn, 1) := by decide +kernel
theorem dX6_about_0 : decode cX6_about 0 = .ok (.iload_n 1, 1) := by decide +kernel
theorem dX6_about_1 : decode cX6_about 1 = .ok (.tableswitch 59 0 3 #[31, 36, 41, 54], 31) := by decide +kernel
theorem dX6_about_32 : decode cX6_about 32 = .ok (.aload_n 0, 1) := by decide +kernel
theorem dX6_about_33 : decode cX6_about 33 = .ok (.getfield 58, 3) := by decide +kernel
theorem dX6_about_36 : decode cX6_about 36 = .ok (.ireturn, 1) := by decide +kernel
theorem dX6_about_37 : decode cX6_about 37 = .ok (.aload_n 0, 1) := by decide +kernel
theorem dX6_about_38 : decode cX6_about 38 = .ok (.invokevirtual 127, 3) := by decide +kernel
theorem dX6_about_41 : decode cX6_about 41 = .ok (.ireturn, 1) := by decide +kernel
theorem dX6_about_42 : decode cX6_about 42 = .ok (.aload_n 0, 1) := by decide +kernel
theorem dX6_about_43 : decode cX6_about 43 = .ok (.getfield 67, 3) := by decide +kernel
theorem dX6_about_46 : decode cX6_about 46 = .ok (.ifCond .eq 7, 3) := by decide +kernel
theorem dX6_about_49 : decode cX6_about 49 = .ok (.iconst 1, 1) := by decide +kernel
theorem dX6_about_50 : decode cX6_about 50 = .ok (.goto 4, 3) := by decide +kernel
theorem dX6_about_53 : decode cX6_about 53 = .ok (.iconst 0, 1) := by decide +kernel
theorem dX6_about_54 : decode cX6_about 54 = .ok (.ireturn, 1) := by decide +kernel
theorem dX6_about_55 : decode cX6_about 55 = .ok (.aload_n 0, 1) := by decide +kernel
theorem dX6_about_56 : decode cX6_about 56 = .ok (.getfield 31, 3) := by decide +kernel
theorem dX6_about_59 : decode cX6_about 59 = .ok (.ireturn, 1) := by decide +kernel
theorem dX6_about_60 : decode cX6_about 60 = .ok (.iload_n 1, 1) := by decide +kernel
theorem dX6_about_61 : decode cX6_about 61 = .ok (.bipush 10, 2) := by decide +kernel
theorem dX6_about_63 : decode cX6_about 63 = .ok (.bipush 12, 2) := by decide +kernel
theorem dX6_about_65 : decode cX6_about 65 = .ok (.invokestatic 54, 3) := by decide +kernel
theorem dX6_about_68 : decode cX6_about 68 = .ok (.ifCond .eq 15, 3) := by decide +kernel
theorem dX6_about_71 : decode cX6_about 71 = .ok (.aload_n 0, 1) := by decide +kernel
theorem dX6_about_72 : decode cX6_about 72 = .ok (.getfield 7, 3) := by decide +kernel
theorem dX6_about_75 : decode cX6_about 75 = .ok (.iload_n 1, 1) := by decide +kernel
theorem dX6_about_76 : decode cX6_about 76 = .ok (.bipush 10, 2) := by decide +kernel
theorem dX6_about_78 : decode cX6_about 78 = .ok (.isub, 1) := by decide +kernel
theorem dX6_about_79 : decode cX6_about 79 = .ok (.iaload, 1) := by decide +kernel
theorem dX6_about_80 : decode cX6_about 80 = .ok (.goto 4, 3) := by decide +kernel
theorem dX6_about_83 : decode cX6_about 83 = .ok (.iconst (-1), 1) := by decide +kernel
theorem dX6_about_84 : decode cX6_about 84 = .ok (.ireturn, 1) := by decide +kernel
end
section
/-! ROWS OVER ONE WORLD: all 44 cells of the class and of the reference, contents as integers -/
abbrev Mem : Type := Nat → Nat → Int
def iZ (z : Int) : Int32 := Int32.ofInt z
def ups (M : Mem) (h : Nat) (f : Nat → Int) : Mem := fun h' => if h' = h then f else M h'
def up1 (f : Nat → Int) (k : Nat) (z : Int) : Nat → Int := fun k' => if k' = k then z else f k'
def vi (f : Nat → Int) (k : Nat) : Value := .int (iZ (f k))
def rowI (cI : ClassId) (n : Nat) (f : Nat → Int) : va_E := .inl (cI, n, .inl (fun k => iZ (f k)))
def cellOf (cI cZ : ClassId) (ad : Nat → Nat) (h : Nat) (f : Nat → Int) : va_E := match h with
  | 0 => .inr (5, [.ref (ad 1), .ref (ad 10), .ref (ad 12), .ref (ad 19), .ref (ad 25)])
  | 1 => .inr (4, [.ref (ad 2), .ref (ad 3), vi f 2, vi f 3, .ref (ad 4), .ref (ad 5), .ref (ad 6), .ref (ad 7), .ref (ad 8), .ref (ad 9), vi f 10])
  | 2 => rowI cI 3 f
  | 3 => rowI cI 512 f
  | 4 => rowI cI 12 f
  | 5 => rowI cI 4 f
  | 6 => rowI cI 4 f
  | 7 => rowI cI 4 f
  | 8 => rowI cI 2048 f
  | 9 => rowI cI 2048 f
  | 10 => .inr (1, [.ref (ad 11), vi f 1])
  | 11 => rowI cI 9 f
  | 12 => .inr (0, [.ref (ad 13), .ref (ad 14), .ref (ad 15), vi f 3, vi f 4, vi f 5, vi f 6, vi f 7, .ref (ad 16), .ref (ad 17), .ref (ad 18)])
  | 13 => rowI cI 512 f
  | 14 => rowI cI 512 f
  | 15 => rowI cI 512 f
  | 16 => rowI cI 4096 f
  | 17 => rowI cI 512 f
  | 18 => rowI cI 512 f
  | 19 => .inr (3, [.ref (ad 20), vi f 1, vi f 2, vi f 3, .ref (ad 22), .ref (ad 24)])
  | 20 => .inr (1, [.ref (ad 21), vi f 1])
  | 21 => rowI cI 9 f
  | 22 => .inr (1, [.ref (ad 23), vi f 1])
  | 23 => rowI cI 9 f
  | 24 => rowI cI 3 f
  | 25 => .inr (2, [vi f 0, .ref (ad 26), .ref (ad 27), vi f 3, .ref (ad 28), .ref (ad 29)])
  | 26 => rowI cI 2048 f
  | 27 => rowI cI 513 f
  | 28 => rowI cI 512 f
  | 29 => rowI cI 513 f
  | 30 => .inr (6, [.ref (ad 31), vi f 1, .ref (ad 32), .ref (ad 33), .ref (ad 34), .ref (ad 35), .ref (ad 36), .ref (ad 37), vi f 8, vi f 9, .ref (ad 38), .ref (ad 39), .ref (ad 40), .ref (ad 41), .ref (ad 42), .ref (ad 43)])
  | 31 => rowI cI 3 f
  | 32 => rowI cI 12 f
  | 33 => rowI cI 4 f
  | 34 => rowI cI 4 f
  | 35 => rowI cI 4 f
  | 36 => rowI cI 2048 f
  | 37 => rowI cI 9 f
  | 38 => rowI cI 2048 f
  | 39 => rowI cI 2048 f
  | 40 => rowI cZ 4096 f
  | 41 => rowI cZ 1024 f
  | 42 => rowI cI 9 f
  | _ => rowI cI 9 f
def wd (cI cZ : ClassId) (ad : Nat → Nat) (M : Mem) : va_W := (List.range 44).map (fun h => (ad h, cellOf cI cZ ad h (M h)))
theorem wd_get {cI cZ : ClassId} {ad : Nat → Nat} {M : Mem} {h : Nat} (hh : h < 44) : (wd cI cZ ad M)[h]? = some (ad h, cellOf cI cZ ad h (M h)) := by
  unfold wd
  rw [List.getElem?_map, List.getElem?_range hh]
  rfl
theorem wd_len {cI cZ : ClassId} {ad : Nat → Nat} {M : Mem} : (wd cI cZ ad M).length = 44 := by unfold wd; rw [List.length_map, List.length_range]
theorem wd_lt {cI cZ : ClassId} {ad : Nat → Nat} {M : Mem} {h : Nat} {q : Nat × va_E} (hq : (wd cI cZ ad M)[h]? = some q) : h < 44 ∧ q = (ad h, cellOf cI cZ ad h (M h)) := by
  have h1 : h < 44 := by
    have := (List.getElem?_eq_some_iff.mp hq).1
    rw [wd_len] at this
    exact this
  refine ⟨h1, ?_⟩
  rw [wd_get h1] at hq
  exact (Option.some.inj hq).symm
theorem wd_set {cI cZ : ClassId} {ad : Nat → Nat} {M : Mem} {h : Nat} {f : Nat → Int} (hh : h < 44) : (wd cI cZ ad M).set h (ad h, cellOf cI cZ ad h f) = wd cI cZ ad (ups M h f) := by
  refine List.ext_getElem? (fun k => ?_)
  rw [List.getElem?_set]
  by_cases hk : h = k
  · subst hk
    rw [if_pos rfl, if_pos (by rw [wd_len]; exact hh), wd_get hh]
    unfold ups
    rw [if_pos rfl]
  · rw [if_neg hk]
    by_cases h2 : k < 44
    · rw [wd_get h2, wd_get h2]
      unfold ups
      rw [if_neg (fun q => hk q.symm)]
    · rw [List.getElem?_eq_none (by rw [wd_len]; omega), List.getElem?_eq_none (by rw [wd_len]; omega)]
/-- the world: launch, class numbers, the two array classes, the addresses -/
abbrev WLD : Type := Launch × va_G × ClassId × ClassId × (Nat → Nat)
abbrev wl (w : WLD) : Launch := w.1
abbrev wD (w : WLD) : va_G := w.2.1
abbrev wI (w : WLD) : ClassId := w.2.2.1
abbrev wZ (w : WLD) : ClassId := w.2.2.2.1
abbrev wa (w : WLD) : Nat → Nat := w.2.2.2.2
/-- where a walk stands -/
abbrev KX : Type := Program × Env × Room × State × MethodId × Array Value × List Frame × Method × Code × Nat × Nat × (State → Prop) × (Nat → Prop) × Nat
abbrev kp (k : KX) : Program := k.1
abbrev ke (k : KX) : Env := k.2.1
abbrev kR (k : KX) : Room := k.2.2.1
abbrev ks (k : KX) : State := k.2.2.2.1
abbrev km (k : KX) : MethodId := k.2.2.2.2.1
abbrev ka (k : KX) : Array Value := k.2.2.2.2.2.1
abbrev kb (k : KX) : List Frame := k.2.2.2.2.2.2.1
abbrev kt (k : KX) : Method := k.2.2.2.2.2.2.2.1
abbrev kc (k : KX) : Code := k.2.2.2.2.2.2.2.2.1
abbrev kn (k : KX) : Nat := k.2.2.2.2.2.2.2.2.2.1
abbrev kz (k : KX) : Nat := k.2.2.2.2.2.2.2.2.2.2.1
abbrev kQ (k : KX) : State → Prop := k.2.2.2.2.2.2.2.2.2.2.2.1
abbrev kA (k : KX) : Nat → Prop := k.2.2.2.2.2.2.2.2.2.2.2.2.1
abbrev kL (k : KX) : Nat := k.2.2.2.2.2.2.2.2.2.2.2.2.2
abbrev tyZ (w : WLD) : List (ClassId × FieldType) := [(wI w, .int), (wZ w, .boolean)]
abbrev BB (w : WLD) (M : Mem) (t : State) : Prop := va_P (wD w) vwCl (wd (wI w) (wZ w) (wa w) M) t.heap ∧ va_K (wD w) vwCl (tyZ w) t ∧ va_D (fun _ => True) (wd (wI w) (wZ w) (wa w) M)
def Cx (w : WLD) (k : KX) (cc : ByteArray) (own : String) (rm : Room) : Prop :=
  (kp k).tables.exec = Jvm.exec ∧ (kc k).code = cc ∧ (kc k).maxLocals = kL k ∧ (ks k).vm.findClass own = some (km k).cls ∧ (∀ x ∈ wsL_law, x.before (ka k) (ks k) = true) ∧ va_K (wD w) vwCl (tyZ w) (ks k) ∧ (∀ q, (ks k).heap.size ≤ q → kA k q) ∧ (∀ M : Mem, va_D (kA k) (wd (wI w) (wZ w) (wa w) M)) ∧ kR k = rm ∧ kn k ≤ rm.cells ∧ kz k ≤ rm.slots
def WW (w : WLD) (k : KX) (pc : Nat) (lv : List (Nat × Value)) (st : List Value) (M : Mem) : Prop :=
  ∀ (H : Heap) (locs : List Loc) (ls : Array Slot), va_P (wD w) vwCl (wd (wI w) (wZ w) (wa w) M) H → va_S (kA k) (ks k).heap H locs → lv_has ls (kL k) lv → W (kp k) (wl w) (ke k) (kR k) (ks k) (km k) (ka k) (kb k) (kt k) (kc k) H locs (kn k) (kz k) (kQ k) (F0 (km k) pc ls st)
theorem iZ_add (a b : Int) : iZ a + iZ b = iZ (a + b) := by unfold iZ; exact (Int32.ofInt_add a b).symm
theorem iZ_mul (a b : Int) : iZ a * iZ b = iZ (a * b) := by unfold iZ; exact (Int32.ofInt_mul a b).symm
theorem iZ_neg (a : Int) : - iZ a = iZ (- a) := by unfold iZ; exact (Int32.ofInt_neg a).symm
theorem iZ_sub (a b : Int) : iZ a - iZ b = iZ (a - b) := by unfold iZ; exact (Int32.ofInt_sub a b).symm
abbrev R32 (a : Int) : Prop := -2147483648 ≤ a ∧ a < 2147483648
theorem iZ_toInt {a : Int} (h : R32 a) : (iZ a).toInt = a := by
  unfold iZ
  exact Int32.toInt_ofInt_of_le (by show -2147483648 ≤ a; exact h.1) (by show a < 2147483648; exact h.2)
theorem toInt_R32 (x : Int32) : R32 x.toInt := ⟨x.le_toInt, x.toInt_lt⟩
theorem iZ_of (x : Int32) : iZ x.toInt = x := by unfold iZ; exact Int32.ofInt_toInt x
theorem iZ_inj {a b : Int} (ha : R32 a) (hb : R32 b) : iZ a = iZ b ↔ a = b := ⟨fun h => by rw [← iZ_toInt ha, ← iZ_toInt hb, h], fun h => by rw [h]⟩
theorem iZ_lt {a b : Int} (ha : R32 a) (hb : R32 b) : iZ a < iZ b ↔ a < b := by rw [Int32.lt_iff_toInt_lt, iZ_toInt ha, iZ_toInt hb]
theorem iZ_le {a b : Int} (ha : R32 a) (hb : R32 b) : iZ a ≤ iZ b ↔ a ≤ b := by rw [Int32.le_iff_toInt_le, iZ_toInt ha, iZ_toInt hb]
theorem iZ_0 : iZ 0 = 0 := by decide
theorem R32_0 : R32 0 := by decide
theorem iZ_nat {n : Nat} : iZ (n : Int) = nI n := by unfold iZ nI; rfl
theorem iZ_in {z : Int} {n N : Nat} (hz : z = (n : Int)) (hn : n < N) (hN : N < 2 ^ 31) : vp_in (iZ z) N ∧ (iZ z).toNatClampNeg = n := by
  subst hz
  rw [iZ_nat]
  exact ⟨vp_in_nI hn hN, nI_clamp (by omega)⟩
section WWR
variable {w : WLD} {k : KX} {cc : ByteArray} {own : String} {rm : Room} {pc : Nat} {lv : List (Nat × Value)} {rest : List Value} {M : Mem}
theorem ww_eq {pc' : Nat} {lv' : List (Nat × Value)} {st st' : List Value} {M' : Mem} (h1 : pc' = pc) (h2 : lv' = lv) (h3 : st' = st) (h4 : M' = M) (h : WW w k pc' lv' st' M') : WW w k pc lv st M := by
  subst h1; subst h2; subst h3; subst h4; exact h
theorem ww_sub {lv' : List (Nat × Value)} {st : List Value} (is : List Nat) (h : lv_pick lv is = lv') (kk : WW w k pc lv' st M) : WW w k pc lv st M := fun H locs ls hP hS hl => kk H locs ls hP hS (lv_sub hl is h)
theorem ww_iconst (C : Cx w k cc own rm) {n : Int} (d : decode cc pc = .ok (.iconst n, 1)) (kk : WW w k (pc + 1) lv (.int (iZ n) :: rest) M) : WW w k pc lv rest M := fun H locs ls hP hS hl => lv_iconst C.1 C.2.1 d rfl (kk H locs ls hP hS hl)
theorem ww_bipush (C : Cx w k cc own rm) {n : Int} (d : decode cc pc = .ok (.bipush n, 2)) (hv : (Int8.ofInt n).toInt32 = iZ n) (kk : WW w k (pc + 2) lv (.int (iZ n) :: rest) M) : WW w k pc lv rest M := fun H locs ls hP hS hl => lv_bipush C.1 C.2.1 d hv (kk H locs ls hP hS hl)
theorem ww_sipush (C : Cx w k cc own rm) {n : Int} (d : decode cc pc = .ok (.sipush n, 3)) (hv : (Int16.ofInt n).toInt32 = iZ n) (kk : WW w k (pc + 3) lv (.int (iZ n) :: rest) M) : WW w k pc lv rest M := fun H locs ls hP hS hl => lv_sipush C.1 C.2.1 d hv (kk H locs ls hP hS hl)
theorem ww_iload_n (C : Cx w k cc own rm) {i : Fin 4} {x : Int32} (d : decode cc pc = .ok (.iload_n i, 1)) (j : Nat) (h : lv[j]? = some ((i : Nat), .int x)) (kk : WW w k (pc + 1) lv (.int x :: rest) M) : WW w k pc lv rest M := fun H locs ls hP hS hl => lv_iload_n C.1 C.2.1 d rfl (lv_at hl j h) (kk H locs ls hP hS hl)
theorem ww_iload (C : Cx w k cc own rm) {i : Nat} {x : Int32} (d : decode cc pc = .ok (.iload i, 2)) (j : Nat) (h : lv[j]? = some (i, .int x)) (kk : WW w k (pc + 2) lv (.int x :: rest) M) : WW w k pc lv rest M := fun H locs ls hP hS hl => lv_iload C.1 C.2.1 d (lv_at hl j h) (kk H locs ls hP hS hl)
theorem ww_aload_n (C : Cx w k cc own rm) {i : Fin 4} {x : Nat} (d : decode cc pc = .ok (.aload_n i, 1)) (j : Nat) (h : lv[j]? = some ((i : Nat), .ref x)) (kk : WW w k (pc + 1) lv (.ref x :: rest) M) : WW w k pc lv rest M := fun H locs ls hP hS hl => lv_aload_n C.1 C.2.1 d rfl (lv_at hl j h) (kk H locs ls hP hS hl)
theorem ww_aload (C : Cx w k cc own rm) {i : Nat} {x : Nat} (d : decode cc pc = .ok (.aload i, 2)) (j : Nat) (h : lv[j]? = some (i, .ref x)) (kk : WW w k (pc + 2) lv (.ref x :: rest) M) : WW w k pc lv rest M := fun H locs ls hP hS hl => lv_aload C.1 C.2.1 d (lv_at hl j h) (kk H locs ls hP hS hl)
abbrev drp (lv : List (Nat × Value)) (i : Nat) : List (Nat × Value) := lv.filter (fun q => !(q.1 == i) && !(q.1 + 1 == i && q.2.category == 2))
theorem ww_istore_n (C : Cx w k cc own rm) {i : Fin 4} {x : Int32} {lv' : List (Nat × Value)} (d : decode cc pc = .ok (.istore_n i, 1)) (hn : (i : Nat) < kL k) (h : ((i : Nat), Value.int x) :: drp lv i = lv') (kk : WW w k (pc + 1) lv' rest M) : WW w k pc lv (.int x :: rest) M := fun H locs ls hP hS hl => lv_istore_n C.1 C.2.1 d rfl hl hn h (fun ls hl => kk H locs ls hP hS hl)
theorem ww_istore (C : Cx w k cc own rm) {i : Nat} {x : Int32} {lv' : List (Nat × Value)} (d : decode cc pc = .ok (.istore i, 2)) (hn : i < kL k) (h : (i, Value.int x) :: drp lv i = lv') (kk : WW w k (pc + 2) lv' rest M) : WW w k pc lv (.int x :: rest) M := fun H locs ls hP hS hl => lv_istore C.1 C.2.1 d hl hn h (fun ls hl => kk H locs ls hP hS hl)
theorem ww_astore_n (C : Cx w k cc own rm) {i : Fin 4} {x : Nat} {lv' : List (Nat × Value)} (d : decode cc pc = .ok (.astore_n i, 1)) (hn : (i : Nat) < kL k) (h : ((i : Nat), Value.ref x) :: drp lv i = lv') (kk : WW w k (pc + 1) lv' rest M) : WW w k pc lv (.ref x :: rest) M := fun H locs ls hP hS hl => lv_astore_n C.1 C.2.1 d rfl hl hn h (fun ls hl => kk H locs ls hP hS hl)
theorem ww_iinc (C : Cx w k cc own rm) {i : Nat} {n a : Int} {lv' : List (Nat × Value)} (d : decode cc pc = .ok (.iinc i n, 3)) (j : Nat) (hj : lv[j]? = some (i, .int (iZ a))) (hn : i < kL k) (h : (i, Value.int (iZ (a + n))) :: drp lv i = lv') (kk : WW w k (pc + 3) lv' rest M) : WW w k pc lv rest M := fun H locs ls hP hS hl => lv_iinc (v := iZ (a + n)) C.1 C.2.1 d hl hj (iZ_add a n) hn h (fun ls hl => kk H locs ls hP hS hl)
theorem ww_iadd (C : Cx w k cc own rm) {a b : Int} (d : decode cc pc = .ok (.iadd, 1)) (kk : WW w k (pc + 1) lv (.int (iZ (a + b)) :: rest) M) : WW w k pc lv (.int (iZ b) :: .int (iZ a) :: rest) M := fun H locs ls hP hS hl => lv_iadd C.1 C.2.1 d (by rw [iZ_add]; exact kk H locs ls hP hS hl)
theorem ww_isub (C : Cx w k cc own rm) {a b : Int} (d : decode cc pc = .ok (.isub, 1)) (kk : WW w k (pc + 1) lv (.int (iZ (a - b)) :: rest) M) : WW w k pc lv (.int (iZ b) :: .int (iZ a) :: rest) M := fun H locs ls hP hS hl => lv_isub C.1 C.2.1 d (by rw [iZ_sub]; exact kk H locs ls hP hS hl)
theorem ww_imul (C : Cx w k cc own rm) {a b : Int} (d : decode cc pc = .ok (.imul, 1)) (kk : WW w k (pc + 1) lv (.int (iZ (a * b)) :: rest) M) : WW w k pc lv (.int (iZ b) :: .int (iZ a) :: rest) M := fun H locs ls hP hS hl => lv_imul C.1 C.2.1 d (by rw [iZ_mul]; exact kk H locs ls hP hS hl)
theorem ww_ineg (C : Cx w k cc own rm) {a : Int} (d : decode cc pc = .ok (.ineg, 1)) (kk : WW w k (pc + 1) lv (.int (iZ (-a)) :: rest) M) : WW w k pc lv (.int (iZ a) :: rest) M := fun H locs ls hP hS hl => lv_ineg C.1 C.2.1 d (by rw [iZ_neg]; exact kk H locs ls hP hS hl)
theorem ww_ixor (C : Cx w k cc own rm) {a b : Int} (d : decode cc pc = .ok (.ixor, 1)) (kk : WW w k (pc + 1) lv (.int (iZ (iZ a ^^^ iZ b).toInt) :: rest) M) : WW w k pc lv (.int (iZ b) :: .int (iZ a) :: rest) M := fun H locs ls hP hS hl => lv_ixor C.1 C.2.1 d (by rw [iZ_of] at kk; exact kk H locs ls hP hS hl)
theorem iZ_div {a b : Int} (ha : R32 a) (hb : R32 b) (h0 : 0 < b) : iZ a / iZ b = iZ (a.tdiv b) := by
  have h1 : iZ b ≠ -1 := fun h => by
    have h2 := congrArg Int32.toInt h
    rw [iZ_toInt hb] at h2
    have h3 : (-1 : Int32).toInt = -1 := by decide
    omega
  have h2 := Int32.toInt_div_of_ne_right (iZ a) (iZ b) h1
  rw [iZ_toInt ha, iZ_toInt hb] at h2
  rw [← h2, iZ_of]
theorem iZ_rem {a b : Int} (ha : R32 a) (hb : R32 b) (h0 : 0 < b) : iZ a - iZ a / iZ b * iZ b = iZ (a.tmod b) := by
  rw [iZ_div ha hb h0, iZ_mul, iZ_sub]
  congr 1
  have := Int.mul_tdiv_add_tmod a b
  rw [Int.mul_comm] at this
  omega
theorem iZ_ne0 {b : Int} (hb : R32 b) (h0 : 0 < b) : ¬ iZ b = 0 := fun h => by
  rw [← iZ_0, iZ_inj hb R32_0] at h
  omega
theorem ww_idiv (C : Cx w k cc own rm) {a b : Int} (d : decode cc pc = .ok (.idiv, 1)) (ha : R32 a) (hb : R32 b) (h0 : 0 < b) (kk : WW w k (pc + 1) lv (.int (iZ (a.tdiv b)) :: rest) M) : WW w k pc lv (.int (iZ b) :: .int (iZ a) :: rest) M := fun H locs ls hP hS hl => lv_idiv C.1 C.2.1 d (iZ_ne0 hb h0) (by rw [iZ_div ha hb h0]; exact kk H locs ls hP hS hl)
theorem ww_irem (C : Cx w k cc own rm) {a b : Int} (d : decode cc pc = .ok (.irem, 1)) (ha : R32 a) (hb : R32 b) (h0 : 0 < b) (kk : WW w k (pc + 1) lv (.int (iZ (a.tmod b)) :: rest) M) : WW w k pc lv (.int (iZ b) :: .int (iZ a) :: rest) M := fun H locs ls hP hS hl => lv_irem C.1 C.2.1 d (iZ_ne0 hb h0) (by rw [iZ_rem ha hb h0]; exact kk H locs ls hP hS hl)
theorem ww_idivN (C : Cx w k cc own rm) {a b : Int} (d : decode cc pc = .ok (.idiv, 1)) (ha : 0 ≤ a ∧ a < 2147483648) (hb : 0 < b ∧ b < 2147483648) (kk : WW w k (pc + 1) lv (.int (iZ (a / b)) :: rest) M) : WW w k pc lv (.int (iZ b) :: .int (iZ a) :: rest) M := ww_idiv C d ⟨by omega, ha.2⟩ ⟨by omega, hb.2⟩ hb.1 (by rw [Int.tdiv_eq_ediv_of_nonneg ha.1]; exact kk)
theorem ww_iremN (C : Cx w k cc own rm) {a b : Int} (d : decode cc pc = .ok (.irem, 1)) (ha : 0 ≤ a ∧ a < 2147483648) (hb : 0 < b ∧ b < 2147483648) (kk : WW w k (pc + 1) lv (.int (iZ (a % b)) :: rest) M) : WW w k pc lv (.int (iZ b) :: .int (iZ a) :: rest) M := ww_irem C d ⟨by omega, ha.2⟩ ⟨by omega, hb.2⟩ hb.1 (by rw [Int.tmod_eq_emod_of_nonneg ha.1]; exact kk)
theorem iZ_shr6 {n : Nat} (h : n < 2 ^ 31) : iZ (n : Int) >>> (iZ 6 &&& 31) = iZ ((n / 64 : Nat) : Int) := by
  rw [iZ_nat, iZ_nat]
  exact pk_shrN h _ 6 (by decide)
theorem iZ_shr3 {n : Nat} (h : n < 2 ^ 31) : iZ (n : Int) >>> (iZ 3 &&& 31) = iZ ((n / 8 : Nat) : Int) := by
  rw [iZ_nat, iZ_nat]
  exact pk_shrN h _ 3 (by decide)
theorem iZ_and7 {n : Nat} (h : n < 2 ^ 31) : iZ (n : Int) &&& iZ 7 = iZ ((n % 8 : Nat) : Int) := by
  rw [iZ_nat, iZ_nat]
  exact pk_andN (by omega) 3 (by decide)
theorem ww_ishr6 (C : Cx w k cc own rm) {a : Int} (d : decode cc pc = .ok (.ishr, 1)) (n : Nat) (ha : a = (n : Int)) (hn : n < 2147483648) (kk : WW w k (pc + 1) lv (.int (iZ ((n / 64 : Nat) : Int)) :: rest) M) : WW w k pc lv (.int (iZ 6) :: .int (iZ a) :: rest) M := fun H locs ls hP hS hl => lv_ishr C.1 C.2.1 d (by subst ha; rw [iZ_shr6 hn]; exact kk H locs ls hP hS hl)
theorem ww_ishr3 (C : Cx w k cc own rm) {a : Int} (d : decode cc pc = .ok (.ishr, 1)) (n : Nat) (ha : a = (n : Int)) (hn : n < 2147483648) (kk : WW w k (pc + 1) lv (.int (iZ ((n / 8 : Nat) : Int)) :: rest) M) : WW w k pc lv (.int (iZ 3) :: .int (iZ a) :: rest) M := fun H locs ls hP hS hl => lv_ishr C.1 C.2.1 d (by subst ha; rw [iZ_shr3 hn]; exact kk H locs ls hP hS hl)
theorem ww_iand7 (C : Cx w k cc own rm) {a : Int} (d : decode cc pc = .ok (.iand, 1)) (n : Nat) (ha : a = (n : Int)) (hn : n < 2147483648) (kk : WW w k (pc + 1) lv (.int (iZ ((n % 8 : Nat) : Int)) :: rest) M) : WW w k pc lv (.int (iZ 7) :: .int (iZ a) :: rest) M := fun H locs ls hP hS hl => lv_iand C.1 C.2.1 d (by subst ha; rw [iZ_and7 hn]; exact kk H locs ls hP hS hl)
theorem ww_dup (C : Cx w k cc own rm) {v : Value} (d : decode cc pc = .ok (.dup, 1)) (hv : v.category = 1) (kk : WW w k (pc + 1) lv (v :: v :: rest) M) : WW w k pc lv (v :: rest) M := fun H locs ls hP hS hl => lv_dup C.1 C.2.1 d hv (kk H locs ls hP hS hl)
theorem ww_dup2 (C : Cx w k cc own rm) {v u : Value} (d : decode cc pc = .ok (.dup2, 1)) (hv : v.category = 1) (hu : u.category = 1) (kk : WW w k (pc + 1) lv (v :: u :: v :: u :: rest) M) : WW w k pc lv (v :: u :: rest) M := fun H locs ls hP hS hl => lv_dup2_11 C.1 C.2.1 d hv hu (kk H locs ls hP hS hl)
theorem ww_dup_x1 (C : Cx w k cc own rm) {v u : Value} (d : decode cc pc = .ok (.dup_x1, 1)) (hv : v.category = 1) (hu : u.category = 1) (kk : WW w k (pc + 1) lv (v :: u :: v :: rest) M) : WW w k pc lv (v :: u :: rest) M := fun H locs ls hP hS hl => lv_dup_x1 C.1 C.2.1 d hv hu (kk H locs ls hP hS hl)
theorem ww_goto (C : Cx w k cc own rm) {off : Int} (tgt : Nat) (d : decode cc pc = .ok (.goto off, 3)) (ht : (pc : Int) + off = (tgt : Int)) (kk : WW w k tgt lv rest M) : WW w k pc lv rest M := fun H locs ls hP hS hl => lv_goto C.1 C.2.1 d ht (kk H locs ls hP hS hl)
theorem ww_icmp_eq (C : Cx w k cc own rm) {a b off : Int} (tgt : Nat) (d : decode cc pc = .ok (.if_icmp .eq off, 3)) (ht : (pc : Int) + off = (tgt : Int)) (ha : R32 a) (hb : R32 b) (kt : a = b → WW w k tgt lv rest M) (kf : ¬ (a = b) → WW w k (pc + 3) lv rest M) : WW w k pc lv (.int (iZ b) :: .int (iZ a) :: rest) M := fun H locs ls hP hS hl => lv_icmp_eq C.1 C.2.1 d ht (fun h => kt ((iZ_inj ha hb).mp h) H locs ls hP hS hl) (fun h => kf (fun q => h ((iZ_inj ha hb).mpr q)) H locs ls hP hS hl)
theorem ww_icmp_ne (C : Cx w k cc own rm) {a b off : Int} (tgt : Nat) (d : decode cc pc = .ok (.if_icmp .ne off, 3)) (ht : (pc : Int) + off = (tgt : Int)) (ha : R32 a) (hb : R32 b) (kt : ¬ a = b → WW w k tgt lv rest M) (kf : a = b → WW w k (pc + 3) lv rest M) : WW w k pc lv (.int (iZ b) :: .int (iZ a) :: rest) M := fun H locs ls hP hS hl => lv_icmp_ne C.1 C.2.1 d ht (fun h => kt ((not_congr (iZ_inj ha hb)).mp h) H locs ls hP hS hl) (fun h => kf ((iZ_inj ha hb).mp h) H locs ls hP hS hl)
theorem ww_icmp_lt (C : Cx w k cc own rm) {a b off : Int} (tgt : Nat) (d : decode cc pc = .ok (.if_icmp .lt off, 3)) (ht : (pc : Int) + off = (tgt : Int)) (ha : R32 a) (hb : R32 b) (kt : a < b → WW w k tgt lv rest M) (kf : ¬ (a < b) → WW w k (pc + 3) lv rest M) : WW w k pc lv (.int (iZ b) :: .int (iZ a) :: rest) M := fun H locs ls hP hS hl => lv_icmp_lt C.1 C.2.1 d ht (fun h => kt ((iZ_lt ha hb).mp h) H locs ls hP hS hl) (fun h => kf (fun q => h ((iZ_lt ha hb).mpr q)) H locs ls hP hS hl)
theorem ww_icmp_ge (C : Cx w k cc own rm) {a b off : Int} (tgt : Nat) (d : decode cc pc = .ok (.if_icmp .ge off, 3)) (ht : (pc : Int) + off = (tgt : Int)) (ha : R32 a) (hb : R32 b) (kt : b ≤ a → WW w k tgt lv rest M) (kf : ¬ (b ≤ a) → WW w k (pc + 3) lv rest M) : WW w k pc lv (.int (iZ b) :: .int (iZ a) :: rest) M := fun H locs ls hP hS hl => lv_icmp_ge C.1 C.2.1 d ht (fun h => kt ((iZ_le hb ha).mp h) H locs ls hP hS hl) (fun h => kf (fun q => h ((iZ_le hb ha).mpr q)) H locs ls hP hS hl)
theorem ww_icmp_gt (C : Cx w k cc own rm) {a b off : Int} (tgt : Nat) (d : decode cc pc = .ok (.if_icmp .gt off, 3)) (ht : (pc : Int) + off = (tgt : Int)) (ha : R32 a) (hb : R32 b) (kt : b < a → WW w k tgt lv rest M) (kf : ¬ (b < a) → WW w k (pc + 3) lv rest M) : WW w k pc lv (.int (iZ b) :: .int (iZ a) :: rest) M := fun H locs ls hP hS hl => lv_icmp_gt C.1 C.2.1 d ht (fun h => kt ((iZ_lt hb ha).mp h) H locs ls hP hS hl) (fun h => kf (fun q => h ((iZ_lt hb ha).mpr q)) H locs ls hP hS hl)
theorem ww_icmp_le (C : Cx w k cc own rm) {a b off : Int} (tgt : Nat) (d : decode cc pc = .ok (.if_icmp .le off, 3)) (ht : (pc : Int) + off = (tgt : Int)) (ha : R32 a) (hb : R32 b) (kt : a ≤ b → WW w k tgt lv rest M) (kf : ¬ (a ≤ b) → WW w k (pc + 3) lv rest M) : WW w k pc lv (.int (iZ b) :: .int (iZ a) :: rest) M := fun H locs ls hP hS hl => lv_icmp_le C.1 C.2.1 d ht (fun h => kt ((iZ_le ha hb).mp h) H locs ls hP hS hl) (fun h => kf (fun q => h ((iZ_le ha hb).mpr q)) H locs ls hP hS hl)
theorem ww_if_eq (C : Cx w k cc own rm) {a off : Int} (tgt : Nat) (d : decode cc pc = .ok (.ifCond .eq off, 3)) (ht : (pc : Int) + off = (tgt : Int)) (ha : R32 a) (kt : a = 0 → WW w k tgt lv rest M) (kf : ¬ (a = 0) → WW w k (pc + 3) lv rest M) : WW w k pc lv (.int (iZ a) :: rest) M := fun H locs ls hP hS hl => lv_if_eq C.1 C.2.1 d ht (fun h => kt ((iZ_inj ha R32_0).mp h) H locs ls hP hS hl) (fun h => kf (fun q => h ((iZ_inj ha R32_0).mpr q)) H locs ls hP hS hl)
theorem ww_if_ne (C : Cx w k cc own rm) {a off : Int} (tgt : Nat) (d : decode cc pc = .ok (.ifCond .ne off, 3)) (ht : (pc : Int) + off = (tgt : Int)) (ha : R32 a) (kt : ¬ a = 0 → WW w k tgt lv rest M) (kf : a = 0 → WW w k (pc + 3) lv rest M) : WW w k pc lv (.int (iZ a) :: rest) M := fun H locs ls hP hS hl => lv_if_ne C.1 C.2.1 d ht (fun h => kt ((not_congr (iZ_inj ha R32_0)).mp h) H locs ls hP hS hl) (fun h => kf ((iZ_inj ha R32_0).mp h) H locs ls hP hS hl)
theorem ww_if_lt (C : Cx w k cc own rm) {a off : Int} (tgt : Nat) (d : decode cc pc = .ok (.ifCond .lt off, 3)) (ht : (pc : Int) + off = (tgt : Int)) (ha : R32 a) (kt : a < 0 → WW w k tgt lv rest M) (kf : ¬ (a < 0) → WW w k (pc + 3) lv rest M) : WW w k pc lv (.int (iZ a) :: rest) M := fun H locs ls hP hS hl => lv_if_lt C.1 C.2.1 d ht (fun h => kt ((iZ_lt ha R32_0).mp h) H locs ls hP hS hl) (fun h => kf (fun q => h ((iZ_lt ha R32_0).mpr q)) H locs ls hP hS hl)
theorem ww_if_ge (C : Cx w k cc own rm) {a off : Int} (tgt : Nat) (d : decode cc pc = .ok (.ifCond .ge off, 3)) (ht : (pc : Int) + off = (tgt : Int)) (ha : R32 a) (kt : 0 ≤ a → WW w k tgt lv rest M) (kf : ¬ (0 ≤ a) → WW w k (pc + 3) lv rest M) : WW w k pc lv (.int (iZ a) :: rest) M := fun H locs ls hP hS hl => lv_if_ge C.1 C.2.1 d ht (fun h => kt ((iZ_le R32_0 ha).mp h) H locs ls hP hS hl) (fun h => kf (fun q => h ((iZ_le R32_0 ha).mpr q)) H locs ls hP hS hl)
theorem ww_if_gt (C : Cx w k cc own rm) {a off : Int} (tgt : Nat) (d : decode cc pc = .ok (.ifCond .gt off, 3)) (ht : (pc : Int) + off = (tgt : Int)) (ha : R32 a) (kt : 0 < a → WW w k tgt lv rest M) (kf : ¬ (0 < a) → WW w k (pc + 3) lv rest M) : WW w k pc lv (.int (iZ a) :: rest) M := fun H locs ls hP hS hl => lv_if_gt C.1 C.2.1 d ht (fun h => kt ((iZ_lt R32_0 ha).mp h) H locs ls hP hS hl) (fun h => kf (fun q => h ((iZ_lt R32_0 ha).mpr q)) H locs ls hP hS hl)
theorem ww_if_le (C : Cx w k cc own rm) {a off : Int} (tgt : Nat) (d : decode cc pc = .ok (.ifCond .le off, 3)) (ht : (pc : Int) + off = (tgt : Int)) (ha : R32 a) (kt : a ≤ 0 → WW w k tgt lv rest M) (kf : ¬ (a ≤ 0) → WW w k (pc + 3) lv rest M) : WW w k pc lv (.int (iZ a) :: rest) M := fun H locs ls hP hS hl => lv_if_le C.1 C.2.1 d ht (fun h => kt ((iZ_le ha R32_0).mp h) H locs ls hP hS hl) (fun h => kf (fun q => h ((iZ_le ha R32_0).mpr q)) H locs ls hP hS hl)
/-- an int field, or a field that holds a cell -/
theorem ww_get (C : Cx w k cc own rm) (h : Nat) (hh : h < 44) (ci : Nat) {fs : List Value} {CN : String} {T : u_T} {N index f : Nat} {v : Value} (he : cellOf (wI w) (wZ w) (wa w) h (M h) = .inr (ci, fs)) (hc : vwCl[ci]? = some (CN, T, N)) (hin : ∀ x ∈ u_ws CN T N, x ∈ wsL_law) (hf : f < N) (hl : Cond.fieldLink own index (T f).1 (T f).2.1 (T f).2.2.1 ∈ wsL_law) (hv : fs[f]? = some v) (d : decode cc pc = .ok (.getfield index, 3))
    (kk : WW w k (pc + 3) lv (v :: rest) M) : WW w k pc lv (.ref (wa w h) :: rest) M := fun H locs ls hP hS hl2 =>
  va_get (D := wD w) (ci := ci) (v := v) (C := CN) (T := T) (N := N) C.1 C.2.1 C.2.2.2.2.1 hin C.2.2.2.1 C.2.2.2.2.2.1 hP h (by rw [wd_get hh, he]) hc f hf (C.2.2.2.2.1 _ hl) (fun _ h9 => h9) hv d (kk H locs ls hP hS hl2)
theorem ww_put (C : Cx w k cc own rm) (h : Nat) (hh : h < 44) (ci : Nat) {fs : List Value} {CN : String} {T : u_T} {N index f : Nat} {z : Int} {ty : FieldType} (he : cellOf (wI w) (wZ w) (wa w) h (M h) = .inr (ci, fs)) (he2 : cellOf (wI w) (wZ w) (wa w) h (up1 (M h) f z) = .inr (ci, fs.set f (.int (iZ z)))) (hc : vwCl[ci]? = some (CN, T, N)) (hin : ∀ x ∈ u_ws CN T N, x ∈ wsL_law) (ty0 : Nat → FieldType) (hty : ∀ k, k < N → parseFieldDescriptor (T k).2.2.1 = some (ty0 k)) (hnm : ∀ a, a < N → ∀ b, b < N → a ≠ b → (T a).2.1 ≠ (T b).2.1) (hf : f < N) (hl : Cond.fieldLink own index (T f).1 (T f).2.1 (T f).2.2.1 ∈ wsL_law) (hfin : (T f).2.2.2 = false) (hd : parseFieldDescriptor (T f).2.2.1 = some ty) (hn : narrow ty (.int (iZ z)) = .int (iZ z)) (hfit : fits ty (.int (iZ z)) = true) (hlen : f < fs.length) (d : decode cc pc = .ok (.putfield index, 3))
    (kk : WW w k (pc + 3) lv rest (ups M h (up1 (M h) f z))) : WW w k pc lv (.int (iZ z) :: .ref (wa w h) :: rest) M := fun H locs ls hP hS hl2 =>
  va_put (D := wD w) (ci := ci) (v := .int (iZ z)) (ty := ty) (C := CN) (T := T) (N := N) C.1 C.2.1 C.2.2.2.2.1 hin ty0 hty hnm C.2.2.2.1 C.2.2.2.2.2.1 hP (C.2.2.2.2.2.2.2.1 M) hS h (by rw [wd_get hh, he]) hc f hf (C.2.2.2.2.1 _ hl) (fun _ h9 => h9) hfin hd hn hfit hlen d (fun H1 locs1 hP1 _ hS1 => kk H1 locs1 ls (by rw [← he2, wd_set hh] at hP1; exact hP1) hS1 hl2)
theorem ww_iald (C : Cx w k cc own rm) (h : Nat) (hh : h < 44) {N : Nat} {i : Int} (n : Nat) {z : Int} (he : cellOf (wI w) (wZ w) (wa w) h (M h) = rowI (wI w) N (M h)) (hN : N < 2 ^ 31) (hi : i = (n : Int)) (hn : n < N) (hz : M h n = z) (d : decode cc pc = .ok (.iaload, 1))
    (kk : WW w k (pc + 1) lv (.int (iZ z) :: rest) M) : WW w k pc lv (.int (iZ i) :: .ref (wa w h) :: rest) M := fun H locs ls hP hS hl2 =>
  va_iald (D := wD w) C.1 C.2.1 C.2.2.2.2.2.1 hP h 0 (cA := wI w) (n := N) (f := fun k => iZ (M h k)) (by rw [wd_get hh, he]; rfl) rfl (iZ_in hi hn hN).1 d (by rw [(iZ_in hi hn hN).2, hz]; exact kk H locs ls hP hS hl2)
theorem upd_iZ (f : Nat → Int) (n : Nat) (z : Int) : upd (fun k => iZ (f k)) n (iZ z) = fun k => iZ (up1 f n z k) := by
  funext j
  unfold upd up1
  by_cases h : j = n
  · rw [if_pos h, if_pos h]
  · rw [if_neg h, if_neg h]
theorem ww_iast (C : Cx w k cc own rm) (h : Nat) (hh : h < 44) {N : Nat} {i : Int} (n : Nat) {z : Int} (he : ∀ f : Nat → Int, cellOf (wI w) (wZ w) (wa w) h f = rowI (wI w) N f) (hN : N < 2 ^ 31) (hi : i = (n : Int)) (hn : n < N) (d : decode cc pc = .ok (.iastore, 1))
    (kk : WW w k (pc + 1) lv rest (ups M h (up1 (M h) n z))) : WW w k pc lv (.int (iZ z) :: .int (iZ i) :: .ref (wa w h) :: rest) M := fun H locs ls hP hS hl2 =>
  va_iast (D := wD w) C.1 C.2.1 C.2.2.2.2.2.1 hP (C.2.2.2.2.2.2.2.1 M) hS h 0 (cA := wI w) (n := N) (f := fun k => iZ (M h k)) (by rw [wd_get hh, he]; rfl) rfl (iZ_in hi hn hN).1 d (fun H1 locs1 hP1 _ hS1 => kk H1 locs1 ls (by
    rw [(iZ_in hi hn hN).2, upd_iZ] at hP1
    have e : (wa w h, Sum.inl (wI w, N, Sum.inl (fun k => iZ (up1 (M h) n z k)))) = (wa w h, cellOf (wI w) (wZ w) (wa w) h (up1 (M h) n z)) := by rw [he]; rfl
    rw [e, wd_set hh] at hP1
    exact hP1) hS1 hl2)
theorem ww_zald (C : Cx w k cc own rm) (h : Nat) (hh : h < 44) {N : Nat} {i : Int} (n : Nat) {z : Int} (he : cellOf (wI w) (wZ w) (wa w) h (M h) = rowI (wZ w) N (M h)) (hN : N < 2 ^ 31) (hi : i = (n : Int)) (hn : n < N) (hz : M h n = z) (d : decode cc pc = .ok (.baload, 1))
    (kk : WW w k (pc + 1) lv (.int (iZ z) :: rest) M) : WW w k pc lv (.int (iZ i) :: .ref (wa w h) :: rest) M := fun H locs ls hP hS hl2 =>
  va_zald (D := wD w) C.1 C.2.1 C.2.2.2.2.2.1 hP h 1 (cA := wZ w) (n := N) (f := fun k => iZ (M h k)) (by rw [wd_get hh, he]; rfl) rfl (iZ_in hi hn hN).1 d (by rw [(iZ_in hi hn hN).2, hz]; exact kk H locs ls hP hS hl2)
theorem ww_zast (C : Cx w k cc own rm) (h : Nat) (hh : h < 44) {N : Nat} {i : Int} (n : Nat) {z : Int} (he : ∀ f : Nat → Int, cellOf (wI w) (wZ w) (wa w) h f = rowI (wZ w) N f) (hN : N < 2 ^ 31) (hi : i = (n : Int)) (hn : n < N) (hz : z = 0 ∨ z = 1) (d : decode cc pc = .ok (.bastore, 1))
    (kk : WW w k (pc + 1) lv rest (ups M h (up1 (M h) n z))) : WW w k pc lv (.int (iZ z) :: .int (iZ i) :: .ref (wa w h) :: rest) M := fun H locs ls hP hS hl2 =>
  va_zast (D := wD w) C.1 C.2.1 C.2.2.2.2.2.1 hP (C.2.2.2.2.2.2.2.1 M) hS h 1 (cA := wZ w) (n := N) (f := fun k => iZ (M h k)) (by rw [wd_get hh, he]; rfl) rfl (iZ_in hi hn hN).1 d (fun H1 locs1 hP1 _ hS1 => kk H1 locs1 ls (by
    have ez : vp_nar .boolean (iZ z) = iZ z := by rcases hz with rfl | rfl <;> decide
    rw [(iZ_in hi hn hN).2, ez, upd_iZ] at hP1
    have e : (wa w h, Sum.inl (wZ w, N, Sum.inl (fun k => iZ (up1 (M h) n z k)))) = (wa w h, cellOf (wI w) (wZ w) (wa w) h (up1 (M h) n z)) := by rw [he]; rfl
    rw [e, wd_set hh] at hP1
    exact hP1) hS1 hl2)
theorem ww_max (C : Cx w k cc own rm) {index : Nat} {a b : Int} (hl : Cond.methodLink own index Lib.Math.max.name ∈ wsL_law) (ha : R32 a) (hb : R32 b) (hR : 1 ≤ rm.frames ∧ 21 ≤ rm.locals) (hr : (rest.map fun v => v.category).sum ≤ 8) (d : decode cc pc = .ok (.invokestatic index, 3))
    (kk : WW w k (pc + 3) lv (.int (iZ (max a b)) :: rest) M) : WW w k pc lv (.int (iZ b) :: .int (iZ a) :: rest) M := fun H locs ls hP hS hl2 =>
  va_mmax C.1 C.2.1 (C.2.2.1.trans hl2.1.symm) C.2.2.2.1 (C.2.2.2.2.1 _ hl) (C.2.2.2.2.1 _ st_Lib_Math_max_name) (C.2.2.2.2.1 _ it__java_lang_Math_) (C.2.2.2.2.1 _ co_Lib_Math_max_name) (by rw [C.2.2.2.2.2.2.2.2.1]; exact hR.1) (by rw [C.2.2.2.2.2.2.2.2.1]; omega) (by rw [C.2.2.2.2.2.2.2.2.1]; exact C.2.2.2.2.2.2.2.2.2.1) (by rw [C.2.2.2.2.2.2.2.2.1]; exact C.2.2.2.2.2.2.2.2.2.2) d (by
    have e : (if iZ a < iZ b then iZ b else iZ a) = iZ (max a b) := by
      by_cases h : a < b
      · rw [if_pos ((iZ_lt ha hb).mpr h), Int.max_eq_right (by omega)]
      · rw [if_neg (fun q => h ((iZ_lt ha hb).mp q)), Int.max_eq_left (by omega)]
    rw [e]
    exact kk H locs ls hP hS hl2)
theorem ww_min (C : Cx w k cc own rm) {index : Nat} {a b : Int} (hl : Cond.methodLink own index Lib.Math.min.name ∈ wsL_law) (ha : R32 a) (hb : R32 b) (hR : 1 ≤ rm.frames ∧ 21 ≤ rm.locals) (hr : (rest.map fun v => v.category).sum ≤ 8) (d : decode cc pc = .ok (.invokestatic index, 3))
    (kk : WW w k (pc + 3) lv (.int (iZ (min a b)) :: rest) M) : WW w k pc lv (.int (iZ b) :: .int (iZ a) :: rest) M := fun H locs ls hP hS hl2 =>
  va_mmin C.1 C.2.1 (C.2.2.1.trans hl2.1.symm) C.2.2.2.1 (C.2.2.2.2.1 _ hl) (C.2.2.2.2.1 _ st_Lib_Math_min_name) (C.2.2.2.2.1 _ it__java_lang_Math_) (C.2.2.2.2.1 _ co_Lib_Math_min_name) (by rw [C.2.2.2.2.2.2.2.2.1]; exact hR.1) (by rw [C.2.2.2.2.2.2.2.2.1]; omega) (by rw [C.2.2.2.2.2.2.2.2.1]; exact C.2.2.2.2.2.2.2.2.2.1) (by rw [C.2.2.2.2.2.2.2.2.1]; exact C.2.2.2.2.2.2.2.2.2.2) d (by
    have e : (if iZ b < iZ a then iZ b else iZ a) = iZ (min a b) := by
      by_cases h : b < a
      · rw [if_pos ((iZ_lt hb ha).mpr h), Int.min_eq_right (by omega)]
      · rw [if_neg (fun q => h ((iZ_lt hb ha).mp q)), Int.min_eq_left (by omega)]
    rw [e]
    exact kk H locs ls hP hS hl2)
/-- the size of a number, as an integer -/
def aZ (a : Int) : Int := if 0 ≤ a then a else - a
theorem ww_abs (C : Cx w k cc own rm) {index : Nat} {a : Int} (hl : Cond.methodLink own index Lib.Math.abs.name ∈ wsL_law) (ha : R32 a) (hR : 1 ≤ rm.frames ∧ 21 ≤ rm.locals) (hr : (rest.map fun v => v.category).sum ≤ 8) (d : decode cc pc = .ok (.invokestatic index, 3))
    (kk : WW w k (pc + 3) lv (.int (iZ (aZ a)) :: rest) M) : WW w k pc lv (.int (iZ a) :: rest) M := fun H locs ls hP hS hl2 =>
  va_mabs C.1 C.2.1 (C.2.2.1.trans hl2.1.symm) C.2.2.2.1 (C.2.2.2.2.1 _ hl) (C.2.2.2.2.1 _ st_Lib_Math_abs_name) (C.2.2.2.2.1 _ it__java_lang_Math_) (C.2.2.2.2.1 _ co_Lib_Math_abs_name) (by rw [C.2.2.2.2.2.2.2.2.1]; exact hR.1) (by rw [C.2.2.2.2.2.2.2.2.1]; omega) (by rw [C.2.2.2.2.2.2.2.2.1]; exact C.2.2.2.2.2.2.2.2.2.1) (by rw [C.2.2.2.2.2.2.2.2.1]; exact C.2.2.2.2.2.2.2.2.2.2) d (by
    have e : (if 0 ≤ iZ a then iZ a else 0 - iZ a) = iZ (aZ a) := by
      unfold aZ
      rw [← iZ_0]
      by_cases h : 0 ≤ a
      · rw [if_pos ((iZ_le R32_0 ha).mpr h), if_pos h]
      · rw [if_neg (fun q => h ((iZ_le R32_0 ha).mp q)), if_neg h, iZ_sub]
        congr 1
        omega
    rw [e]
    exact kk H locs ls hP hS hl2)
end WWR
end
section
/-! CONTRACTS over the one world, and the rows of a call and of a return -/
abbrev wsC (y : MethodName) (cc : ByteArray) (n : Nat) (ret : Option FieldType) : List Cond := Cond.code y cc n ret :: wsL_law
abbrev wdW (w : WLD) (M : Mem) : va_W := wd (wI w) (wZ w) (wa w) M
def CtI (w : WLD) (y : MethodName) (cc : ByteArray) (n : Nat) (ret : Option FieldType) (rm : Room) (av : List Value) (M : Mem) (post : Int → Mem → Prop) : Prop :=
  ∀ sz : Nat, Met (wl w) y (wsC y cc n ret) rm (va_Pc av (fun U => U.heap.size = sz ∧ BB w M U)) (va_Qi (fun (r : Int32) (u : Mem) => ∃ z : Int, r = iZ z ∧ post z u) (BB w) (va_A (wdW w M) sz)) 0 0 (va_A (wdW w M) sz)
def CtV (w : WLD) (y : MethodName) (cc : ByteArray) (n : Nat) (rm : Room) (av : List Value) (M : Mem) (post : Mem → Prop) : Prop :=
  ∀ sz : Nat, Met (wl w) y (wsC y cc n none) rm (va_Pc av (fun U => U.heap.size = sz ∧ BB w M U)) (va_Qv (fun (u : Mem) => post u) (BB w) (va_A (wdW w M) sz)) 0 0 (va_A (wdW w M) sz)
theorem wd_D {cI cZ : ClassId} {ad : Nat → Nat} {M M' : Mem} {A : Nat → Prop} (h : va_D A (wd cI cZ ad M)) : va_D A (wd cI cZ ad M') := by
  refine ⟨fun i j p q hi hj he => ?_, fun k q hk => ?_⟩
  · obtain ⟨hi1, rfl⟩ := wd_lt hi
    obtain ⟨hj1, rfl⟩ := wd_lt hj
    exact h.1 i j _ _ (wd_get hi1) (wd_get hj1) he
  · obtain ⟨h1, rfl⟩ := wd_lt hk
    exact h.2 k (ad k, cellOf cI cZ ad k (M k)) (wd_get h1)
def RtI (w : WLD) (k : KX) (cc : ByteArray) (post : Int → Mem → Prop) : Prop := ∀ (pc : Nat) (lv : List (Nat × Value)) (z : Int) (M : Mem), decode cc pc = .ok (.ireturn, 1) → post z M → WW w k pc lv [.int (iZ z)] M
def RtV (w : WLD) (k : KX) (cc : ByteArray) (post : Mem → Prop) : Prop := ∀ (pc : Nat) (lv : List (Nat × Value)) (M : Mem), decode cc pc = .ok (.return_, 1) → post M → WW w k pc lv [] M
theorem CtI.of {w : WLD} {y : MethodName} {cc : ByteArray} {n : Nat} {rm : Room} {av : List Value} {M : Mem} {post : Int → Mem → Prop} (hy : plainName y.cls = true) (hn : (lg_sl av).length ≤ n) (hrc : rm.cells = 0) (hrs : rm.slots = 0)
    (body : ∀ k : KX, kL k = n → Cx w k cc y.cls rm → RtI w k cc post → WW w k 0 (lv_args 0 av) [] M) : CtI w y cc n (some .int) rm av M post := by
  intro sz
  refine Met.ofW (cc := cc) (maxL := n) (ret := some .int) hy rfl ?_
  intro p e s m args below meth c s₁ B hml hv
  obtain ⟨rfl, hsz, hP, hK, hD0⟩ := hv
  have hx := B.exec
  have hb := B.bytes
  have hr := B.returns
  have hts := atoms_spec (ws := wsC y cc n (some .int)) B.pre
  have hown : s.vm.findClass y.cls = some m.cls := findClass_of_methodNamed B.named
  have hlocks := B.notSynchronized
  subst hsz
  have hD := hD0.self (sz := s.heap.size)
  generalize hAe : va_A (wdW w M) s.heap.size = A at hD ⊢
  have hA : ∀ q : Nat, s.heap.size ≤ q → A q := fun q h => by rw [← hAe]; exact Or.inr h
  have hl := lv_entry av (n := n) hn
  rw [lg_entry_eq]
  generalize (lg_sl av ++ List.replicate (n - (lg_sl av).length) Slot.unset).toArray = ls at hl ⊢
  refine body (p, e, rm, s, m, _, below, meth, c, 0, 0, _, A, n) rfl ⟨hx, hb, hml, hown, fun x hx => hts x (List.mem_cons_of_mem _ hx), hK, hA, fun M' => wd_D hD, rfl, by rw [hrc]; exact Nat.le_refl 0, by rw [hrs]; exact Nat.le_refl 0⟩ ?_ s.heap [] ls hP va_S.rf hl
  intro pc lv z M' d hp H locs ls hP hS hl
  exact W.iret (v := iZ z) hx hb hr (fun t ht hW => ⟨⟨iZ z, M', rfl, ⟨z, rfl, hp⟩, by rw [ht]; exact hP, va_K.moved hW.alike hK, (wd_D hD).weaken (fun _ _ _ _ => trivial)⟩, hS.F ht⟩) hS.2.2 d hlocks
theorem CtI.ofZ {w : WLD} {y : MethodName} {cc : ByteArray} {n : Nat} {rm : Room} {av : List Value} {M : Mem} {post : Int → Mem → Prop} (hy : plainName y.cls = true) (hn : (lg_sl av).length ≤ n) (hrc : rm.cells = 0) (hrs : rm.slots = 0) (hz : ∀ z M', post z M' → z = 0 ∨ z = 1)
    (body : ∀ k : KX, kL k = n → Cx w k cc y.cls rm → RtI w k cc post → WW w k 0 (lv_args 0 av) [] M) : CtI w y cc n (some .boolean) rm av M post := by
  intro sz
  refine Met.ofW (cc := cc) (maxL := n) (ret := some .boolean) hy rfl ?_
  intro p e s m args below meth c s₁ B hml hv
  obtain ⟨rfl, hsz, hP, hK, hD0⟩ := hv
  have hx := B.exec
  have hb := B.bytes
  have hr := B.returns
  have hts := atoms_spec (ws := wsC y cc n (some .boolean)) B.pre
  have hown : s.vm.findClass y.cls = some m.cls := findClass_of_methodNamed B.named
  have hlocks := B.notSynchronized
  subst hsz
  have hD := hD0.self (sz := s.heap.size)
  generalize hAe : va_A (wdW w M) s.heap.size = A at hD ⊢
  have hA : ∀ q : Nat, s.heap.size ≤ q → A q := fun q h => by rw [← hAe]; exact Or.inr h
  have hl := lv_entry av (n := n) hn
  rw [lg_entry_eq]
  generalize (lg_sl av ++ List.replicate (n - (lg_sl av).length) Slot.unset).toArray = ls at hl ⊢
  refine body (p, e, rm, s, m, _, below, meth, c, 0, 0, _, A, n) rfl ⟨hx, hb, hml, hown, fun x hx => hts x (List.mem_cons_of_mem _ hx), hK, hA, fun M' => wd_D hD, rfl, by rw [hrc]; exact Nat.le_refl 0, by rw [hrs]; exact Nat.le_refl 0⟩ ?_ s.heap [] ls hP va_S.rf hl
  intro pc lv z M' d hp H locs ls hP hS hl
  have hnar : narrow .boolean (.int (iZ z)) = .int (iZ z) := by rcases hz z M' hp with rfl | rfl <;> decide
  exact W.zret (v := iZ z) hx hb hr hnar (fun t ht hW => ⟨⟨iZ z, M', rfl, ⟨z, rfl, hp⟩, by rw [ht]; exact hP, va_K.moved hW.alike hK, (wd_D hD).weaken (fun _ _ _ _ => trivial)⟩, hS.F ht⟩) hS.2.2 d hlocks
theorem CtV.of {w : WLD} {y : MethodName} {cc : ByteArray} {n : Nat} {rm : Room} {av : List Value} {M : Mem} {post : Mem → Prop} (hy : plainName y.cls = true) (hn : (lg_sl av).length ≤ n) (hrc : rm.cells = 0) (hrs : rm.slots = 0)
    (body : ∀ k : KX, kL k = n → Cx w k cc y.cls rm → RtV w k cc post → WW w k 0 (lv_args 0 av) [] M) : CtV w y cc n rm av M post := by
  intro sz
  refine Met.ofW (cc := cc) (maxL := n) (ret := none) hy rfl ?_
  intro p e s m args below meth c s₁ B hml hv
  obtain ⟨rfl, hsz, hP, hK, hD0⟩ := hv
  have hx := B.exec
  have hb := B.bytes
  have hr := B.returns
  have hts := atoms_spec (ws := wsC y cc n none) B.pre
  have hown : s.vm.findClass y.cls = some m.cls := findClass_of_methodNamed B.named
  have hlocks := B.notSynchronized
  subst hsz
  have hD := hD0.self (sz := s.heap.size)
  generalize hAe : va_A (wdW w M) s.heap.size = A at hD ⊢
  have hA : ∀ q : Nat, s.heap.size ≤ q → A q := fun q h => by rw [← hAe]; exact Or.inr h
  have hl := lv_entry av (n := n) hn
  rw [lg_entry_eq]
  generalize (lg_sl av ++ List.replicate (n - (lg_sl av).length) Slot.unset).toArray = ls at hl ⊢
  refine body (p, e, rm, s, m, _, below, meth, c, 0, 0, _, A, n) rfl ⟨hx, hb, hml, hown, fun x hx => hts x (List.mem_cons_of_mem _ hx), hK, hA, fun M' => wd_D hD, rfl, by rw [hrc]; exact Nat.le_refl 0, by rw [hrs]; exact Nat.le_refl 0⟩ ?_ s.heap [] ls hP va_S.rf hl
  intro pc lv M' d hp H locs ls hP hS hl
  exact W.vret hx hb hr (fun t ht hW => ⟨⟨M', rfl, hp, by rw [ht]; exact hP, va_K.moved hW.alike hK, (wd_D hD).weaken (fun _ _ _ _ => trivial)⟩, hS.F ht⟩) hS.2.2 d hlocks
/-- what a call of an instance method, of a static method, needs of the tables -/
def MFv (y : MethodName) (CN : String) (cc : ByteArray) (n : Nat) (ret : Option FieldType) (np : Nat) : Prop := Cond.instanceMethod y ∈ wsL_law ∧ Cond.selects CN y y ∈ wsL_law ∧ Cond.initialized CN ∈ wsL_law ∧ Cond.code y cc n ret ∈ wsL_law ∧ (y.cls = CN ∧ y.cls ≠ "java/lang/invoke/MethodHandle" ∧ y.cls ≠ "java/lang/invoke/VarHandle" ∧ (parseMethodDescriptor y.desc).map (fun d => d.parameters.length) = some np)
def MFs (y : MethodName) (cc : ByteArray) (n : Nat) (ret : Option FieldType) (np : Nat) : Prop := Cond.static y ∈ wsL_law ∧ Cond.initialized y.cls ∈ wsL_law ∧ Cond.code y cc n ret ∈ wsL_law ∧ (y.cls ≠ "java/lang/invoke/MethodHandle" ∧ y.cls ≠ "java/lang/invoke/VarHandle" ∧ (parseMethodDescriptor y.desc).map (fun d => d.parameters.length) = some np)
theorem goodIn_c {y : MethodName} {cc : ByteArray} {n : Nat} {ret : Option FieldType} (h : Cond.code y cc n ret ∈ wsL_law) : GoodIn wsL_law (wsC y cc n ret) := by
  intro x hx
  rcases List.mem_cons.mp hx with rfl | hx
  · exact ⟨h, (wsL_all _ h).2⟩
  · exact ⟨hx, (wsL_all _ hx).2⟩
theorem goodIn_m {ws : List Cond} (h : ∀ x ∈ ws, x ∈ wsL_law) : GoodIn wsL_law ws := fun x hx => ⟨h x hx, (wsL_all x (h x hx)).2⟩
section WWC
variable {w : WLD} {k : KX} {cc : ByteArray} {own : String} {rm : Room} {pc : Nat} {lv : List (Nat × Value)} {st rest : List Value} {M : Mem}
theorem ww_callV (C : Cx w k cc own rm) {y : MethodName} {CN : String} {c2 : ByteArray} {n2 np : Nat} {ret2 : Option FieldType} {rm2 : Room} {As : List Value} {post : Int → Mem → Prop} (h : Nat) (hh : h < 44) {index ci : Nat} {fs : List Value} {T : u_T} {N : Nat} (ct : CtI w y c2 n2 ret2 rm2 (.ref (wa w h) :: As) M post) (mf : MFv y CN c2 n2 ret2 np) (hl : Cond.methodLink own index y ∈ wsL_law) (he : cellOf (wI w) (wZ w) (wa w) h (M h) = .inr (ci, fs)) (hc : vwCl[ci]? = some (CN, T, N)) (hrm : rm2.cells = 0 ∧ rm2.slots = 0 ∧ rm2.frames + 1 ≤ rm.frames ∧ 8 + (n2 + 11) + rm2.locals ≤ rm.locals) (hn : As.length = np) (hst : st = As.reverse ++ .ref (wa w h) :: rest) (hr : (rest.map fun v => v.category).sum ≤ 8) (d : decode cc pc = .ok (.invokevirtual index, 3))
    (kk : ∀ (z : Int) (M1 : Mem), post z M1 → WW w k (pc + 3) lv (.int (iZ z) :: rest) M1) : WW w k pc lv st M := by
  intro H locs ls hP hS hl2
  obtain ⟨hx, hb, hml, hown, hts, hK, hA, hD, hR, hkc, hks⟩ := C
  have hFc : ∀ q, va_A (wdW w M) H.size q → kA k q := by
    rintro q (⟨j, e, hj⟩ | hq)
    · exact (hD M).2 j _ hj
    · exact hA q (Nat.le_trans hS.1 hq)
  refine va_calli (va_runV (As := As) (rest := rest) (b := wa w h) ⟨hx, hb, hml, hown, hts⟩ (ct H.size) (cwV np hts (goodIn_m (fun x hx => ?_)) rfl hrm.1 hrm.2.1 mf.2.2.2.2 ⟨by rw [hR]; exact hrm.2.2.1, by rw [hR]; exact hrm.2.2.2⟩) ⟨fun a U g mk q => ?_, va_recv hK hP hc (q0 := h) (by rw [wd_get hh, he]), fun U hU hW => ⟨rfl, by rw [hU], by rw [hU]; exact hP, va_K.moved hW.alike hK, (hD M).weaken (fun _ _ _ _ => trivial)⟩⟩ rfl hn hl2.1 hst (lv_room hr) d ⟨by rw [hR]; exact hkc, by rw [hR]; exact hks⟩) hS (fun q _ h => hFc q h) hFc (fun r u t H1 locs1 ht hvm hw hB hz1 hk1 hS1 => ?_)
  · rcases List.mem_append.mp hx with h9 | h9
    · simp only [List.mem_cons, List.not_mem_nil, or_false] at h9
      rcases h9 with rfl | rfl | rfl | rfl
      · exact hl
      · exact mf.1
      · exact mf.2.1
      · exact mf.2.2.1
    · rcases List.mem_cons.mp h9 with rfl | h9
      · exact mf.2.2.2.1
      · exact h9
  · obtain ⟨q0, q1, qP, qK, qD⟩ := q
    exact ⟨q0, q1, qP, va_K.moved (u := U) (U := U.calling g mk a) (Vm.Alike.refl U.vm) qK, qD⟩
  · obtain ⟨z, rfl, hp⟩ := hw
    obtain ⟨hP1, hK1, hD1⟩ := hB
    rw [ht] at hP1
    exact kk z u hp H1 locs1 ls hP1 hS1 hl2
theorem ww_callVV (C : Cx w k cc own rm) {y : MethodName} {CN : String} {c2 : ByteArray} {n2 np : Nat} {rm2 : Room} {As : List Value} {post : Mem → Prop} (h : Nat) (hh : h < 44) {index ci : Nat} {fs : List Value} {T : u_T} {N : Nat} (ct : CtV w y c2 n2 rm2 (.ref (wa w h) :: As) M post) (mf : MFv y CN c2 n2 none np) (hl : Cond.methodLink own index y ∈ wsL_law) (he : cellOf (wI w) (wZ w) (wa w) h (M h) = .inr (ci, fs)) (hc : vwCl[ci]? = some (CN, T, N)) (hrm : rm2.cells = 0 ∧ rm2.slots = 0 ∧ rm2.frames + 1 ≤ rm.frames ∧ 8 + (n2 + 11) + rm2.locals ≤ rm.locals) (hn : As.length = np) (hst : st = As.reverse ++ .ref (wa w h) :: rest) (hr : (rest.map fun v => v.category).sum ≤ 8) (d : decode cc pc = .ok (.invokevirtual index, 3))
    (kk : ∀ (M1 : Mem), post M1 → WW w k (pc + 3) lv rest M1) : WW w k pc lv st M := by
  intro H locs ls hP hS hl2
  obtain ⟨hx, hb, hml, hown, hts, hK, hA, hD, hR, hkc, hks⟩ := C
  have hFc : ∀ q, va_A (wdW w M) H.size q → kA k q := by
    rintro q (⟨j, e, hj⟩ | hq)
    · exact (hD M).2 j _ hj
    · exact hA q (Nat.le_trans hS.1 hq)
  refine va_callv (va_runV (As := As) (rest := rest) (b := wa w h) ⟨hx, hb, hml, hown, hts⟩ (ct H.size) (cwV np hts (goodIn_m (fun x hx => ?_)) rfl hrm.1 hrm.2.1 mf.2.2.2.2 ⟨by rw [hR]; exact hrm.2.2.1, by rw [hR]; exact hrm.2.2.2⟩) ⟨fun a U g mk q => ?_, va_recv hK hP hc (q0 := h) (by rw [wd_get hh, he]), fun U hU hW => ⟨rfl, by rw [hU], by rw [hU]; exact hP, va_K.moved hW.alike hK, (hD M).weaken (fun _ _ _ _ => trivial)⟩⟩ rfl hn hl2.1 hst (lv_room hr) d ⟨by rw [hR]; exact hkc, by rw [hR]; exact hks⟩) hS (fun q _ h => hFc q h) hFc (fun u t H1 locs1 ht hvm hw hB hz1 hk1 hS1 => ?_)
  · rcases List.mem_append.mp hx with h9 | h9
    · simp only [List.mem_cons, List.not_mem_nil, or_false] at h9
      rcases h9 with rfl | rfl | rfl | rfl
      · exact hl
      · exact mf.1
      · exact mf.2.1
      · exact mf.2.2.1
    · rcases List.mem_cons.mp h9 with rfl | h9
      · exact mf.2.2.2.1
      · exact h9
  · obtain ⟨q0, q1, qP, qK, qD⟩ := q
    exact ⟨q0, q1, qP, va_K.moved (u := U) (U := U.calling g mk a) (Vm.Alike.refl U.vm) qK, qD⟩
  · obtain ⟨hP1, hK1, hD1⟩ := hB
    rw [ht] at hP1
    exact kk u hw H1 locs1 ls hP1 hS1 hl2
theorem ww_callS (C : Cx w k cc own rm) {y : MethodName} {c2 : ByteArray} {n2 np : Nat} {ret2 : Option FieldType} {rm2 : Room} {As : List Value} {post : Int → Mem → Prop} {index : Nat} (ct : CtI w y c2 n2 ret2 rm2 As M post) (mf : MFs y c2 n2 ret2 np) (hl : Cond.methodLink own index y ∈ wsL_law) (hrm : rm2.cells = 0 ∧ rm2.slots = 0 ∧ rm2.frames + 1 ≤ rm.frames ∧ 8 + (n2 + 11) + rm2.locals ≤ rm.locals) (hn : As.length = np) (hst : st = As.reverse ++ rest) (hr : (rest.map fun v => v.category).sum ≤ 8) (d : decode cc pc = .ok (.invokestatic index, 3))
    (kk : ∀ (z : Int) (M1 : Mem), post z M1 → WW w k (pc + 3) lv (.int (iZ z) :: rest) M1) : WW w k pc lv st M := by
  intro H locs ls hP hS hl2
  obtain ⟨hx, hb, hml, hown, hts, hK, hA, hD, hR, hkc, hks⟩ := C
  have hFc : ∀ q, va_A (wdW w M) H.size q → kA k q := by
    rintro q (⟨j, e, hj⟩ | hq)
    · exact (hD M).2 j _ hj
    · exact hA q (Nat.le_trans hS.1 hq)
  refine va_calli (va_runS (As := As) (rest := rest) ⟨hx, hb, hml, hown, hts⟩ (ct H.size) (va_cwS np hts (goodIn_m (fun x hx => ?_)) rfl hrm.1 hrm.2.1 mf.2.2.2 ⟨by rw [hR]; exact hrm.2.2.1, by rw [hR]; exact hrm.2.2.2⟩) ⟨fun a U g mk q => ?_, fun U hU hW => ⟨rfl, by rw [hU], by rw [hU]; exact hP, va_K.moved hW.alike hK, (hD M).weaken (fun _ _ _ _ => trivial)⟩⟩ rfl hn hl2.1 hst (lv_room hr) d ⟨by rw [hR]; exact hkc, by rw [hR]; exact hks⟩) hS (fun q _ h => hFc q h) hFc (fun r u t H1 locs1 ht hvm hw hB hz1 hk1 hS1 => ?_)
  · rcases List.mem_append.mp hx with h9 | h9
    · simp only [List.mem_cons, List.not_mem_nil, or_false] at h9
      rcases h9 with rfl | rfl | rfl
      · exact hl
      · exact mf.1
      · exact mf.2.1
    · rcases List.mem_cons.mp h9 with rfl | h9
      · exact mf.2.2.1
      · exact h9
  · obtain ⟨q0, q1, qP, qK, qD⟩ := q
    exact ⟨q0, q1, qP, va_K.moved (u := U) (U := U.calling g mk a) (Vm.Alike.refl U.vm) qK, qD⟩
  · obtain ⟨z, rfl, hp⟩ := hw
    obtain ⟨hP1, hK1, hD1⟩ := hB
    rw [ht] at hP1
    exact kk z u hp H1 locs1 ls hP1 hS1 hl2
end WWC
end
section
section WWF
variable {w : WLD} {k : KX} {cc : ByteArray} {rm : Room} {pc : Nat} {lv : List (Nat × Value)} {rest : List Value} {M : Mem}
def pl (h : Nat) : Prop := h = 10 ∨ h = 20 ∨ h = 22
theorem pl_lt {h : Nat} (p : pl h) : h < 44 := by unfold pl at p; omega
theorem pl_cell {h : Nat} (p : pl h) (f : Nat → Int) : cellOf (wI w) (wZ w) (wa w) h f = .inr (1, [.ref (wa w (h + 1)), vi f 1]) := by rcases p with rfl | rfl | rfl <;> rfl
theorem pl_row {h : Nat} (p : pl h) (f : Nat → Int) : cellOf (wI w) (wZ w) (wa w) (h + 1) f = rowI (wI w) 9 f := by rcases p with rfl | rfl | rfl <;> rfl
def vr (h : Nat) : Prop := h = 9 ∨ h = 26 ∨ h = 38 ∨ h = 39
theorem vr_lt {h : Nat} (p : vr h) : h < 44 := by unfold vr at p; omega
theorem vr_row {h : Nat} (p : vr h) (f : Nat → Int) : cellOf (wI w) (wZ w) (wa w) h f = rowI (wI w) 2048 f := by rcases p with rfl | rfl | rfl | rfl <;> rfl
theorem gt_X5_12 (C : Cx w k cc RX5 rm) (d : decode cc pc = .ok (.getfield 12, 3)) (kk : WW w k (pc + 3) lv (.ref (wa w 1) :: rest) M) : WW w k pc lv (.ref (wa w 0) :: rest) M := ww_get C 0 (by decide) 5 rfl rfl inlX5 (f := 0) (by decide) fl_X5_12 rfl d kk
theorem gt_X5_19 (C : Cx w k cc RX5 rm) (d : decode cc pc = .ok (.getfield 19, 3)) (kk : WW w k (pc + 3) lv (.ref (wa w 10) :: rest) M) : WW w k pc lv (.ref (wa w 0) :: rest) M := ww_get C 0 (by decide) 5 rfl rfl inlX5 (f := 1) (by decide) fl_X5_19 rfl d kk
theorem gt_X5_26 (C : Cx w k cc RX5 rm) (d : decode cc pc = .ok (.getfield 26, 3)) (kk : WW w k (pc + 3) lv (.ref (wa w 12) :: rest) M) : WW w k pc lv (.ref (wa w 0) :: rest) M := ww_get C 0 (by decide) 5 rfl rfl inlX5 (f := 2) (by decide) fl_X5_26 rfl d kk
theorem gt_X5_33 (C : Cx w k cc RX5 rm) (d : decode cc pc = .ok (.getfield 33, 3)) (kk : WW w k (pc + 3) lv (.ref (wa w 19) :: rest) M) : WW w k pc lv (.ref (wa w 0) :: rest) M := ww_get C 0 (by decide) 5 rfl rfl inlX5 (f := 3) (by decide) fl_X5_33 rfl d kk
theorem gt_X5_40 (C : Cx w k cc RX5 rm) (d : decode cc pc = .ok (.getfield 40, 3)) (kk : WW w k (pc + 3) lv (.ref (wa w 25) :: rest) M) : WW w k pc lv (.ref (wa w 0) :: rest) M := ww_get C 0 (by decide) 5 rfl rfl inlX5 (f := 4) (by decide) fl_X5_40 rfl d kk
theorem gt_X4_9 (C : Cx w k cc RX4 rm) (d : decode cc pc = .ok (.getfield 9, 3)) (kk : WW w k (pc + 3) lv (.ref (wa w 2) :: rest) M) : WW w k pc lv (.ref (wa w 1) :: rest) M := ww_get C 1 (by decide) 4 rfl rfl inlX4 (f := 0) (by decide) fl_X4_9 rfl d kk
theorem gt_X4_15 (C : Cx w k cc RX4 rm) (d : decode cc pc = .ok (.getfield 15, 3)) (kk : WW w k (pc + 3) lv (.ref (wa w 3) :: rest) M) : WW w k pc lv (.ref (wa w 1) :: rest) M := ww_get C 1 (by decide) 4 rfl rfl inlX4 (f := 1) (by decide) fl_X4_15 rfl d kk
theorem gt_X4_18 (C : Cx w k cc RX4 rm) (d : decode cc pc = .ok (.getfield 18, 3)) (kk : WW w k (pc + 3) lv (.int (iZ (M 1 2)) :: rest) M) : WW w k pc lv (.ref (wa w 1) :: rest) M := ww_get C 1 (by decide) 4 rfl rfl inlX4 (f := 2) (by decide) fl_X4_18 rfl d kk
theorem pt_X4_18 (C : Cx w k cc RX4 rm) {z : Int} (d : decode cc pc = .ok (.putfield 18, 3)) (kk : WW w k (pc + 3) lv rest (ups M 1 (up1 (M 1) 2 z))) : WW w k pc lv (.int (iZ z) :: .ref (wa w 1) :: rest) M := ww_put C 1 (by decide) 4 rfl rfl rfl inlX4 tyX4 tyX4_ok nmX4 (f := 2) (ty := .int) (by decide) fl_X4_18 rfl (by decide +kernel) rfl rfl (Nat.le_of_ble_eq_true rfl) d kk
theorem gt_X4_22 (C : Cx w k cc RX4 rm) (d : decode cc pc = .ok (.getfield 22, 3)) (kk : WW w k (pc + 3) lv (.int (iZ (M 1 3)) :: rest) M) : WW w k pc lv (.ref (wa w 1) :: rest) M := ww_get C 1 (by decide) 4 rfl rfl inlX4 (f := 3) (by decide) fl_X4_22 rfl d kk
theorem pt_X4_22 (C : Cx w k cc RX4 rm) {z : Int} (d : decode cc pc = .ok (.putfield 22, 3)) (kk : WW w k (pc + 3) lv rest (ups M 1 (up1 (M 1) 3 z))) : WW w k pc lv (.int (iZ z) :: .ref (wa w 1) :: rest) M := ww_put C 1 (by decide) 4 rfl rfl rfl inlX4 tyX4 tyX4_ok nmX4 (f := 3) (ty := .int) (by decide) fl_X4_22 rfl (by decide +kernel) rfl rfl (Nat.le_of_ble_eq_true rfl) d kk
theorem gt_X4_25 (C : Cx w k cc RX4 rm) (d : decode cc pc = .ok (.getfield 25, 3)) (kk : WW w k (pc + 3) lv (.ref (wa w 4) :: rest) M) : WW w k pc lv (.ref (wa w 1) :: rest) M := ww_get C 1 (by decide) 4 rfl rfl inlX4 (f := 4) (by decide) fl_X4_25 rfl d kk
theorem gt_X4_28 (C : Cx w k cc RX4 rm) (d : decode cc pc = .ok (.getfield 28, 3)) (kk : WW w k (pc + 3) lv (.ref (wa w 5) :: rest) M) : WW w k pc lv (.ref (wa w 1) :: rest) M := ww_get C 1 (by decide) 4 rfl rfl inlX4 (f := 5) (by decide) fl_X4_28 rfl d kk
theorem gt_X4_31 (C : Cx w k cc RX4 rm) (d : decode cc pc = .ok (.getfield 31, 3)) (kk : WW w k (pc + 3) lv (.ref (wa w 6) :: rest) M) : WW w k pc lv (.ref (wa w 1) :: rest) M := ww_get C 1 (by decide) 4 rfl rfl inlX4 (f := 6) (by decide) fl_X4_31 rfl d kk
theorem gt_X4_34 (C : Cx w k cc RX4 rm) (d : decode cc pc = .ok (.getfield 34, 3)) (kk : WW w k (pc + 3) lv (.ref (wa w 7) :: rest) M) : WW w k pc lv (.ref (wa w 1) :: rest) M := ww_get C 1 (by decide) 4 rfl rfl inlX4 (f := 7) (by decide) fl_X4_34 rfl d kk
theorem gt_X4_37 (C : Cx w k cc RX4 rm) (d : decode cc pc = .ok (.getfield 37, 3)) (kk : WW w k (pc + 3) lv (.ref (wa w 8) :: rest) M) : WW w k pc lv (.ref (wa w 1) :: rest) M := ww_get C 1 (by decide) 4 rfl rfl inlX4 (f := 8) (by decide) fl_X4_37 rfl d kk
theorem gt_X4_40 (C : Cx w k cc RX4 rm) (d : decode cc pc = .ok (.getfield 40, 3)) (kk : WW w k (pc + 3) lv (.ref (wa w 9) :: rest) M) : WW w k pc lv (.ref (wa w 1) :: rest) M := ww_get C 1 (by decide) 4 rfl rfl inlX4 (f := 9) (by decide) fl_X4_40 rfl d kk
theorem gt_X4_43 (C : Cx w k cc RX4 rm) (d : decode cc pc = .ok (.getfield 43, 3)) (kk : WW w k (pc + 3) lv (.int (iZ (M 1 10)) :: rest) M) : WW w k pc lv (.ref (wa w 1) :: rest) M := ww_get C 1 (by decide) 4 rfl rfl inlX4 (f := 10) (by decide) fl_X4_43 rfl d kk
theorem pt_X4_43 (C : Cx w k cc RX4 rm) {z : Int} (hz : z = 0 ∨ z = 1) (d : decode cc pc = .ok (.putfield 43, 3)) (kk : WW w k (pc + 3) lv rest (ups M 1 (up1 (M 1) 10 z))) : WW w k pc lv (.int (iZ z) :: .ref (wa w 1) :: rest) M := ww_put C 1 (by decide) 4 rfl rfl rfl inlX4 tyX4 tyX4_ok nmX4 (f := 10) (ty := .boolean) (by decide) fl_X4_43 rfl (by decide +kernel) (by rcases hz with rfl | rfl <;> decide) (by rcases hz with rfl | rfl <;> decide) (Nat.le_of_ble_eq_true rfl) d kk
theorem gt_X1_9 (C : Cx w k cc RX1 rm) {h : Nat} (p : pl h) (d : decode cc pc = .ok (.getfield 9, 3)) (kk : WW w k (pc + 3) lv (.ref (wa w (h + 1)) :: rest) M) : WW w k pc lv (.ref (wa w h) :: rest) M := ww_get C h (pl_lt p) 1 (pl_cell p (M h)) rfl inlX1 (f := 0) (by decide) fl_X1_9 rfl d kk
theorem gt_X1_15 (C : Cx w k cc RX1 rm) {h : Nat} (p : pl h) (d : decode cc pc = .ok (.getfield 15, 3)) (kk : WW w k (pc + 3) lv (.int (iZ (M h 1)) :: rest) M) : WW w k pc lv (.ref (wa w h) :: rest) M := ww_get C h (pl_lt p) 1 (pl_cell p (M h)) rfl inlX1 (f := 1) (by decide) fl_X1_15 rfl d kk
theorem pt_X1_15 (C : Cx w k cc RX1 rm) {h : Nat} (p : pl h) {z : Int} (d : decode cc pc = .ok (.putfield 15, 3)) (kk : WW w k (pc + 3) lv rest (ups M h (up1 (M h) 1 z))) : WW w k pc lv (.int (iZ z) :: .ref (wa w h) :: rest) M := ww_put C h (pl_lt p) 1 (pl_cell p (M h)) (pl_cell p _) rfl inlX1 tyX1 tyX1_ok nmX1 (f := 1) (ty := .int) (by decide) fl_X1_15 rfl (by decide +kernel) rfl rfl (Nat.le_of_ble_eq_true rfl) d kk
theorem gt_X0_9 (C : Cx w k cc RX0 rm) (d : decode cc pc = .ok (.getfield 9, 3)) (kk : WW w k (pc + 3) lv (.ref (wa w 13) :: rest) M) : WW w k pc lv (.ref (wa w 12) :: rest) M := ww_get C 12 (by decide) 0 rfl rfl inlX0 (f := 0) (by decide) fl_X0_9 rfl d kk
theorem gt_X0_15 (C : Cx w k cc RX0 rm) (d : decode cc pc = .ok (.getfield 15, 3)) (kk : WW w k (pc + 3) lv (.ref (wa w 14) :: rest) M) : WW w k pc lv (.ref (wa w 12) :: rest) M := ww_get C 12 (by decide) 0 rfl rfl inlX0 (f := 1) (by decide) fl_X0_15 rfl d kk
theorem gt_X0_18 (C : Cx w k cc RX0 rm) (d : decode cc pc = .ok (.getfield 18, 3)) (kk : WW w k (pc + 3) lv (.ref (wa w 15) :: rest) M) : WW w k pc lv (.ref (wa w 12) :: rest) M := ww_get C 12 (by decide) 0 rfl rfl inlX0 (f := 2) (by decide) fl_X0_18 rfl d kk
theorem gt_X0_21 (C : Cx w k cc RX0 rm) (d : decode cc pc = .ok (.getfield 21, 3)) (kk : WW w k (pc + 3) lv (.int (iZ (M 12 3)) :: rest) M) : WW w k pc lv (.ref (wa w 12) :: rest) M := ww_get C 12 (by decide) 0 rfl rfl inlX0 (f := 3) (by decide) fl_X0_21 rfl d kk
theorem pt_X0_21 (C : Cx w k cc RX0 rm) {z : Int} (hz : z = 0 ∨ z = 1) (d : decode cc pc = .ok (.putfield 21, 3)) (kk : WW w k (pc + 3) lv rest (ups M 12 (up1 (M 12) 3 z))) : WW w k pc lv (.int (iZ z) :: .ref (wa w 12) :: rest) M := ww_put C 12 (by decide) 0 rfl rfl rfl inlX0 tyX0 tyX0_ok nmX0 (f := 3) (ty := .boolean) (by decide) fl_X0_21 rfl (by decide +kernel) (by rcases hz with rfl | rfl <;> decide) (by rcases hz with rfl | rfl <;> decide) (Nat.le_of_ble_eq_true rfl) d kk
theorem gt_X0_25 (C : Cx w k cc RX0 rm) (d : decode cc pc = .ok (.getfield 25, 3)) (kk : WW w k (pc + 3) lv (.int (iZ (M 12 6)) :: rest) M) : WW w k pc lv (.ref (wa w 12) :: rest) M := ww_get C 12 (by decide) 0 rfl rfl inlX0 (f := 6) (by decide) fl_X0_25 rfl d kk
theorem pt_X0_25 (C : Cx w k cc RX0 rm) {z : Int} (d : decode cc pc = .ok (.putfield 25, 3)) (kk : WW w k (pc + 3) lv rest (ups M 12 (up1 (M 12) 6 z))) : WW w k pc lv (.int (iZ z) :: .ref (wa w 12) :: rest) M := ww_put C 12 (by decide) 0 rfl rfl rfl inlX0 tyX0 tyX0_ok nmX0 (f := 6) (ty := .int) (by decide) fl_X0_25 rfl (by decide +kernel) rfl rfl (Nat.le_of_ble_eq_true rfl) d kk
theorem gt_X0_29 (C : Cx w k cc RX0 rm) (d : decode cc pc = .ok (.getfield 29, 3)) (kk : WW w k (pc + 3) lv (.int (iZ (M 12 7)) :: rest) M) : WW w k pc lv (.ref (wa w 12) :: rest) M := ww_get C 12 (by decide) 0 rfl rfl inlX0 (f := 7) (by decide) fl_X0_29 rfl d kk
theorem pt_X0_29 (C : Cx w k cc RX0 rm) {z : Int} (d : decode cc pc = .ok (.putfield 29, 3)) (kk : WW w k (pc + 3) lv rest (ups M 12 (up1 (M 12) 7 z))) : WW w k pc lv (.int (iZ z) :: .ref (wa w 12) :: rest) M := ww_put C 12 (by decide) 0 rfl rfl rfl inlX0 tyX0 tyX0_ok nmX0 (f := 7) (ty := .int) (by decide) fl_X0_29 rfl (by decide +kernel) rfl rfl (Nat.le_of_ble_eq_true rfl) d kk
theorem gt_X0_32 (C : Cx w k cc RX0 rm) (d : decode cc pc = .ok (.getfield 32, 3)) (kk : WW w k (pc + 3) lv (.ref (wa w 16) :: rest) M) : WW w k pc lv (.ref (wa w 12) :: rest) M := ww_get C 12 (by decide) 0 rfl rfl inlX0 (f := 8) (by decide) fl_X0_32 rfl d kk
theorem gt_X0_35 (C : Cx w k cc RX0 rm) (d : decode cc pc = .ok (.getfield 35, 3)) (kk : WW w k (pc + 3) lv (.ref (wa w 17) :: rest) M) : WW w k pc lv (.ref (wa w 12) :: rest) M := ww_get C 12 (by decide) 0 rfl rfl inlX0 (f := 9) (by decide) fl_X0_35 rfl d kk
theorem gt_X0_38 (C : Cx w k cc RX0 rm) (d : decode cc pc = .ok (.getfield 38, 3)) (kk : WW w k (pc + 3) lv (.ref (wa w 18) :: rest) M) : WW w k pc lv (.ref (wa w 12) :: rest) M := ww_get C 12 (by decide) 0 rfl rfl inlX0 (f := 10) (by decide) fl_X0_38 rfl d kk
theorem gt_X3_12 (C : Cx w k cc RX3 rm) (d : decode cc pc = .ok (.getfield 12, 3)) (kk : WW w k (pc + 3) lv (.ref (wa w 20) :: rest) M) : WW w k pc lv (.ref (wa w 19) :: rest) M := ww_get C 19 (by decide) 3 rfl rfl inlX3 (f := 0) (by decide) fl_X3_12 rfl d kk
theorem gt_X3_18 (C : Cx w k cc RX3 rm) (d : decode cc pc = .ok (.getfield 18, 3)) (kk : WW w k (pc + 3) lv (.int (iZ (M 19 1)) :: rest) M) : WW w k pc lv (.ref (wa w 19) :: rest) M := ww_get C 19 (by decide) 3 rfl rfl inlX3 (f := 1) (by decide) fl_X3_18 rfl d kk
theorem pt_X3_18 (C : Cx w k cc RX3 rm) {z : Int} (d : decode cc pc = .ok (.putfield 18, 3)) (kk : WW w k (pc + 3) lv rest (ups M 19 (up1 (M 19) 1 z))) : WW w k pc lv (.int (iZ z) :: .ref (wa w 19) :: rest) M := ww_put C 19 (by decide) 3 rfl rfl rfl inlX3 tyX3 tyX3_ok nmX3 (f := 1) (ty := .int) (by decide) fl_X3_18 rfl (by decide +kernel) rfl rfl (Nat.le_of_ble_eq_true rfl) d kk
theorem gt_X3_22 (C : Cx w k cc RX3 rm) (d : decode cc pc = .ok (.getfield 22, 3)) (kk : WW w k (pc + 3) lv (.int (iZ (M 19 2)) :: rest) M) : WW w k pc lv (.ref (wa w 19) :: rest) M := ww_get C 19 (by decide) 3 rfl rfl inlX3 (f := 2) (by decide) fl_X3_22 rfl d kk
theorem pt_X3_22 (C : Cx w k cc RX3 rm) {z : Int} (d : decode cc pc = .ok (.putfield 22, 3)) (kk : WW w k (pc + 3) lv rest (ups M 19 (up1 (M 19) 2 z))) : WW w k pc lv (.int (iZ z) :: .ref (wa w 19) :: rest) M := ww_put C 19 (by decide) 3 rfl rfl rfl inlX3 tyX3 tyX3_ok nmX3 (f := 2) (ty := .int) (by decide) fl_X3_22 rfl (by decide +kernel) rfl rfl (Nat.le_of_ble_eq_true rfl) d kk
theorem gt_X3_25 (C : Cx w k cc RX3 rm) (d : decode cc pc = .ok (.getfield 25, 3)) (kk : WW w k (pc + 3) lv (.int (iZ (M 19 3)) :: rest) M) : WW w k pc lv (.ref (wa w 19) :: rest) M := ww_get C 19 (by decide) 3 rfl rfl inlX3 (f := 3) (by decide) fl_X3_25 rfl d kk
theorem pt_X3_25 (C : Cx w k cc RX3 rm) {z : Int} (hz : z = 0 ∨ z = 1) (d : decode cc pc = .ok (.putfield 25, 3)) (kk : WW w k (pc + 3) lv rest (ups M 19 (up1 (M 19) 3 z))) : WW w k pc lv (.int (iZ z) :: .ref (wa w 19) :: rest) M := ww_put C 19 (by decide) 3 rfl rfl rfl inlX3 tyX3 tyX3_ok nmX3 (f := 3) (ty := .boolean) (by decide) fl_X3_25 rfl (by decide +kernel) (by rcases hz with rfl | rfl <;> decide) (by rcases hz with rfl | rfl <;> decide) (Nat.le_of_ble_eq_true rfl) d kk
theorem gt_X3_29 (C : Cx w k cc RX3 rm) (d : decode cc pc = .ok (.getfield 29, 3)) (kk : WW w k (pc + 3) lv (.ref (wa w 22) :: rest) M) : WW w k pc lv (.ref (wa w 19) :: rest) M := ww_get C 19 (by decide) 3 rfl rfl inlX3 (f := 4) (by decide) fl_X3_29 rfl d kk
theorem gt_X3_32 (C : Cx w k cc RX3 rm) (d : decode cc pc = .ok (.getfield 32, 3)) (kk : WW w k (pc + 3) lv (.ref (wa w 24) :: rest) M) : WW w k pc lv (.ref (wa w 19) :: rest) M := ww_get C 19 (by decide) 3 rfl rfl inlX3 (f := 5) (by decide) fl_X3_32 rfl d kk
theorem gt_X2_9 (C : Cx w k cc RX2 rm) (d : decode cc pc = .ok (.getfield 9, 3)) (kk : WW w k (pc + 3) lv (.int (iZ (M 25 0)) :: rest) M) : WW w k pc lv (.ref (wa w 25) :: rest) M := ww_get C 25 (by decide) 2 rfl rfl inlX2 (f := 0) (by decide) fl_X2_9 rfl d kk
theorem pt_X2_9 (C : Cx w k cc RX2 rm) {z : Int} (hz : z = 0 ∨ z = 1) (d : decode cc pc = .ok (.putfield 9, 3)) (kk : WW w k (pc + 3) lv rest (ups M 25 (up1 (M 25) 0 z))) : WW w k pc lv (.int (iZ z) :: .ref (wa w 25) :: rest) M := ww_put C 25 (by decide) 2 rfl rfl rfl inlX2 tyX2 tyX2_ok nmX2 (f := 0) (ty := .boolean) (by decide) fl_X2_9 rfl (by decide +kernel) (by rcases hz with rfl | rfl <;> decide) (by rcases hz with rfl | rfl <;> decide) (Nat.le_of_ble_eq_true rfl) d kk
theorem gt_X2_15 (C : Cx w k cc RX2 rm) (d : decode cc pc = .ok (.getfield 15, 3)) (kk : WW w k (pc + 3) lv (.ref (wa w 26) :: rest) M) : WW w k pc lv (.ref (wa w 25) :: rest) M := ww_get C 25 (by decide) 2 rfl rfl inlX2 (f := 1) (by decide) fl_X2_15 rfl d kk
theorem gt_X2_19 (C : Cx w k cc RX2 rm) (d : decode cc pc = .ok (.getfield 19, 3)) (kk : WW w k (pc + 3) lv (.ref (wa w 27) :: rest) M) : WW w k pc lv (.ref (wa w 25) :: rest) M := ww_get C 25 (by decide) 2 rfl rfl inlX2 (f := 2) (by decide) fl_X2_19 rfl d kk
theorem gt_X2_22 (C : Cx w k cc RX2 rm) (d : decode cc pc = .ok (.getfield 22, 3)) (kk : WW w k (pc + 3) lv (.int (iZ (M 25 3)) :: rest) M) : WW w k pc lv (.ref (wa w 25) :: rest) M := ww_get C 25 (by decide) 2 rfl rfl inlX2 (f := 3) (by decide) fl_X2_22 rfl d kk
theorem pt_X2_22 (C : Cx w k cc RX2 rm) {z : Int} (d : decode cc pc = .ok (.putfield 22, 3)) (kk : WW w k (pc + 3) lv rest (ups M 25 (up1 (M 25) 3 z))) : WW w k pc lv (.int (iZ z) :: .ref (wa w 25) :: rest) M := ww_put C 25 (by decide) 2 rfl rfl rfl inlX2 tyX2 tyX2_ok nmX2 (f := 3) (ty := .int) (by decide) fl_X2_22 rfl (by decide +kernel) rfl rfl (Nat.le_of_ble_eq_true rfl) d kk
theorem gt_X2_26 (C : Cx w k cc RX2 rm) (d : decode cc pc = .ok (.getfield 26, 3)) (kk : WW w k (pc + 3) lv (.ref (wa w 28) :: rest) M) : WW w k pc lv (.ref (wa w 25) :: rest) M := ww_get C 25 (by decide) 2 rfl rfl inlX2 (f := 4) (by decide) fl_X2_26 rfl d kk
theorem gt_X2_29 (C : Cx w k cc RX2 rm) (d : decode cc pc = .ok (.getfield 29, 3)) (kk : WW w k (pc + 3) lv (.ref (wa w 29) :: rest) M) : WW w k pc lv (.ref (wa w 25) :: rest) M := ww_get C 25 (by decide) 2 rfl rfl inlX2 (f := 5) (by decide) fl_X2_29 rfl d kk
theorem gt_X6_7 (C : Cx w k cc RX6 rm) (d : decode cc pc = .ok (.getfield 7, 3)) (kk : WW w k (pc + 3) lv (.ref (wa w 31) :: rest) M) : WW w k pc lv (.ref (wa w 30) :: rest) M := ww_get C 30 (by decide) 6 rfl rfl inlX6 (f := 0) (by decide) fl_X6_7 rfl d kk
theorem gt_X6_13 (C : Cx w k cc RX6 rm) (d : decode cc pc = .ok (.getfield 13, 3)) (kk : WW w k (pc + 3) lv (.ref (wa w 32) :: rest) M) : WW w k pc lv (.ref (wa w 30) :: rest) M := ww_get C 30 (by decide) 6 rfl rfl inlX6 (f := 2) (by decide) fl_X6_13 rfl d kk
theorem gt_X6_16 (C : Cx w k cc RX6 rm) (d : decode cc pc = .ok (.getfield 16, 3)) (kk : WW w k (pc + 3) lv (.ref (wa w 33) :: rest) M) : WW w k pc lv (.ref (wa w 30) :: rest) M := ww_get C 30 (by decide) 6 rfl rfl inlX6 (f := 3) (by decide) fl_X6_16 rfl d kk
theorem gt_X6_19 (C : Cx w k cc RX6 rm) (d : decode cc pc = .ok (.getfield 19, 3)) (kk : WW w k (pc + 3) lv (.ref (wa w 34) :: rest) M) : WW w k pc lv (.ref (wa w 30) :: rest) M := ww_get C 30 (by decide) 6 rfl rfl inlX6 (f := 4) (by decide) fl_X6_19 rfl d kk
theorem gt_X6_22 (C : Cx w k cc RX6 rm) (d : decode cc pc = .ok (.getfield 22, 3)) (kk : WW w k (pc + 3) lv (.ref (wa w 35) :: rest) M) : WW w k pc lv (.ref (wa w 30) :: rest) M := ww_get C 30 (by decide) 6 rfl rfl inlX6 (f := 5) (by decide) fl_X6_22 rfl d kk
theorem gt_X6_25 (C : Cx w k cc RX6 rm) (d : decode cc pc = .ok (.getfield 25, 3)) (kk : WW w k (pc + 3) lv (.ref (wa w 36) :: rest) M) : WW w k pc lv (.ref (wa w 30) :: rest) M := ww_get C 30 (by decide) 6 rfl rfl inlX6 (f := 6) (by decide) fl_X6_25 rfl d kk
theorem gt_X6_28 (C : Cx w k cc RX6 rm) (d : decode cc pc = .ok (.getfield 28, 3)) (kk : WW w k (pc + 3) lv (.ref (wa w 37) :: rest) M) : WW w k pc lv (.ref (wa w 30) :: rest) M := ww_get C 30 (by decide) 6 rfl rfl inlX6 (f := 7) (by decide) fl_X6_28 rfl d kk
theorem gt_X6_31 (C : Cx w k cc RX6 rm) (d : decode cc pc = .ok (.getfield 31, 3)) (kk : WW w k (pc + 3) lv (.int (iZ (M 30 8)) :: rest) M) : WW w k pc lv (.ref (wa w 30) :: rest) M := ww_get C 30 (by decide) 6 rfl rfl inlX6 (f := 8) (by decide) fl_X6_31 rfl d kk
theorem pt_X6_31 (C : Cx w k cc RX6 rm) {z : Int} (d : decode cc pc = .ok (.putfield 31, 3)) (kk : WW w k (pc + 3) lv rest (ups M 30 (up1 (M 30) 8 z))) : WW w k pc lv (.int (iZ z) :: .ref (wa w 30) :: rest) M := ww_put C 30 (by decide) 6 rfl rfl rfl inlX6 tyX6 tyX6_ok nmX6 (f := 8) (ty := .int) (by decide) fl_X6_31 rfl (by decide +kernel) rfl rfl (Nat.le_of_ble_eq_true rfl) d kk
theorem gt_X6_35 (C : Cx w k cc RX6 rm) (d : decode cc pc = .ok (.getfield 35, 3)) (kk : WW w k (pc + 3) lv (.ref (wa w 38) :: rest) M) : WW w k pc lv (.ref (wa w 30) :: rest) M := ww_get C 30 (by decide) 6 rfl rfl inlX6 (f := 10) (by decide) fl_X6_35 rfl d kk
theorem gt_X6_38 (C : Cx w k cc RX6 rm) (d : decode cc pc = .ok (.getfield 38, 3)) (kk : WW w k (pc + 3) lv (.ref (wa w 39) :: rest) M) : WW w k pc lv (.ref (wa w 30) :: rest) M := ww_get C 30 (by decide) 6 rfl rfl inlX6 (f := 11) (by decide) fl_X6_38 rfl d kk
theorem gt_X6_41 (C : Cx w k cc RX6 rm) (d : decode cc pc = .ok (.getfield 41, 3)) (kk : WW w k (pc + 3) lv (.ref (wa w 40) :: rest) M) : WW w k pc lv (.ref (wa w 30) :: rest) M := ww_get C 30 (by decide) 6 rfl rfl inlX6 (f := 12) (by decide) fl_X6_41 rfl d kk
theorem gt_X6_45 (C : Cx w k cc RX6 rm) (d : decode cc pc = .ok (.getfield 45, 3)) (kk : WW w k (pc + 3) lv (.ref (wa w 41) :: rest) M) : WW w k pc lv (.ref (wa w 30) :: rest) M := ww_get C 30 (by decide) 6 rfl rfl inlX6 (f := 13) (by decide) fl_X6_45 rfl d kk
theorem gt_X6_48 (C : Cx w k cc RX6 rm) (d : decode cc pc = .ok (.getfield 48, 3)) (kk : WW w k (pc + 3) lv (.ref (wa w 42) :: rest) M) : WW w k pc lv (.ref (wa w 30) :: rest) M := ww_get C 30 (by decide) 6 rfl rfl inlX6 (f := 14) (by decide) fl_X6_48 rfl d kk
theorem gt_X6_51 (C : Cx w k cc RX6 rm) (d : decode cc pc = .ok (.getfield 51, 3)) (kk : WW w k (pc + 3) lv (.ref (wa w 43) :: rest) M) : WW w k pc lv (.ref (wa w 30) :: rest) M := ww_get C 30 (by decide) 6 rfl rfl inlX6 (f := 15) (by decide) fl_X6_51 rfl d kk
theorem gt_X5_194 (C : Cx w k cc RX5 rm) (d : decode cc pc = .ok (.getfield 194, 3)) (kk : WW w k (pc + 3) lv (.int (iZ (M 12 3)) :: rest) M) : WW w k pc lv (.ref (wa w 12) :: rest) M := ww_get C 12 (by decide) 0 rfl rfl inlX0 (f := 3) (by decide) fl_X5_194 rfl d kk
theorem pt_X5_194 (C : Cx w k cc RX5 rm) {z : Int} (hz : z = 0 ∨ z = 1) (d : decode cc pc = .ok (.putfield 194, 3)) (kk : WW w k (pc + 3) lv rest (ups M 12 (up1 (M 12) 3 z))) : WW w k pc lv (.int (iZ z) :: .ref (wa w 12) :: rest) M := ww_put C 12 (by decide) 0 rfl rfl rfl inlX0 tyX0 tyX0_ok nmX0 (f := 3) (ty := .boolean) (by decide) fl_X5_194 rfl (by decide +kernel) (by rcases hz with rfl | rfl <;> decide) (by rcases hz with rfl | rfl <;> decide) (Nat.le_of_ble_eq_true rfl) d kk
theorem gt_X5_63 (C : Cx w k cc RX5 rm) (d : decode cc pc = .ok (.getfield 63, 3)) (kk : WW w k (pc + 3) lv (.int (iZ (M 25 0)) :: rest) M) : WW w k pc lv (.ref (wa w 25) :: rest) M := ww_get C 25 (by decide) 2 rfl rfl inlX2 (f := 0) (by decide) fl_X5_63 rfl d kk
theorem pt_X5_63 (C : Cx w k cc RX5 rm) {z : Int} (hz : z = 0 ∨ z = 1) (d : decode cc pc = .ok (.putfield 63, 3)) (kk : WW w k (pc + 3) lv rest (ups M 25 (up1 (M 25) 0 z))) : WW w k pc lv (.int (iZ z) :: .ref (wa w 25) :: rest) M := ww_put C 25 (by decide) 2 rfl rfl rfl inlX2 tyX2 tyX2_ok nmX2 (f := 0) (ty := .boolean) (by decide) fl_X5_63 rfl (by decide +kernel) (by rcases hz with rfl | rfl <;> decide) (by rcases hz with rfl | rfl <;> decide) (Nat.le_of_ble_eq_true rfl) d kk
theorem gt_X6_67 (C : Cx w k cc RX6 rm) (d : decode cc pc = .ok (.getfield 67, 3)) (kk : WW w k (pc + 3) lv (.int (iZ (M 30 9)) :: rest) M) : WW w k pc lv (.ref (wa w 30) :: rest) M := ww_get C 30 (by decide) 6 rfl rfl inlX6 (f := 9) (by decide) fl_X6_67 rfl d kk
theorem pt_X6_67 (C : Cx w k cc RX6 rm) {z : Int} (hz : z = 0 ∨ z = 1) (d : decode cc pc = .ok (.putfield 67, 3)) (kk : WW w k (pc + 3) lv rest (ups M 30 (up1 (M 30) 9 z))) : WW w k pc lv (.int (iZ z) :: .ref (wa w 30) :: rest) M := ww_put C 30 (by decide) 6 rfl rfl rfl inlX6 tyX6 tyX6_ok nmX6 (f := 9) (ty := .boolean) (by decide) fl_X6_67 rfl (by decide +kernel) (by rcases hz with rfl | rfl <;> decide) (by rcases hz with rfl | rfl <;> decide) (Nat.le_of_ble_eq_true rfl) d kk
theorem gt_X5_55 (C : Cx w k cc RX5 rm) (d : decode cc pc = .ok (.getfield 55, 3)) (kk : WW w k (pc + 3) lv (.int (iZ (M 1 3)) :: rest) M) : WW w k pc lv (.ref (wa w 1) :: rest) M := ww_get C 1 (by decide) 4 rfl rfl inlX4 (f := 3) (by decide) fl_X5_55 rfl d kk
theorem pt_X5_55 (C : Cx w k cc RX5 rm) {z : Int} (d : decode cc pc = .ok (.putfield 55, 3)) (kk : WW w k (pc + 3) lv rest (ups M 1 (up1 (M 1) 3 z))) : WW w k pc lv (.int (iZ z) :: .ref (wa w 1) :: rest) M := ww_put C 1 (by decide) 4 rfl rfl rfl inlX4 tyX4 tyX4_ok nmX4 (f := 3) (ty := .int) (by decide) fl_X5_55 rfl (by decide +kernel) rfl rfl (Nat.le_of_ble_eq_true rfl) d kk
theorem gt_X6_58 (C : Cx w k cc RX6 rm) (d : decode cc pc = .ok (.getfield 58, 3)) (kk : WW w k (pc + 3) lv (.int (iZ (M 30 1)) :: rest) M) : WW w k pc lv (.ref (wa w 30) :: rest) M := ww_get C 30 (by decide) 6 rfl rfl inlX6 (f := 1) (by decide) fl_X6_58 rfl d kk
theorem pt_X6_58 (C : Cx w k cc RX6 rm) {z : Int} (d : decode cc pc = .ok (.putfield 58, 3)) (kk : WW w k (pc + 3) lv rest (ups M 30 (up1 (M 30) 1 z))) : WW w k pc lv (.int (iZ z) :: .ref (wa w 30) :: rest) M := ww_put C 30 (by decide) 6 rfl rfl rfl inlX6 tyX6 tyX6_ok nmX6 (f := 1) (ty := .int) (by decide) fl_X6_58 rfl (by decide +kernel) rfl rfl (Nat.le_of_ble_eq_true rfl) d kk
theorem gt_X5_100 (C : Cx w k cc RX5 rm) {h : Nat} (p : pl h) (d : decode cc pc = .ok (.getfield 100, 3)) (kk : WW w k (pc + 3) lv (.int (iZ (M h 1)) :: rest) M) : WW w k pc lv (.ref (wa w h) :: rest) M := ww_get C h (pl_lt p) 1 (pl_cell p (M h)) rfl inlX1 (f := 1) (by decide) fl_X5_100 rfl d kk
theorem pt_X5_100 (C : Cx w k cc RX5 rm) {h : Nat} (p : pl h) {z : Int} (d : decode cc pc = .ok (.putfield 100, 3)) (kk : WW w k (pc + 3) lv rest (ups M h (up1 (M h) 1 z))) : WW w k pc lv (.int (iZ z) :: .ref (wa w h) :: rest) M := ww_put C h (pl_lt p) 1 (pl_cell p (M h)) (pl_cell p _) rfl inlX1 tyX1 tyX1_ok nmX1 (f := 1) (ty := .int) (by decide) fl_X5_100 rfl (by decide +kernel) rfl rfl (Nat.le_of_ble_eq_true rfl) d kk
theorem gt_X5_111 (C : Cx w k cc RX5 rm) (d : decode cc pc = .ok (.getfield 111, 3)) (kk : WW w k (pc + 3) lv (.int (iZ (M 12 7)) :: rest) M) : WW w k pc lv (.ref (wa w 12) :: rest) M := ww_get C 12 (by decide) 0 rfl rfl inlX0 (f := 7) (by decide) fl_X5_111 rfl d kk
theorem pt_X5_111 (C : Cx w k cc RX5 rm) {z : Int} (d : decode cc pc = .ok (.putfield 111, 3)) (kk : WW w k (pc + 3) lv rest (ups M 12 (up1 (M 12) 7 z))) : WW w k pc lv (.int (iZ z) :: .ref (wa w 12) :: rest) M := ww_put C 12 (by decide) 0 rfl rfl rfl inlX0 tyX0 tyX0_ok nmX0 (f := 7) (ty := .int) (by decide) fl_X5_111 rfl (by decide +kernel) rfl rfl (Nat.le_of_ble_eq_true rfl) d kk
theorem gt_X5_207 (C : Cx w k cc RX5 rm) (d : decode cc pc = .ok (.getfield 207, 3)) (kk : WW w k (pc + 3) lv (.int (iZ (M 12 6)) :: rest) M) : WW w k pc lv (.ref (wa w 12) :: rest) M := ww_get C 12 (by decide) 0 rfl rfl inlX0 (f := 6) (by decide) fl_X5_207 rfl d kk
theorem pt_X5_207 (C : Cx w k cc RX5 rm) {z : Int} (d : decode cc pc = .ok (.putfield 207, 3)) (kk : WW w k (pc + 3) lv rest (ups M 12 (up1 (M 12) 6 z))) : WW w k pc lv (.int (iZ z) :: .ref (wa w 12) :: rest) M := ww_put C 12 (by decide) 0 rfl rfl rfl inlX0 tyX0 tyX0_ok nmX0 (f := 6) (ty := .int) (by decide) fl_X5_207 rfl (by decide +kernel) rfl rfl (Nat.le_of_ble_eq_true rfl) d kk
theorem gt_X1_51 (C : Cx w k cc RX1 rm) (d : decode cc pc = .ok (.getfield 51, 3)) (kk : WW w k (pc + 3) lv (.int (iZ (M 1 3)) :: rest) M) : WW w k pc lv (.ref (wa w 1) :: rest) M := ww_get C 1 (by decide) 4 rfl rfl inlX4 (f := 3) (by decide) fl_X1_51 rfl d kk
theorem pt_X1_51 (C : Cx w k cc RX1 rm) {z : Int} (d : decode cc pc = .ok (.putfield 51, 3)) (kk : WW w k (pc + 3) lv rest (ups M 1 (up1 (M 1) 3 z))) : WW w k pc lv (.int (iZ z) :: .ref (wa w 1) :: rest) M := ww_put C 1 (by decide) 4 rfl rfl rfl inlX4 tyX4 tyX4_ok nmX4 (f := 3) (ty := .int) (by decide) fl_X1_51 rfl (by decide +kernel) rfl rfl (Nat.le_of_ble_eq_true rfl) d kk
theorem gt_X1_48 (C : Cx w k cc RX1 rm) (d : decode cc pc = .ok (.getfield 48, 3)) (kk : WW w k (pc + 3) lv (.ref (wa w 4) :: rest) M) : WW w k pc lv (.ref (wa w 1) :: rest) M := ww_get C 1 (by decide) 4 rfl rfl inlX4 (f := 4) (by decide) fl_X1_48 rfl d kk
theorem gt_X0_45 (C : Cx w k cc RX0 rm) (d : decode cc pc = .ok (.getfield 45, 3)) (kk : WW w k (pc + 3) lv (.int (iZ (M 12 4)) :: rest) M) : WW w k pc lv (.ref (wa w 12) :: rest) M := ww_get C 12 (by decide) 0 rfl rfl inlX0 (f := 4) (by decide) fl_X0_45 rfl d kk
theorem pt_X0_45 (C : Cx w k cc RX0 rm) {z : Int} (d : decode cc pc = .ok (.putfield 45, 3)) (kk : WW w k (pc + 3) lv rest (ups M 12 (up1 (M 12) 4 z))) : WW w k pc lv (.int (iZ z) :: .ref (wa w 12) :: rest) M := ww_put C 12 (by decide) 0 rfl rfl rfl inlX0 tyX0 tyX0_ok nmX0 (f := 4) (ty := .int) (by decide) fl_X0_45 rfl (by decide +kernel) rfl rfl (Nat.le_of_ble_eq_true rfl) d kk
theorem gt_X0_48 (C : Cx w k cc RX0 rm) (d : decode cc pc = .ok (.getfield 48, 3)) (kk : WW w k (pc + 3) lv (.int (iZ (M 12 5)) :: rest) M) : WW w k pc lv (.ref (wa w 12) :: rest) M := ww_get C 12 (by decide) 0 rfl rfl inlX0 (f := 5) (by decide) fl_X0_48 rfl d kk
theorem pt_X0_48 (C : Cx w k cc RX0 rm) {z : Int} (d : decode cc pc = .ok (.putfield 48, 3)) (kk : WW w k (pc + 3) lv rest (ups M 12 (up1 (M 12) 5 z))) : WW w k pc lv (.int (iZ z) :: .ref (wa w 12) :: rest) M := ww_put C 12 (by decide) 0 rfl rfl rfl inlX0 tyX0 tyX0_ok nmX0 (f := 5) (ty := .int) (by decide) fl_X0_48 rfl (by decide +kernel) rfl rfl (Nat.le_of_ble_eq_true rfl) d kk
theorem gt_X0_51 (C : Cx w k cc RX0 rm) (d : decode cc pc = .ok (.getfield 51, 3)) (kk : WW w k (pc + 3) lv (.int (iZ (M 1 2)) :: rest) M) : WW w k pc lv (.ref (wa w 1) :: rest) M := ww_get C 1 (by decide) 4 rfl rfl inlX4 (f := 2) (by decide) fl_X0_51 rfl d kk
theorem pt_X0_51 (C : Cx w k cc RX0 rm) {z : Int} (d : decode cc pc = .ok (.putfield 51, 3)) (kk : WW w k (pc + 3) lv rest (ups M 1 (up1 (M 1) 2 z))) : WW w k pc lv (.int (iZ z) :: .ref (wa w 1) :: rest) M := ww_put C 1 (by decide) 4 rfl rfl rfl inlX4 tyX4 tyX4_ok nmX4 (f := 2) (ty := .int) (by decide) fl_X0_51 rfl (by decide +kernel) rfl rfl (Nat.le_of_ble_eq_true rfl) d kk
theorem gt_X0_56 (C : Cx w k cc RX0 rm) (d : decode cc pc = .ok (.getfield 56, 3)) (kk : WW w k (pc + 3) lv (.ref (wa w 3) :: rest) M) : WW w k pc lv (.ref (wa w 1) :: rest) M := ww_get C 1 (by decide) 4 rfl rfl inlX4 (f := 1) (by decide) fl_X0_56 rfl d kk
theorem gt_X0_82 (C : Cx w k cc RX0 rm) {h : Nat} (p : pl h) (d : decode cc pc = .ok (.getfield 82, 3)) (kk : WW w k (pc + 3) lv (.int (iZ (M h 1)) :: rest) M) : WW w k pc lv (.ref (wa w h) :: rest) M := ww_get C h (pl_lt p) 1 (pl_cell p (M h)) rfl inlX1 (f := 1) (by decide) fl_X0_82 rfl d kk
theorem pt_X0_82 (C : Cx w k cc RX0 rm) {h : Nat} (p : pl h) {z : Int} (d : decode cc pc = .ok (.putfield 82, 3)) (kk : WW w k (pc + 3) lv rest (ups M h (up1 (M h) 1 z))) : WW w k pc lv (.int (iZ z) :: .ref (wa w h) :: rest) M := ww_put C h (pl_lt p) 1 (pl_cell p (M h)) (pl_cell p _) rfl inlX1 tyX1 tyX1_ok nmX1 (f := 1) (ty := .int) (by decide) fl_X0_82 rfl (by decide +kernel) rfl rfl (Nat.le_of_ble_eq_true rfl) d kk
theorem gt_X1_29 (C : Cx w k cc RX1 rm) (d : decode cc pc = .ok (.getfield 29, 3)) (kk : WW w k (pc + 3) lv (.ref (wa w 2) :: rest) M) : WW w k pc lv (.ref (wa w 1) :: rest) M := ww_get C 1 (by decide) 4 rfl rfl inlX4 (f := 0) (by decide) fl_X1_29 rfl d kk
theorem gt_X5_117 (C : Cx w k cc RX5 rm) (d : decode cc pc = .ok (.getfield 117, 3)) (kk : WW w k (pc + 3) lv (.int (iZ (M 12 4)) :: rest) M) : WW w k pc lv (.ref (wa w 12) :: rest) M := ww_get C 12 (by decide) 0 rfl rfl inlX0 (f := 4) (by decide) fl_X5_117 rfl d kk
theorem pt_X5_117 (C : Cx w k cc RX5 rm) {z : Int} (d : decode cc pc = .ok (.putfield 117, 3)) (kk : WW w k (pc + 3) lv rest (ups M 12 (up1 (M 12) 4 z))) : WW w k pc lv (.int (iZ z) :: .ref (wa w 12) :: rest) M := ww_put C 12 (by decide) 0 rfl rfl rfl inlX0 tyX0 tyX0_ok nmX0 (f := 4) (ty := .int) (by decide) fl_X5_117 rfl (by decide +kernel) rfl rfl (Nat.le_of_ble_eq_true rfl) d kk
theorem gt_X5_120 (C : Cx w k cc RX5 rm) (d : decode cc pc = .ok (.getfield 120, 3)) (kk : WW w k (pc + 3) lv (.int (iZ (M 12 5)) :: rest) M) : WW w k pc lv (.ref (wa w 12) :: rest) M := ww_get C 12 (by decide) 0 rfl rfl inlX0 (f := 5) (by decide) fl_X5_120 rfl d kk
theorem pt_X5_120 (C : Cx w k cc RX5 rm) {z : Int} (d : decode cc pc = .ok (.putfield 120, 3)) (kk : WW w k (pc + 3) lv rest (ups M 12 (up1 (M 12) 5 z))) : WW w k pc lv (.int (iZ z) :: .ref (wa w 12) :: rest) M := ww_put C 12 (by decide) 0 rfl rfl rfl inlX0 tyX0 tyX0_ok nmX0 (f := 5) (ty := .int) (by decide) fl_X5_120 rfl (by decide +kernel) rfl rfl (Nat.le_of_ble_eq_true rfl) d kk
theorem gt_X5_130 (C : Cx w k cc RX5 rm) (d : decode cc pc = .ok (.getfield 130, 3)) (kk : WW w k (pc + 3) lv (.ref (wa w 13) :: rest) M) : WW w k pc lv (.ref (wa w 12) :: rest) M := ww_get C 12 (by decide) 0 rfl rfl inlX0 (f := 0) (by decide) fl_X5_130 rfl d kk
theorem gt_X5_134 (C : Cx w k cc RX5 rm) (d : decode cc pc = .ok (.getfield 134, 3)) (kk : WW w k (pc + 3) lv (.ref (wa w 14) :: rest) M) : WW w k pc lv (.ref (wa w 12) :: rest) M := ww_get C 12 (by decide) 0 rfl rfl inlX0 (f := 1) (by decide) fl_X5_134 rfl d kk
theorem gt_X5_137 (C : Cx w k cc RX5 rm) (d : decode cc pc = .ok (.getfield 137, 3)) (kk : WW w k (pc + 3) lv (.ref (wa w 15) :: rest) M) : WW w k pc lv (.ref (wa w 12) :: rest) M := ww_get C 12 (by decide) 0 rfl rfl inlX0 (f := 2) (by decide) fl_X5_137 rfl d kk
theorem gt_X5_154 (C : Cx w k cc RX5 rm) (d : decode cc pc = .ok (.getfield 154, 3)) (kk : WW w k (pc + 3) lv (.ref (wa w 20) :: rest) M) : WW w k pc lv (.ref (wa w 19) :: rest) M := ww_get C 19 (by decide) 3 rfl rfl inlX3 (f := 0) (by decide) fl_X5_154 rfl d kk
theorem gt_X3_83 (C : Cx w k cc RX3 rm) (d : decode cc pc = .ok (.getfield 83, 3)) (kk : WW w k (pc + 3) lv (.int (iZ (M 1 2)) :: rest) M) : WW w k pc lv (.ref (wa w 1) :: rest) M := ww_get C 1 (by decide) 4 rfl rfl inlX4 (f := 2) (by decide) fl_X3_83 rfl d kk
theorem pt_X3_83 (C : Cx w k cc RX3 rm) {z : Int} (d : decode cc pc = .ok (.putfield 83, 3)) (kk : WW w k (pc + 3) lv rest (ups M 1 (up1 (M 1) 2 z))) : WW w k pc lv (.int (iZ z) :: .ref (wa w 1) :: rest) M := ww_put C 1 (by decide) 4 rfl rfl rfl inlX4 tyX4 tyX4_ok nmX4 (f := 2) (ty := .int) (by decide) fl_X3_83 rfl (by decide +kernel) rfl rfl (Nat.le_of_ble_eq_true rfl) d kk
theorem gt_X3_98 (C : Cx w k cc RX3 rm) {h : Nat} (p : pl h) (d : decode cc pc = .ok (.getfield 98, 3)) (kk : WW w k (pc + 3) lv (.ref (wa w (h + 1)) :: rest) M) : WW w k pc lv (.ref (wa w h) :: rest) M := ww_get C h (pl_lt p) 1 (pl_cell p (M h)) rfl inlX1 (f := 0) (by decide) fl_X3_98 rfl d kk
theorem gt_X3_108 (C : Cx w k cc RX3 rm) (d : decode cc pc = .ok (.getfield 108, 3)) (kk : WW w k (pc + 3) lv (.ref (wa w 2) :: rest) M) : WW w k pc lv (.ref (wa w 1) :: rest) M := ww_get C 1 (by decide) 4 rfl rfl inlX4 (f := 0) (by decide) fl_X3_108 rfl d kk
theorem gt_X5_161 (C : Cx w k cc RX5 rm) {h : Nat} (p : pl h) (d : decode cc pc = .ok (.getfield 161, 3)) (kk : WW w k (pc + 3) lv (.ref (wa w (h + 1)) :: rest) M) : WW w k pc lv (.ref (wa w h) :: rest) M := ww_get C h (pl_lt p) 1 (pl_cell p (M h)) rfl inlX1 (f := 0) (by decide) fl_X5_161 rfl d kk
theorem gt_X2_32 (C : Cx w k cc RX2 rm) (d : decode cc pc = .ok (.getfield 32, 3)) (kk : WW w k (pc + 3) lv (.int (iZ (M 12 4)) :: rest) M) : WW w k pc lv (.ref (wa w 12) :: rest) M := ww_get C 12 (by decide) 0 rfl rfl inlX0 (f := 4) (by decide) fl_X2_32 rfl d kk
theorem pt_X2_32 (C : Cx w k cc RX2 rm) {z : Int} (d : decode cc pc = .ok (.putfield 32, 3)) (kk : WW w k (pc + 3) lv rest (ups M 12 (up1 (M 12) 4 z))) : WW w k pc lv (.int (iZ z) :: .ref (wa w 12) :: rest) M := ww_put C 12 (by decide) 0 rfl rfl rfl inlX0 tyX0 tyX0_ok nmX0 (f := 4) (ty := .int) (by decide) fl_X2_32 rfl (by decide +kernel) rfl rfl (Nat.le_of_ble_eq_true rfl) d kk
theorem gt_X2_53 (C : Cx w k cc RX2 rm) (d : decode cc pc = .ok (.getfield 53, 3)) (kk : WW w k (pc + 3) lv (.int (iZ (M 1 2)) :: rest) M) : WW w k pc lv (.ref (wa w 1) :: rest) M := ww_get C 1 (by decide) 4 rfl rfl inlX4 (f := 2) (by decide) fl_X2_53 rfl d kk
theorem pt_X2_53 (C : Cx w k cc RX2 rm) {z : Int} (d : decode cc pc = .ok (.putfield 53, 3)) (kk : WW w k (pc + 3) lv rest (ups M 1 (up1 (M 1) 2 z))) : WW w k pc lv (.int (iZ z) :: .ref (wa w 1) :: rest) M := ww_put C 1 (by decide) 4 rfl rfl rfl inlX4 tyX4 tyX4_ok nmX4 (f := 2) (ty := .int) (by decide) fl_X2_53 rfl (by decide +kernel) rfl rfl (Nat.le_of_ble_eq_true rfl) d kk
theorem gt_X2_56 (C : Cx w k cc RX2 rm) (d : decode cc pc = .ok (.getfield 56, 3)) (kk : WW w k (pc + 3) lv (.ref (wa w 13) :: rest) M) : WW w k pc lv (.ref (wa w 12) :: rest) M := ww_get C 12 (by decide) 0 rfl rfl inlX0 (f := 0) (by decide) fl_X2_56 rfl d kk
theorem gt_X2_59 (C : Cx w k cc RX2 rm) (d : decode cc pc = .ok (.getfield 59, 3)) (kk : WW w k (pc + 3) lv (.ref (wa w 3) :: rest) M) : WW w k pc lv (.ref (wa w 1) :: rest) M := ww_get C 1 (by decide) 4 rfl rfl inlX4 (f := 1) (by decide) fl_X2_59 rfl d kk
theorem gt_X2_62 (C : Cx w k cc RX2 rm) (d : decode cc pc = .ok (.getfield 62, 3)) (kk : WW w k (pc + 3) lv (.int (iZ (M 1 3)) :: rest) M) : WW w k pc lv (.ref (wa w 1) :: rest) M := ww_get C 1 (by decide) 4 rfl rfl inlX4 (f := 3) (by decide) fl_X2_62 rfl d kk
theorem pt_X2_62 (C : Cx w k cc RX2 rm) {z : Int} (d : decode cc pc = .ok (.putfield 62, 3)) (kk : WW w k (pc + 3) lv rest (ups M 1 (up1 (M 1) 3 z))) : WW w k pc lv (.int (iZ z) :: .ref (wa w 1) :: rest) M := ww_put C 1 (by decide) 4 rfl rfl rfl inlX4 tyX4 tyX4_ok nmX4 (f := 3) (ty := .int) (by decide) fl_X2_62 rfl (by decide +kernel) rfl rfl (Nat.le_of_ble_eq_true rfl) d kk
theorem gt_X2_69 (C : Cx w k cc RX2 rm) (d : decode cc pc = .ok (.getfield 69, 3)) (kk : WW w k (pc + 3) lv (.ref (wa w 14) :: rest) M) : WW w k pc lv (.ref (wa w 12) :: rest) M := ww_get C 12 (by decide) 0 rfl rfl inlX0 (f := 1) (by decide) fl_X2_69 rfl d kk
theorem gt_X2_72 (C : Cx w k cc RX2 rm) (d : decode cc pc = .ok (.getfield 72, 3)) (kk : WW w k (pc + 3) lv (.ref (wa w 15) :: rest) M) : WW w k pc lv (.ref (wa w 12) :: rest) M := ww_get C 12 (by decide) 0 rfl rfl inlX0 (f := 2) (by decide) fl_X2_72 rfl d kk
theorem gt_X5_175 (C : Cx w k cc RX5 rm) (d : decode cc pc = .ok (.getfield 175, 3)) (kk : WW w k (pc + 3) lv (.ref (wa w 27) :: rest) M) : WW w k pc lv (.ref (wa w 25) :: rest) M := ww_get C 25 (by decide) 2 rfl rfl inlX2 (f := 2) (by decide) fl_X5_175 rfl d kk
theorem gt_X5_178 (C : Cx w k cc RX5 rm) (d : decode cc pc = .ok (.getfield 178, 3)) (kk : WW w k (pc + 3) lv (.ref (wa w 26) :: rest) M) : WW w k pc lv (.ref (wa w 25) :: rest) M := ww_get C 25 (by decide) 2 rfl rfl inlX2 (f := 1) (by decide) fl_X5_178 rfl d kk
theorem gt_X5_188 (C : Cx w k cc RX5 rm) (d : decode cc pc = .ok (.getfield 188, 3)) (kk : WW w k (pc + 3) lv (.int (iZ (M 1 2)) :: rest) M) : WW w k pc lv (.ref (wa w 1) :: rest) M := ww_get C 1 (by decide) 4 rfl rfl inlX4 (f := 2) (by decide) fl_X5_188 rfl d kk
theorem pt_X5_188 (C : Cx w k cc RX5 rm) {z : Int} (d : decode cc pc = .ok (.putfield 188, 3)) (kk : WW w k (pc + 3) lv rest (ups M 1 (up1 (M 1) 2 z))) : WW w k pc lv (.int (iZ z) :: .ref (wa w 1) :: rest) M := ww_put C 1 (by decide) 4 rfl rfl rfl inlX4 tyX4 tyX4_ok nmX4 (f := 2) (ty := .int) (by decide) fl_X5_188 rfl (by decide +kernel) rfl rfl (Nat.le_of_ble_eq_true rfl) d kk
theorem gt_X5_191 (C : Cx w k cc RX5 rm) (d : decode cc pc = .ok (.getfield 191, 3)) (kk : WW w k (pc + 3) lv (.ref (wa w 2) :: rest) M) : WW w k pc lv (.ref (wa w 1) :: rest) M := ww_get C 1 (by decide) 4 rfl rfl inlX4 (f := 0) (by decide) fl_X5_191 rfl d kk
theorem al_2 {own : String} (C : Cx w k cc own rm) {i : Int} (n : Nat) {z : Int} (hi : i = (n : Int)) (hn : n < 3) (hz : M 2 n = z) (d : decode cc pc = .ok (.iaload, 1)) (kk : WW w k (pc + 1) lv (.int (iZ z) :: rest) M) : WW w k pc lv (.int (iZ i) :: .ref (wa w 2) :: rest) M := ww_iald C 2 (by decide) (N := 3) n rfl (by decide) hi hn hz d kk
theorem as_2 {own : String} (C : Cx w k cc own rm) {i : Int} (n : Nat) {z : Int} (hi : i = (n : Int)) (hn : n < 3) (d : decode cc pc = .ok (.iastore, 1)) (kk : WW w k (pc + 1) lv rest (ups M 2 (up1 (M 2) n z))) : WW w k pc lv (.int (iZ z) :: .int (iZ i) :: .ref (wa w 2) :: rest) M := ww_iast C 2 (by decide) (N := 3) n (fun _ => rfl) (by decide) hi hn d kk
theorem al_3 {own : String} (C : Cx w k cc own rm) {i : Int} (n : Nat) {z : Int} (hi : i = (n : Int)) (hn : n < 512) (hz : M 3 n = z) (d : decode cc pc = .ok (.iaload, 1)) (kk : WW w k (pc + 1) lv (.int (iZ z) :: rest) M) : WW w k pc lv (.int (iZ i) :: .ref (wa w 3) :: rest) M := ww_iald C 3 (by decide) (N := 512) n rfl (by decide) hi hn hz d kk
theorem as_3 {own : String} (C : Cx w k cc own rm) {i : Int} (n : Nat) {z : Int} (hi : i = (n : Int)) (hn : n < 512) (d : decode cc pc = .ok (.iastore, 1)) (kk : WW w k (pc + 1) lv rest (ups M 3 (up1 (M 3) n z))) : WW w k pc lv (.int (iZ z) :: .int (iZ i) :: .ref (wa w 3) :: rest) M := ww_iast C 3 (by decide) (N := 512) n (fun _ => rfl) (by decide) hi hn d kk
theorem al_4 {own : String} (C : Cx w k cc own rm) {i : Int} (n : Nat) {z : Int} (hi : i = (n : Int)) (hn : n < 12) (hz : M 4 n = z) (d : decode cc pc = .ok (.iaload, 1)) (kk : WW w k (pc + 1) lv (.int (iZ z) :: rest) M) : WW w k pc lv (.int (iZ i) :: .ref (wa w 4) :: rest) M := ww_iald C 4 (by decide) (N := 12) n rfl (by decide) hi hn hz d kk
theorem as_4 {own : String} (C : Cx w k cc own rm) {i : Int} (n : Nat) {z : Int} (hi : i = (n : Int)) (hn : n < 12) (d : decode cc pc = .ok (.iastore, 1)) (kk : WW w k (pc + 1) lv rest (ups M 4 (up1 (M 4) n z))) : WW w k pc lv (.int (iZ z) :: .int (iZ i) :: .ref (wa w 4) :: rest) M := ww_iast C 4 (by decide) (N := 12) n (fun _ => rfl) (by decide) hi hn d kk
theorem al_5 {own : String} (C : Cx w k cc own rm) {i : Int} (n : Nat) {z : Int} (hi : i = (n : Int)) (hn : n < 4) (hz : M 5 n = z) (d : decode cc pc = .ok (.iaload, 1)) (kk : WW w k (pc + 1) lv (.int (iZ z) :: rest) M) : WW w k pc lv (.int (iZ i) :: .ref (wa w 5) :: rest) M := ww_iald C 5 (by decide) (N := 4) n rfl (by decide) hi hn hz d kk
theorem as_5 {own : String} (C : Cx w k cc own rm) {i : Int} (n : Nat) {z : Int} (hi : i = (n : Int)) (hn : n < 4) (d : decode cc pc = .ok (.iastore, 1)) (kk : WW w k (pc + 1) lv rest (ups M 5 (up1 (M 5) n z))) : WW w k pc lv (.int (iZ z) :: .int (iZ i) :: .ref (wa w 5) :: rest) M := ww_iast C 5 (by decide) (N := 4) n (fun _ => rfl) (by decide) hi hn d kk
theorem al_6 {own : String} (C : Cx w k cc own rm) {i : Int} (n : Nat) {z : Int} (hi : i = (n : Int)) (hn : n < 4) (hz : M 6 n = z) (d : decode cc pc = .ok (.iaload, 1)) (kk : WW w k (pc + 1) lv (.int (iZ z) :: rest) M) : WW w k pc lv (.int (iZ i) :: .ref (wa w 6) :: rest) M := ww_iald C 6 (by decide) (N := 4) n rfl (by decide) hi hn hz d kk
theorem as_6 {own : String} (C : Cx w k cc own rm) {i : Int} (n : Nat) {z : Int} (hi : i = (n : Int)) (hn : n < 4) (d : decode cc pc = .ok (.iastore, 1)) (kk : WW w k (pc + 1) lv rest (ups M 6 (up1 (M 6) n z))) : WW w k pc lv (.int (iZ z) :: .int (iZ i) :: .ref (wa w 6) :: rest) M := ww_iast C 6 (by decide) (N := 4) n (fun _ => rfl) (by decide) hi hn d kk
theorem al_7 {own : String} (C : Cx w k cc own rm) {i : Int} (n : Nat) {z : Int} (hi : i = (n : Int)) (hn : n < 4) (hz : M 7 n = z) (d : decode cc pc = .ok (.iaload, 1)) (kk : WW w k (pc + 1) lv (.int (iZ z) :: rest) M) : WW w k pc lv (.int (iZ i) :: .ref (wa w 7) :: rest) M := ww_iald C 7 (by decide) (N := 4) n rfl (by decide) hi hn hz d kk
theorem as_7 {own : String} (C : Cx w k cc own rm) {i : Int} (n : Nat) {z : Int} (hi : i = (n : Int)) (hn : n < 4) (d : decode cc pc = .ok (.iastore, 1)) (kk : WW w k (pc + 1) lv rest (ups M 7 (up1 (M 7) n z))) : WW w k pc lv (.int (iZ z) :: .int (iZ i) :: .ref (wa w 7) :: rest) M := ww_iast C 7 (by decide) (N := 4) n (fun _ => rfl) (by decide) hi hn d kk
theorem al_8 {own : String} (C : Cx w k cc own rm) {i : Int} (n : Nat) {z : Int} (hi : i = (n : Int)) (hn : n < 2048) (hz : M 8 n = z) (d : decode cc pc = .ok (.iaload, 1)) (kk : WW w k (pc + 1) lv (.int (iZ z) :: rest) M) : WW w k pc lv (.int (iZ i) :: .ref (wa w 8) :: rest) M := ww_iald C 8 (by decide) (N := 2048) n rfl (by decide) hi hn hz d kk
theorem as_8 {own : String} (C : Cx w k cc own rm) {i : Int} (n : Nat) {z : Int} (hi : i = (n : Int)) (hn : n < 2048) (d : decode cc pc = .ok (.iastore, 1)) (kk : WW w k (pc + 1) lv rest (ups M 8 (up1 (M 8) n z))) : WW w k pc lv (.int (iZ z) :: .int (iZ i) :: .ref (wa w 8) :: rest) M := ww_iast C 8 (by decide) (N := 2048) n (fun _ => rfl) (by decide) hi hn d kk
theorem al_9 {own : String} (C : Cx w k cc own rm) {i : Int} (n : Nat) {z : Int} (hi : i = (n : Int)) (hn : n < 2048) (hz : M 9 n = z) (d : decode cc pc = .ok (.iaload, 1)) (kk : WW w k (pc + 1) lv (.int (iZ z) :: rest) M) : WW w k pc lv (.int (iZ i) :: .ref (wa w 9) :: rest) M := ww_iald C 9 (by decide) (N := 2048) n rfl (by decide) hi hn hz d kk
theorem as_9 {own : String} (C : Cx w k cc own rm) {i : Int} (n : Nat) {z : Int} (hi : i = (n : Int)) (hn : n < 2048) (d : decode cc pc = .ok (.iastore, 1)) (kk : WW w k (pc + 1) lv rest (ups M 9 (up1 (M 9) n z))) : WW w k pc lv (.int (iZ z) :: .int (iZ i) :: .ref (wa w 9) :: rest) M := ww_iast C 9 (by decide) (N := 2048) n (fun _ => rfl) (by decide) hi hn d kk
theorem al_11 {own : String} (C : Cx w k cc own rm) {i : Int} (n : Nat) {z : Int} (hi : i = (n : Int)) (hn : n < 9) (hz : M 11 n = z) (d : decode cc pc = .ok (.iaload, 1)) (kk : WW w k (pc + 1) lv (.int (iZ z) :: rest) M) : WW w k pc lv (.int (iZ i) :: .ref (wa w 11) :: rest) M := ww_iald C 11 (by decide) (N := 9) n rfl (by decide) hi hn hz d kk
theorem as_11 {own : String} (C : Cx w k cc own rm) {i : Int} (n : Nat) {z : Int} (hi : i = (n : Int)) (hn : n < 9) (d : decode cc pc = .ok (.iastore, 1)) (kk : WW w k (pc + 1) lv rest (ups M 11 (up1 (M 11) n z))) : WW w k pc lv (.int (iZ z) :: .int (iZ i) :: .ref (wa w 11) :: rest) M := ww_iast C 11 (by decide) (N := 9) n (fun _ => rfl) (by decide) hi hn d kk
theorem al_13 {own : String} (C : Cx w k cc own rm) {i : Int} (n : Nat) {z : Int} (hi : i = (n : Int)) (hn : n < 512) (hz : M 13 n = z) (d : decode cc pc = .ok (.iaload, 1)) (kk : WW w k (pc + 1) lv (.int (iZ z) :: rest) M) : WW w k pc lv (.int (iZ i) :: .ref (wa w 13) :: rest) M := ww_iald C 13 (by decide) (N := 512) n rfl (by decide) hi hn hz d kk
theorem as_13 {own : String} (C : Cx w k cc own rm) {i : Int} (n : Nat) {z : Int} (hi : i = (n : Int)) (hn : n < 512) (d : decode cc pc = .ok (.iastore, 1)) (kk : WW w k (pc + 1) lv rest (ups M 13 (up1 (M 13) n z))) : WW w k pc lv (.int (iZ z) :: .int (iZ i) :: .ref (wa w 13) :: rest) M := ww_iast C 13 (by decide) (N := 512) n (fun _ => rfl) (by decide) hi hn d kk
theorem al_14 {own : String} (C : Cx w k cc own rm) {i : Int} (n : Nat) {z : Int} (hi : i = (n : Int)) (hn : n < 512) (hz : M 14 n = z) (d : decode cc pc = .ok (.iaload, 1)) (kk : WW w k (pc + 1) lv (.int (iZ z) :: rest) M) : WW w k pc lv (.int (iZ i) :: .ref (wa w 14) :: rest) M := ww_iald C 14 (by decide) (N := 512) n rfl (by decide) hi hn hz d kk
theorem as_14 {own : String} (C : Cx w k cc own rm) {i : Int} (n : Nat) {z : Int} (hi : i = (n : Int)) (hn : n < 512) (d : decode cc pc = .ok (.iastore, 1)) (kk : WW w k (pc + 1) lv rest (ups M 14 (up1 (M 14) n z))) : WW w k pc lv (.int (iZ z) :: .int (iZ i) :: .ref (wa w 14) :: rest) M := ww_iast C 14 (by decide) (N := 512) n (fun _ => rfl) (by decide) hi hn d kk
theorem al_15 {own : String} (C : Cx w k cc own rm) {i : Int} (n : Nat) {z : Int} (hi : i = (n : Int)) (hn : n < 512) (hz : M 15 n = z) (d : decode cc pc = .ok (.iaload, 1)) (kk : WW w k (pc + 1) lv (.int (iZ z) :: rest) M) : WW w k pc lv (.int (iZ i) :: .ref (wa w 15) :: rest) M := ww_iald C 15 (by decide) (N := 512) n rfl (by decide) hi hn hz d kk
theorem as_15 {own : String} (C : Cx w k cc own rm) {i : Int} (n : Nat) {z : Int} (hi : i = (n : Int)) (hn : n < 512) (d : decode cc pc = .ok (.iastore, 1)) (kk : WW w k (pc + 1) lv rest (ups M 15 (up1 (M 15) n z))) : WW w k pc lv (.int (iZ z) :: .int (iZ i) :: .ref (wa w 15) :: rest) M := ww_iast C 15 (by decide) (N := 512) n (fun _ => rfl) (by decide) hi hn d kk
theorem al_16 {own : String} (C : Cx w k cc own rm) {i : Int} (n : Nat) {z : Int} (hi : i = (n : Int)) (hn : n < 4096) (hz : M 16 n = z) (d : decode cc pc = .ok (.iaload, 1)) (kk : WW w k (pc + 1) lv (.int (iZ z) :: rest) M) : WW w k pc lv (.int (iZ i) :: .ref (wa w 16) :: rest) M := ww_iald C 16 (by decide) (N := 4096) n rfl (by decide) hi hn hz d kk
theorem as_16 {own : String} (C : Cx w k cc own rm) {i : Int} (n : Nat) {z : Int} (hi : i = (n : Int)) (hn : n < 4096) (d : decode cc pc = .ok (.iastore, 1)) (kk : WW w k (pc + 1) lv rest (ups M 16 (up1 (M 16) n z))) : WW w k pc lv (.int (iZ z) :: .int (iZ i) :: .ref (wa w 16) :: rest) M := ww_iast C 16 (by decide) (N := 4096) n (fun _ => rfl) (by decide) hi hn d kk
theorem al_17 {own : String} (C : Cx w k cc own rm) {i : Int} (n : Nat) {z : Int} (hi : i = (n : Int)) (hn : n < 512) (hz : M 17 n = z) (d : decode cc pc = .ok (.iaload, 1)) (kk : WW w k (pc + 1) lv (.int (iZ z) :: rest) M) : WW w k pc lv (.int (iZ i) :: .ref (wa w 17) :: rest) M := ww_iald C 17 (by decide) (N := 512) n rfl (by decide) hi hn hz d kk
theorem as_17 {own : String} (C : Cx w k cc own rm) {i : Int} (n : Nat) {z : Int} (hi : i = (n : Int)) (hn : n < 512) (d : decode cc pc = .ok (.iastore, 1)) (kk : WW w k (pc + 1) lv rest (ups M 17 (up1 (M 17) n z))) : WW w k pc lv (.int (iZ z) :: .int (iZ i) :: .ref (wa w 17) :: rest) M := ww_iast C 17 (by decide) (N := 512) n (fun _ => rfl) (by decide) hi hn d kk
theorem al_18 {own : String} (C : Cx w k cc own rm) {i : Int} (n : Nat) {z : Int} (hi : i = (n : Int)) (hn : n < 512) (hz : M 18 n = z) (d : decode cc pc = .ok (.iaload, 1)) (kk : WW w k (pc + 1) lv (.int (iZ z) :: rest) M) : WW w k pc lv (.int (iZ i) :: .ref (wa w 18) :: rest) M := ww_iald C 18 (by decide) (N := 512) n rfl (by decide) hi hn hz d kk
theorem as_18 {own : String} (C : Cx w k cc own rm) {i : Int} (n : Nat) {z : Int} (hi : i = (n : Int)) (hn : n < 512) (d : decode cc pc = .ok (.iastore, 1)) (kk : WW w k (pc + 1) lv rest (ups M 18 (up1 (M 18) n z))) : WW w k pc lv (.int (iZ z) :: .int (iZ i) :: .ref (wa w 18) :: rest) M := ww_iast C 18 (by decide) (N := 512) n (fun _ => rfl) (by decide) hi hn d kk
theorem al_21 {own : String} (C : Cx w k cc own rm) {i : Int} (n : Nat) {z : Int} (hi : i = (n : Int)) (hn : n < 9) (hz : M 21 n = z) (d : decode cc pc = .ok (.iaload, 1)) (kk : WW w k (pc + 1) lv (.int (iZ z) :: rest) M) : WW w k pc lv (.int (iZ i) :: .ref (wa w 21) :: rest) M := ww_iald C 21 (by decide) (N := 9) n rfl (by decide) hi hn hz d kk
theorem as_21 {own : String} (C : Cx w k cc own rm) {i : Int} (n : Nat) {z : Int} (hi : i = (n : Int)) (hn : n < 9) (d : decode cc pc = .ok (.iastore, 1)) (kk : WW w k (pc + 1) lv rest (ups M 21 (up1 (M 21) n z))) : WW w k pc lv (.int (iZ z) :: .int (iZ i) :: .ref (wa w 21) :: rest) M := ww_iast C 21 (by decide) (N := 9) n (fun _ => rfl) (by decide) hi hn d kk
theorem al_23 {own : String} (C : Cx w k cc own rm) {i : Int} (n : Nat) {z : Int} (hi : i = (n : Int)) (hn : n < 9) (hz : M 23 n = z) (d : decode cc pc = .ok (.iaload, 1)) (kk : WW w k (pc + 1) lv (.int (iZ z) :: rest) M) : WW w k pc lv (.int (iZ i) :: .ref (wa w 23) :: rest) M := ww_iald C 23 (by decide) (N := 9) n rfl (by decide) hi hn hz d kk
theorem as_23 {own : String} (C : Cx w k cc own rm) {i : Int} (n : Nat) {z : Int} (hi : i = (n : Int)) (hn : n < 9) (d : decode cc pc = .ok (.iastore, 1)) (kk : WW w k (pc + 1) lv rest (ups M 23 (up1 (M 23) n z))) : WW w k pc lv (.int (iZ z) :: .int (iZ i) :: .ref (wa w 23) :: rest) M := ww_iast C 23 (by decide) (N := 9) n (fun _ => rfl) (by decide) hi hn d kk
theorem al_24 {own : String} (C : Cx w k cc own rm) {i : Int} (n : Nat) {z : Int} (hi : i = (n : Int)) (hn : n < 3) (hz : M 24 n = z) (d : decode cc pc = .ok (.iaload, 1)) (kk : WW w k (pc + 1) lv (.int (iZ z) :: rest) M) : WW w k pc lv (.int (iZ i) :: .ref (wa w 24) :: rest) M := ww_iald C 24 (by decide) (N := 3) n rfl (by decide) hi hn hz d kk
theorem as_24 {own : String} (C : Cx w k cc own rm) {i : Int} (n : Nat) {z : Int} (hi : i = (n : Int)) (hn : n < 3) (d : decode cc pc = .ok (.iastore, 1)) (kk : WW w k (pc + 1) lv rest (ups M 24 (up1 (M 24) n z))) : WW w k pc lv (.int (iZ z) :: .int (iZ i) :: .ref (wa w 24) :: rest) M := ww_iast C 24 (by decide) (N := 3) n (fun _ => rfl) (by decide) hi hn d kk
theorem al_26 {own : String} (C : Cx w k cc own rm) {i : Int} (n : Nat) {z : Int} (hi : i = (n : Int)) (hn : n < 2048) (hz : M 26 n = z) (d : decode cc pc = .ok (.iaload, 1)) (kk : WW w k (pc + 1) lv (.int (iZ z) :: rest) M) : WW w k pc lv (.int (iZ i) :: .ref (wa w 26) :: rest) M := ww_iald C 26 (by decide) (N := 2048) n rfl (by decide) hi hn hz d kk
theorem as_26 {own : String} (C : Cx w k cc own rm) {i : Int} (n : Nat) {z : Int} (hi : i = (n : Int)) (hn : n < 2048) (d : decode cc pc = .ok (.iastore, 1)) (kk : WW w k (pc + 1) lv rest (ups M 26 (up1 (M 26) n z))) : WW w k pc lv (.int (iZ z) :: .int (iZ i) :: .ref (wa w 26) :: rest) M := ww_iast C 26 (by decide) (N := 2048) n (fun _ => rfl) (by decide) hi hn d kk
theorem al_27 {own : String} (C : Cx w k cc own rm) {i : Int} (n : Nat) {z : Int} (hi : i = (n : Int)) (hn : n < 513) (hz : M 27 n = z) (d : decode cc pc = .ok (.iaload, 1)) (kk : WW w k (pc + 1) lv (.int (iZ z) :: rest) M) : WW w k pc lv (.int (iZ i) :: .ref (wa w 27) :: rest) M := ww_iald C 27 (by decide) (N := 513) n rfl (by decide) hi hn hz d kk
theorem as_27 {own : String} (C : Cx w k cc own rm) {i : Int} (n : Nat) {z : Int} (hi : i = (n : Int)) (hn : n < 513) (d : decode cc pc = .ok (.iastore, 1)) (kk : WW w k (pc + 1) lv rest (ups M 27 (up1 (M 27) n z))) : WW w k pc lv (.int (iZ z) :: .int (iZ i) :: .ref (wa w 27) :: rest) M := ww_iast C 27 (by decide) (N := 513) n (fun _ => rfl) (by decide) hi hn d kk
theorem al_28 {own : String} (C : Cx w k cc own rm) {i : Int} (n : Nat) {z : Int} (hi : i = (n : Int)) (hn : n < 512) (hz : M 28 n = z) (d : decode cc pc = .ok (.iaload, 1)) (kk : WW w k (pc + 1) lv (.int (iZ z) :: rest) M) : WW w k pc lv (.int (iZ i) :: .ref (wa w 28) :: rest) M := ww_iald C 28 (by decide) (N := 512) n rfl (by decide) hi hn hz d kk
theorem as_28 {own : String} (C : Cx w k cc own rm) {i : Int} (n : Nat) {z : Int} (hi : i = (n : Int)) (hn : n < 512) (d : decode cc pc = .ok (.iastore, 1)) (kk : WW w k (pc + 1) lv rest (ups M 28 (up1 (M 28) n z))) : WW w k pc lv (.int (iZ z) :: .int (iZ i) :: .ref (wa w 28) :: rest) M := ww_iast C 28 (by decide) (N := 512) n (fun _ => rfl) (by decide) hi hn d kk
theorem al_29 {own : String} (C : Cx w k cc own rm) {i : Int} (n : Nat) {z : Int} (hi : i = (n : Int)) (hn : n < 513) (hz : M 29 n = z) (d : decode cc pc = .ok (.iaload, 1)) (kk : WW w k (pc + 1) lv (.int (iZ z) :: rest) M) : WW w k pc lv (.int (iZ i) :: .ref (wa w 29) :: rest) M := ww_iald C 29 (by decide) (N := 513) n rfl (by decide) hi hn hz d kk
theorem as_29 {own : String} (C : Cx w k cc own rm) {i : Int} (n : Nat) {z : Int} (hi : i = (n : Int)) (hn : n < 513) (d : decode cc pc = .ok (.iastore, 1)) (kk : WW w k (pc + 1) lv rest (ups M 29 (up1 (M 29) n z))) : WW w k pc lv (.int (iZ z) :: .int (iZ i) :: .ref (wa w 29) :: rest) M := ww_iast C 29 (by decide) (N := 513) n (fun _ => rfl) (by decide) hi hn d kk
theorem al_31 {own : String} (C : Cx w k cc own rm) {i : Int} (n : Nat) {z : Int} (hi : i = (n : Int)) (hn : n < 3) (hz : M 31 n = z) (d : decode cc pc = .ok (.iaload, 1)) (kk : WW w k (pc + 1) lv (.int (iZ z) :: rest) M) : WW w k pc lv (.int (iZ i) :: .ref (wa w 31) :: rest) M := ww_iald C 31 (by decide) (N := 3) n rfl (by decide) hi hn hz d kk
theorem as_31 {own : String} (C : Cx w k cc own rm) {i : Int} (n : Nat) {z : Int} (hi : i = (n : Int)) (hn : n < 3) (d : decode cc pc = .ok (.iastore, 1)) (kk : WW w k (pc + 1) lv rest (ups M 31 (up1 (M 31) n z))) : WW w k pc lv (.int (iZ z) :: .int (iZ i) :: .ref (wa w 31) :: rest) M := ww_iast C 31 (by decide) (N := 3) n (fun _ => rfl) (by decide) hi hn d kk
theorem al_32 {own : String} (C : Cx w k cc own rm) {i : Int} (n : Nat) {z : Int} (hi : i = (n : Int)) (hn : n < 12) (hz : M 32 n = z) (d : decode cc pc = .ok (.iaload, 1)) (kk : WW w k (pc + 1) lv (.int (iZ z) :: rest) M) : WW w k pc lv (.int (iZ i) :: .ref (wa w 32) :: rest) M := ww_iald C 32 (by decide) (N := 12) n rfl (by decide) hi hn hz d kk
theorem as_32 {own : String} (C : Cx w k cc own rm) {i : Int} (n : Nat) {z : Int} (hi : i = (n : Int)) (hn : n < 12) (d : decode cc pc = .ok (.iastore, 1)) (kk : WW w k (pc + 1) lv rest (ups M 32 (up1 (M 32) n z))) : WW w k pc lv (.int (iZ z) :: .int (iZ i) :: .ref (wa w 32) :: rest) M := ww_iast C 32 (by decide) (N := 12) n (fun _ => rfl) (by decide) hi hn d kk
theorem al_33 {own : String} (C : Cx w k cc own rm) {i : Int} (n : Nat) {z : Int} (hi : i = (n : Int)) (hn : n < 4) (hz : M 33 n = z) (d : decode cc pc = .ok (.iaload, 1)) (kk : WW w k (pc + 1) lv (.int (iZ z) :: rest) M) : WW w k pc lv (.int (iZ i) :: .ref (wa w 33) :: rest) M := ww_iald C 33 (by decide) (N := 4) n rfl (by decide) hi hn hz d kk
theorem as_33 {own : String} (C : Cx w k cc own rm) {i : Int} (n : Nat) {z : Int} (hi : i = (n : Int)) (hn : n < 4) (d : decode cc pc = .ok (.iastore, 1)) (kk : WW w k (pc + 1) lv rest (ups M 33 (up1 (M 33) n z))) : WW w k pc lv (.int (iZ z) :: .int (iZ i) :: .ref (wa w 33) :: rest) M := ww_iast C 33 (by decide) (N := 4) n (fun _ => rfl) (by decide) hi hn d kk
theorem al_34 {own : String} (C : Cx w k cc own rm) {i : Int} (n : Nat) {z : Int} (hi : i = (n : Int)) (hn : n < 4) (hz : M 34 n = z) (d : decode cc pc = .ok (.iaload, 1)) (kk : WW w k (pc + 1) lv (.int (iZ z) :: rest) M) : WW w k pc lv (.int (iZ i) :: .ref (wa w 34) :: rest) M := ww_iald C 34 (by decide) (N := 4) n rfl (by decide) hi hn hz d kk
theorem as_34 {own : String} (C : Cx w k cc own rm) {i : Int} (n : Nat) {z : Int} (hi : i = (n : Int)) (hn : n < 4) (d : decode cc pc = .ok (.iastore, 1)) (kk : WW w k (pc + 1) lv rest (ups M 34 (up1 (M 34) n z))) : WW w k pc lv (.int (iZ z) :: .int (iZ i) :: .ref (wa w 34) :: rest) M := ww_iast C 34 (by decide) (N := 4) n (fun _ => rfl) (by decide) hi hn d kk
theorem al_35 {own : String} (C : Cx w k cc own rm) {i : Int} (n : Nat) {z : Int} (hi : i = (n : Int)) (hn : n < 4) (hz : M 35 n = z) (d : decode cc pc = .ok (.iaload, 1)) (kk : WW w k (pc + 1) lv (.int (iZ z) :: rest) M) : WW w k pc lv (.int (iZ i) :: .ref (wa w 35) :: rest) M := ww_iald C 35 (by decide) (N := 4) n rfl (by decide) hi hn hz d kk
theorem as_35 {own : String} (C : Cx w k cc own rm) {i : Int} (n : Nat) {z : Int} (hi : i = (n : Int)) (hn : n < 4) (d : decode cc pc = .ok (.iastore, 1)) (kk : WW w k (pc + 1) lv rest (ups M 35 (up1 (M 35) n z))) : WW w k pc lv (.int (iZ z) :: .int (iZ i) :: .ref (wa w 35) :: rest) M := ww_iast C 35 (by decide) (N := 4) n (fun _ => rfl) (by decide) hi hn d kk
theorem al_36 {own : String} (C : Cx w k cc own rm) {i : Int} (n : Nat) {z : Int} (hi : i = (n : Int)) (hn : n < 2048) (hz : M 36 n = z) (d : decode cc pc = .ok (.iaload, 1)) (kk : WW w k (pc + 1) lv (.int (iZ z) :: rest) M) : WW w k pc lv (.int (iZ i) :: .ref (wa w 36) :: rest) M := ww_iald C 36 (by decide) (N := 2048) n rfl (by decide) hi hn hz d kk
theorem as_36 {own : String} (C : Cx w k cc own rm) {i : Int} (n : Nat) {z : Int} (hi : i = (n : Int)) (hn : n < 2048) (d : decode cc pc = .ok (.iastore, 1)) (kk : WW w k (pc + 1) lv rest (ups M 36 (up1 (M 36) n z))) : WW w k pc lv (.int (iZ z) :: .int (iZ i) :: .ref (wa w 36) :: rest) M := ww_iast C 36 (by decide) (N := 2048) n (fun _ => rfl) (by decide) hi hn d kk
theorem al_37 {own : String} (C : Cx w k cc own rm) {i : Int} (n : Nat) {z : Int} (hi : i = (n : Int)) (hn : n < 9) (hz : M 37 n = z) (d : decode cc pc = .ok (.iaload, 1)) (kk : WW w k (pc + 1) lv (.int (iZ z) :: rest) M) : WW w k pc lv (.int (iZ i) :: .ref (wa w 37) :: rest) M := ww_iald C 37 (by decide) (N := 9) n rfl (by decide) hi hn hz d kk
theorem as_37 {own : String} (C : Cx w k cc own rm) {i : Int} (n : Nat) {z : Int} (hi : i = (n : Int)) (hn : n < 9) (d : decode cc pc = .ok (.iastore, 1)) (kk : WW w k (pc + 1) lv rest (ups M 37 (up1 (M 37) n z))) : WW w k pc lv (.int (iZ z) :: .int (iZ i) :: .ref (wa w 37) :: rest) M := ww_iast C 37 (by decide) (N := 9) n (fun _ => rfl) (by decide) hi hn d kk
theorem al_38 {own : String} (C : Cx w k cc own rm) {i : Int} (n : Nat) {z : Int} (hi : i = (n : Int)) (hn : n < 2048) (hz : M 38 n = z) (d : decode cc pc = .ok (.iaload, 1)) (kk : WW w k (pc + 1) lv (.int (iZ z) :: rest) M) : WW w k pc lv (.int (iZ i) :: .ref (wa w 38) :: rest) M := ww_iald C 38 (by decide) (N := 2048) n rfl (by decide) hi hn hz d kk
theorem as_38 {own : String} (C : Cx w k cc own rm) {i : Int} (n : Nat) {z : Int} (hi : i = (n : Int)) (hn : n < 2048) (d : decode cc pc = .ok (.iastore, 1)) (kk : WW w k (pc + 1) lv rest (ups M 38 (up1 (M 38) n z))) : WW w k pc lv (.int (iZ z) :: .int (iZ i) :: .ref (wa w 38) :: rest) M := ww_iast C 38 (by decide) (N := 2048) n (fun _ => rfl) (by decide) hi hn d kk
theorem al_39 {own : String} (C : Cx w k cc own rm) {i : Int} (n : Nat) {z : Int} (hi : i = (n : Int)) (hn : n < 2048) (hz : M 39 n = z) (d : decode cc pc = .ok (.iaload, 1)) (kk : WW w k (pc + 1) lv (.int (iZ z) :: rest) M) : WW w k pc lv (.int (iZ i) :: .ref (wa w 39) :: rest) M := ww_iald C 39 (by decide) (N := 2048) n rfl (by decide) hi hn hz d kk
theorem as_39 {own : String} (C : Cx w k cc own rm) {i : Int} (n : Nat) {z : Int} (hi : i = (n : Int)) (hn : n < 2048) (d : decode cc pc = .ok (.iastore, 1)) (kk : WW w k (pc + 1) lv rest (ups M 39 (up1 (M 39) n z))) : WW w k pc lv (.int (iZ z) :: .int (iZ i) :: .ref (wa w 39) :: rest) M := ww_iast C 39 (by decide) (N := 2048) n (fun _ => rfl) (by decide) hi hn d kk
theorem al_40 {own : String} (C : Cx w k cc own rm) {i : Int} (n : Nat) {z : Int} (hi : i = (n : Int)) (hn : n < 4096) (hz : M 40 n = z) (d : decode cc pc = .ok (.baload, 1)) (kk : WW w k (pc + 1) lv (.int (iZ z) :: rest) M) : WW w k pc lv (.int (iZ i) :: .ref (wa w 40) :: rest) M := ww_zald C 40 (by decide) (N := 4096) n rfl (by decide) hi hn hz d kk
theorem as_40 {own : String} (C : Cx w k cc own rm) {i : Int} (n : Nat) {z : Int} (hi : i = (n : Int)) (hn : n < 4096) (hz : z = 0 ∨ z = 1) (d : decode cc pc = .ok (.bastore, 1)) (kk : WW w k (pc + 1) lv rest (ups M 40 (up1 (M 40) n z))) : WW w k pc lv (.int (iZ z) :: .int (iZ i) :: .ref (wa w 40) :: rest) M := ww_zast C 40 (by decide) (N := 4096) n (fun _ => rfl) (by decide) hi hn hz d kk
theorem al_41 {own : String} (C : Cx w k cc own rm) {i : Int} (n : Nat) {z : Int} (hi : i = (n : Int)) (hn : n < 1024) (hz : M 41 n = z) (d : decode cc pc = .ok (.baload, 1)) (kk : WW w k (pc + 1) lv (.int (iZ z) :: rest) M) : WW w k pc lv (.int (iZ i) :: .ref (wa w 41) :: rest) M := ww_zald C 41 (by decide) (N := 1024) n rfl (by decide) hi hn hz d kk
theorem as_41 {own : String} (C : Cx w k cc own rm) {i : Int} (n : Nat) {z : Int} (hi : i = (n : Int)) (hn : n < 1024) (hz : z = 0 ∨ z = 1) (d : decode cc pc = .ok (.bastore, 1)) (kk : WW w k (pc + 1) lv rest (ups M 41 (up1 (M 41) n z))) : WW w k pc lv (.int (iZ z) :: .int (iZ i) :: .ref (wa w 41) :: rest) M := ww_zast C 41 (by decide) (N := 1024) n (fun _ => rfl) (by decide) hi hn hz d kk
theorem al_42 {own : String} (C : Cx w k cc own rm) {i : Int} (n : Nat) {z : Int} (hi : i = (n : Int)) (hn : n < 9) (hz : M 42 n = z) (d : decode cc pc = .ok (.iaload, 1)) (kk : WW w k (pc + 1) lv (.int (iZ z) :: rest) M) : WW w k pc lv (.int (iZ i) :: .ref (wa w 42) :: rest) M := ww_iald C 42 (by decide) (N := 9) n rfl (by decide) hi hn hz d kk
theorem as_42 {own : String} (C : Cx w k cc own rm) {i : Int} (n : Nat) {z : Int} (hi : i = (n : Int)) (hn : n < 9) (d : decode cc pc = .ok (.iastore, 1)) (kk : WW w k (pc + 1) lv rest (ups M 42 (up1 (M 42) n z))) : WW w k pc lv (.int (iZ z) :: .int (iZ i) :: .ref (wa w 42) :: rest) M := ww_iast C 42 (by decide) (N := 9) n (fun _ => rfl) (by decide) hi hn d kk
theorem al_43 {own : String} (C : Cx w k cc own rm) {i : Int} (n : Nat) {z : Int} (hi : i = (n : Int)) (hn : n < 9) (hz : M 43 n = z) (d : decode cc pc = .ok (.iaload, 1)) (kk : WW w k (pc + 1) lv (.int (iZ z) :: rest) M) : WW w k pc lv (.int (iZ i) :: .ref (wa w 43) :: rest) M := ww_iald C 43 (by decide) (N := 9) n rfl (by decide) hi hn hz d kk
theorem as_43 {own : String} (C : Cx w k cc own rm) {i : Int} (n : Nat) {z : Int} (hi : i = (n : Int)) (hn : n < 9) (d : decode cc pc = .ok (.iastore, 1)) (kk : WW w k (pc + 1) lv rest (ups M 43 (up1 (M 43) n z))) : WW w k pc lv (.int (iZ z) :: .int (iZ i) :: .ref (wa w 43) :: rest) M := ww_iast C 43 (by decide) (N := 9) n (fun _ => rfl) (by decide) hi hn d kk
theorem al_pl {own : String} (C : Cx w k cc own rm) {h : Nat} (p : pl h) {i : Int} (n : Nat) {z : Int} (hi : i = (n : Int)) (hn : n < 9) (hz : M (h + 1) n = z) (d : decode cc pc = .ok (.iaload, 1)) (kk : WW w k (pc + 1) lv (.int (iZ z) :: rest) M) : WW w k pc lv (.int (iZ i) :: .ref (wa w (h + 1)) :: rest) M := ww_iald C (h + 1) (by have := pl_lt p; unfold pl at p; omega) (N := 9) n (pl_row p _) (by decide) hi hn hz d kk
theorem as_pl {own : String} (C : Cx w k cc own rm) {h : Nat} (p : pl h) {i : Int} (n : Nat) {z : Int} (hi : i = (n : Int)) (hn : n < 9) (d : decode cc pc = .ok (.iastore, 1)) (kk : WW w k (pc + 1) lv rest (ups M (h + 1) (up1 (M (h + 1)) n z))) : WW w k pc lv (.int (iZ z) :: .int (iZ i) :: .ref (wa w (h + 1)) :: rest) M := ww_iast C (h + 1) (by have := pl_lt p; unfold pl at p; omega) (N := 9) n (pl_row p) (by decide) hi hn d kk
theorem al_vr {own : String} (C : Cx w k cc own rm) {h : Nat} (p : vr h) {i : Int} (n : Nat) {z : Int} (hi : i = (n : Int)) (hn : n < 2048) (hz : M h n = z) (d : decode cc pc = .ok (.iaload, 1)) (kk : WW w k (pc + 1) lv (.int (iZ z) :: rest) M) : WW w k pc lv (.int (iZ i) :: .ref (wa w h) :: rest) M := ww_iald C h (vr_lt p) (N := 2048) n (vr_row p _) (by decide) hi hn hz d kk
theorem as_vr {own : String} (C : Cx w k cc own rm) {h : Nat} (p : vr h) {i : Int} (n : Nat) {z : Int} (hi : i = (n : Int)) (hn : n < 2048) (d : decode cc pc = .ok (.iastore, 1)) (kk : WW w k (pc + 1) lv rest (ups M h (up1 (M h) n z))) : WW w k pc lv (.int (iZ z) :: .int (iZ i) :: .ref (wa w h) :: rest) M := ww_iast C h (vr_lt p) (N := 2048) n (vr_row p) (by decide) hi hn d kk
end WWF
theorem mf_X5_sizes : MFv yX5_sizes RX5 cX5_sizes 4 (some .boolean) 3 := ⟨im_yX5_sizes, se_RX5_yX5_sizes, it_RX5, co_yX5_sizes, by decide +kernel⟩
theorem mf_X5_isSize : MFs yX5_isSize cX5_isSize 1 (some .boolean) 1 := ⟨st_yX5_isSize, it_RX5, co_yX5_isSize, by decide +kernel⟩
theorem mf_X4_resize : MFv yX4_resize RX4 cX4_resize 5 none 3 := ⟨im_yX4_resize, se_RX4_yX4_resize, it_RX4, co_yX4_resize, by decide +kernel⟩
theorem mf_X4_codeOf : MFv yX4_codeOf RX4 cX4_codeOf 4 (some .int) 3 := ⟨im_yX4_codeOf, se_RX4_yX4_codeOf, it_RX4, co_yX4_codeOf, by decide +kernel⟩
theorem mf_J7_fill_53178 : MFs yJ7_fill_53178 cJ7_fill_53178 4 none 2 := ⟨st_yJ7_fill_53178, it_RJ7, co_yJ7_fill_53178, by decide +kernel⟩
theorem mf_X5_forgetPlaces : MFv yX5_forgetPlaces RX5 cX5_forgetPlaces 1 none 0 := ⟨im_yX5_forgetPlaces, se_RX5_yX5_forgetPlaces, it_RX5, co_yX5_forgetPlaces, by decide +kernel⟩
theorem mf_X6_sizes : MFv yX6_sizes RX6 cX6_sizes 4 (some .boolean) 3 := ⟨im_yX6_sizes, se_RX6_yX6_sizes, it_RX6, co_yX6_sizes, by decide +kernel⟩
theorem mf_X6_in : MFs yX6_in cX6_in 3 (some .boolean) 3 := ⟨st_yX6_in, it_RX6, co_yX6_in, by decide +kernel⟩
theorem mf_X6_noEdges : MFv yX6_noEdges RX6 cX6_noEdges 2 none 0 := ⟨im_yX6_noEdges, se_RX6_yX6_noEdges, it_RX6, co_yX6_noEdges, by decide +kernel⟩
theorem mf_X5_variable : MFv yX5_variable RX5 cX5_variable 4 (some .int) 3 := ⟨im_yX5_variable, se_RX5_yX5_variable, it_RX5, co_yX5_variable, by decide +kernel⟩
theorem mf_X5_isStep : MFs yX5_isStep cX5_isStep 3 (some .boolean) 3 := ⟨st_yX5_isStep, it_RX5, co_yX5_isStep, by decide +kernel⟩
theorem mf_X5_within : MFs yX5_within cX5_within 4 (some .boolean) 4 := ⟨st_yX5_within, it_RX5, co_yX5_within, by decide +kernel⟩
theorem mf_X5_leadsUp : MFs yX5_leadsUp cX5_leadsUp 3 (some .boolean) 3 := ⟨st_yX5_leadsUp, it_RX5, co_yX5_leadsUp, by decide +kernel⟩
theorem mf_X4_addVariable : MFv yX4_addVariable RX4 cX4_addVariable 5 (some .int) 3 := ⟨im_yX4_addVariable, se_RX4_yX4_addVariable, it_RX4, co_yX4_addVariable, by decide +kernel⟩
theorem mf_X4_setAct : MFv yX4_setAct RX4 cX4_setAct 5 none 4 := ⟨im_yX4_setAct, se_RX4_yX4_setAct, it_RX4, co_yX4_setAct, by decide +kernel⟩
theorem mf_X6_variable : MFv yX6_variable RX6 cX6_variable 6 (some .int) 3 := ⟨im_yX6_variable, se_RX6_yX6_variable, it_RX6, co_yX6_variable, by decide +kernel⟩
theorem mf_X5_act : MFv yX5_act RX5 cX5_act 5 (some .boolean) 4 := ⟨im_yX5_act, se_RX5_yX5_act, it_RX5, co_yX5_act, by decide +kernel⟩
theorem mf_X4_has : MFv yX4_has RX4 cX4_has 2 (some .boolean) 1 := ⟨im_yX4_has, se_RX4_yX4_has, it_RX4, co_yX4_has, by decide +kernel⟩
theorem mf_X6_act : MFv yX6_act RX6 cX6_act 5 (some .boolean) 4 := ⟨im_yX6_act, se_RX6_yX6_act, it_RX6, co_yX6_act, by decide +kernel⟩
theorem mf_X6_isVariable : MFv yX6_isVariable RX6 cX6_isVariable 2 (some .boolean) 1 := ⟨im_yX6_isVariable, se_RX6_yX6_isVariable, it_RX6, co_yX6_isVariable, by decide +kernel⟩
theorem mf_X5_edge : MFv yX5_edge RX5 cX5_edge 7 (some .boolean) 5 := ⟨im_yX5_edge, se_RX5_yX5_edge, it_RX5, co_yX5_edge, by decide +kernel⟩
theorem mf_X4_setEdge : MFv yX4_setEdge RX4 cX4_setEdge 4 none 3 := ⟨im_yX4_setEdge, se_RX4_yX4_setEdge, it_RX4, co_yX4_setEdge, by decide +kernel⟩
theorem mf_X6_edge : MFv yX6_edge RX6 cX6_edge 6 (some .boolean) 5 := ⟨im_yX6_edge, se_RX6_yX6_edge, it_RX6, co_yX6_edge, by decide +kernel⟩
theorem mf_X6_isPoint : MFv yX6_isPoint RX6 cX6_isPoint 4 (some .boolean) 3 := ⟨im_yX6_isPoint, se_RX6_yX6_isPoint, it_RX6, co_yX6_isPoint, by decide +kernel⟩
theorem mf_X5_clear : MFv yX5_clear RX5 cX5_clear 1 none 0 := ⟨im_yX5_clear, se_RX5_yX5_clear, it_RX5, co_yX5_clear, by decide +kernel⟩
theorem mf_X4_dropVariables : MFv yX4_dropVariables RX4 cX4_dropVariables 1 none 0 := ⟨im_yX4_dropVariables, se_RX4_yX4_dropVariables, it_RX4, co_yX4_dropVariables, by decide +kernel⟩
theorem mf_X6_clear : MFv yX6_clear RX6 cX6_clear 1 none 0 := ⟨im_yX6_clear, se_RX6_yX6_clear, it_RX6, co_yX6_clear, by decide +kernel⟩
theorem mf_X5_lay : MFv yX5_lay RX5 cX5_lay 5 (some .boolean) 4 := ⟨im_yX5_lay, se_RX5_yX5_lay, it_RX5, co_yX5_lay, by decide +kernel⟩
theorem mf_X5_isIndex : MFs yX5_isIndex cX5_isIndex 1 (some .boolean) 1 := ⟨st_yX5_isIndex, it_RX5, co_yX5_isIndex, by decide +kernel⟩
theorem mf_X5_areZeros : MFs yX5_areZeros cX5_areZeros 3 (some .boolean) 3 := ⟨st_yX5_areZeros, it_RX5, co_yX5_areZeros, by decide +kernel⟩
theorem mf_X1_put : MFv yX1_put RX1 cX1_put 5 none 4 := ⟨im_yX1_put, se_RX1_yX1_put, it_RX1, co_yX1_put, by decide +kernel⟩
theorem mf_X6_lay : MFv yX6_lay RX6 cX6_lay 6 (some .boolean) 4 := ⟨im_yX6_lay, se_RX6_yX6_lay, it_RX6, co_yX6_lay, by decide +kernel⟩
theorem mf_X5_fold : MFv yX5_fold RX5 cX5_fold 2 (some .boolean) 1 := ⟨im_yX5_fold, se_RX5_yX5_fold, it_RX5, co_yX5_fold, by decide +kernel⟩
theorem mf_X6_fold : MFv yX6_fold RX6 cX6_fold 2 (some .boolean) 1 := ⟨im_yX6_fold, se_RX6_yX6_fold, it_RX6, co_yX6_fold, by decide +kernel⟩
theorem mf_X5_why : MFv yX5_why RX5 cX5_why 3 (some .int) 1 := ⟨im_yX5_why, se_RX5_yX5_why, it_RX5, co_yX5_why, by decide +kernel⟩
theorem mf_X5_reason : MFv yX5_reason RX5 cX5_reason 1 (some .int) 0 := ⟨im_yX5_reason, se_RX5_yX5_reason, it_RX5, co_yX5_reason, by decide +kernel⟩
theorem mf_X1_tooEarly : MFv yX1_tooEarly RX1 cX1_tooEarly 3 (some .int) 1 := ⟨im_yX1_tooEarly, se_RX1_yX1_tooEarly, it_RX1, co_yX1_tooEarly, by decide +kernel⟩
theorem mf_X4_isNeeded : MFv yX4_isNeeded RX4 cX4_isNeeded 3 (some .boolean) 1 := ⟨im_yX4_isNeeded, se_RX4_yX4_isNeeded, it_RX4, co_yX4_isNeeded, by decide +kernel⟩
theorem mf_X1_delay : MFv yX1_delay RX1 cX1_delay 3 (some .int) 2 := ⟨im_yX1_delay, se_RX1_yX1_delay, it_RX1, co_yX1_delay, by decide +kernel⟩
theorem mf_X1_timesStep : MFv yX1_timesStep RX1 cX1_timesStep 6 (some .int) 3 := ⟨im_yX1_timesStep, se_RX1_yX1_timesStep, it_RX1, co_yX1_timesStep, by decide +kernel⟩
theorem mf_X1_tooFar : MFv yX1_tooFar RX1 cX1_tooFar 3 (some .int) 1 := ⟨im_yX1_tooFar, se_RX1_yX1_tooFar, it_RX1, co_yX1_tooFar, by decide +kernel⟩
theorem mf_X1_way : MFv yX1_way RX1 cX1_way 3 (some .int) 2 := ⟨im_yX1_way, se_RX1_yX1_way, it_RX1, co_yX1_way, by decide +kernel⟩
theorem mf_X5_settle : MFv yX5_settle RX5 cX5_settle 1 none 0 := ⟨im_yX5_settle, se_RX5_yX5_settle, it_RX5, co_yX5_settle, by decide +kernel⟩
theorem mf_X0_place : MFv yX0_place RX0 cX0_place 5 none 2 := ⟨im_yX0_place, se_RX0_yX0_place, it_RX0, co_yX0_place, by decide +kernel⟩
theorem mf_X0_layPoints : MFv yX0_layPoints RX0 cX0_layPoints 10 none 2 := ⟨im_yX0_layPoints, se_RX0_yX0_layPoints, it_RX0, co_yX0_layPoints, by decide +kernel⟩
theorem mf_X1_least : MFv yX1_least RX1 cX1_least 5 (some .int) 2 := ⟨im_yX1_least, se_RX1_yX1_least, it_RX1, co_yX1_least, by decide +kernel⟩
theorem mf_X1_timesCode : MFv yX1_timesCode RX1 cX1_timesCode 3 (some .int) 2 := ⟨im_yX1_timesCode, se_RX1_yX1_timesCode, it_RX1, co_yX1_timesCode, by decide +kernel⟩
theorem mf_X1_times : MFv yX1_times RX1 cX1_times 6 (some .int) 4 := ⟨im_yX1_times, se_RX1_yX1_times, it_RX1, co_yX1_times, by decide +kernel⟩
theorem mf_X0_link : MFv yX0_link RX0 cX0_link 3 none 1 := ⟨im_yX0_link, se_RX0_yX0_link, it_RX0, co_yX0_link, by decide +kernel⟩
theorem mf_X0_cellKey : MFv yX0_cellKey RX0 cX0_cellKey 2 (some .int) 1 := ⟨im_yX0_cellKey, se_RX0_yX0_cellKey, it_RX0, co_yX0_cellKey, by decide +kernel⟩
theorem mf_X0_metBy : MFv yX0_metBy RX0 cX0_metBy 4 (some .int) 1 := ⟨im_yX0_metBy, se_RX0_yX0_metBy, it_RX0, co_yX0_metBy, by decide +kernel⟩
theorem mf_X5_culprit : MFv yX5_culprit RX5 cX5_culprit 2 (some .int) 1 := ⟨im_yX5_culprit, se_RX5_yX5_culprit, it_RX5, co_yX5_culprit, by decide +kernel⟩
theorem mf_X6_why : MFv yX6_why RX6 cX6_why 5 (some .int) 1 := ⟨im_yX6_why, se_RX6_yX6_why, it_RX6, co_yX6_why, by decide +kernel⟩
theorem mf_X6_wrongDelay : MFv yX6_wrongDelay RX6 cX6_wrongDelay 3 (some .int) 0 := ⟨im_yX6_wrongDelay, se_RX6_yX6_wrongDelay, it_RX6, co_yX6_wrongDelay, by decide +kernel⟩
theorem mf_X6_isNeeded : MFv yX6_isNeeded RX6 cX6_isNeeded 2 (some .boolean) 1 := ⟨im_yX6_isNeeded, se_RX6_yX6_isNeeded, it_RX6, co_yX6_isNeeded, by decide +kernel⟩
theorem mf_X6_absolute : MFs yX6_absolute cX6_absolute 1 (some .int) 1 := ⟨st_yX6_absolute, it_RX6, co_yX6_absolute, by decide +kernel⟩
theorem mf_X6_delayOf : MFv yX6_delayOf RX6 cX6_delayOf 2 (some .int) 1 := ⟨im_yX6_delayOf, se_RX6_yX6_delayOf, it_RX6, co_yX6_delayOf, by decide +kernel⟩
theorem mf_X6_stepBy : MFv yX6_stepBy RX6 cX6_stepBy 3 (some .int) 2 := ⟨im_yX6_stepBy, se_RX6_yX6_stepBy, it_RX6, co_yX6_stepBy, by decide +kernel⟩
theorem mf_X6_wrongWay : MFv yX6_wrongWay RX6 cX6_wrongWay 3 (some .int) 0 := ⟨im_yX6_wrongWay, se_RX6_yX6_wrongWay, it_RX6, co_yX6_wrongWay, by decide +kernel⟩
theorem mf_X6_wayOf : MFv yX6_wayOf RX6 cX6_wayOf 2 (some .int) 1 := ⟨im_yX6_wayOf, se_RX6_yX6_wayOf, it_RX6, co_yX6_wayOf, by decide +kernel⟩
theorem mf_X6_meets : MFv yX6_meets RX6 cX6_meets 6 (some .boolean) 0 := ⟨im_yX6_meets, se_RX6_yX6_meets, it_RX6, co_yX6_meets, by decide +kernel⟩
theorem mf_X6_isPointNumber : MFv yX6_isPointNumber RX6 cX6_isPointNumber 2 (some .boolean) 1 := ⟨im_yX6_isPointNumber, se_RX6_yX6_isPointNumber, it_RX6, co_yX6_isPointNumber, by decide +kernel⟩
theorem mf_X6_sameAs : MFv yX6_sameAs RX6 cX6_sameAs 3 (some .int) 1 := ⟨im_yX6_sameAs, se_RX6_yX6_sameAs, it_RX6, co_yX6_sameAs, by decide +kernel⟩
theorem mf_X6_at : MFv yX6_at RX6 cX6_at 6 (some .int) 2 := ⟨im_yX6_at, se_RX6_yX6_at, it_RX6, co_yX6_at, by decide +kernel⟩
theorem mf_X5_laid : MFv yX5_laid RX5 cX5_laid 2 (some .int) 1 := ⟨im_yX5_laid, se_RX5_yX5_laid, it_RX5, co_yX5_laid, by decide +kernel⟩
theorem mf_X0_use : MFv yX0_use RX0 cX0_use 3 (some .int) 1 := ⟨im_yX0_use, se_RX0_yX0_use, it_RX0, co_yX0_use, by decide +kernel⟩
theorem mf_X0_apart : MFv yX0_apart RX0 cX0_apart 3 (some .int) 1 := ⟨im_yX0_apart, se_RX0_yX0_apart, it_RX0, co_yX0_apart, by decide +kernel⟩
theorem mf_X0_markBetween : MFv yX0_markBetween RX0 cX0_markBetween 4 none 1 := ⟨im_yX0_markBetween, se_RX0_yX0_markBetween, it_RX0, co_yX0_markBetween, by decide +kernel⟩
theorem mf_X0_isFree : MFv yX0_isFree RX0 cX0_isFree 3 (some .boolean) 1 := ⟨im_yX0_isFree, se_RX0_yX0_isFree, it_RX0, co_yX0_isFree, by decide +kernel⟩
theorem mf_X6_laid : MFv yX6_laid RX6 cX6_laid 2 (some .int) 1 := ⟨im_yX6_laid, se_RX6_yX6_laid, it_RX6, co_yX6_laid, by decide +kernel⟩
theorem mf_X6_beats : MFv yX6_beats RX6 cX6_beats 4 (some .int) 0 := ⟨im_yX6_beats, se_RX6_yX6_beats, it_RX6, co_yX6_beats, by decide +kernel⟩
theorem mf_X6_beatOf : MFv yX6_beatOf RX6 cX6_beatOf 2 (some .int) 1 := ⟨im_yX6_beatOf, se_RX6_yX6_beatOf, it_RX6, co_yX6_beatOf, by decide +kernel⟩
theorem mf_X6_cells : MFv yX6_cells RX6 cX6_cells 4 (some .int) 0 := ⟨im_yX6_cells, se_RX6_yX6_cells, it_RX6, co_yX6_cells, by decide +kernel⟩
theorem mf_X6_cellOf : MFv yX6_cellOf RX6 cX6_cellOf 2 (some .int) 1 := ⟨im_yX6_cellOf, se_RX6_yX6_cellOf, it_RX6, co_yX6_cellOf, by decide +kernel⟩
theorem mf_X6_points : MFv yX6_points RX6 cX6_points 1 (some .int) 0 := ⟨im_yX6_points, se_RX6_yX6_points, it_RX6, co_yX6_points, by decide +kernel⟩
theorem mf_X6_apart : MFv yX6_apart RX6 cX6_apart 3 (some .int) 0 := ⟨im_yX6_apart, se_RX6_yX6_apart, it_RX6, co_yX6_apart, by decide +kernel⟩
theorem mf_X6_divides : MFv yX6_divides RX6 cX6_divides 4 (some .boolean) 1 := ⟨im_yX6_divides, se_RX6_yX6_divides, it_RX6, co_yX6_divides, by decide +kernel⟩
theorem mf_X5_where : MFv yX5_where RX5 cX5_where 6 (some .int) 4 := ⟨im_yX5_where, se_RX5_yX5_where, it_RX5, co_yX5_where, by decide +kernel⟩
theorem mf_X6_where : MFv yX6_where RX6 cX6_where 6 (some .int) 4 := ⟨im_yX6_where, se_RX6_yX6_where, it_RX6, co_yX6_where, by decide +kernel⟩
theorem mf_X5_needs : MFv yX5_needs RX5 cX5_needs 3 (some .int) 2 := ⟨im_yX5_needs, se_RX5_yX5_needs, it_RX5, co_yX5_needs, by decide +kernel⟩
theorem mf_X6_needs : MFv yX6_needs RX6 cX6_needs 3 (some .int) 2 := ⟨im_yX6_needs, se_RX6_yX6_needs, it_RX6, co_yX6_needs, by decide +kernel⟩
theorem mf_X5_best : MFv yX5_best RX5 cX5_best 5 (some .int) 2 := ⟨im_yX5_best, se_RX5_yX5_best, it_RX5, co_yX5_best, by decide +kernel⟩
theorem mf_X3_find : MFv yX3_find RX3 cX3_find 8 (some .boolean) 3 := ⟨im_yX3_find, se_RX3_yX3_find, it_RX3, co_yX3_find, by decide +kernel⟩
theorem mf_X3_spell : MFv yX3_spell RX3 cX3_spell 5 none 3 := ⟨im_yX3_spell, se_RX3_yX3_spell, it_RX3, co_yX3_spell, by decide +kernel⟩
theorem mf_X1_beatsUnfolded : MFv yX1_beatsUnfolded RX1 cX1_beatsUnfolded 4 (some .int) 1 := ⟨im_yX1_beatsUnfolded, se_RX1_yX1_beatsUnfolded, it_RX1, co_yX1_beatsUnfolded, by decide +kernel⟩
theorem mf_X3_tryLines : MFv yX3_tryLines RX3 cX3_tryLines 11 none 4 := ⟨im_yX3_tryLines, se_RX3_yX3_tryLines, it_RX3, co_yX3_tryLines, by decide +kernel⟩
theorem mf_X3_consider : MFv yX3_consider RX3 cX3_consider 5 none 2 := ⟨im_yX3_consider, se_RX3_yX3_consider, it_RX3, co_yX3_consider, by decide +kernel⟩
theorem mf_X3_countCells : MFv yX3_countCells RX3 cX3_countCells 2 (some .int) 1 := ⟨im_yX3_countCells, se_RX3_yX3_countCells, it_RX3, co_yX3_countCells, by decide +kernel⟩
theorem mf_X3_findAcross : MFv yX3_findAcross RX3 cX3_findAcross 10 (some .boolean) 2 := ⟨im_yX3_findAcross, se_RX3_yX3_findAcross, it_RX3, co_yX3_findAcross, by decide +kernel⟩
theorem mf_X3_commonDivisor : MFs yX3_commonDivisor cX3_commonDivisor 6 (some .int) 2 := ⟨st_yX3_commonDivisor, it_RX3, co_yX3_commonDivisor, by decide +kernel⟩
theorem mf_X3_countBehind : MFv yX3_countBehind RX3 cX3_countBehind 4 (some .int) 1 := ⟨im_yX3_countBehind, se_RX3_yX3_countBehind, it_RX3, co_yX3_countBehind, by decide +kernel⟩
theorem mf_X3_countLine : MFv yX3_countLine RX3 cX3_countLine 7 (some .int) 1 := ⟨im_yX3_countLine, se_RX3_yX3_countLine, it_RX3, co_yX3_countLine, by decide +kernel⟩
theorem mf_J13_bitCount_95d88 : MFs yJ13_bitCount_95d88 cJ13_bitCount_95d88 2 (some .int) 1 := ⟨st_yJ13_bitCount_95d88, it_RJ13, co_yJ13_bitCount_95d88, by decide +kernel⟩
theorem mf_X3_partsAll : MFv yX3_partsAll RX3 cX3_partsAll 3 (some .boolean) 2 := ⟨im_yX3_partsAll, se_RX3_yX3_partsAll, it_RX3, co_yX3_partsAll, by decide +kernel⟩
theorem mf_X1_takeNumbers : MFv yX1_takeNumbers RX1 cX1_takeNumbers 2 none 1 := ⟨im_yX1_takeNumbers, se_RX1_yX1_takeNumbers, it_RX1, co_yX1_takeNumbers, by decide +kernel⟩
theorem mf_X6_best : MFv yX6_best RX6 cX6_best 14 (some .int) 2 := ⟨im_yX6_best, se_RX6_yX6_best, it_RX6, co_yX6_best, by decide +kernel⟩
theorem mf_X6_numbers : MFv yX6_numbers RX6 cX6_numbers 5 none 3 := ⟨im_yX6_numbers, se_RX6_yX6_numbers, it_RX6, co_yX6_numbers, by decide +kernel⟩
theorem mf_X6_isRight : MFv yX6_isRight RX6 cX6_isRight 1 (some .boolean) 0 := ⟨im_yX6_isRight, se_RX6_yX6_isRight, it_RX6, co_yX6_isRight, by decide +kernel⟩
theorem mf_X5_laying : MFv yX5_laying RX5 cX5_laying 3 (some .int) 2 := ⟨im_yX5_laying, se_RX5_yX5_laying, it_RX5, co_yX5_laying, by decide +kernel⟩
theorem mf_X6_laying : MFv yX6_laying RX6 cX6_laying 3 (some .int) 2 := ⟨im_yX6_laying, se_RX6_yX6_laying, it_RX6, co_yX6_laying, by decide +kernel⟩
theorem mf_X5_run : MFv yX5_run RX5 cX5_run 1 (some .int) 0 := ⟨im_yX5_run, se_RX5_yX5_run, it_RX5, co_yX5_run, by decide +kernel⟩
theorem mf_X2_work : MFv yX2_work RX2 cX2_work 6 (some .int) 2 := ⟨im_yX2_work, se_RX2_yX2_work, it_RX2, co_yX2_work, by decide +kernel⟩
theorem mf_X2_sortByBeat : MFv yX2_sortByBeat RX2 cX2_sortByBeat 6 none 2 := ⟨im_yX2_sortByBeat, se_RX2_yX2_sortByBeat, it_RX2, co_yX2_sortByBeat, by decide +kernel⟩
theorem mf_X4_workPoint : MFv yX4_workPoint RX4 cX4_workPoint 7 none 2 := ⟨im_yX4_workPoint, se_RX4_yX4_workPoint, it_RX4, co_yX4_workPoint, by decide +kernel⟩
theorem mf_X4_comes : MFv yX4_comes RX4 cX4_comes 5 (some .int) 3 := ⟨im_yX4_comes, se_RX4_yX4_comes, it_RX4, co_yX4_comes, by decide +kernel⟩
theorem mf_X4_stepped : MFv yX4_stepped RX4 cX4_stepped 7 (some .int) 3 := ⟨im_yX4_stepped, se_RX4_yX4_stepped, it_RX4, co_yX4_stepped, by decide +kernel⟩
theorem mf_X4_made : MFs yX4_made cX4_made 4 (some .int) 4 := ⟨st_yX4_made, it_RX4, co_yX4_made, by decide +kernel⟩
theorem mf_X2_countHeld : MFv yX2_countHeld RX2 cX2_countHeld 6 none 2 := ⟨im_yX2_countHeld, se_RX2_yX2_countHeld, it_RX2, co_yX2_countHeld, by decide +kernel⟩
theorem mf_X6_run : MFv yX6_run RX6 cX6_run 4 (some .int) 0 := ⟨im_yX6_run, se_RX6_yX6_run, it_RX6, co_yX6_run, by decide +kernel⟩
theorem mf_X6_work : MFv yX6_work RX6 cX6_work 7 none 2 := ⟨im_yX6_work, se_RX6_yX6_work, it_RX6, co_yX6_work, by decide +kernel⟩
theorem mf_X6_comes : MFv yX6_comes RX6 cX6_comes 5 (some .int) 3 := ⟨im_yX6_comes, se_RX6_yX6_comes, it_RX6, co_yX6_comes, by decide +kernel⟩
theorem mf_X6_ahead : MFv yX6_ahead RX6 cX6_ahead 6 (some .int) 2 := ⟨im_yX6_ahead, se_RX6_yX6_ahead, it_RX6, co_yX6_ahead, by decide +kernel⟩
theorem mf_X6_made : MFs yX6_made cX6_made 4 (some .int) 4 := ⟨st_yX6_made, it_RX6, co_yX6_made, by decide +kernel⟩
theorem mf_X5_worked : MFv yX5_worked RX5 cX5_worked 4 (some .int) 3 := ⟨im_yX5_worked, se_RX5_yX5_worked, it_RX5, co_yX5_worked, by decide +kernel⟩
theorem mf_X2_hasBeat : MFv yX2_hasBeat RX2 cX2_hasBeat 2 (some .boolean) 1 := ⟨im_yX2_hasBeat, se_RX2_yX2_hasBeat, it_RX2, co_yX2_hasBeat, by decide +kernel⟩
theorem mf_X2_pointAt : MFv yX2_pointAt RX2 cX2_pointAt 7 (some .int) 4 := ⟨im_yX2_pointAt, se_RX2_yX2_pointAt, it_RX2, co_yX2_pointAt, by decide +kernel⟩
theorem mf_X6_worked : MFv yX6_worked RX6 cX6_worked 5 (some .int) 3 := ⟨im_yX6_worked, se_RX6_yX6_worked, it_RX6, co_yX6_worked, by decide +kernel⟩
theorem mf_X5_held : MFv yX5_held RX5 cX5_held 2 (some .int) 1 := ⟨im_yX5_held, se_RX5_yX5_held, it_RX5, co_yX5_held, by decide +kernel⟩
theorem mf_X6_held : MFv yX6_held RX6 cX6_held 6 (some .int) 1 := ⟨im_yX6_held, se_RX6_yX6_held, it_RX6, co_yX6_held, by decide +kernel⟩
theorem mf_X6_behind : MFv yX6_behind RX6 cX6_behind 6 (some .int) 2 := ⟨im_yX6_behind, se_RX6_yX6_behind, it_RX6, co_yX6_behind, by decide +kernel⟩
theorem mf_X5_value : MFv yX5_value RX5 cX5_value 6 (some .int) 4 := ⟨im_yX5_value, se_RX5_yX5_value, it_RX5, co_yX5_value, by decide +kernel⟩
theorem mf_X6_value : MFv yX6_value RX6 cX6_value 5 (some .int) 4 := ⟨im_yX6_value, se_RX6_yX6_value, it_RX6, co_yX6_value, by decide +kernel⟩
theorem mf_X5_plain : MFv yX5_plain RX5 cX5_plain 6 (some .int) 4 := ⟨im_yX5_plain, se_RX5_yX5_plain, it_RX5, co_yX5_plain, by decide +kernel⟩
theorem mf_X4_plainValue : MFv yX4_plainValue RX4 cX4_plainValue 4 (some .int) 2 := ⟨im_yX4_plainValue, se_RX4_yX4_plainValue, it_RX4, co_yX4_plainValue, by decide +kernel⟩
theorem mf_X6_plain : MFv yX6_plain RX6 cX6_plain 5 (some .int) 4 := ⟨im_yX6_plain, se_RX6_yX6_plain, it_RX6, co_yX6_plain, by decide +kernel⟩
theorem mf_X6_plainly : MFv yX6_plainly RX6 cX6_plainly 2 none 0 := ⟨im_yX6_plainly, se_RX6_yX6_plainly, it_RX6, co_yX6_plainly, by decide +kernel⟩
theorem mf_X5_result : MFv yX5_result RX5 cX5_result 5 (some .int) 3 := ⟨im_yX5_result, se_RX5_yX5_result, it_RX5, co_yX5_result, by decide +kernel⟩
theorem mf_X4_resultCode : MFv yX4_resultCode RX4 cX4_resultCode 5 (some .int) 2 := ⟨im_yX4_resultCode, se_RX4_yX4_resultCode, it_RX4, co_yX4_resultCode, by decide +kernel⟩
theorem mf_X6_result : MFv yX6_result RX6 cX6_result 6 (some .int) 3 := ⟨im_yX6_result, se_RX6_yX6_result, it_RX6, co_yX6_result, by decide +kernel⟩
theorem mf_X5_about : MFv yX5_about RX5 cX5_about 2 (some .int) 1 := ⟨im_yX5_about, se_RX5_yX5_about, it_RX5, co_yX5_about, by decide +kernel⟩
theorem mf_X6_about : MFv yX6_about RX6 cX6_about 2 (some .int) 1 := ⟨im_yX6_about, se_RX6_yX6_about, it_RX6, co_yX6_about, by decide +kernel⟩
end
section
abbrev rm_J13_bitCount_95d88 : Room := { frames := 0, cells := 0, slots := 0, locals := 0 }
abbrev rm_J7_fill_53178 : Room := { frames := 0, cells := 0, slots := 0, locals := 0 }
abbrev rm_X0_place : Room := { frames := 3, cells := 0, slots := 0, locals := 76 }
abbrev rm_X0_layPoints : Room := { frames := 2, cells := 0, slots := 0, locals := 47 }
abbrev rm_X0_cellKey : Room := { frames := 0, cells := 0, slots := 0, locals := 0 }
abbrev rm_X0_link : Room := { frames := 1, cells := 0, slots := 0, locals := 21 }
abbrev rm_X0_metBy : Room := { frames := 0, cells := 0, slots := 0, locals := 0 }
abbrev rm_X0_use : Room := { frames := 0, cells := 0, slots := 0, locals := 0 }
abbrev rm_X0_apart : Room := { frames := 2, cells := 0, slots := 0, locals := 44 }
abbrev rm_X0_markBetween : Room := { frames := 1, cells := 0, slots := 0, locals := 21 }
abbrev rm_X0_isFree : Room := { frames := 0, cells := 0, slots := 0, locals := 0 }
abbrev rm_X1_put : Room := { frames := 0, cells := 0, slots := 0, locals := 0 }
abbrev rm_X1_takeNumbers : Room := { frames := 1, cells := 0, slots := 0, locals := 18 }
abbrev rm_X1_times : Room := { frames := 0, cells := 0, slots := 0, locals := 0 }
abbrev rm_X1_timesCode : Room := { frames := 1, cells := 0, slots := 0, locals := 25 }
abbrev rm_X1_least : Room := { frames := 1, cells := 0, slots := 0, locals := 21 }
abbrev rm_X1_beatsUnfolded : Room := { frames := 1, cells := 0, slots := 0, locals := 21 }
abbrev rm_X1_delay : Room := { frames := 1, cells := 0, slots := 0, locals := 25 }
abbrev rm_X1_way : Room := { frames := 1, cells := 0, slots := 0, locals := 25 }
abbrev rm_X1_timesStep : Room := { frames := 0, cells := 0, slots := 0, locals := 0 }
abbrev rm_X1_tooEarly : Room := { frames := 2, cells := 0, slots := 0, locals := 47 }
abbrev rm_X1_tooFar : Room := { frames := 2, cells := 0, slots := 0, locals := 47 }
abbrev rm_X2_work : Room := { frames := 4, cells := 0, slots := 0, locals := 99 }
abbrev rm_X2_sortByBeat : Room := { frames := 1, cells := 0, slots := 0, locals := 23 }
abbrev rm_X2_countHeld : Room := { frames := 2, cells := 0, slots := 0, locals := 49 }
abbrev rm_X2_hasBeat : Room := { frames := 0, cells := 0, slots := 0, locals := 0 }
abbrev rm_X2_pointAt : Room := { frames := 0, cells := 0, slots := 0, locals := 0 }
abbrev rm_X3_find : Room := { frames := 5, cells := 0, slots := 0, locals := 130 }
abbrev rm_X3_tryLines : Room := { frames := 4, cells := 0, slots := 0, locals := 100 }
abbrev rm_X3_consider : Room := { frames := 3, cells := 0, slots := 0, locals := 76 }
abbrev rm_X3_spell : Room := { frames := 1, cells := 0, slots := 0, locals := 24 }
abbrev rm_X3_partsAll : Room := { frames := 2, cells := 0, slots := 0, locals := 54 }
abbrev rm_X3_countCells : Room := { frames := 2, cells := 0, slots := 0, locals := 54 }
abbrev rm_X3_findAcross : Room := { frames := 1, cells := 0, slots := 0, locals := 25 }
abbrev rm_X3_countBehind : Room := { frames := 1, cells := 0, slots := 0, locals := 21 }
abbrev rm_X3_countLine : Room := { frames := 1, cells := 0, slots := 0, locals := 21 }
abbrev rm_X3_commonDivisor : Room := { frames := 0, cells := 0, slots := 0, locals := 0 }
abbrev rm_X4_resize : Room := { frames := 1, cells := 0, slots := 0, locals := 23 }
abbrev rm_X4_addVariable : Room := { frames := 1, cells := 0, slots := 0, locals := 24 }
abbrev rm_X4_setAct : Room := { frames := 0, cells := 0, slots := 0, locals := 0 }
abbrev rm_X4_setEdge : Room := { frames := 0, cells := 0, slots := 0, locals := 0 }
abbrev rm_X4_dropVariables : Room := { frames := 1, cells := 0, slots := 0, locals := 23 }
abbrev rm_X4_has : Room := { frames := 0, cells := 0, slots := 0, locals := 0 }
abbrev rm_X4_codeOf : Room := { frames := 0, cells := 0, slots := 0, locals := 0 }
abbrev rm_X4_isNeeded : Room := { frames := 1, cells := 0, slots := 0, locals := 21 }
abbrev rm_X4_stepped : Room := { frames := 1, cells := 0, slots := 0, locals := 23 }
abbrev rm_X4_workPoint : Room := { frames := 3, cells := 0, slots := 0, locals := 73 }
abbrev rm_X4_comes : Room := { frames := 2, cells := 0, slots := 0, locals := 49 }
abbrev rm_X4_made : Room := { frames := 1, cells := 0, slots := 0, locals := 21 }
abbrev rm_X4_plainValue : Room := { frames := 4, cells := 0, slots := 0, locals := 99 }
abbrev rm_X4_resultCode : Room := { frames := 2, cells := 0, slots := 0, locals := 49 }
abbrev rm_X5_sizes : Room := { frames := 2, cells := 0, slots := 0, locals := 47 }
abbrev rm_X5_variable : Room := { frames := 2, cells := 0, slots := 0, locals := 48 }
abbrev rm_X5_act : Room := { frames := 1, cells := 0, slots := 0, locals := 24 }
abbrev rm_X5_edge : Room := { frames := 1, cells := 0, slots := 0, locals := 23 }
abbrev rm_X5_clear : Room := { frames := 2, cells := 0, slots := 0, locals := 43 }
abbrev rm_X5_lay : Room := { frames := 1, cells := 0, slots := 0, locals := 24 }
abbrev rm_X5_fold : Room := { frames := 1, cells := 0, slots := 0, locals := 20 }
abbrev rm_X5_why : Room := { frames := 6, cells := 0, slots := 0, locals := 140 }
abbrev rm_X5_laid : Room := { frames := 5, cells := 0, slots := 0, locals := 120 }
abbrev rm_X5_where : Room := { frames := 5, cells := 0, slots := 0, locals := 120 }
abbrev rm_X5_needs : Room := { frames := 2, cells := 0, slots := 0, locals := 47 }
abbrev rm_X5_best : Room := { frames := 6, cells := 0, slots := 0, locals := 157 }
abbrev rm_X5_laying : Room := { frames := 1, cells := 0, slots := 0, locals := 20 }
abbrev rm_X5_run : Room := { frames := 6, cells := 0, slots := 0, locals := 140 }
abbrev rm_X5_worked : Room := { frames := 1, cells := 0, slots := 0, locals := 26 }
abbrev rm_X5_held : Room := { frames := 1, cells := 0, slots := 0, locals := 21 }
abbrev rm_X5_value : Room := { frames := 1, cells := 0, slots := 0, locals := 23 }
abbrev rm_X5_plain : Room := { frames := 5, cells := 0, slots := 0, locals := 122 }
abbrev rm_X5_result : Room := { frames := 5, cells := 0, slots := 0, locals := 122 }
abbrev rm_X5_about : Room := { frames := 0, cells := 0, slots := 0, locals := 0 }
abbrev rm_X5_forgetPlaces : Room := { frames := 0, cells := 0, slots := 0, locals := 0 }
abbrev rm_X5_settle : Room := { frames := 4, cells := 0, slots := 0, locals := 100 }
abbrev rm_X5_reason : Room := { frames := 5, cells := 0, slots := 0, locals := 120 }
abbrev rm_X5_culprit : Room := { frames := 3, cells := 0, slots := 0, locals := 69 }
abbrev rm_X5_isSize : Room := { frames := 0, cells := 0, slots := 0, locals := 0 }
abbrev rm_X5_isIndex : Room := { frames := 0, cells := 0, slots := 0, locals := 0 }
abbrev rm_X5_within : Room := { frames := 0, cells := 0, slots := 0, locals := 0 }
abbrev rm_X5_areZeros : Room := { frames := 0, cells := 0, slots := 0, locals := 0 }
abbrev rm_X5_isStep : Room := { frames := 1, cells := 0, slots := 0, locals := 23 }
abbrev rm_X5_leadsUp : Room := { frames := 0, cells := 0, slots := 0, locals := 0 }
abbrev rm_X6_in : Room := { frames := 0, cells := 0, slots := 0, locals := 0 }
abbrev rm_X6_absolute : Room := { frames := 0, cells := 0, slots := 0, locals := 0 }
abbrev rm_X6_isPoint : Room := { frames := 1, cells := 0, slots := 0, locals := 22 }
abbrev rm_X6_isVariable : Room := { frames := 1, cells := 0, slots := 0, locals := 22 }
abbrev rm_X6_ahead : Room := { frames := 2, cells := 0, slots := 0, locals := 45 }
abbrev rm_X6_behind : Room := { frames := 2, cells := 0, slots := 0, locals := 45 }
abbrev rm_X6_isPointNumber : Room := { frames := 2, cells := 0, slots := 0, locals := 45 }
abbrev rm_X6_points : Room := { frames := 0, cells := 0, slots := 0, locals := 0 }
abbrev rm_X6_sizes : Room := { frames := 1, cells := 0, slots := 0, locals := 22 }
abbrev rm_X6_noEdges : Room := { frames := 0, cells := 0, slots := 0, locals := 0 }
abbrev rm_X6_variable : Room := { frames := 1, cells := 0, slots := 0, locals := 22 }
abbrev rm_X6_act : Room := { frames := 2, cells := 0, slots := 0, locals := 43 }
abbrev rm_X6_edge : Room := { frames := 2, cells := 0, slots := 0, locals := 45 }
abbrev rm_X6_clear : Room := { frames := 1, cells := 0, slots := 0, locals := 21 }
abbrev rm_X6_lay : Room := { frames := 1, cells := 0, slots := 0, locals := 22 }
abbrev rm_X6_fold : Room := { frames := 1, cells := 0, slots := 0, locals := 22 }
abbrev rm_X6_at : Room := { frames := 0, cells := 0, slots := 0, locals := 0 }
abbrev rm_X6_beatOf : Room := { frames := 1, cells := 0, slots := 0, locals := 25 }
abbrev rm_X6_cellOf : Room := { frames := 1, cells := 0, slots := 0, locals := 25 }
abbrev rm_X6_stepBy : Room := { frames := 0, cells := 0, slots := 0, locals := 0 }
abbrev rm_X6_delayOf : Room := { frames := 1, cells := 0, slots := 0, locals := 22 }
abbrev rm_X6_wayOf : Room := { frames := 1, cells := 0, slots := 0, locals := 22 }
abbrev rm_X6_isNeeded : Room := { frames := 1, cells := 0, slots := 0, locals := 20 }
abbrev rm_X6_meets : Room := { frames := 0, cells := 0, slots := 0, locals := 0 }
abbrev rm_X6_wrongDelay : Room := { frames := 2, cells := 0, slots := 0, locals := 43 }
abbrev rm_X6_wrongWay : Room := { frames := 2, cells := 0, slots := 0, locals := 43 }
abbrev rm_X6_isRight : Room := { frames := 3, cells := 0, slots := 0, locals := 65 }
abbrev rm_X6_sameAs : Room := { frames := 3, cells := 0, slots := 0, locals := 66 }
abbrev rm_X6_why : Room := { frames := 4, cells := 0, slots := 0, locals := 88 }
abbrev rm_X6_beats : Room := { frames := 3, cells := 0, slots := 0, locals := 66 }
abbrev rm_X6_cells : Room := { frames := 3, cells := 0, slots := 0, locals := 66 }
abbrev rm_X6_apart : Room := { frames := 3, cells := 0, slots := 0, locals := 66 }
abbrev rm_X6_divides : Room := { frames := 0, cells := 0, slots := 0, locals := 0 }
abbrev rm_X6_laid : Room := { frames := 4, cells := 0, slots := 0, locals := 89 }
abbrev rm_X6_where : Room := { frames := 2, cells := 0, slots := 0, locals := 46 }
abbrev rm_X6_needs : Room := { frames := 2, cells := 0, slots := 0, locals := 43 }
abbrev rm_X6_numbers : Room := { frames := 0, cells := 0, slots := 0, locals := 0 }
abbrev rm_X6_best : Room := { frames := 4, cells := 0, slots := 0, locals := 89 }
abbrev rm_X6_laying : Room := { frames := 1, cells := 0, slots := 0, locals := 22 }
abbrev rm_X6_comes : Room := { frames := 3, cells := 0, slots := 0, locals := 70 }
abbrev rm_X6_work : Room := { frames := 4, cells := 0, slots := 0, locals := 94 }
abbrev rm_X6_made : Room := { frames := 0, cells := 0, slots := 0, locals := 0 }
abbrev rm_X6_run : Room := { frames := 5, cells := 0, slots := 0, locals := 120 }
abbrev rm_X6_worked : Room := { frames := 3, cells := 0, slots := 0, locals := 66 }
abbrev rm_X6_held : Room := { frames := 4, cells := 0, slots := 0, locals := 89 }
abbrev rm_X6_value : Room := { frames := 2, cells := 0, slots := 0, locals := 45 }
abbrev rm_X6_plainly : Room := { frames := 5, cells := 0, slots := 0, locals := 120 }
abbrev rm_X6_plain : Room := { frames := 6, cells := 0, slots := 0, locals := 141 }
abbrev rm_X6_result : Room := { frames := 6, cells := 0, slots := 0, locals := 141 }
abbrev rm_X6_about : Room := { frames := 1, cells := 0, slots := 0, locals := 22 }
end
section
/-! a few rows more, and the pure words -/
def b2i (P : Prop) [Decidable P] : Int := if P then 1 else 0
theorem b2i_01 (P : Prop) [Decidable P] : b2i P = 0 ∨ b2i P = 1 := by
  unfold b2i
  split
  · exact Or.inr rfl
  · exact Or.inl rfl
theorem b2i_t {P : Prop} [Decidable P] (h : P) : b2i P = 1 := by unfold b2i; rw [if_pos h]
theorem b2i_f {P : Prop} [Decidable P] (h : ¬ P) : b2i P = 0 := by unfold b2i; rw [if_neg h]
theorem b2i_R (P : Prop) [Decidable P] : R32 (b2i P) := by
  rcases b2i_01 P with h | h <;> rw [h] <;> decide
theorem b2i_0 {P : Prop} [Decidable P] : b2i P = 0 ↔ ¬ P := by
  unfold b2i
  split
  · constructor
    · intro h; omega
    · intro h; contradiction
  · constructor
    · intro _; assumption
    · intro _; rfl
theorem aZ_le {a b : Int} : aZ a < b ↔ a < b ∧ - b < a := by
  unfold aZ
  split
  · omega
  · omega
theorem aZ_nn (a : Int) : 0 ≤ aZ a := by unfold aZ; split <;> omega
section WWM
variable {w : WLD} {k : KX} {cc : ByteArray} {own : String} {rm : Room} {pc : Nat} {lv : List (Nat × Value)} {rest st : List Value} {M : Mem}
theorem ww_top {a b : Int} (h : a = b) (kk : WW w k pc lv (.int (iZ b) :: rest) M) : WW w k pc lv (.int (iZ a) :: rest) M := by rw [h]; exact kk
theorem ww_mem {M1 : Mem} (h : M = M1) (kk : WW w k pc lv st M1) : WW w k pc lv st M := by rw [h]; exact kk
theorem ww_iinc2 (C : Cx w k cc own rm) {i : Nat} {n a b : Int} {lv' : List (Nat × Value)} (d : decode cc pc = .ok (.iinc i n, 3)) (j : Nat) (hj : lv[j]? = some (i, .int (iZ a))) (hab : a + n = b) (hn : i < kL k) (h : (i, Value.int (iZ b)) :: drp lv i = lv') (kk : WW w k (pc + 3) lv' rest M) : WW w k pc lv rest M := ww_iinc C d j hj hn (by rw [hab]; exact h) kk
theorem ww_ifb_eq (C : Cx w k cc own rm) {P : Prop} [Decidable P] {off : Int} (tgt : Nat) (d : decode cc pc = .ok (.ifCond .eq off, 3)) (ht : (pc : Int) + off = (tgt : Int)) (kt : ¬ P → WW w k tgt lv rest M) (kf : P → WW w k (pc + 3) lv rest M) : WW w k pc lv (.int (iZ (b2i P)) :: rest) M := ww_if_eq C tgt d ht (b2i_R P) (fun h => kt (b2i_0.mp h)) (fun h => kf (Classical.byContradiction (fun q => h (b2i_0.mpr q))))
theorem ww_ifb_ne (C : Cx w k cc own rm) {P : Prop} [Decidable P] {off : Int} (tgt : Nat) (d : decode cc pc = .ok (.ifCond .ne off, 3)) (ht : (pc : Int) + off = (tgt : Int)) (kt : P → WW w k tgt lv rest M) (kf : ¬ P → WW w k (pc + 3) lv rest M) : WW w k pc lv (.int (iZ (b2i P)) :: rest) M := ww_if_ne C tgt d ht (b2i_R P) (fun h => kt (Classical.byContradiction (fun q => h (b2i_0.mpr q)))) (fun h => kf (b2i_0.mp h))
theorem ww_tabIn (C : Cx w k cc own rm) {dflt lo hi off a : Int} {offs : Array Int} {len : Nat} (tgt : Nat) (v : Int) (d : decode cc pc = .ok (.tableswitch dflt lo hi offs, len)) (ha : a = v) (h1 : ¬ v < lo ∧ ¬ hi < v) (hv : R32 v) (ho : offs[(v - lo).toNat]? = some off) (ht : (pc : Int) + off = (tgt : Int)) (kk : WW w k tgt lv rest M) : WW w k pc lv (.int (iZ a) :: rest) M := fun H locs ls hP hS hl => by
  subst ha
  exact lv_tableIn C.1 C.2.1 d (by rw [iZ_toInt hv]; exact h1.1) (by rw [iZ_toInt hv]; exact h1.2) (by rw [iZ_toInt hv]; exact ho) ht (kk H locs ls hP hS hl)
theorem ww_tabOut (C : Cx w k cc own rm) {dflt lo hi a : Int} {offs : Array Int} {len : Nat} (tgt : Nat) (d : decode cc pc = .ok (.tableswitch dflt lo hi offs, len)) (hv : R32 a) (h : a < lo ∨ hi < a) (ht : (pc : Int) + dflt = (tgt : Int)) (kk : WW w k tgt lv rest M) : WW w k pc lv (.int (iZ a) :: rest) M := fun H locs ls hP hS hl =>
  lv_tableOut C.1 C.2.1 d (by rw [iZ_toInt hv]; exact h) ht (kk H locs ls hP hS hl)
end WWM
/-- of a point: its three numbers lie inside the sizes -/
def ptI (sz : Nat → Int) (i j k : Int) : Prop := (0 ≤ i ∧ i < sz 0) ∧ (0 ≤ j ∧ j < sz 1) ∧ (0 ≤ k ∧ k < sz 2)
def ptI_d (sz : Nat → Int) (i j k : Int) : Decidable (ptI sz i j k) := by unfold ptI; exact inferInstance
def codeZ (sz : Nat → Int) (i j k : Int) : Int := if (0 ≤ i ∧ i < sz 0) ∧ (0 ≤ j ∧ j < sz 1) ∧ (0 ≤ k ∧ k < sz 2) then 64 * i + 8 * j + k else -1
abbrev SzOk (sz : Nat → Int) : Prop := (1 ≤ sz 0 ∧ sz 0 ≤ 8) ∧ (1 ≤ sz 1 ∧ sz 1 ≤ 8) ∧ (1 ≤ sz 2 ∧ sz 2 ≤ 8)
end
section
/-! THE PURE WORDS: points, steps, layings -/
abbrev StOk (st : Nat → Int) : Prop := ∀ q : Nat, q < 12 → -2 ≤ st q ∧ st q ≤ 2
abbrev NuOk (nu : Nat → Int) : Prop := ∀ q : Nat, q < 9 → -3 ≤ nu q ∧ nu q ≤ 3
/-- a code below 512 is a point -/
abbrev isP (sz : Nat → Int) (p : Nat) : Prop := ((p / 64 : Nat) : Int) < sz 0 ∧ ((p / 8 % 8 : Nat) : Int) < sz 1 ∧ ((p % 8 : Nat) : Int) < sz 2
theorem isP_lt {sz : Nat → Int} {p : Nat} (hs : SzOk sz) (h : isP sz p) : p < 512 := by omega
def stepZ (sz st : Nat → Int) (v p : Nat) (sg : Int) : Int := codeZ sz (((p / 64 : Nat) : Int) + sg * st (3 * v)) (((p / 8 % 8 : Nat) : Int) + sg * st (3 * v + 1)) (((p % 8 : Nat) : Int) + sg * st (3 * v + 2))
abbrev needP (sz st : Nat → Int) (v : Nat) : Prop := aZ (st (3 * v)) < sz 0 ∧ aZ (st (3 * v + 1)) < sz 1 ∧ aZ (st (3 * v + 2)) < sz 2
def dotZ (nu : Nat → Int) (h : Nat) (i j k : Int) : Int := nu (3 * h) * i + nu (3 * h + 1) * j + nu (3 * h + 2) * k
def dotP (nu : Nat → Int) (h p : Nat) : Int := dotZ nu h ((p / 64 : Nat) : Int) ((p / 8 % 8 : Nat) : Int) ((p % 8 : Nat) : Int)
def lesZ (nu sz : Nat → Int) (h : Nat) : Int := min 0 (nu (3 * h) * (sz 0 - 1)) + min 0 (nu (3 * h + 1) * (sz 1 - 1)) + min 0 (nu (3 * h + 2) * (sz 2 - 1))
def atZ (nu sz : Nat → Int) (h p : Nat) : Int := dotP nu h p - lesZ nu sz h
def beatZ (nu sz : Nat → Int) (f : Int) (p : Nat) : Int := f * atZ nu sz 0 p + atZ nu sz 1 p % f
def cellZ (nu sz : Nat → Int) (f : Int) (p : Nat) : Int := atZ nu sz 1 p / f
def stepB (nu st : Nat → Int) (h v : Nat) : Int := nu (3 * h) * st (3 * v) + nu (3 * h + 1) * st (3 * v + 1) + nu (3 * h + 2) * st (3 * v + 2)
def wayZ (nu st : Nat → Int) (v : Nat) : Int := aZ (stepB nu st 1 v) + aZ (stepB nu st 2 v)
/-- the first number below n of which P holds, or -1 -/
def isFst (P : Nat → Prop) (n : Nat) (z : Int) : Prop := (z = -1 ∧ ∀ v : Nat, v < n → ¬ P v) ∨ ∃ v : Nat, z = (v : Int) ∧ v < n ∧ P v ∧ ∀ u : Nat, u < v → ¬ P u
theorem isFst_un {P : Nat → Prop} {n : Nat} {y z : Int} (h1 : isFst P n y) (h2 : isFst P n z) : y = z := by
  rcases h1 with ⟨e1, a1⟩ | ⟨v, e1, b1, c1, d1⟩ <;> rcases h2 with ⟨e2, a2⟩ | ⟨u, e2, b2, c2, d2⟩
  · omega
  · exact absurd c2 (a1 u b2)
  · exact absurd c1 (a2 v b1)
  · rcases Nat.lt_trichotomy v u with h | h | h
    · exact absurd c1 (d2 v h)
    · omega
    · exact absurd c2 (d1 u h)
theorem isFst_R {P : Nat → Prop} {n : Nat} {z : Int} (hn : n < 1000000) (h : isFst P n z) : -1 ≤ z ∧ z < n := by
  rcases h with ⟨e, -⟩ | ⟨v, e, b, -⟩ <;> omega
/-- small products -/
theorem mulb3 {a b : Int} (h1 : -3 ≤ a) (h2 : a ≤ 3) (h3 : 0 ≤ b) (h4 : b ≤ 7) : -21 ≤ a * b ∧ a * b ≤ 21 := by
  rcases (show a = -3 ∨ a = -2 ∨ a = -1 ∨ a = 0 ∨ a = 1 ∨ a = 2 ∨ a = 3 by omega) with rfl | rfl | rfl | rfl | rfl | rfl | rfl <;> omega
theorem mulb2 {a b : Int} (h1 : -3 ≤ a) (h2 : a ≤ 3) (h3 : -2 ≤ b) (h4 : b ≤ 2) : -6 ≤ a * b ∧ a * b ≤ 6 := by
  rcases (show a = -3 ∨ a = -2 ∨ a = -1 ∨ a = 0 ∨ a = 1 ∨ a = 2 ∨ a = 3 by omega) with rfl | rfl | rfl | rfl | rfl | rfl | rfl <;> omega
theorem mulb_at {a b c : Int} (h1 : -3 ≤ a) (h2 : a ≤ 3) (h3 : 0 ≤ b) (h4 : b ≤ c) (h5 : c ≤ 7) : 0 ≤ a * b - min 0 (a * c) ∧ a * b - min 0 (a * c) ≤ 21 := by
  rcases (show a = -3 ∨ a = -2 ∨ a = -1 ∨ a = 0 ∨ a = 1 ∨ a = 2 ∨ a = 3 by omega) with rfl | rfl | rfl | rfl | rfl | rfl | rfl <;> omega
theorem stepB_b {nu st : Nat → Int} {h v : Nat} (hn : NuOk nu) (hs : StOk st) (hh : h < 3) (hv : v < 4) : -18 ≤ stepB nu st h v ∧ stepB nu st h v ≤ 18 := by
  unfold stepB
  have a0 := hn (3 * h) (by omega)
  have a1 := hn (3 * h + 1) (by omega)
  have a2 := hn (3 * h + 2) (by omega)
  have b0 := hs (3 * v) (by omega)
  have b1 := hs (3 * v + 1) (by omega)
  have b2 := hs (3 * v + 2) (by omega)
  have c0 := mulb2 a0.1 a0.2 b0.1 b0.2
  have c1 := mulb2 a1.1 a1.2 b1.1 b1.2
  have c2 := mulb2 a2.1 a2.2 b2.1 b2.2
  omega
theorem aZ_b {a n : Int} (h1 : -n ≤ a) (h2 : a ≤ n) : 0 ≤ aZ a ∧ aZ a ≤ n := by unfold aZ; split <;> omega
theorem wayZ_b {nu st : Nat → Int} {v : Nat} (hn : NuOk nu) (hs : StOk st) (hv : v < 4) : 0 ≤ wayZ nu st v ∧ wayZ nu st v ≤ 36 := by
  unfold wayZ
  have a := stepB_b (h := 1) hn hs (by omega) hv
  have b := stepB_b (h := 2) hn hs (by omega) hv
  have := aZ_b a.1 a.2
  have := aZ_b b.1 b.2
  omega
theorem dotP_b {nu : Nat → Int} {h p : Nat} (hn : NuOk nu) (hh : h < 3) (hp : p < 512) : -63 ≤ dotP nu h p ∧ dotP nu h p ≤ 63 := by
  unfold dotP dotZ
  have a0 := hn (3 * h) (by omega)
  have a1 := hn (3 * h + 1) (by omega)
  have a2 := hn (3 * h + 2) (by omega)
  have c0 := mulb3 (b := ((p / 64 : Nat) : Int)) a0.1 a0.2 (by omega) (by omega)
  have c1 := mulb3 (b := ((p / 8 % 8 : Nat) : Int)) a1.1 a1.2 (by omega) (by omega)
  have c2 := mulb3 (b := ((p % 8 : Nat) : Int)) a2.1 a2.2 (by omega) (by omega)
  omega
theorem lesZ_b {nu sz : Nat → Int} {h : Nat} (hn : NuOk nu) (hs : SzOk sz) (hh : h < 3) : -63 ≤ lesZ nu sz h ∧ lesZ nu sz h ≤ 0 := by
  unfold lesZ
  have a0 := hn (3 * h) (by omega)
  have a1 := hn (3 * h + 1) (by omega)
  have a2 := hn (3 * h + 2) (by omega)
  have c0 := mulb3 (b := sz 0 - 1) a0.1 a0.2 (by omega) (by omega)
  have c1 := mulb3 (b := sz 1 - 1) a1.1 a1.2 (by omega) (by omega)
  have c2 := mulb3 (b := sz 2 - 1) a2.1 a2.2 (by omega) (by omega)
  omega
theorem atZ_b {nu sz : Nat → Int} {h p : Nat} (hn : NuOk nu) (hs : SzOk sz) (hh : h < 3) (hp : isP sz p) : 0 ≤ atZ nu sz h p ∧ atZ nu sz h p ≤ 63 := by
  unfold atZ dotP dotZ lesZ
  have a0 := hn (3 * h) (by omega)
  have a1 := hn (3 * h + 1) (by omega)
  have a2 := hn (3 * h + 2) (by omega)
  have c0 := mulb_at (b := ((p / 64 : Nat) : Int)) (c := sz 0 - 1) a0.1 a0.2 (by omega) (by omega) (by omega)
  have c1 := mulb_at (b := ((p / 8 % 8 : Nat) : Int)) (c := sz 1 - 1) a1.1 a1.2 (by omega) (by omega) (by omega)
  have c2 := mulb_at (b := ((p % 8 : Nat) : Int)) (c := sz 2 - 1) a2.1 a2.2 (by omega) (by omega) (by omega)
  omega
theorem mulbf {f a : Int} (h1 : 1 ≤ f) (h2 : f ≤ 8) (h3 : 0 ≤ a) (h4 : a ≤ 63) : 0 ≤ f * a ∧ f * a ≤ 63 * f := by
  rcases (show f = 1 ∨ f = 2 ∨ f = 3 ∨ f = 4 ∨ f = 5 ∨ f = 6 ∨ f = 7 ∨ f = 8 by omega) with rfl | rfl | rfl | rfl | rfl | rfl | rfl | rfl <;> omega
theorem modf {f a : Int} (h1 : 1 ≤ f) : 0 ≤ a % f ∧ a % f < f := ⟨Int.emod_nonneg _ (by omega), Int.emod_lt_of_pos _ (by omega)⟩
theorem divf {f a : Int} (h1 : 1 ≤ f) (h3 : 0 ≤ a) (h4 : a ≤ 63) : 0 ≤ a / f ∧ a / f ≤ 63 := ⟨Int.ediv_nonneg h3 (by omega), Int.le_trans (Int.ediv_le_self _ h3) h4⟩
theorem beatZ_b {nu sz : Nat → Int} {f : Int} {p : Nat} (hn : NuOk nu) (hs : SzOk sz) (h1 : 1 ≤ f) (h2 : f ≤ 8) (hp : isP sz p) : 0 ≤ beatZ nu sz f p ∧ beatZ nu sz f p < 512 := by
  unfold beatZ
  have a := atZ_b (h := 0) hn hs (by omega) hp
  have b := mulbf h1 h2 a.1 a.2
  have c := modf (a := atZ nu sz 1 p) h1
  omega
theorem cellZ_b {nu sz : Nat → Int} {f : Int} {p : Nat} (hn : NuOk nu) (hs : SzOk sz) (h1 : 1 ≤ f) (hp : isP sz p) : 0 ≤ cellZ nu sz f p ∧ cellZ nu sz f p ≤ 63 := by
  unfold cellZ
  have a := atZ_b (h := 1) hn hs (by omega) hp
  exact divf h1 a.1 a.2
theorem codeZ_b {sz : Nat → Int} {i j k : Int} (hs : SzOk sz) : -1 ≤ codeZ sz i j k ∧ codeZ sz i j k < 512 := by unfold codeZ; split <;> omega
theorem stepZ_b {sz st : Nat → Int} {v p : Nat} {sg : Int} (hs : SzOk sz) : -1 ≤ stepZ sz st v p sg ∧ stepZ sz st v p sg < 512 := codeZ_b hs
/-- a number of 32 bits -/
def nrm (z : Int) : Int := (iZ z).toInt
theorem iZ_nrm (z : Int) : iZ (nrm z) = iZ z := by unfold nrm; exact iZ_of _
theorem nrm_R (z : Int) : R32 (nrm z) := toInt_R32 _
def madeZ (act own a b : Int) : Int := if act = 1 then nrm (own + a * b) else if act = 2 then min own (nrm (a + b)) else if act = 3 then min a b else if act = 4 then max a b else if act = 5 then nrm (a + b) else if act = 6 then nrm (a - b) else if act = 7 then (iZ a ^^^ iZ b).toInt else own
theorem madeZ_R {act own a b : Int} (h1 : R32 own) (h2 : R32 a) (h3 : R32 b) : R32 (madeZ act own a b) := by
  unfold madeZ
  have q1 := nrm_R (own + a * b)
  have q2 := nrm_R (a + b)
  have q3 := nrm_R (a - b)
  have q4 := toInt_R32 (iZ a ^^^ iZ b)
  repeat' split
  all_goals first | assumption | omega
def comeZ (sz st ed ar : Nat → Int) (v p : Nat) : Int := if stepZ sz st v p (-1) = -1 then ed (512 * v + p) else ar (512 * v + (stepZ sz st v p (-1)).toNat)
/-- what a point's work leaves: variables below n are worked -/
def wkA (sz st ac lf rt ed ar : Nat → Int) (p : Nat) : Nat → Nat → Int
  | 0 => ar
  | n + 1 => up1 (wkA sz st ac lf rt ed ar p n) (512 * n + p) (madeZ (ac n) (comeZ sz st ed (wkA sz st ac lf rt ed ar p n) n p) (comeZ sz st ed (wkA sz st ac lf rt ed ar p n) (lf n).toNat p) (comeZ sz st ed (wkA sz st ac lf rt ed ar p n) (rt n).toNat p))
section WWN
variable {w : WLD} {k : KX} {pc : Nat} {lv : List (Nat × Value)} {rest : List Value} {M : Mem}
theorem ww_topI {a b : Int} (h : iZ a = iZ b) (kk : WW w k pc lv (.int (iZ b) :: rest) M) : WW w k pc lv (.int (iZ a) :: rest) M := by rw [h]; exact kk
end WWN
end
section
/-! counting, filling, the row of all points -/
def fil (n : Nat) (z : Int) (f : Nat → Int) : Nat → Int := fun k => if k < n then z else f k
theorem fil_0 (z : Int) (f : Nat → Int) : fil 0 z f = f := by funext k; unfold fil; rw [if_neg (Nat.not_lt_zero _)]
theorem fil_s (n : Nat) (z : Int) (f : Nat → Int) : up1 (fil n z f) n z = fil (n + 1) z f := by
  funext k
  unfold up1 fil
  by_cases h : k = n
  · rw [if_pos h, if_pos (by omega)]
  · rw [if_neg h]
    by_cases h2 : k < n
    · rw [if_pos h2, if_pos (by omega)]
    · rw [if_neg h2, if_neg (by omega)]
theorem fil_lt {n k : Nat} {z : Int} {f : Nat → Int} (h : k < n) : fil n z f k = z := by unfold fil; rw [if_pos h]
theorem up1_s {f : Nat → Int} {k : Nat} {z : Int} : up1 f k z k = z := by unfold up1; rw [if_pos rfl]
theorem up1_n {f : Nat → Int} {k j : Nat} {z : Int} (h : j ≠ k) : up1 f k z j = f j := by unfold up1; rw [if_neg h]
theorem ups_s {M : Mem} {h : Nat} {f : Nat → Int} : ups M h f h = f := by unfold ups; rw [if_pos rfl]
theorem ups_n {M : Mem} {h j : Nat} {f : Nat → Int} (q : j ≠ h) : ups M h f j = M j := by unfold ups; rw [if_neg q]
theorem ups_ups {M : Mem} {h : Nat} {f g : Nat → Int} : ups (ups M h f) h g = ups M h g := by
  funext j
  unfold ups
  by_cases q : j = h
  · rw [if_pos q, if_pos q]
  · rw [if_neg q, if_neg q, if_neg q]
theorem ups_id {M : Mem} {h : Nat} : ups M h (M h) = M := by
  funext j
  unfold ups
  by_cases q : j = h
  · rw [if_pos q, q]
  · rw [if_neg q]
theorem ups_comm {M : Mem} {h j : Nat} {f g : Nat → Int} (q : h ≠ j) : ups (ups M h f) j g = ups (ups M j g) h f := by
  funext i
  unfold ups
  by_cases a : i = j
  · rw [if_pos a]
    by_cases b : i = h
    · exact absurd (b.symm.trans a) q
    · rw [if_neg b, if_pos a]
  · rw [if_neg a]
    by_cases b : i = h
    · rw [if_pos b, if_pos b]
    · rw [if_neg b, if_neg b, if_neg a]
noncomputable def cnt (P : Nat → Prop) : Nat → Int
  | 0 => 0
  | n + 1 => cnt P n + @ite Int (P n) (Classical.propDecidable _) 1 0
theorem cnt_t {P : Nat → Prop} {n : Nat} (h : P n) : cnt P (n + 1) = cnt P n + 1 := by show cnt P n + @ite Int (P n) (Classical.propDecidable _) 1 0 = cnt P n + 1; rw [if_pos h]
theorem cnt_f {P : Nat → Prop} {n : Nat} (h : ¬ P n) : cnt P (n + 1) = cnt P n := by show cnt P n + @ite Int (P n) (Classical.propDecidable _) 1 0 = cnt P n; rw [if_neg h]; omega
theorem cnt_b (P : Nat → Prop) (n : Nat) : 0 ≤ cnt P n ∧ cnt P n ≤ n := by
  induction n with
  | zero => exact ⟨Int.le_refl 0, Int.le_refl 0⟩
  | succ n ih =>
    by_cases h : P n
    · rw [cnt_t h]; omega
    · rw [cnt_f h]; omega
theorem cnt_c {P Q : Nat → Prop} {n : Nat} (h : ∀ k, k < n → (P k ↔ Q k)) : cnt P n = cnt Q n := by
  induction n with
  | zero => rfl
  | succ n ih =>
    have e := ih (fun k hk => h k (by omega))
    by_cases p : P n
    · rw [cnt_t p, cnt_t ((h n (by omega)).mp p), e]
    · rw [cnt_f p, cnt_f (fun q => p ((h n (by omega)).mpr q)), e]
theorem cnt_le {P : Nat → Prop} {m n : Nat} (h : m ≤ n) : cnt P m ≤ cnt P n := by
  induction n with
  | zero => rw [Nat.le_zero.mp h]; exact Int.le_refl _
  | succ n ih =>
    rcases Nat.lt_or_ge m (n + 1) with q | q
    · have := ih (by omega)
      by_cases p : P n
      · rw [cnt_t p]; omega
      · rw [cnt_f p]; omega
    · rw [Nat.le_antisymm h q]; exact Int.le_refl _
theorem cnt_lt {P : Nat → Prop} {m n : Nat} (h : m < n) (p : P m) : cnt P m < cnt P n := by
  have := cnt_le (P := P) (m := m + 1) (n := n) h
  rw [cnt_t p] at this
  omega
/-- the codes of the points below t, in their order -/
def CdT (sz co : Nat → Int) (np t : Nat) : Prop := (∀ n : Nat, n < np → co n = ((co n).toNat : Int) ∧ (co n).toNat < t ∧ isP sz (co n).toNat) ∧ (∀ m n : Nat, m < n → n < np → (co m).toNat < (co n).toNat) ∧ (∀ p : Nat, p < t → isP sz p → ∃ n : Nat, n < np ∧ (co n).toNat = p) ∧ (np : Int) = cnt (isP sz) t ∧ np ≤ t
abbrev CdOk (sz co : Nat → Int) (np : Nat) : Prop := CdT sz co np 512
theorem CdT_0 (sz co : Nat → Int) : CdT sz co 0 0 := ⟨fun n h => absurd h (Nat.not_lt_zero _), fun m n _ h => absurd h (Nat.not_lt_zero _), fun p h => absurd h (Nat.not_lt_zero _), rfl, Nat.le_refl 0⟩
theorem CdT_skip {sz co : Nat → Int} {np t : Nat} (h : CdT sz co np t) (q : ¬ isP sz t) : CdT sz co np (t + 1) := by
  obtain ⟨a, b, c, d, e⟩ := h
  refine ⟨fun n hn => ⟨(a n hn).1, by have := (a n hn).2.1; omega, (a n hn).2.2⟩, b, fun p hp hq => ?_, by rw [cnt_f q]; exact d, by omega⟩
  rcases Nat.lt_or_ge p t with r | r
  · exact c p r hq
  · have : p = t := by omega
    subst this
    exact absurd hq q
theorem CdT_add {sz co : Nat → Int} {np t : Nat} (h : CdT sz co np t) (q : isP sz t) : CdT sz (up1 co np (t : Int)) (np + 1) (t + 1) := by
  obtain ⟨a, b, c, d, e⟩ := h
  have self : up1 co np (t : Int) np = t := up1_s
  have old : ∀ n, n < np → up1 co np (t : Int) n = co n := fun n hn => up1_n (by omega)
  refine ⟨fun n hn => ?_, fun m n hmn hn => ?_, fun p hp hq => ?_, ?_, by omega⟩
  · rcases Nat.lt_or_ge n np with r | r
    · rw [old n r]
      exact ⟨(a n r).1, by have := (a n r).2.1; omega, (a n r).2.2⟩
    · have : n = np := by omega
      subst this
      rw [self]
      exact ⟨by omega, by omega, by rw [Int.toNat_natCast]; exact q⟩
  · rcases Nat.lt_or_ge n np with r | r
    · rw [old n r, old m (by omega)]
      exact b m n hmn r
    · have : n = np := by omega
      subst this
      rw [self, old m hmn]
      have := (a m hmn).2.1
      omega
  · rcases Nat.lt_or_ge p t with r | r
    · obtain ⟨n, h1, h2⟩ := c p r hq
      exact ⟨n, by omega, by rw [old n h1]; exact h2⟩
    · have : p = t := by omega
      subst this
      exact ⟨np, by omega, by rw [self]; omega⟩
  · rw [cnt_t q, ← d]
    omega
/-- behind the last code comes 512 -/
def bdN (co : Nat → Int) (np n : Nat) : Nat := if n < np then (co n).toNat else 512
section WWO
variable {w : WLD} {k : KX} {cc : ByteArray} {own : String} {rm : Room} {pc : Nat} {lv : List (Nat × Value)} {rest st : List Value} {M : Mem}
theorem ww_alen (C : Cx w k cc own rm) (h : Nat) (hh : h < 44) {N : Nat} (he : cellOf (wI w) (wZ w) (wa w) h (M h) = rowI (wI w) N (M h)) (d : decode cc pc = .ok (.arraylength, 1)) (kk : WW w k (pc + 1) lv (.int (iZ ((N : Nat) : Int)) :: rest) M) : WW w k pc lv (.ref (wa w h) :: rest) M := fun H locs ls hP hS hl2 =>
  va_alen (D := wD w) C.1 C.2.1 C.2.2.2.2.2.1 hP h 0 (cA := wI w) (x := (N, .inl (fun k => iZ (M h k)))) (by rw [wd_get hh, he]; rfl) (ty := .int) rfl rfl d (kk H locs ls hP hS hl2)
theorem as_gen (C : Cx w k cc own rm) {h L : Nat} (hh : h < 44) (hrow : ∀ f : Nat → Int, cellOf (wI w) (wZ w) (wa w) h f = rowI (wI w) L f) (hL : L < 2147483648) {i : Int} (n : Nat) {z : Int} (hi : i = (n : Int)) (hn : n < L) (d : decode cc pc = .ok (.iastore, 1)) (kk : WW w k (pc + 1) lv rest (ups M h (up1 (M h) n z))) : WW w k pc lv (.int (iZ z) :: .int (iZ i) :: .ref (wa w h) :: rest) M := ww_iast C h hh (N := L) n hrow hL hi hn d kk
theorem ww_callSV (C : Cx w k cc own rm) {y : MethodName} {c2 : ByteArray} {n2 np : Nat} {rm2 : Room} {As : List Value} {post : Mem → Prop} {index : Nat} (ct : CtV w y c2 n2 rm2 As M post) (mf : MFs y c2 n2 none np) (hl : Cond.methodLink own index y ∈ wsL_law) (hrm : rm2.cells = 0 ∧ rm2.slots = 0 ∧ rm2.frames + 1 ≤ rm.frames ∧ 8 + (n2 + 11) + rm2.locals ≤ rm.locals) (hn : As.length = np) (hst : st = As.reverse ++ rest) (hr : (rest.map fun v => v.category).sum ≤ 8) (d : decode cc pc = .ok (.invokestatic index, 3))
    (kk : ∀ (M1 : Mem), post M1 → WW w k (pc + 3) lv rest M1) : WW w k pc lv st M := by
  intro H locs ls hP hS hl2
  obtain ⟨hx, hb, hml, hown, hts, hK, hA, hD, hR, hkc, hks⟩ := C
  have hFc : ∀ q, va_A (wdW w M) H.size q → kA k q := by
    rintro q (⟨j, e, hj⟩ | hq)
    · exact (hD M).2 j _ hj
    · exact hA q (Nat.le_trans hS.1 hq)
  refine va_callv (va_runS (As := As) (rest := rest) ⟨hx, hb, hml, hown, hts⟩ (ct H.size) (va_cwS np hts (goodIn_m (fun x hx => ?_)) rfl hrm.1 hrm.2.1 mf.2.2.2 ⟨by rw [hR]; exact hrm.2.2.1, by rw [hR]; exact hrm.2.2.2⟩) ⟨fun a U g mk q => ?_, fun U hU hW => ⟨rfl, by rw [hU], by rw [hU]; exact hP, va_K.moved hW.alike hK, (hD M).weaken (fun _ _ _ _ => trivial)⟩⟩ rfl hn hl2.1 hst (lv_room hr) d ⟨by rw [hR]; exact hkc, by rw [hR]; exact hks⟩) hS (fun q _ h => hFc q h) hFc (fun u t H1 locs1 ht hvm hw hB hz1 hk1 hS1 => ?_)
  · rcases List.mem_append.mp hx with h9 | h9
    · simp only [List.mem_cons, List.not_mem_nil, or_false] at h9
      rcases h9 with rfl | rfl | rfl
      · exact hl
      · exact mf.1
      · exact mf.2.1
    · rcases List.mem_cons.mp h9 with rfl | h9
      · exact mf.2.2.1
      · exact h9
  · obtain ⟨q0, q1, qP, qK, qD⟩ := q
    exact ⟨q0, q1, qP, va_K.moved (u := U) (U := U.calling g mk a) (Vm.Alike.refl U.vm) qK, qD⟩
  · obtain ⟨hP1, hK1, hD1⟩ := hB
    rw [ht] at hP1
    exact kk u hw H1 locs1 ls hP1 hS1 hl2
/-- System.arraycopy of a whole row of nine -/
theorem ww_copy9 (C : Cx w k cc own rm) {h0 h1 : Nat} (q0 : h0 < 44) (q1 : h1 < 44) {index : Nat} (hl : Cond.methodLink own index arraycopyName ∈ wsL_law) (he0 : ∀ f : Nat → Int, cellOf (wI w) (wZ w) (wa w) h0 f = rowI (wI w) 9 f) (he1 : ∀ f : Nat → Int, cellOf (wI w) (wZ w) (wa w) h1 f = rowI (wI w) 9 f) (hR : 1 ≤ rm.frames ∧ 18 ≤ rm.locals) (d : decode cc pc = .ok (.invokestatic index, 3))
    (kk : WW w k (pc + 3) lv [] (ups M h1 (fun j => if j < 9 then M h0 j else M h1 j))) : WW w k pc lv [.int (iZ ((9 : Nat) : Int)), .int (iZ 0), .ref (wa w h1), .int (iZ 0), .ref (wa w h0)] M := fun H locs ls hP hS hl2 =>
  va_copyi (rest := []) C.1 C.2.1 (C.2.2.1.trans hl2.1.symm) C.2.2.2.1 (C.2.2.2.2.1 _ hl) (C.2.2.2.2.1 _ wo_native_arraycopyName) (C.2.2.2.2.1 _ st_arraycopyName) (C.2.2.2.2.1 _ it__java_lang_System_) C.2.2.2.2.2.1 hP (C.2.2.2.2.2.2.2.1 M) hS h0 h1 0 0 (c0 := wI w) (c1 := wI w) (n0 := 9) (n1 := 9) (f := fun j => iZ (M h0 j)) (g := fun j => iZ (M h1 j)) (ty := .int) (by rw [wd_get q0, he0]; rfl) (by rw [wd_get q1, he1]; rfl) rfl rfl rfl (by decide) (by decide) (by decide) (by decide) (by decide) (fun i _ => rfl) (by rw [C.2.2.2.2.2.2.2.2.1]; exact hR.1) (by rw [C.2.2.2.2.2.2.2.2.1]; exact hR.2) d (fun H1 locs1 hP1 _ hS1 => kk H1 locs1 ls (by
    have e : (wa w h1, Sum.inl (wI w, 9, Sum.inl (va_cpy (fun j => iZ (M h0 j)) (fun j => iZ (M h1 j)) (iZ 0).toNatClampNeg (iZ 0).toNatClampNeg (iZ ((9 : Nat) : Int)).toNatClampNeg))) = (wa w h1, cellOf (wI w) (wZ w) (wa w) h1 (fun j => if j < 9 then M h0 j else M h1 j)) := by
      rw [he1]
      unfold rowI
      have e0 : (iZ 0).toNatClampNeg = 0 := by decide
      have e9 : (iZ ((9 : Nat) : Int)).toNatClampNeg = 9 := by decide
      rw [e0, e9]
      have ef : va_cpy (fun j => iZ (M h0 j)) (fun j => iZ (M h1 j)) 0 0 9 = fun k => iZ ((fun j => if j < 9 then M h0 j else M h1 j) k) := by
        funext j
        unfold va_cpy
        by_cases h : j < 9
        · rw [if_pos ⟨Nat.zero_le _, by omega⟩]
          simp only [if_pos h]
          congr 2
          omega
        · rw [if_neg (by omega)]
          simp only [if_neg h]
      rw [ef]
    rw [e, wd_set q1] at hP1
    exact hP1) hS1 hl2)
end WWO
end
section
theorem comeZ_R {sz st ed ar : Nat → Int} {v p : Nat} (h1 : ∀ q : Nat, R32 (ed q)) (h2 : ∀ q : Nat, R32 (ar q)) : R32 (comeZ sz st ed ar v p) := by
  unfold comeZ
  split
  · exact h1 _
  · exact h2 _
theorem wkA_R {sz st ac lf rt ed ar : Nat → Int} {p : Nat} (h1 : ∀ q : Nat, R32 (ed q)) (h2 : ∀ q : Nat, R32 (ar q)) : ∀ (n q : Nat), R32 (wkA sz st ac lf rt ed ar p n q) := by
  intro n
  induction n with
  | zero => exact h2
  | succ n ih =>
    intro q
    show R32 (up1 _ _ _ q)
    unfold up1
    split
    · exact madeZ_R (comeZ_R h1 ih) (comeZ_R h1 ih) (comeZ_R h1 ih)
    · exact ih q
/-- plain working of the points below t -/
def plA (sz st ac lf rt ed : Nat → Int) (nv : Nat) (ar : Nat → Int) : Nat → Nat → Int
  | 0 => ar
  | t + 1 => if isP sz t then wkA sz st ac lf rt ed (plA sz st ac lf rt ed nv ar t) t nv else plA sz st ac lf rt ed nv ar t
theorem plA_R {sz st ac lf rt ed ar : Nat → Int} {nv : Nat} (h1 : ∀ q : Nat, R32 (ed q)) (h2 : ∀ q : Nat, R32 (ar q)) : ∀ (t q : Nat), R32 (plA sz st ac lf rt ed nv ar t q) := by
  intro t
  induction t with
  | zero => exact h2
  | succ t ih =>
    intro q
    unfold plA
    split
    · exact wkA_R h1 ih nv q
    · exact ih q
theorem plA_p {sz st ac lf rt ed ar : Nat → Int} {nv t : Nat} (h : isP sz t) : plA sz st ac lf rt ed nv ar (t + 1) = wkA sz st ac lf rt ed (plA sz st ac lf rt ed nv ar t) t nv := by
  show (if isP sz t then _ else _) = _
  rw [if_pos h]
theorem plA_n {sz st ac lf rt ed ar : Nat → Int} {nv t : Nat} (h : ¬ isP sz t) : plA sz st ac lf rt ed nv ar (t + 1) = plA sz st ac lf rt ed nv ar t := by
  show (if isP sz t then _ else _) = _
  rw [if_neg h]
theorem plA_skip {sz st ac lf rt ed ar : Nat → Int} {nv a b : Nat} (hab : a ≤ b) (h : ∀ p : Nat, a ≤ p → p < b → ¬ isP sz p) : plA sz st ac lf rt ed nv ar b = plA sz st ac lf rt ed nv ar a := by
  induction b with
  | zero => rw [Nat.le_zero.mp hab]
  | succ b ih =>
    rcases Nat.lt_or_ge b a with q | q
    · rw [show b + 1 = a by omega]
    · rw [plA_n (h b q (by omega)), ih q (fun p h1 h2 => h p h1 (by omega))]
theorem cnt_skip {P : Nat → Prop} {a b : Nat} (hab : a ≤ b) (h : ∀ p : Nat, a ≤ p → p < b → ¬ P p) : cnt P b = cnt P a := by
  induction b with
  | zero => rw [Nat.le_zero.mp hab]
  | succ b ih =>
    rcases Nat.lt_or_ge b a with q | q
    · rw [show b + 1 = a by omega]
    · rw [cnt_f (h b q (by omega)), ih q (fun p h1 h2 => h p h1 (by omega))]
theorem bdN_in {co : Nat → Int} {np n : Nat} (h : n < np) : bdN co np n = (co n).toNat := by unfold bdN; rw [if_pos h]
theorem bdN_out {co : Nat → Int} {np n : Nat} (h : np ≤ n) : bdN co np n = 512 := by unfold bdN; rw [if_neg (by omega)]
theorem bd_le {sz co : Nat → Int} {np n : Nat} (h : CdOk sz co np) (hn : n < np) : (co n).toNat + 1 ≤ bdN co np (n + 1) := by
  unfold bdN
  split
  · exact h.2.1 n (n + 1) (by omega) (by assumption)
  · exact (h.1 n hn).2.1
theorem bd_gap {sz co : Nat → Int} {np n : Nat} (h : CdOk sz co np) (hn : n < np) (p : Nat) (h1 : (co n).toNat + 1 ≤ p) (h2 : p < bdN co np (n + 1)) : ¬ isP sz p := by
  intro hp
  have hle : bdN co np (n + 1) ≤ 512 := by
    unfold bdN
    split
    · exact Nat.le_of_lt (h.1 (n + 1) (by assumption)).2.1
    · exact Nat.le_refl _
  obtain ⟨m, hm, e⟩ := h.2.2.1 p (by omega) hp
  rcases Nat.lt_trichotomy m n with q | q | q
  · have := h.2.1 m n q hn
    omega
  · subst q
    omega
  · rcases Nat.lt_or_ge (n + 1) m with r | r
    · have a := h.2.1 (n + 1) m r hm
      rw [bdN_in (by omega)] at h2
      omega
    · have : m = n + 1 := by omega
      subst this
      rw [bdN_in hm] at h2
      omega
theorem bd_0 {sz co : Nat → Int} {np : Nat} (h : CdOk sz co np) (p : Nat) (h2 : p < bdN co np 0) : ¬ isP sz p := by
  intro hp
  have hle : bdN co np 0 ≤ 512 := by
    unfold bdN
    split
    · exact Nat.le_of_lt (h.1 0 (by assumption)).2.1
    · exact Nat.le_refl _
  obtain ⟨m, hm, e⟩ := h.2.2.1 p (by omega) hp
  rcases Nat.lt_or_ge 0 m with r | r
  · have a := h.2.1 0 m r hm
    rw [bdN_in (by omega)] at h2
    omega
  · have : m = 0 := by omega
    subst this
    rw [bdN_in hm] at h2
    omega
theorem plA_bd {sz st ac lf rt ed ar co : Nat → Int} {nv np n : Nat} (h : CdOk sz co np) (hn : n < np) : plA sz st ac lf rt ed nv ar (bdN co np (n + 1)) = wkA sz st ac lf rt ed (plA sz st ac lf rt ed nv ar (bdN co np n)) (co n).toNat nv := by
  rw [plA_skip (a := (co n).toNat + 1) (bd_le h hn) (bd_gap h hn), plA_p (h.1 n hn).2.2, bdN_in hn]
theorem plA_bd0 {sz st ac lf rt ed ar co : Nat → Int} {nv np : Nat} (h : CdOk sz co np) : plA sz st ac lf rt ed nv ar (bdN co np 0) = ar := plA_skip (a := 0) (Nat.zero_le _) (fun p _ h2 => bd_0 h p h2)
/-- the n-th of those of which P holds, or -1 -/
def nthR (P : Nat → Prop) (n z : Int) : Prop := (∃ p : Nat, p < 512 ∧ z = (p : Int) ∧ P p ∧ cnt P p = n) ∨ (z = -1 ∧ ∀ p : Nat, p < 512 → P p → cnt P p ≠ n)
theorem nthR_un {P : Nat → Prop} {n y z : Int} (h1 : nthR P n y) (h2 : nthR P n z) : y = z := by
  rcases h1 with ⟨p, a, b, c, d⟩ | ⟨a, b⟩ <;> rcases h2 with ⟨q, e, f, g, h⟩ | ⟨e, f⟩
  · rcases Nat.lt_trichotomy p q with r | r | r
    · have := cnt_lt r c; omega
    · omega
    · have := cnt_lt r g; omega
  · exact absurd d (f p a c)
  · exact absurd h (b q e g)
  · omega
def buZ (nu sz : Nat → Int) : Int := aZ (nu 0) * (sz 0 - 1) + aZ (nu 1) * (sz 1 - 1) + aZ (nu 2) * (sz 2 - 1) + 1
theorem buZ_b {nu sz : Nat → Int} (hn : NuOk nu) (hs : SzOk sz) : 1 ≤ buZ nu sz ∧ buZ nu sz ≤ 64 := by
  unfold buZ
  have a0 := hn 0 (by omega)
  have a1 := hn 1 (by omega)
  have a2 := hn 2 (by omega)
  have b0 := aZ_b a0.1 a0.2
  have b1 := aZ_b a1.1 a1.2
  have b2 := aZ_b a2.1 a2.2
  have c0 := mulb3 (a := aZ (nu 0)) (b := sz 0 - 1) (by omega) (by omega) (by omega) (by omega)
  have c1 := mulb3 (a := aZ (nu 1)) (b := sz 1 - 1) (by omega) (by omega) (by omega) (by omega)
  have c2 := mulb3 (a := aZ (nu 2)) (b := sz 2 - 1) (by omega) (by omega) (by omega) (by omega)
  have d0 := Int.mul_nonneg (a := aZ (nu 0)) (b := sz 0 - 1) (by omega) (by omega)
  have d1 := Int.mul_nonneg (a := aZ (nu 1)) (b := sz 1 - 1) (by omega) (by omega)
  have d2 := Int.mul_nonneg (a := aZ (nu 2)) (b := sz 2 - 1) (by omega) (by omega)
  omega
abbrev earP (nu sz st : Nat → Int) (v : Nat) : Prop := needP sz st v ∧ stepB nu st 0 v < 1
abbrev farP (nu sz st : Nat → Int) (v : Nat) : Prop := needP sz st v ∧ stepB nu st 0 v < wayZ nu st v
theorem up1_up1 {f : Nat → Int} {k : Nat} {a b : Int} : up1 (up1 f k a) k b = up1 f k b := by
  funext j
  unfold up1
  by_cases h : j = k
  · rw [if_pos h, if_pos h]
  · rw [if_neg h, if_neg h, if_neg h]
theorem up1_comm {f : Nat → Int} {k m : Nat} {a b : Int} (q : k ≠ m) : up1 (up1 f k a) m b = up1 (up1 f m b) k a := by
  funext j
  unfold up1
  by_cases h : j = m
  · rw [if_pos h]
    by_cases g : j = k
    · exact absurd (g.symm.trans h) q
    · rw [if_neg g, if_pos h]
  · rw [if_neg h]
    by_cases g : j = k
    · rw [if_pos g, if_pos g]
    · rw [if_neg g, if_neg g, if_neg h]
theorem codeZ_P {sz : Nat → Int} {p : Nat} (h : isP sz p) : codeZ sz ((p / 64 : Nat) : Int) ((p / 8 % 8 : Nat) : Int) ((p % 8 : Nat) : Int) = (p : Int) := by
  unfold codeZ
  rw [if_pos (by omega)]
  omega
theorem codeZ_N {sz : Nat → Int} {p : Nat} (h : ¬ isP sz p) : codeZ sz ((p / 64 : Nat) : Int) ((p / 8 % 8 : Nat) : Int) ((p % 8 : Nat) : Int) = -1 := by
  unfold codeZ
  rw [if_neg (by omega)]
end
section
/-! places: cells, chains, meetings -/
def keyZ (nu sz : Nat → Int) (f : Int) (p : Nat) : Int := 64 * cellZ nu sz f p + atZ nu sz 2 p
theorem keyZ_b {nu sz : Nat → Int} {f : Int} {p : Nat} (hn : NuOk nu) (hs : SzOk sz) (h1 : 1 ≤ f) (hp : isP sz p) : 0 ≤ keyZ nu sz f p ∧ keyZ nu sz f p < 4096 := by
  unfold keyZ
  have a := cellZ_b hn hs h1 hp
  have b := atZ_b (h := 2) hn hs (by omega) hp
  omega
def LayOk (nu sz : Nat → Int) (f : Int) (be ce se : Nat → Int) : Prop := ∀ p : Nat, isP sz p → be p = beatZ nu sz f p ∧ ce p = cellZ nu sz f p ∧ se p = atZ nu sz 2 p
/-- 1 + the last point below b with this key, 0 if there is none -/
def lastR (sz K : Nat → Int) (kk : Int) (b : Nat) (z : Int) : Prop := (z = 0 ∧ ∀ q : Nat, q < b → isP sz q → K q ≠ kk) ∨ ∃ q : Nat, q < b ∧ z = (q : Int) + 1 ∧ isP sz q ∧ K q = kk ∧ ∀ r : Nat, q < r → r < b → isP sz r → K r ≠ kk
theorem lastR_b {sz K : Nat → Int} {kk z : Int} {b : Nat} (h : lastR sz K kk b z) : 0 ≤ z ∧ z ≤ b := by
  rcases h with ⟨e, -⟩ | ⟨q, a, e, -⟩ <;> omega
theorem lastR_skip {sz K : Nat → Int} {kk z : Int} {a b : Nat} (h : lastR sz K kk a z) (hab : a ≤ b) (hno : ∀ p : Nat, a ≤ p → p < b → isP sz p → K p ≠ kk) : lastR sz K kk b z := by
  rcases h with ⟨e, h⟩ | ⟨q, h1, h2, h3, h4, h5⟩
  · refine Or.inl ⟨e, fun q hq hp => ?_⟩
    rcases Nat.lt_or_ge q a with r | r
    · exact h q r hp
    · exact hno q r hq hp
  · refine Or.inr ⟨q, by omega, h2, h3, h4, fun r hr1 hr2 hp => ?_⟩
    rcases Nat.lt_or_ge r a with s | s
    · exact h5 r hr1 s hp
    · exact hno r s hr2 hp
theorem lastR_self {sz K : Nat → Int} {p : Nat} (hp : isP sz p) : lastR sz K (K p) (p + 1) ((p : Int) + 1) := Or.inr ⟨p, by omega, rfl, hp, rfl, fun r h1 h2 => by omega⟩
def AhOk (sz K ah : Nat → Int) : Prop := ∀ p : Nat, isP sz p → lastR sz K (K p) p (ah p)
/-- the number of different keys of the points below b -/
noncomputable def difK (sz K : Nat → Int) (b : Nat) : Int := cnt (fun p => isP sz p ∧ ∀ q : Nat, q < p → isP sz q → K q ≠ K p) b
theorem lastR_0 {sz K : Nat → Int} {kk : Int} {b : Nat} {z : Int} (h : lastR sz K kk b z) : z = 0 ↔ ∀ q : Nat, q < b → isP sz q → K q ≠ kk := by
  rcases h with ⟨e, h⟩ | ⟨q, h1, h2, h3, h4, h5⟩
  · exact ⟨fun _ => h, fun _ => e⟩
  · exact ⟨fun e => by omega, fun e => absurd h4 (e q h1 h3)⟩
/-- the greatest of the beats of the points below b, and 1; 0 if there is none -/
def beaR (sz be : Nat → Int) (b : Nat) (z : Int) : Prop := (∀ p : Nat, p < b → isP sz p → be p + 1 ≤ z) ∧ ((z = 0 ∧ ∀ p : Nat, p < b → ¬ isP sz p) ∨ ∃ p : Nat, p < b ∧ isP sz p ∧ be p + 1 = z)
/-- the least point below b that has one ahead of it with its beat and key, and that one -/
def mtP (sz K be : Nat → Int) (q p : Nat) : Prop := q < p ∧ isP sz q ∧ isP sz p ∧ K q = K p ∧ be q = be p
def metR (sz K be : Nat → Int) (b : Nat) (la ea : Int) : Prop := (la = -1 ∧ ea = -1 ∧ ∀ p q : Nat, p < b → ¬ mtP sz K be q p) ∨ ∃ p q : Nat, la = (p : Int) ∧ ea = (q : Int) ∧ p < b ∧ mtP sz K be q p ∧ ∀ r s : Nat, r < p → ¬ mtP sz K be s r
theorem metR_un {sz K be : Nat → Int} {b : Nat} {la ea la' ea' : Int} (h1 : metR sz K be b la ea) (h2 : metR sz K be b la' ea') : la = la' ∧ ea = ea' := by
  rcases h1 with ⟨a1, a2, a3⟩ | ⟨p, q, a1, a2, a3, a4, a5⟩ <;> rcases h2 with ⟨b1, b2, b3⟩ | ⟨r, s, b1, b2, b3, b4, b5⟩
  · omega
  · exact absurd b4 (a3 r s b3)
  · exact absurd a4 (b3 p q a3)
  · have hpr : p = r := by
      rcases Nat.lt_trichotomy p r with c | c | c
      · exact absurd a4 (b5 p q c)
      · exact c
      · exact absurd b4 (a5 r s c)
    subst hpr
    have hqs : q = s := by
      rcases Nat.lt_trichotomy q s with c | c | c
      · exact absurd ⟨c, a4.2.1, b4.2.1, a4.2.2.2.1.trans b4.2.2.2.1.symm, a4.2.2.2.2.trans b4.2.2.2.2.symm⟩ (a5 s q b4.1)
      · exact c
      · exact absurd ⟨c, b4.2.1, a4.2.1, b4.2.2.2.1.trans a4.2.2.2.1.symm, b4.2.2.2.2.trans a4.2.2.2.2.symm⟩ (a5 q s a4.1)
    omega
def PlOk (nu sz : Nat → Int) (f : Int) (be ce se ah : Nat → Int) (beats cells la ea : Int) : Prop :=
  LayOk nu sz f be ce se ∧ AhOk sz (keyZ nu sz f) ah ∧ beaR sz (beatZ nu sz f) 512 beats ∧ cells = difK sz (keyZ nu sz f) 512 ∧ metR sz (keyZ nu sz f) (beatZ nu sz f) 512 la ea
theorem beaR_un {sz be : Nat → Int} {b : Nat} {y z : Int} (h1 : beaR sz be b y) (h2 : beaR sz be b z) : y = z := by
  rcases h1 with ⟨a1, ⟨a2, a3⟩ | ⟨p, a2, a3, a4⟩⟩ <;> rcases h2 with ⟨b1, ⟨b2, b3⟩ | ⟨q, b2, b3, b4⟩⟩
  · omega
  · exact absurd b3 (a3 q b2)
  · exact absurd a3 (b3 p a2)
  · have := a1 q b2 b3
    have := b1 p a2 a3
    omega
theorem isP_0 {sz : Nat → Int} (hs : SzOk sz) : isP sz 0 := by
  refine ⟨?_, ?_, ?_⟩ <;> simp <;> omega
theorem up1_id {f : Nat → Int} {k : Nat} : up1 f k (f k) = f := by
  funext j
  unfold up1
  by_cases h : j = k
  · rw [if_pos h, h]
  · rw [if_neg h]
theorem mulNN {m n : Nat} (hm : m < 1024) (hn : n < 1024) : m * n < 1048576 := by
  have := Nat.mul_le_mul (Nat.le_of_lt hm) (Nat.le_of_lt hn)
  have h2 : m * n ≤ 1023 * 1023 := Nat.mul_le_mul (by omega) (by omega)
  omega
/-- APART: the least n of which no multiple is a distance -/
def apR (D : Nat → Prop) (z : Int) : Prop := ∃ n : Nat, z = (n : Int) ∧ 1 ≤ n ∧ (∀ m : Nat, 1 ≤ m → ¬ D (m * n)) ∧ ∀ u : Nat, 1 ≤ u → u < n → ∃ m : Nat, 1 ≤ m ∧ D (m * u)
theorem apR_un {D : Nat → Prop} {y z : Int} (h1 : apR D y) (h2 : apR D z) : y = z := by
  obtain ⟨n, a1, a2, a3, a4⟩ := h1
  obtain ⟨u, b1, b2, b3, b4⟩ := h2
  rcases Nat.lt_trichotomy n u with c | c | c
  · obtain ⟨m, e1, e2⟩ := b4 n a2 c
    exact absurd e2 (a3 m e1)
  · omega
  · obtain ⟨m, e1, e2⟩ := a4 u b2 c
    exact absurd e2 (b3 m e1)
/-- two points of one key, their beats d apart -/
def dsP (sz K be : Nat → Int) (b d : Nat) : Prop := ∃ p q : Nat, p < b ∧ q < p ∧ isP sz q ∧ isP sz p ∧ K q = K p ∧ aZ (be p - be q) = (d : Int)
theorem markStep {sz K be bm bt : Nat → Int} {p q b : Nat} (hbt : ∀ d : Nat, (bt d = 0 ∨ bt d = 1) ∧ (bt d = 1 ↔ bm d = 1 ∨ ∃ u : Nat, b ≤ u ∧ u < p ∧ isP sz u ∧ K u = K p ∧ aZ (be p - be u) = (d : Int))) (h1 : q < b) (h2 : q < p) (h3 : isP sz q) (h4 : K q = K p) (h5 : ∀ r : Nat, q < r → r < b → isP sz r → K r ≠ K p) (h6 : 0 ≤ aZ (be p - be q) ∧ aZ (be p - be q) ≤ 511) : ∀ d : Nat, (up1 bt (aZ (be p - be q)).toNat 1 d = 0 ∨ up1 bt (aZ (be p - be q)).toNat 1 d = 1) ∧ (up1 bt (aZ (be p - be q)).toNat 1 d = 1 ↔ bm d = 1 ∨ ∃ u : Nat, q ≤ u ∧ u < p ∧ isP sz u ∧ K u = K p ∧ aZ (be p - be u) = (d : Int)) := by
  intro d
  by_cases hd : d = (aZ (be p - be q)).toNat
  · subst hd
    rw [up1_s]
    exact ⟨Or.inr rfl, ⟨fun _ => Or.inr ⟨q, Nat.le_refl _, h2, h3, h4, by omega⟩, fun _ => rfl⟩⟩
  · rw [up1_n hd]
    refine ⟨(hbt d).1, (hbt d).2.trans ⟨fun h => ?_, fun h => ?_⟩⟩
    · rcases h with h | ⟨u, a1, a2⟩
      · exact Or.inl h
      · exact Or.inr ⟨u, by omega, a2⟩
    · rcases h with h | ⟨u, a1, a2, a3, a4, a5⟩
      · exact Or.inl h
      · refine Or.inr ⟨u, ?_, a2, a3, a4, a5⟩
        rcases Nat.lt_or_ge u b with c | c
        · exfalso
          rcases Nat.lt_or_ge q u with e | e
          · exact h5 u e c a3 a4
          · have : u = q := by omega
            subst this
            omega
        · exact c
end
section
set_option maxRecDepth 100000 in
set_option maxHeartbeats 4000000 in
theorem ct_J7_fill_53178 (w : WLD) (M : Mem) (h L : Nat) (z : Int) (hh : h < 44) (hrow : ∀ f : Nat → Int, cellOf (wI w) (wZ w) (wa w) h f = rowI (wI w) L f) (hL : L < 2147483648) : CtV w yJ7_fill_53178 cJ7_fill_53178 4 rm_J7_fill_53178 [.ref (wa w h), .int (iZ z)] M (fun M1 => M1 = ups M h (fil L z (M h))) := by
  refine CtV.of (by decide) (Nat.le_of_ble_eq_true rfl) rfl rfl ?_
  intro k hkL C RT
  show WW w k 0 [(0, .ref (wa w h)), (1, .int (iZ z))] [] M
  refine ww_iconst C dJ7_fill_53178_0 ?_
  refine ww_istore_n C dJ7_fill_53178_1 (lv' := [(2, .int (iZ 0)), (0, .ref (wa w h)), (1, .int (iZ z))]) (by rw [hkL]; decide) rfl ?_
  refine ww_aload_n C dJ7_fill_53178_2 1 rfl ?_
  refine ww_alen C h hh (hrow _) dJ7_fill_53178_3 ?_
  refine ww_istore_n C dJ7_fill_53178_4 (lv' := [(3, .int (iZ ((L : Nat) : Int))), (2, .int (iZ 0)), (0, .ref (wa w h)), (1, .int (iZ z))]) (by rw [hkL]; decide) rfl ?_
  have L_5 : ∀ (fuel : Nat) (t : Nat) (ht : t ≤ L), L - t < fuel → WW w k 5 [(0, .ref (wa w h)), (1, .int (iZ z)), (2, .int (iZ ((t : Nat) : Int))), (3, .int (iZ ((L : Nat) : Int)))] [] (ups M h (fil t z (M h))) := by
    intro fuel
    induction fuel with
    | zero => intro t ht hf_5; exact absurd hf_5 (Nat.not_lt_zero _)
    | succ fuel ih_5 =>
      intro t ht hf_5
      refine ww_iload_n C dJ7_fill_53178_5 2 rfl ?_
      refine ww_iload_n C dJ7_fill_53178_6 3 rfl ?_
      refine ww_icmp_ge C 20 dJ7_fill_53178_7 (by decide) (by omega) (by omega) (fun c_7 => ?_) (fun c_7 => ?_)
      · exact RT _ _ _ dJ7_fill_53178_20 (by rw [show t = L by omega])
      · refine ww_aload_n C dJ7_fill_53178_10 0 rfl ?_
        refine ww_iload_n C dJ7_fill_53178_11 2 rfl ?_
        refine ww_iload_n C dJ7_fill_53178_12 1 rfl ?_
        refine as_gen C hh hrow hL t rfl (by omega) dJ7_fill_53178_13 ?_
        refine ww_mem (M1 := ups M h (fil (t + 1) z (M h))) (by rw [ups_ups, ups_s, fil_s]) ?_
        refine ww_iinc2 C dJ7_fill_53178_14 2 rfl (b := ((t + 1 : Nat) : Int)) (by omega) (lv' := [(2, .int (iZ ((t + 1 : Nat) : Int))), (0, .ref (wa w h)), (1, .int (iZ z)), (3, .int (iZ ((L : Nat) : Int)))]) (by rw [hkL]; decide) rfl ?_
        refine ww_goto C 5 dJ7_fill_53178_17 (by decide) ?_
        refine ww_sub [1, 2, 0, 3] rfl ?_
        exact ih_5 (t + 1) (by omega) (by omega)
  refine ww_sub [2, 3, 1, 0] rfl ?_
  refine ww_mem (M1 := ups M h (fil 0 z (M h))) (by rw [fil_0, ups_id]) ?_
  exact L_5 _ 0 (by omega) (Nat.lt_succ_self _)
set_option maxRecDepth 100000 in
set_option maxHeartbeats 4000000 in
theorem ct_X4_has (w : WLD) (M : Mem) (v : Int) (hv : R32 v) (hn : R32 (M 1 3)) : CtI w yX4_has cX4_has 2 (some .boolean) rm_X4_has [.ref (wa w 1), .int (iZ v)] M (fun z M1 => z = b2i (0 ≤ v ∧ v < M 1 3) ∧ M1 = M) := by
  refine CtI.ofZ (by decide) (Nat.le_of_ble_eq_true rfl) rfl rfl (fun z M9 h9 => by rw [h9.1]; exact b2i_01 _) ?_
  intro k hkL C RT
  show WW w k 0 [(0, .ref (wa w 1)), (1, .int (iZ v))] [] M
  refine ww_iload_n C dX4_has_0 1 rfl ?_
  refine ww_if_lt C 16 dX4_has_1 (by decide) (by omega) (fun c_1 => ?_) (fun c_1 => ?_)
  · refine ww_iconst C dX4_has_16 ?_
    exact RT _ _ _ _ dX4_has_17 (⟨by first | exact (b2i_t (by omega)).symm | exact (b2i_f (by omega)).symm, rfl⟩)
  · refine ww_iload_n C dX4_has_4 1 rfl ?_
    refine ww_aload_n C dX4_has_5 0 rfl ?_
    refine gt_X4_22 C dX4_has_6 ?_
    refine ww_icmp_ge C 16 dX4_has_9 (by decide) (by omega) (by omega) (fun c_9 => ?_) (fun c_9 => ?_)
    · refine ww_iconst C dX4_has_16 ?_
      exact RT _ _ _ _ dX4_has_17 (⟨by first | exact (b2i_t (by omega)).symm | exact (b2i_f (by omega)).symm, rfl⟩)
    · refine ww_iconst C dX4_has_12 ?_
      refine ww_goto C 17 dX4_has_13 (by decide) ?_
      exact RT _ _ _ _ dX4_has_17 (⟨by first | exact (b2i_t (by omega)).symm | exact (b2i_f (by omega)).symm, rfl⟩)
set_option maxRecDepth 100000 in
set_option maxHeartbeats 4000000 in
theorem ct_X4_codeOf (w : WLD) (M : Mem) (i j k0 : Int) (hi : R32 i) (hj : R32 j) (hk : R32 k0) (hs : SzOk (M 2)) : CtI w yX4_codeOf cX4_codeOf 4 (some .int) rm_X4_codeOf [.ref (wa w 1), .int (iZ i), .int (iZ j), .int (iZ k0)] M (fun z M1 => z = codeZ (M 2) i j k0 ∧ M1 = M) := by
  refine CtI.of (by decide) (Nat.le_of_ble_eq_true rfl) rfl rfl ?_
  intro k hkL C RT
  show WW w k 0 [(0, .ref (wa w 1)), (1, .int (iZ i)), (2, .int (iZ j)), (3, .int (iZ k0))] [] M
  refine ww_iload_n C dX4_codeOf_0 1 rfl ?_
  refine ww_if_lt C 42 dX4_codeOf_1 (by decide) (by omega) (fun c_1 => ?_) (fun c_1 => ?_)
  · refine ww_iconst C dX4_codeOf_42 ?_
    exact RT _ _ _ _ dX4_codeOf_43 (⟨by unfold codeZ; split <;> omega, rfl⟩)
  · refine ww_iload_n C dX4_codeOf_4 1 rfl ?_
    refine ww_aload_n C dX4_codeOf_5 0 rfl ?_
    refine gt_X4_9 C dX4_codeOf_6 ?_
    refine ww_iconst C dX4_codeOf_9 ?_
    refine al_2 C 0 (z := M 2 0) rfl (by omega) rfl dX4_codeOf_10 ?_
    refine ww_icmp_ge C 42 dX4_codeOf_11 (by decide) (by omega) (by omega) (fun c_11 => ?_) (fun c_11 => ?_)
    · refine ww_iconst C dX4_codeOf_42 ?_
      exact RT _ _ _ _ dX4_codeOf_43 (⟨by unfold codeZ; split <;> omega, rfl⟩)
    · refine ww_iload_n C dX4_codeOf_14 2 rfl ?_
      refine ww_if_lt C 42 dX4_codeOf_15 (by decide) (by omega) (fun c_15 => ?_) (fun c_15 => ?_)
      · refine ww_iconst C dX4_codeOf_42 ?_
        exact RT _ _ _ _ dX4_codeOf_43 (⟨by unfold codeZ; split <;> omega, rfl⟩)
      · refine ww_iload_n C dX4_codeOf_18 2 rfl ?_
        refine ww_aload_n C dX4_codeOf_19 0 rfl ?_
        refine gt_X4_9 C dX4_codeOf_20 ?_
        refine ww_iconst C dX4_codeOf_23 ?_
        refine al_2 C 1 (z := M 2 1) rfl (by omega) rfl dX4_codeOf_24 ?_
        refine ww_icmp_ge C 42 dX4_codeOf_25 (by decide) (by omega) (by omega) (fun c_25 => ?_) (fun c_25 => ?_)
        · refine ww_iconst C dX4_codeOf_42 ?_
          exact RT _ _ _ _ dX4_codeOf_43 (⟨by unfold codeZ; split <;> omega, rfl⟩)
        · refine ww_iload_n C dX4_codeOf_28 3 rfl ?_
          refine ww_if_lt C 42 dX4_codeOf_29 (by decide) (by omega) (fun c_29 => ?_) (fun c_29 => ?_)
          · refine ww_iconst C dX4_codeOf_42 ?_
            exact RT _ _ _ _ dX4_codeOf_43 (⟨by unfold codeZ; split <;> omega, rfl⟩)
          · refine ww_iload_n C dX4_codeOf_32 3 rfl ?_
            refine ww_aload_n C dX4_codeOf_33 0 rfl ?_
            refine gt_X4_9 C dX4_codeOf_34 ?_
            refine ww_iconst C dX4_codeOf_37 ?_
            refine al_2 C 2 (z := M 2 2) rfl (by omega) rfl dX4_codeOf_38 ?_
            refine ww_icmp_lt C 44 dX4_codeOf_39 (by decide) (by omega) (by omega) (fun c_39 => ?_) (fun c_39 => ?_)
            · refine ww_bipush C dX4_codeOf_44 (by decide) ?_
              refine ww_iload_n C dX4_codeOf_46 1 rfl ?_
              refine ww_imul C dX4_codeOf_47 ?_
              refine ww_bipush C dX4_codeOf_48 (by decide) ?_
              refine ww_iload_n C dX4_codeOf_50 2 rfl ?_
              refine ww_imul C dX4_codeOf_51 ?_
              refine ww_iadd C dX4_codeOf_52 ?_
              refine ww_iload_n C dX4_codeOf_53 3 rfl ?_
              refine ww_iadd C dX4_codeOf_54 ?_
              exact RT _ _ _ _ dX4_codeOf_55 (⟨by unfold codeZ; split <;> omega, rfl⟩)
            · refine ww_iconst C dX4_codeOf_42 ?_
              exact RT _ _ _ _ dX4_codeOf_43 (⟨by unfold codeZ; split <;> omega, rfl⟩)
set_option maxRecDepth 100000 in
set_option maxHeartbeats 4000000 in
theorem ct_X4_isNeeded (w : WLD) (M : Mem) (v : Nat) (hv : v < 4) (hs : SzOk (M 2)) (hst : StOk (M 4)) : CtI w yX4_isNeeded cX4_isNeeded 3 (some .boolean) rm_X4_isNeeded [.ref (wa w 1), .int (iZ ((v : Nat) : Int))] M (fun z M1 => z = b2i (needP (M 2) (M 4) v) ∧ M1 = M) := by
  refine CtI.ofZ (by decide) (Nat.le_of_ble_eq_true rfl) rfl rfl (fun z M9 h9 => by rw [h9.1]; exact b2i_01 _) ?_
  intro k hkL C RT
  have hst0 := hst (3 * v) (by omega)
  have hst1 := hst (3 * v + 1) (by omega)
  have hst2 := hst (3 * v + 2) (by omega)
  have ha0 := aZ_b hst0.1 hst0.2
  have ha1 := aZ_b hst1.1 hst1.2
  have ha2 := aZ_b hst2.1 hst2.2
  show WW w k 0 [(0, .ref (wa w 1)), (1, .int (iZ ((v : Nat) : Int)))] [] M
  refine ww_iconst C dX4_isNeeded_0 ?_
  refine ww_istore_n C dX4_isNeeded_1 (lv' := [(2, .int (iZ 0)), (0, .ref (wa w 1)), (1, .int (iZ ((v : Nat) : Int)))]) (by rw [hkL]; decide) rfl ?_
  refine ww_iload_n C dX4_isNeeded_2 0 rfl ?_
  refine ww_iconst C dX4_isNeeded_3 ?_
  refine ww_icmp_ge C 37 dX4_isNeeded_4 (by decide) (by omega) (by omega) (fun c_4 => ?_) (fun c_4 => ?_)
  · exact absurd c_4 (by decide)
  · refine ww_aload_n C dX4_isNeeded_7 1 rfl ?_
    refine gt_X4_25 C dX4_isNeeded_8 ?_
    refine ww_iconst C dX4_isNeeded_11 ?_
    refine ww_iload_n C dX4_isNeeded_12 2 rfl ?_
    refine ww_imul C dX4_isNeeded_13 ?_
    refine ww_iload_n C dX4_isNeeded_14 0 rfl ?_
    refine ww_iadd C dX4_isNeeded_15 ?_
    refine al_4 C (3 * v) (z := M 4 (3 * v)) (by omega) (by omega) rfl dX4_isNeeded_16 ?_
    refine ww_abs C ml_X4_61 (by omega) (by decide) (Nat.le_of_ble_eq_true rfl) dX4_isNeeded_17 ?_
    refine ww_aload_n C dX4_isNeeded_20 1 rfl ?_
    refine gt_X4_9 C dX4_isNeeded_21 ?_
    refine ww_iload_n C dX4_isNeeded_24 0 rfl ?_
    refine al_2 C 0 (z := M 2 0) rfl (by omega) rfl dX4_isNeeded_25 ?_
    refine ww_icmp_lt C 31 dX4_isNeeded_26 (by decide) (by omega) (by omega) (fun c_26 => ?_) (fun c_26 => ?_)
    · refine ww_iinc2 C dX4_isNeeded_31 0 rfl (b := 1) (by omega) (lv' := [(2, .int (iZ 1)), (0, .ref (wa w 1)), (1, .int (iZ ((v : Nat) : Int)))]) (by rw [hkL]; decide) rfl ?_
      refine ww_goto C 2 dX4_isNeeded_34 (by decide) ?_
      refine ww_iload_n C dX4_isNeeded_2 0 rfl ?_
      refine ww_iconst C dX4_isNeeded_3 ?_
      refine ww_icmp_ge C 37 dX4_isNeeded_4 (by decide) (by omega) (by omega) (fun c_4 => ?_) (fun c_4 => ?_)
      · exact absurd c_4 (by decide)
      · refine ww_aload_n C dX4_isNeeded_7 1 rfl ?_
        refine gt_X4_25 C dX4_isNeeded_8 ?_
        refine ww_iconst C dX4_isNeeded_11 ?_
        refine ww_iload_n C dX4_isNeeded_12 2 rfl ?_
        refine ww_imul C dX4_isNeeded_13 ?_
        refine ww_iload_n C dX4_isNeeded_14 0 rfl ?_
        refine ww_iadd C dX4_isNeeded_15 ?_
        refine al_4 C (3 * v + 1) (z := M 4 (3 * v + 1)) (by omega) (by omega) rfl dX4_isNeeded_16 ?_
        refine ww_abs C ml_X4_61 (by omega) (by decide) (Nat.le_of_ble_eq_true rfl) dX4_isNeeded_17 ?_
        refine ww_aload_n C dX4_isNeeded_20 1 rfl ?_
        refine gt_X4_9 C dX4_isNeeded_21 ?_
        refine ww_iload_n C dX4_isNeeded_24 0 rfl ?_
        refine al_2 C 1 (z := M 2 1) rfl (by omega) rfl dX4_isNeeded_25 ?_
        refine ww_icmp_lt C 31 dX4_isNeeded_26 (by decide) (by omega) (by omega) (fun c_26 => ?_) (fun c_26 => ?_)
        · refine ww_iinc2 C dX4_isNeeded_31 0 rfl (b := 2) (by omega) (lv' := [(2, .int (iZ 2)), (0, .ref (wa w 1)), (1, .int (iZ ((v : Nat) : Int)))]) (by rw [hkL]; decide) rfl ?_
          refine ww_goto C 2 dX4_isNeeded_34 (by decide) ?_
          refine ww_iload_n C dX4_isNeeded_2 0 rfl ?_
          refine ww_iconst C dX4_isNeeded_3 ?_
          refine ww_icmp_ge C 37 dX4_isNeeded_4 (by decide) (by omega) (by omega) (fun c_4 => ?_) (fun c_4 => ?_)
          · exact absurd c_4 (by decide)
          · refine ww_aload_n C dX4_isNeeded_7 1 rfl ?_
            refine gt_X4_25 C dX4_isNeeded_8 ?_
            refine ww_iconst C dX4_isNeeded_11 ?_
            refine ww_iload_n C dX4_isNeeded_12 2 rfl ?_
            refine ww_imul C dX4_isNeeded_13 ?_
            refine ww_iload_n C dX4_isNeeded_14 0 rfl ?_
            refine ww_iadd C dX4_isNeeded_15 ?_
            refine al_4 C (3 * v + 2) (z := M 4 (3 * v + 2)) (by omega) (by omega) rfl dX4_isNeeded_16 ?_
            refine ww_abs C ml_X4_61 (by omega) (by decide) (Nat.le_of_ble_eq_true rfl) dX4_isNeeded_17 ?_
            refine ww_aload_n C dX4_isNeeded_20 1 rfl ?_
            refine gt_X4_9 C dX4_isNeeded_21 ?_
            refine ww_iload_n C dX4_isNeeded_24 0 rfl ?_
            refine al_2 C 2 (z := M 2 2) rfl (by omega) rfl dX4_isNeeded_25 ?_
            refine ww_icmp_lt C 31 dX4_isNeeded_26 (by decide) (by omega) (by omega) (fun c_26 => ?_) (fun c_26 => ?_)
            · refine ww_iinc2 C dX4_isNeeded_31 0 rfl (b := 3) (by omega) (lv' := [(2, .int (iZ 3)), (0, .ref (wa w 1)), (1, .int (iZ ((v : Nat) : Int)))]) (by rw [hkL]; decide) rfl ?_
              refine ww_goto C 2 dX4_isNeeded_34 (by decide) ?_
              refine ww_iload_n C dX4_isNeeded_2 0 rfl ?_
              refine ww_iconst C dX4_isNeeded_3 ?_
              refine ww_icmp_ge C 37 dX4_isNeeded_4 (by decide) (by omega) (by omega) (fun c_4 => ?_) (fun c_4 => ?_)
              · refine ww_iconst C dX4_isNeeded_37 ?_
                exact RT _ _ _ _ dX4_isNeeded_38 (⟨by first | exact (b2i_t (by omega)).symm | exact (b2i_f (by omega)).symm, rfl⟩)
              · exact absurd c_4 (by decide)
            · refine ww_iconst C dX4_isNeeded_29 ?_
              exact RT _ _ _ _ dX4_isNeeded_30 (⟨by first | exact (b2i_t (by omega)).symm | exact (b2i_f (by omega)).symm, rfl⟩)
        · refine ww_iconst C dX4_isNeeded_29 ?_
          exact RT _ _ _ _ dX4_isNeeded_30 (⟨by first | exact (b2i_t (by omega)).symm | exact (b2i_f (by omega)).symm, rfl⟩)
    · refine ww_iconst C dX4_isNeeded_29 ?_
      exact RT _ _ _ _ dX4_isNeeded_30 (⟨by first | exact (b2i_t (by omega)).symm | exact (b2i_f (by omega)).symm, rfl⟩)
set_option maxRecDepth 100000 in
set_option maxHeartbeats 4000000 in
theorem ct_X4_stepped (w : WLD) (M : Mem) (v p : Nat) (sg : Int) (hv : v < 4) (hp : p < 512) (hsg : sg = 1 ∨ sg = -1) (hs : SzOk (M 2)) (hst : StOk (M 4)) : CtI w yX4_stepped cX4_stepped 7 (some .int) rm_X4_stepped [.ref (wa w 1), .int (iZ ((v : Nat) : Int)), .int (iZ ((p : Nat) : Int)), .int (iZ sg)] M (fun z M1 => z = stepZ (M 2) (M 4) v p sg ∧ M1 = M) := by
  refine CtI.of (by decide) (Nat.le_of_ble_eq_true rfl) rfl rfl ?_
  intro k hkL C RT
  have hst0 := hst (3 * v) (by omega)
  have hst1 := hst (3 * v + 1) (by omega)
  have hst2 := hst (3 * v + 2) (by omega)
  have e0 : R32 (sg * M 4 (3 * v)) ∧ -2 ≤ sg * M 4 (3 * v) ∧ sg * M 4 (3 * v) ≤ 2 := by rcases hsg with rfl | rfl <;> omega
  have e1 : R32 (sg * M 4 (3 * v + 1)) ∧ -2 ≤ sg * M 4 (3 * v + 1) ∧ sg * M 4 (3 * v + 1) ≤ 2 := by rcases hsg with rfl | rfl <;> omega
  have e2 : R32 (sg * M 4 (3 * v + 2)) ∧ -2 ≤ sg * M 4 (3 * v + 2) ∧ sg * M 4 (3 * v + 2) ≤ 2 := by rcases hsg with rfl | rfl <;> omega
  show WW w k 0 [(0, .ref (wa w 1)), (1, .int (iZ ((v : Nat) : Int))), (2, .int (iZ ((p : Nat) : Int))), (3, .int (iZ sg))] [] M
  refine ww_iload_n C dX4_stepped_0 2 rfl ?_
  refine ww_bipush C dX4_stepped_1 (by decide) ?_
  refine ww_ishr6 C dX4_stepped_3 p rfl (by omega) ?_
  refine ww_iload_n C dX4_stepped_4 3 rfl ?_
  refine ww_aload_n C dX4_stepped_5 0 rfl ?_
  refine gt_X4_25 C dX4_stepped_6 ?_
  refine ww_iconst C dX4_stepped_9 ?_
  refine ww_iload_n C dX4_stepped_10 1 rfl ?_
  refine ww_imul C dX4_stepped_11 ?_
  refine al_4 C (3 * v) (z := M 4 (3 * v)) (by omega) (by omega) rfl dX4_stepped_12 ?_
  refine ww_imul C dX4_stepped_13 ?_
  refine ww_iadd C dX4_stepped_14 ?_
  refine ww_istore C dX4_stepped_15 (lv' := [(4, .int (iZ (((p / 64 : Nat) : Int) + (sg * (M 4 (3 * v)))))), (0, .ref (wa w 1)), (1, .int (iZ ((v : Nat) : Int))), (2, .int (iZ ((p : Nat) : Int))), (3, .int (iZ sg))]) (by rw [hkL]; decide) rfl ?_
  refine ww_iload_n C dX4_stepped_17 3 rfl ?_
  refine ww_iconst C dX4_stepped_18 ?_
  refine ww_ishr3 C dX4_stepped_19 p rfl (by omega) ?_
  refine ww_bipush C dX4_stepped_20 (by decide) ?_
  refine ww_iand7 C dX4_stepped_22 (p / 8) rfl (by omega) ?_
  refine ww_iload_n C dX4_stepped_23 4 rfl ?_
  refine ww_aload_n C dX4_stepped_24 1 rfl ?_
  refine gt_X4_25 C dX4_stepped_25 ?_
  refine ww_iconst C dX4_stepped_28 ?_
  refine ww_iload_n C dX4_stepped_29 2 rfl ?_
  refine ww_imul C dX4_stepped_30 ?_
  refine ww_iconst C dX4_stepped_31 ?_
  refine ww_iadd C dX4_stepped_32 ?_
  refine al_4 C (3 * v + 1) (z := M 4 (3 * v + 1)) (by omega) (by omega) rfl dX4_stepped_33 ?_
  refine ww_imul C dX4_stepped_34 ?_
  refine ww_iadd C dX4_stepped_35 ?_
  refine ww_istore C dX4_stepped_36 (lv' := [(5, .int (iZ ((((p / 8) % 8 : Nat) : Int) + (sg * (M 4 (3 * v + 1)))))), (4, .int (iZ (((p / 64 : Nat) : Int) + (sg * (M 4 (3 * v)))))), (0, .ref (wa w 1)), (1, .int (iZ ((v : Nat) : Int))), (2, .int (iZ ((p : Nat) : Int))), (3, .int (iZ sg))]) (by rw [hkL]; decide) rfl ?_
  refine ww_iload_n C dX4_stepped_38 4 rfl ?_
  refine ww_bipush C dX4_stepped_39 (by decide) ?_
  refine ww_iand7 C dX4_stepped_41 p rfl (by omega) ?_
  refine ww_iload_n C dX4_stepped_42 5 rfl ?_
  refine ww_aload_n C dX4_stepped_43 2 rfl ?_
  refine gt_X4_25 C dX4_stepped_44 ?_
  refine ww_iconst C dX4_stepped_47 ?_
  refine ww_iload_n C dX4_stepped_48 3 rfl ?_
  refine ww_imul C dX4_stepped_49 ?_
  refine ww_iconst C dX4_stepped_50 ?_
  refine ww_iadd C dX4_stepped_51 ?_
  refine al_4 C (3 * v + 2) (z := M 4 (3 * v + 2)) (by omega) (by omega) rfl dX4_stepped_52 ?_
  refine ww_imul C dX4_stepped_53 ?_
  refine ww_iadd C dX4_stepped_54 ?_
  refine ww_istore C dX4_stepped_55 (lv' := [(6, .int (iZ (((p % 8 : Nat) : Int) + (sg * (M 4 (3 * v + 2)))))), (5, .int (iZ ((((p / 8) % 8 : Nat) : Int) + (sg * (M 4 (3 * v + 1)))))), (4, .int (iZ (((p / 64 : Nat) : Int) + (sg * (M 4 (3 * v)))))), (0, .ref (wa w 1)), (1, .int (iZ ((v : Nat) : Int))), (2, .int (iZ ((p : Nat) : Int))), (3, .int (iZ sg))]) (by rw [hkL]; decide) rfl ?_
  refine ww_aload_n C dX4_stepped_57 3 rfl ?_
  refine ww_iload C dX4_stepped_58 2 rfl ?_
  refine ww_iload C dX4_stepped_60 1 rfl ?_
  refine ww_iload C dX4_stepped_62 0 rfl ?_
  refine ww_callV C (As := [.int (iZ (((p / 64 : Nat) : Int) + (sg * (M 4 (3 * v))))), .int (iZ ((((p / 8) % 8 : Nat) : Int) + (sg * (M 4 (3 * v + 1))))), .int (iZ (((p % 8 : Nat) : Int) + (sg * (M 4 (3 * v + 2)))))]) 1 (by decide) (ct_X4_codeOf w M (((p / 64 : Nat) : Int) + (sg * (M 4 (3 * v)))) ((((p / 8) % 8 : Nat) : Int) + (sg * (M 4 (3 * v + 1)))) (((p % 8 : Nat) : Int) + (sg * (M 4 (3 * v + 2)))) (by omega) (by omega) (by omega) (by omega)) mf_X4_codeOf ml_X4_47 rfl rfl (by decide) rfl rfl (Nat.le_of_ble_eq_true rfl) dX4_stepped_64 (fun z_64 M_64 hp_64 => ?_)
  rw [hp_64.1, hp_64.2]
  exact RT _ _ _ _ dX4_stepped_67 (⟨rfl, rfl⟩)
set_option maxRecDepth 100000 in
set_option maxHeartbeats 4000000 in
theorem ct_X4_setAct (w : WLD) (M : Mem) (v : Nat) (a l r : Int) (hv : v < 4) : CtV w yX4_setAct cX4_setAct 5 rm_X4_setAct [.ref (wa w 1), .int (iZ ((v : Nat) : Int)), .int (iZ a), .int (iZ l), .int (iZ r)] M (fun M1 => M1 = ups (ups (ups (ups M 5 (up1 (M 5) v a)) 6 (up1 (M 6) v l)) 7 (up1 (M 7) v r)) 1 (up1 (M 1) 10 0)) := by
  refine CtV.of (by decide) (Nat.le_of_ble_eq_true rfl) rfl rfl ?_
  intro k hkL C RT
  show WW w k 0 [(0, .ref (wa w 1)), (1, .int (iZ ((v : Nat) : Int))), (2, .int (iZ a)), (3, .int (iZ l)), (4, .int (iZ r))] [] M
  refine ww_aload_n C dX4_setAct_0 0 rfl ?_
  refine gt_X4_28 C dX4_setAct_1 ?_
  refine ww_iload_n C dX4_setAct_4 1 rfl ?_
  refine ww_iload_n C dX4_setAct_5 2 rfl ?_
  refine as_5 C v rfl (by omega) dX4_setAct_6 ?_
  refine ww_aload_n C dX4_setAct_7 0 rfl ?_
  refine gt_X4_31 C dX4_setAct_8 ?_
  refine ww_iload_n C dX4_setAct_11 1 rfl ?_
  refine ww_iload_n C dX4_setAct_12 3 rfl ?_
  refine as_6 C v rfl (by omega) dX4_setAct_13 ?_
  refine ww_mem (M1 := ups (ups M 5 (up1 (M 5) v a)) 6 (up1 (M 6) v l)) rfl ?_
  refine ww_aload_n C dX4_setAct_14 0 rfl ?_
  refine gt_X4_34 C dX4_setAct_15 ?_
  refine ww_iload_n C dX4_setAct_18 1 rfl ?_
  refine ww_iload C dX4_setAct_19 4 rfl ?_
  refine as_7 C v rfl (by omega) dX4_setAct_21 ?_
  refine ww_mem (M1 := ups (ups (ups M 5 (up1 (M 5) v a)) 6 (up1 (M 6) v l)) 7 (up1 (M 7) v r)) rfl ?_
  refine ww_aload_n C dX4_setAct_22 0 rfl ?_
  refine ww_iconst C dX4_setAct_23 ?_
  refine pt_X4_43 C (by decide) dX4_setAct_24 ?_
  refine ww_mem (M1 := ups (ups (ups (ups M 5 (up1 (M 5) v a)) 6 (up1 (M 6) v l)) 7 (up1 (M 7) v r)) 1 (up1 (M 1) 10 0)) rfl ?_
  exact RT _ _ _ dX4_setAct_27 (rfl)
set_option maxRecDepth 100000 in
set_option maxHeartbeats 4000000 in
theorem ct_X4_setEdge (w : WLD) (M : Mem) (v p : Nat) (z : Int) (hv : v < 4) (hp : p < 512) : CtV w yX4_setEdge cX4_setEdge 4 rm_X4_setEdge [.ref (wa w 1), .int (iZ ((v : Nat) : Int)), .int (iZ ((p : Nat) : Int)), .int (iZ z)] M (fun M1 => M1 = ups (ups M 8 (up1 (M 8) (512 * v + p) z)) 1 (up1 (M 1) 10 0)) := by
  refine CtV.of (by decide) (Nat.le_of_ble_eq_true rfl) rfl rfl ?_
  intro k hkL C RT
  show WW w k 0 [(0, .ref (wa w 1)), (1, .int (iZ ((v : Nat) : Int))), (2, .int (iZ ((p : Nat) : Int))), (3, .int (iZ z))] [] M
  refine ww_aload_n C dX4_setEdge_0 0 rfl ?_
  refine gt_X4_37 C dX4_setEdge_1 ?_
  refine ww_iload_n C dX4_setEdge_4 1 rfl ?_
  refine ww_sipush C dX4_setEdge_5 (by decide) ?_
  refine ww_imul C dX4_setEdge_8 ?_
  refine ww_iload_n C dX4_setEdge_9 2 rfl ?_
  refine ww_iadd C dX4_setEdge_10 ?_
  refine ww_iload_n C dX4_setEdge_11 3 rfl ?_
  refine as_8 C (512 * v + p) (by omega) (by omega) dX4_setEdge_12 ?_
  refine ww_aload_n C dX4_setEdge_13 0 rfl ?_
  refine ww_iconst C dX4_setEdge_14 ?_
  refine pt_X4_43 C (by decide) dX4_setEdge_15 ?_
  refine ww_mem (M1 := ups (ups M 8 (up1 (M 8) (512 * v + p) z)) 1 (up1 (M 1) 10 0)) rfl ?_
  exact RT _ _ _ dX4_setEdge_18 (rfl)
set_option maxRecDepth 100000 in
set_option maxHeartbeats 4000000 in
theorem ct_X4_addVariable (w : WLD) (M : Mem) (v : Nat) (a b c : Int) (hv : v < 4) (hn : M 1 3 = (v : Int)) : CtI w yX4_addVariable cX4_addVariable 5 (some .int) rm_X4_addVariable [.ref (wa w 1), .int (iZ a), .int (iZ b), .int (iZ c)] M (fun z M1 => z = (v : Int) ∧ M1 = ups (ups (ups (ups (ups M 1 (up1 (up1 (M 1) 3 ((v + 1 : Nat) : Int)) 10 0)) 4 (up1 (up1 (up1 (M 4) (3 * v) a) (3 * v + 1) b) (3 * v + 2) c)) 5 (up1 (M 5) v 0)) 6 (up1 (M 6) v 0)) 7 (up1 (M 7) v 0)) := by
  refine CtI.of (by decide) (Nat.le_of_ble_eq_true rfl) rfl rfl ?_
  intro k hkL C RT
  show WW w k 0 [(0, .ref (wa w 1)), (1, .int (iZ a)), (2, .int (iZ b)), (3, .int (iZ c))] [] M
  refine ww_aload_n C dX4_addVariable_0 0 rfl ?_
  refine gt_X4_22 C dX4_addVariable_1 ?_
  refine ww_top (b := ((v : Nat) : Int)) (hn) ?_
  refine ww_istore C dX4_addVariable_4 (lv' := [(4, .int (iZ ((v : Nat) : Int))), (0, .ref (wa w 1)), (1, .int (iZ a)), (2, .int (iZ b)), (3, .int (iZ c))]) (by rw [hkL]; decide) rfl ?_
  refine ww_aload_n C dX4_addVariable_6 1 rfl ?_
  refine ww_dup C dX4_addVariable_7 rfl ?_
  refine gt_X4_22 C dX4_addVariable_8 ?_
  refine ww_top (b := ((v : Nat) : Int)) (hn) ?_
  refine ww_iconst C dX4_addVariable_11 ?_
  refine ww_iadd C dX4_addVariable_12 ?_
  refine ww_top (b := ((v + 1 : Nat) : Int)) (by omega) ?_
  refine pt_X4_22 C dX4_addVariable_13 ?_
  refine ww_aload_n C dX4_addVariable_16 1 rfl ?_
  refine gt_X4_25 C dX4_addVariable_17 ?_
  refine ww_iconst C dX4_addVariable_20 ?_
  refine ww_iload C dX4_addVariable_21 0 rfl ?_
  refine ww_imul C dX4_addVariable_23 ?_
  refine ww_iload_n C dX4_addVariable_24 2 rfl ?_
  refine as_4 C (3 * v) (by omega) (by omega) dX4_addVariable_25 ?_
  refine ww_mem (M1 := ups (ups M 1 (up1 (M 1) 3 ((v + 1 : Nat) : Int))) 4 (up1 (M 4) (3 * v) a)) rfl ?_
  refine ww_aload_n C dX4_addVariable_26 1 rfl ?_
  refine gt_X4_25 C dX4_addVariable_27 ?_
  refine ww_iconst C dX4_addVariable_30 ?_
  refine ww_iload C dX4_addVariable_31 0 rfl ?_
  refine ww_imul C dX4_addVariable_33 ?_
  refine ww_iconst C dX4_addVariable_34 ?_
  refine ww_iadd C dX4_addVariable_35 ?_
  refine ww_iload_n C dX4_addVariable_36 3 rfl ?_
  refine as_4 C (3 * v + 1) (by omega) (by omega) dX4_addVariable_37 ?_
  refine ww_mem (M1 := ups (ups M 1 (up1 (M 1) 3 ((v + 1 : Nat) : Int))) 4 (up1 (up1 (M 4) (3 * v) a) (3 * v + 1) b)) (ups_ups) ?_
  refine ww_aload_n C dX4_addVariable_38 1 rfl ?_
  refine gt_X4_25 C dX4_addVariable_39 ?_
  refine ww_iconst C dX4_addVariable_42 ?_
  refine ww_iload C dX4_addVariable_43 0 rfl ?_
  refine ww_imul C dX4_addVariable_45 ?_
  refine ww_iconst C dX4_addVariable_46 ?_
  refine ww_iadd C dX4_addVariable_47 ?_
  refine ww_iload_n C dX4_addVariable_48 4 rfl ?_
  refine as_4 C (3 * v + 2) (by omega) (by omega) dX4_addVariable_49 ?_
  refine ww_mem (M1 := ups (ups M 1 (up1 (M 1) 3 ((v + 1 : Nat) : Int))) 4 (up1 (up1 (up1 (M 4) (3 * v) a) (3 * v + 1) b) (3 * v + 2) c)) (ups_ups) ?_
  refine ww_aload_n C dX4_addVariable_50 1 rfl ?_
  refine ww_iload C dX4_addVariable_51 0 rfl ?_
  refine ww_iconst C dX4_addVariable_53 ?_
  refine ww_iconst C dX4_addVariable_54 ?_
  refine ww_iconst C dX4_addVariable_55 ?_
  refine ww_callVV C (As := [.int (iZ ((v : Nat) : Int)), .int (iZ 0), .int (iZ 0), .int (iZ 0)]) 1 (by decide) (ct_X4_setAct w (ups (ups M 1 (up1 (M 1) 3 ((v + 1 : Nat) : Int))) 4 (up1 (up1 (up1 (M 4) (3 * v) a) (3 * v + 1) b) (3 * v + 2) c)) v 0 0 0 (by omega)) mf_X4_setAct ml_X4_57 rfl rfl (by decide) rfl rfl (Nat.le_of_ble_eq_true rfl) dX4_addVariable_56 (fun M_56 hp_56 => ?_)
  rw [hp_56]
  refine ww_mem (M1 := ups (ups (ups (ups (ups M 1 (up1 (up1 (M 1) 3 ((v + 1 : Nat) : Int)) 10 0)) 4 (up1 (up1 (up1 (M 4) (3 * v) a) (3 * v + 1) b) (3 * v + 2) c)) 5 (up1 (M 5) v 0)) 6 (up1 (M 6) v 0)) 7 (up1 (M 7) v 0)) ((ups_comm (by decide)).trans (congrArg (fun X9 => ups X9 7 (up1 (M 7) v 0)) ((ups_comm (by decide)).trans (congrArg (fun X9 => ups X9 6 (up1 (M 6) v 0)) ((ups_comm (by decide)).trans (congrArg (fun X9 => ups X9 5 (up1 (M 5) v 0)) ((ups_comm (by decide)).trans (congrArg (fun X9 => ups X9 4 (up1 (up1 (up1 (M 4) (3 * v) a) (3 * v + 1) b) (3 * v + 2) c)) ups_ups)))))))) ?_
  refine ww_iload C dX4_addVariable_59 0 rfl ?_
  exact RT _ _ _ _ dX4_addVariable_61 (⟨by first | rfl | omega, rfl⟩)
set_option maxRecDepth 100000 in
set_option maxHeartbeats 4000000 in
theorem ct_X4_dropVariables (w : WLD) (M : Mem)  : CtV w yX4_dropVariables cX4_dropVariables 1 rm_X4_dropVariables [.ref (wa w 1)] M (fun M1 => M1 = ups (ups M 1 (up1 (up1 (M 1) 3 0) 10 0)) 8 (fil 2048 0 (M 8))) := by
  refine CtV.of (by decide) (Nat.le_of_ble_eq_true rfl) rfl rfl ?_
  intro k hkL C RT
  show WW w k 0 [(0, .ref (wa w 1))] [] M
  refine ww_aload_n C dX4_dropVariables_0 0 rfl ?_
  refine ww_iconst C dX4_dropVariables_1 ?_
  refine pt_X4_22 C dX4_dropVariables_2 ?_
  refine ww_aload_n C dX4_dropVariables_5 0 rfl ?_
  refine gt_X4_37 C dX4_dropVariables_6 ?_
  refine ww_iconst C dX4_dropVariables_9 ?_
  refine ww_callSV C (As := [.ref (wa w 8), .int (iZ 0)]) (ct_J7_fill_53178 w (ups M 1 (up1 (M 1) 3 0)) 8 2048 0 (by decide) (fun _ => rfl) (by decide)) mf_J7_fill_53178 ml_X4_51 (by decide) rfl rfl (Nat.le_of_ble_eq_true rfl) dX4_dropVariables_10 (fun M_10 hp_10 => ?_)
  rw [hp_10]
  refine ww_mem (M1 := ups (ups M 1 (up1 (M 1) 3 0)) 8 (fil 2048 0 ((ups M 1 (up1 (M 1) 3 0)) 8))) rfl ?_
  refine ww_aload_n C dX4_dropVariables_13 0 rfl ?_
  refine ww_iconst C dX4_dropVariables_14 ?_
  refine pt_X4_43 C (by decide) dX4_dropVariables_15 ?_
  refine ww_mem (M1 := ups (ups M 1 (up1 (up1 (M 1) 3 0) 10 0)) 8 (fil 2048 0 ((ups M 1 (up1 (M 1) 3 0)) 8))) (((ups_comm (by decide)).trans (congrArg (fun X9 => ups X9 8 (fil 2048 0 ((ups M 1 (up1 (M 1) 3 0)) 8))) ups_ups))) ?_
  exact RT _ _ _ dX4_dropVariables_18 (rfl)
set_option maxRecDepth 100000 in
set_option maxHeartbeats 4000000 in
theorem ct_X4_made (w : WLD) (M : Mem) (act own a b : Int) (ha : 0 ≤ act ∧ act ≤ 7) (h1 : R32 own) (h2 : R32 a) (h3 : R32 b) : CtI w yX4_made cX4_made 4 (some .int) rm_X4_made [.int (iZ act), .int (iZ own), .int (iZ a), .int (iZ b)] M (fun z M1 => z = madeZ act own a b ∧ M1 = M) := by
  refine CtI.of (by decide) (Nat.le_of_ble_eq_true rfl) rfl rfl ?_
  intro k hkL C RT
  have q2 := nrm_R (a + b)
  show WW w k 0 [(0, .int (iZ act)), (1, .int (iZ own)), (2, .int (iZ a)), (3, .int (iZ b))] [] M
  refine ww_iload_n C dX4_made_0 0 rfl ?_
  rcases Classical.em (1 ≤ act ∧ act ≤ 7) with ht_1 | ht_1
  · rcases (show act = 1 ∨ act = 2 ∨ act = 3 ∨ act = 4 ∨ act = 5 ∨ act = 6 ∨ act = 7 by omega) with ht_1 | ht_1 | ht_1 | ht_1 | ht_1 | ht_1 | ht_1
    · refine ww_tabIn C 44 1 dX4_made_1 ht_1 (by decide) (by decide) rfl (by decide) ?_
      refine ww_iload_n C dX4_made_44 1 rfl ?_
      refine ww_iload_n C dX4_made_45 2 rfl ?_
      refine ww_iload_n C dX4_made_46 3 rfl ?_
      refine ww_imul C dX4_made_47 ?_
      refine ww_iadd C dX4_made_48 ?_
      refine ww_topI (b := nrm (own + a * b)) ((iZ_nrm _).symm) ?_
      exact RT _ _ _ _ dX4_made_49 (⟨by unfold madeZ; simp [*], rfl⟩)
    · refine ww_tabIn C 50 2 dX4_made_1 ht_1 (by decide) (by decide) rfl (by decide) ?_
      refine ww_iload_n C dX4_made_50 1 rfl ?_
      refine ww_iload_n C dX4_made_51 2 rfl ?_
      refine ww_iload_n C dX4_made_52 3 rfl ?_
      refine ww_iadd C dX4_made_53 ?_
      refine ww_topI (b := nrm (a + b)) ((iZ_nrm _).symm) ?_
      refine ww_min C ml_X4_78 (by omega) (by omega) (by decide) (Nat.le_of_ble_eq_true rfl) dX4_made_54 ?_
      exact RT _ _ _ _ dX4_made_57 (⟨by unfold madeZ; simp [*], rfl⟩)
    · refine ww_tabIn C 58 3 dX4_made_1 ht_1 (by decide) (by decide) rfl (by decide) ?_
      refine ww_iload_n C dX4_made_58 2 rfl ?_
      refine ww_iload_n C dX4_made_59 3 rfl ?_
      refine ww_min C ml_X4_78 (by omega) (by omega) (by decide) (Nat.le_of_ble_eq_true rfl) dX4_made_60 ?_
      exact RT _ _ _ _ dX4_made_63 (⟨by unfold madeZ; simp [*], rfl⟩)
    · refine ww_tabIn C 64 4 dX4_made_1 ht_1 (by decide) (by decide) rfl (by decide) ?_
      refine ww_iload_n C dX4_made_64 2 rfl ?_
      refine ww_iload_n C dX4_made_65 3 rfl ?_
      refine ww_max C ml_X4_82 (by omega) (by omega) (by decide) (Nat.le_of_ble_eq_true rfl) dX4_made_66 ?_
      exact RT _ _ _ _ dX4_made_69 (⟨by unfold madeZ; simp [*], rfl⟩)
    · refine ww_tabIn C 70 5 dX4_made_1 ht_1 (by decide) (by decide) rfl (by decide) ?_
      refine ww_iload_n C dX4_made_70 2 rfl ?_
      refine ww_iload_n C dX4_made_71 3 rfl ?_
      refine ww_iadd C dX4_made_72 ?_
      refine ww_topI (b := nrm (a + b)) ((iZ_nrm _).symm) ?_
      exact RT _ _ _ _ dX4_made_73 (⟨by unfold madeZ; simp [*], rfl⟩)
    · refine ww_tabIn C 74 6 dX4_made_1 ht_1 (by decide) (by decide) rfl (by decide) ?_
      refine ww_iload_n C dX4_made_74 2 rfl ?_
      refine ww_iload_n C dX4_made_75 3 rfl ?_
      refine ww_isub C dX4_made_76 ?_
      refine ww_topI (b := nrm (a - b)) ((iZ_nrm _).symm) ?_
      exact RT _ _ _ _ dX4_made_77 (⟨by unfold madeZ; simp [*], rfl⟩)
    · refine ww_tabIn C 78 7 dX4_made_1 ht_1 (by decide) (by decide) rfl (by decide) ?_
      refine ww_iload_n C dX4_made_78 2 rfl ?_
      refine ww_iload_n C dX4_made_79 3 rfl ?_
      refine ww_ixor C dX4_made_80 ?_
      exact RT _ _ _ _ dX4_made_81 (⟨by unfold madeZ; simp [*], rfl⟩)
  · refine ww_tabOut C 82 dX4_made_1 (by omega) (by omega) (by decide) ?_
    refine ww_iload_n C dX4_made_82 1 rfl ?_
    exact RT _ _ _ _ dX4_made_83 (⟨by unfold madeZ; rw [if_neg (by omega), if_neg (by omega), if_neg (by omega), if_neg (by omega), if_neg (by omega), if_neg (by omega), if_neg (by omega)], rfl⟩)
set_option maxRecDepth 100000 in
set_option maxHeartbeats 4000000 in
theorem ct_X4_comes_9 (w : WLD) (M : Mem) (v p : Nat) (hv : v < 4) (hp : p < 512) (hs : SzOk (M 2)) (hst : StOk (M 4)) : CtI w yX4_comes cX4_comes 5 (some .int) rm_X4_comes [.ref (wa w 1), .ref (wa w 9), .int (iZ ((v : Nat) : Int)), .int (iZ ((p : Nat) : Int))] M (fun z M1 => z = comeZ (M 2) (M 4) (M 8) (M 9) v p ∧ M1 = M) := by
  refine CtI.of (by decide) (Nat.le_of_ble_eq_true rfl) rfl rfl ?_
  intro k hkL C RT
  have hb := stepZ_b (sz := M 2) (st := M 4) (v := v) (p := p) (sg := -1) hs
  show WW w k 0 [(0, .ref (wa w 1)), (1, .ref (wa w 9)), (2, .int (iZ ((v : Nat) : Int))), (3, .int (iZ ((p : Nat) : Int)))] [] M
  refine ww_aload_n C dX4_comes_0 0 rfl ?_
  refine ww_iload_n C dX4_comes_1 2 rfl ?_
  refine ww_iload_n C dX4_comes_2 3 rfl ?_
  refine ww_iconst C dX4_comes_3 ?_
  refine ww_callV C (As := [.int (iZ ((v : Nat) : Int)), .int (iZ ((p : Nat) : Int)), .int (iZ (-1))]) 1 (by decide) (ct_X4_stepped w M v p (-1) (by omega) (by omega) (by omega) (by omega) (by omega)) mf_X4_stepped ml_X4_75 rfl rfl (by decide) rfl rfl (Nat.le_of_ble_eq_true rfl) dX4_comes_4 (fun z_4 M_4 hp_4 => ?_)
  rw [hp_4.1, hp_4.2]
  refine ww_istore C dX4_comes_7 (lv' := [(4, .int (iZ (stepZ ((M 2)) ((M 4)) v p (-1)))), (0, .ref (wa w 1)), (1, .ref (wa w 9)), (2, .int (iZ ((v : Nat) : Int))), (3, .int (iZ ((p : Nat) : Int)))]) (by rw [hkL]; decide) rfl ?_
  refine ww_iload C dX4_comes_9 0 rfl ?_
  refine ww_iconst C dX4_comes_11 ?_
  refine ww_icmp_ne C 30 dX4_comes_12 (by decide) (by omega) (by omega) (fun c_12 => ?_) (fun c_12 => ?_)
  · refine ww_aload_n C dX4_comes_30 2 rfl ?_
    refine ww_iload_n C dX4_comes_31 3 rfl ?_
    refine ww_sipush C dX4_comes_32 (by decide) ?_
    refine ww_imul C dX4_comes_35 ?_
    refine ww_iload C dX4_comes_36 0 rfl ?_
    refine ww_iadd C dX4_comes_38 ?_
    refine al_9 C (512 * v + (stepZ (M 2) (M 4) v p (-1)).toNat) (z := M 9 (512 * v + (stepZ (M 2) (M 4) v p (-1)).toNat)) (by omega) (by omega) rfl dX4_comes_39 ?_
    exact RT _ _ _ _ dX4_comes_40 (⟨by unfold comeZ; first | exact (if_pos (by omega)).symm | exact (if_neg (by omega)).symm, rfl⟩)
  · refine ww_aload_n C dX4_comes_15 1 rfl ?_
    refine gt_X4_37 C dX4_comes_16 ?_
    refine ww_iload_n C dX4_comes_19 3 rfl ?_
    refine ww_sipush C dX4_comes_20 (by decide) ?_
    refine ww_imul C dX4_comes_23 ?_
    refine ww_iload_n C dX4_comes_24 4 rfl ?_
    refine ww_iadd C dX4_comes_25 ?_
    refine al_8 C (512 * v + p) (z := M 8 (512 * v + p)) (by omega) (by omega) rfl dX4_comes_26 ?_
    refine ww_goto C 40 dX4_comes_27 (by decide) ?_
    exact RT _ _ _ _ dX4_comes_40 (⟨by unfold comeZ; first | exact (if_pos (by omega)).symm | exact (if_neg (by omega)).symm, rfl⟩)
set_option maxRecDepth 100000 in
set_option maxHeartbeats 4000000 in
theorem ct_X4_workPoint_9 (w : WLD) (M : Mem) (nv p : Nat) (hp : p < 512) (hnv : M 1 3 = (nv : Int)) (hn4 : nv ≤ 4) (hs : SzOk (M 2)) (hst : StOk (M 4)) (hac : ∀ v : Nat, v < nv → 0 ≤ M 5 v ∧ M 5 v ≤ 7) (hlf : ∀ v : Nat, v < nv → 0 ≤ M 6 v ∧ M 6 v < nv) (hrt : ∀ v : Nat, v < nv → 0 ≤ M 7 v ∧ M 7 v < nv) (hed : ∀ q : Nat, R32 (M 8 q)) (har : ∀ q : Nat, R32 (M 9 q)) : CtV w yX4_workPoint cX4_workPoint 7 rm_X4_workPoint [.ref (wa w 1), .ref (wa w 9), .int (iZ ((p : Nat) : Int))] M (fun M1 => M1 = ups M 9 (wkA (M 2) (M 4) (M 5) (M 6) (M 7) (M 8) (M 9) p nv)) := by
  refine CtV.of (by decide) (Nat.le_of_ble_eq_true rfl) rfl rfl ?_
  intro k hkL C RT
  show WW w k 0 [(0, .ref (wa w 1)), (1, .ref (wa w 9)), (2, .int (iZ ((p : Nat) : Int)))] [] M
  refine ww_iconst C dX4_workPoint_0 ?_
  refine ww_istore_n C dX4_workPoint_1 (lv' := [(3, .int (iZ 0)), (0, .ref (wa w 1)), (1, .ref (wa w 9)), (2, .int (iZ ((p : Nat) : Int)))]) (by rw [hkL]; decide) rfl ?_
  have L_2 : ∀ (fuel : Nat) (t : Nat) (ht : t ≤ nv), nv - t < fuel → WW w k 2 [(0, .ref (wa w 1)), (1, .ref (wa w 9)), (2, .int (iZ ((p : Nat) : Int))), (3, .int (iZ ((t : Nat) : Int)))] [] (ups M 9 (wkA (M 2) (M 4) (M 5) (M 6) (M 7) (M 8) (M 9) p t)) := by
    intro fuel
    induction fuel with
    | zero => intro t ht hf_2; exact absurd hf_2 (Nat.not_lt_zero _)
    | succ fuel ih_2 =>
      intro t ht hf_2
      have har2 : ∀ q : Nat, R32 (wkA (M 2) (M 4) (M 5) (M 6) (M 7) (M 8) (M 9) p t q) := wkA_R hed har t
      have hc : ∀ v : Nat, R32 (comeZ (M 2) (M 4) (M 8) (wkA (M 2) (M 4) (M 5) (M 6) (M 7) (M 8) (M 9) p t) v p) := fun v => comeZ_R hed har2
      have hlf1 := hlf t
      have hrt1 := hrt t
      have hac1 := hac t
      refine ww_iload_n C dX4_workPoint_2 3 rfl ?_
      refine ww_aload_n C dX4_workPoint_3 0 rfl ?_
      refine gt_X4_22 C dX4_workPoint_4 ?_
      refine ww_top (b := ((nv : Nat) : Int)) (hnv) ?_
      refine ww_icmp_ge C 77 dX4_workPoint_7 (by decide) (by omega) (by omega) (fun c_7 => ?_) (fun c_7 => ?_)
      · exact RT _ _ _ dX4_workPoint_77 (by rw [show t = nv by omega])
      · refine ww_aload_n C dX4_workPoint_10 0 rfl ?_
        refine ww_aload_n C dX4_workPoint_11 1 rfl ?_
        refine ww_iload_n C dX4_workPoint_12 3 rfl ?_
        refine ww_iload_n C dX4_workPoint_13 2 rfl ?_
        refine ww_callV C (As := [.ref (wa w 9), .int (iZ ((t : Nat) : Int)), .int (iZ ((p : Nat) : Int))]) 1 (by decide) (ct_X4_comes_9 w (ups M 9 (wkA (M 2) (M 4) (M 5) (M 6) (M 7) (M 8) (M 9) p t)) t p (by omega) (by omega) (hs) (hst)) mf_X4_comes ml_X4_67 rfl rfl (by decide) rfl rfl (Nat.le_of_ble_eq_true rfl) dX4_workPoint_14 (fun z_14 M_14 hp_14 => ?_)
        rw [hp_14.1, hp_14.2]
        refine ww_top (b := comeZ ((M 2)) ((M 4)) ((M 8)) ((wkA (M 2) (M 4) (M 5) (M 6) (M 7) (M 8) (M 9) p t)) t p) rfl ?_
        refine ww_istore C dX4_workPoint_17 (lv' := [(4, .int (iZ (comeZ ((M 2)) ((M 4)) ((M 8)) ((wkA (M 2) (M 4) (M 5) (M 6) (M 7) (M 8) (M 9) p t)) t p))), (0, .ref (wa w 1)), (1, .ref (wa w 9)), (2, .int (iZ ((p : Nat) : Int))), (3, .int (iZ ((t : Nat) : Int)))]) (by rw [hkL]; decide) rfl ?_
        refine ww_aload_n C dX4_workPoint_19 1 rfl ?_
        refine ww_aload_n C dX4_workPoint_20 2 rfl ?_
        refine ww_aload_n C dX4_workPoint_21 1 rfl ?_
        refine gt_X4_31 C dX4_workPoint_22 ?_
        refine ww_iload_n C dX4_workPoint_25 4 rfl ?_
        refine al_6 C t (z := (((M 6 t).toNat : Nat) : Int)) rfl (by omega) (show M 6 t = _ from by have := hlf1 (by omega); omega) dX4_workPoint_26 ?_
        refine ww_iload_n C dX4_workPoint_27 3 rfl ?_
        refine ww_callV C (As := [.ref (wa w 9), .int (iZ (((M 6 t).toNat : Nat) : Int)), .int (iZ ((p : Nat) : Int))]) 1 (by decide) (ct_X4_comes_9 w (ups M 9 (wkA (M 2) (M 4) (M 5) (M 6) (M 7) (M 8) (M 9) p t)) ((M 6 t).toNat) p (by have := hlf1 (by omega); omega) (by omega) (hs) (hst)) mf_X4_comes ml_X4_67 rfl rfl (by decide) rfl rfl (Nat.le_of_ble_eq_true rfl) dX4_workPoint_28 (fun z_28 M_28 hp_28 => ?_)
        rw [hp_28.1, hp_28.2]
        refine ww_top (b := comeZ ((M 2)) ((M 4)) ((M 8)) ((wkA (M 2) (M 4) (M 5) (M 6) (M 7) (M 8) (M 9) p t)) ((M 6 t).toNat) p) rfl ?_
        refine ww_istore C dX4_workPoint_31 (lv' := [(5, .int (iZ (comeZ ((M 2)) ((M 4)) ((M 8)) ((wkA (M 2) (M 4) (M 5) (M 6) (M 7) (M 8) (M 9) p t)) ((M 6 t).toNat) p))), (4, .int (iZ (comeZ ((M 2)) ((M 4)) ((M 8)) ((wkA (M 2) (M 4) (M 5) (M 6) (M 7) (M 8) (M 9) p t)) t p))), (0, .ref (wa w 1)), (1, .ref (wa w 9)), (2, .int (iZ ((p : Nat) : Int))), (3, .int (iZ ((t : Nat) : Int)))]) (by rw [hkL]; decide) rfl ?_
        refine ww_aload_n C dX4_workPoint_33 2 rfl ?_
        refine ww_aload_n C dX4_workPoint_34 3 rfl ?_
        refine ww_aload_n C dX4_workPoint_35 2 rfl ?_
        refine gt_X4_34 C dX4_workPoint_36 ?_
        refine ww_iload_n C dX4_workPoint_39 5 rfl ?_
        refine al_7 C t (z := (((M 7 t).toNat : Nat) : Int)) rfl (by omega) (show M 7 t = _ from by have := hrt1 (by omega); omega) dX4_workPoint_40 ?_
        refine ww_iload_n C dX4_workPoint_41 4 rfl ?_
        refine ww_callV C (As := [.ref (wa w 9), .int (iZ (((M 7 t).toNat : Nat) : Int)), .int (iZ ((p : Nat) : Int))]) 1 (by decide) (ct_X4_comes_9 w (ups M 9 (wkA (M 2) (M 4) (M 5) (M 6) (M 7) (M 8) (M 9) p t)) ((M 7 t).toNat) p (by have := hrt1 (by omega); omega) (by omega) (hs) (hst)) mf_X4_comes ml_X4_67 rfl rfl (by decide) rfl rfl (Nat.le_of_ble_eq_true rfl) dX4_workPoint_42 (fun z_42 M_42 hp_42 => ?_)
        rw [hp_42.1, hp_42.2]
        refine ww_top (b := comeZ ((M 2)) ((M 4)) ((M 8)) ((wkA (M 2) (M 4) (M 5) (M 6) (M 7) (M 8) (M 9) p t)) ((M 7 t).toNat) p) rfl ?_
        refine ww_istore C dX4_workPoint_45 (lv' := [(6, .int (iZ (comeZ ((M 2)) ((M 4)) ((M 8)) ((wkA (M 2) (M 4) (M 5) (M 6) (M 7) (M 8) (M 9) p t)) ((M 7 t).toNat) p))), (5, .int (iZ (comeZ ((M 2)) ((M 4)) ((M 8)) ((wkA (M 2) (M 4) (M 5) (M 6) (M 7) (M 8) (M 9) p t)) ((M 6 t).toNat) p))), (4, .int (iZ (comeZ ((M 2)) ((M 4)) ((M 8)) ((wkA (M 2) (M 4) (M 5) (M 6) (M 7) (M 8) (M 9) p t)) t p))), (0, .ref (wa w 1)), (1, .ref (wa w 9)), (2, .int (iZ ((p : Nat) : Int))), (3, .int (iZ ((t : Nat) : Int)))]) (by rw [hkL]; decide) rfl ?_
        refine ww_aload_n C dX4_workPoint_47 4 rfl ?_
        refine ww_iload_n C dX4_workPoint_48 6 rfl ?_
        refine ww_sipush C dX4_workPoint_49 (by decide) ?_
        refine ww_imul C dX4_workPoint_52 ?_
        refine ww_iload_n C dX4_workPoint_53 5 rfl ?_
        refine ww_iadd C dX4_workPoint_54 ?_
        refine ww_aload_n C dX4_workPoint_55 3 rfl ?_
        refine gt_X4_28 C dX4_workPoint_56 ?_
        refine ww_iload_n C dX4_workPoint_59 6 rfl ?_
        refine al_5 C t (z := M 5 t) rfl (by omega) rfl dX4_workPoint_60 ?_
        refine ww_iload C dX4_workPoint_61 2 rfl ?_
        refine ww_iload C dX4_workPoint_63 1 rfl ?_
        refine ww_iload C dX4_workPoint_65 0 rfl ?_
        refine ww_callS C (As := [.int (iZ (M 5 t)), .int (iZ (comeZ ((M 2)) ((M 4)) ((M 8)) ((wkA (M 2) (M 4) (M 5) (M 6) (M 7) (M 8) (M 9) p t)) t p)), .int (iZ (comeZ ((M 2)) ((M 4)) ((M 8)) ((wkA (M 2) (M 4) (M 5) (M 6) (M 7) (M 8) (M 9) p t)) ((M 6 t).toNat) p)), .int (iZ (comeZ ((M 2)) ((M 4)) ((M 8)) ((wkA (M 2) (M 4) (M 5) (M 6) (M 7) (M 8) (M 9) p t)) ((M 7 t).toNat) p))]) (ct_X4_made w (ups M 9 (wkA (M 2) (M 4) (M 5) (M 6) (M 7) (M 8) (M 9) p t)) (M 5 t) (comeZ ((M 2)) ((M 4)) ((M 8)) ((wkA (M 2) (M 4) (M 5) (M 6) (M 7) (M 8) (M 9) p t)) t p) (comeZ ((M 2)) ((M 4)) ((M 8)) ((wkA (M 2) (M 4) (M 5) (M 6) (M 7) (M 8) (M 9) p t)) ((M 6 t).toNat) p) (comeZ ((M 2)) ((M 4)) ((M 8)) ((wkA (M 2) (M 4) (M 5) (M 6) (M 7) (M 8) (M 9) p t)) ((M 7 t).toNat) p) (hac1 (by omega)) (hc _) (hc _) (hc _)) mf_X4_made ml_X4_71 (by decide) rfl rfl (Nat.le_of_ble_eq_true rfl) dX4_workPoint_67 (fun z_67 M_67 hp_67 => ?_)
        rw [hp_67.1, hp_67.2]
        refine ww_top (b := madeZ (M 5 t) (comeZ ((M 2)) ((M 4)) ((M 8)) ((wkA (M 2) (M 4) (M 5) (M 6) (M 7) (M 8) (M 9) p t)) t p) (comeZ ((M 2)) ((M 4)) ((M 8)) ((wkA (M 2) (M 4) (M 5) (M 6) (M 7) (M 8) (M 9) p t)) ((M 6 t).toNat) p) (comeZ ((M 2)) ((M 4)) ((M 8)) ((wkA (M 2) (M 4) (M 5) (M 6) (M 7) (M 8) (M 9) p t)) ((M 7 t).toNat) p)) rfl ?_
        refine as_9 C (512 * t + p) (by omega) (by omega) dX4_workPoint_70 ?_
        refine ww_mem (M1 := ups M 9 (wkA (M 2) (M 4) (M 5) (M 6) (M 7) (M 8) (M 9) p (t + 1))) (by rw [ups_ups]; rfl) ?_
        refine ww_iinc2 C dX4_workPoint_71 6 rfl (b := ((t + 1 : Nat) : Int)) (by omega) (lv' := [(3, .int (iZ ((t + 1 : Nat) : Int))), (6, .int (iZ (comeZ ((M 2)) ((M 4)) ((M 8)) ((wkA (M 2) (M 4) (M 5) (M 6) (M 7) (M 8) (M 9) p t)) ((M 7 t).toNat) p))), (5, .int (iZ (comeZ ((M 2)) ((M 4)) ((M 8)) ((wkA (M 2) (M 4) (M 5) (M 6) (M 7) (M 8) (M 9) p t)) ((M 6 t).toNat) p))), (4, .int (iZ (comeZ ((M 2)) ((M 4)) ((M 8)) ((wkA (M 2) (M 4) (M 5) (M 6) (M 7) (M 8) (M 9) p t)) t p))), (0, .ref (wa w 1)), (1, .ref (wa w 9)), (2, .int (iZ ((p : Nat) : Int)))]) (by rw [hkL]; decide) rfl ?_
        refine ww_goto C 2 dX4_workPoint_74 (by decide) ?_
        refine ww_sub [4, 5, 6, 0] rfl ?_
        exact ih_2 (t + 1) (by omega) (by omega)
  refine ww_sub [1, 2, 3, 0] rfl ?_
  refine ww_mem (M1 := ups M 9 (wkA (M 2) (M 4) (M 5) (M 6) (M 7) (M 8) (M 9) p 0)) ((ups_id (M := M)).symm) ?_
  exact L_2 _ 0 (by omega) (Nat.lt_succ_self _)
set_option maxRecDepth 100000 in
set_option maxHeartbeats 4000000 in
theorem ct_X4_comes_26 (w : WLD) (M : Mem) (v p : Nat) (hv : v < 4) (hp : p < 512) (hs : SzOk (M 2)) (hst : StOk (M 4)) : CtI w yX4_comes cX4_comes 5 (some .int) rm_X4_comes [.ref (wa w 1), .ref (wa w 26), .int (iZ ((v : Nat) : Int)), .int (iZ ((p : Nat) : Int))] M (fun z M1 => z = comeZ (M 2) (M 4) (M 8) (M 26) v p ∧ M1 = M) := by
  refine CtI.of (by decide) (Nat.le_of_ble_eq_true rfl) rfl rfl ?_
  intro k hkL C RT
  have hb := stepZ_b (sz := M 2) (st := M 4) (v := v) (p := p) (sg := -1) hs
  show WW w k 0 [(0, .ref (wa w 1)), (1, .ref (wa w 26)), (2, .int (iZ ((v : Nat) : Int))), (3, .int (iZ ((p : Nat) : Int)))] [] M
  refine ww_aload_n C dX4_comes_0 0 rfl ?_
  refine ww_iload_n C dX4_comes_1 2 rfl ?_
  refine ww_iload_n C dX4_comes_2 3 rfl ?_
  refine ww_iconst C dX4_comes_3 ?_
  refine ww_callV C (As := [.int (iZ ((v : Nat) : Int)), .int (iZ ((p : Nat) : Int)), .int (iZ (-1))]) 1 (by decide) (ct_X4_stepped w M v p (-1) (by omega) (by omega) (by omega) (by omega) (by omega)) mf_X4_stepped ml_X4_75 rfl rfl (by decide) rfl rfl (Nat.le_of_ble_eq_true rfl) dX4_comes_4 (fun z_4 M_4 hp_4 => ?_)
  rw [hp_4.1, hp_4.2]
  refine ww_istore C dX4_comes_7 (lv' := [(4, .int (iZ (stepZ ((M 2)) ((M 4)) v p (-1)))), (0, .ref (wa w 1)), (1, .ref (wa w 26)), (2, .int (iZ ((v : Nat) : Int))), (3, .int (iZ ((p : Nat) : Int)))]) (by rw [hkL]; decide) rfl ?_
  refine ww_iload C dX4_comes_9 0 rfl ?_
  refine ww_iconst C dX4_comes_11 ?_
  refine ww_icmp_ne C 30 dX4_comes_12 (by decide) (by omega) (by omega) (fun c_12 => ?_) (fun c_12 => ?_)
  · refine ww_aload_n C dX4_comes_30 2 rfl ?_
    refine ww_iload_n C dX4_comes_31 3 rfl ?_
    refine ww_sipush C dX4_comes_32 (by decide) ?_
    refine ww_imul C dX4_comes_35 ?_
    refine ww_iload C dX4_comes_36 0 rfl ?_
    refine ww_iadd C dX4_comes_38 ?_
    refine al_26 C (512 * v + (stepZ (M 2) (M 4) v p (-1)).toNat) (z := M 26 (512 * v + (stepZ (M 2) (M 4) v p (-1)).toNat)) (by omega) (by omega) rfl dX4_comes_39 ?_
    exact RT _ _ _ _ dX4_comes_40 (⟨by unfold comeZ; first | exact (if_pos (by omega)).symm | exact (if_neg (by omega)).symm, rfl⟩)
  · refine ww_aload_n C dX4_comes_15 1 rfl ?_
    refine gt_X4_37 C dX4_comes_16 ?_
    refine ww_iload_n C dX4_comes_19 3 rfl ?_
    refine ww_sipush C dX4_comes_20 (by decide) ?_
    refine ww_imul C dX4_comes_23 ?_
    refine ww_iload_n C dX4_comes_24 4 rfl ?_
    refine ww_iadd C dX4_comes_25 ?_
    refine al_8 C (512 * v + p) (z := M 8 (512 * v + p)) (by omega) (by omega) rfl dX4_comes_26 ?_
    refine ww_goto C 40 dX4_comes_27 (by decide) ?_
    exact RT _ _ _ _ dX4_comes_40 (⟨by unfold comeZ; first | exact (if_pos (by omega)).symm | exact (if_neg (by omega)).symm, rfl⟩)
set_option maxRecDepth 100000 in
set_option maxHeartbeats 4000000 in
theorem ct_X4_workPoint_26 (w : WLD) (M : Mem) (nv p : Nat) (hp : p < 512) (hnv : M 1 3 = (nv : Int)) (hn4 : nv ≤ 4) (hs : SzOk (M 2)) (hst : StOk (M 4)) (hac : ∀ v : Nat, v < nv → 0 ≤ M 5 v ∧ M 5 v ≤ 7) (hlf : ∀ v : Nat, v < nv → 0 ≤ M 6 v ∧ M 6 v < nv) (hrt : ∀ v : Nat, v < nv → 0 ≤ M 7 v ∧ M 7 v < nv) (hed : ∀ q : Nat, R32 (M 8 q)) (har : ∀ q : Nat, R32 (M 26 q)) : CtV w yX4_workPoint cX4_workPoint 7 rm_X4_workPoint [.ref (wa w 1), .ref (wa w 26), .int (iZ ((p : Nat) : Int))] M (fun M1 => M1 = ups M 26 (wkA (M 2) (M 4) (M 5) (M 6) (M 7) (M 8) (M 26) p nv)) := by
  refine CtV.of (by decide) (Nat.le_of_ble_eq_true rfl) rfl rfl ?_
  intro k hkL C RT
  show WW w k 0 [(0, .ref (wa w 1)), (1, .ref (wa w 26)), (2, .int (iZ ((p : Nat) : Int)))] [] M
  refine ww_iconst C dX4_workPoint_0 ?_
  refine ww_istore_n C dX4_workPoint_1 (lv' := [(3, .int (iZ 0)), (0, .ref (wa w 1)), (1, .ref (wa w 26)), (2, .int (iZ ((p : Nat) : Int)))]) (by rw [hkL]; decide) rfl ?_
  have L_2 : ∀ (fuel : Nat) (t : Nat) (ht : t ≤ nv), nv - t < fuel → WW w k 2 [(0, .ref (wa w 1)), (1, .ref (wa w 26)), (2, .int (iZ ((p : Nat) : Int))), (3, .int (iZ ((t : Nat) : Int)))] [] (ups M 26 (wkA (M 2) (M 4) (M 5) (M 6) (M 7) (M 8) (M 26) p t)) := by
    intro fuel
    induction fuel with
    | zero => intro t ht hf_2; exact absurd hf_2 (Nat.not_lt_zero _)
    | succ fuel ih_2 =>
      intro t ht hf_2
      have har2 : ∀ q : Nat, R32 (wkA (M 2) (M 4) (M 5) (M 6) (M 7) (M 8) (M 26) p t q) := wkA_R hed har t
      have hc : ∀ v : Nat, R32 (comeZ (M 2) (M 4) (M 8) (wkA (M 2) (M 4) (M 5) (M 6) (M 7) (M 8) (M 26) p t) v p) := fun v => comeZ_R hed har2
      have hlf1 := hlf t
      have hrt1 := hrt t
      have hac1 := hac t
      refine ww_iload_n C dX4_workPoint_2 3 rfl ?_
      refine ww_aload_n C dX4_workPoint_3 0 rfl ?_
      refine gt_X4_22 C dX4_workPoint_4 ?_
      refine ww_top (b := ((nv : Nat) : Int)) (hnv) ?_
      refine ww_icmp_ge C 77 dX4_workPoint_7 (by decide) (by omega) (by omega) (fun c_7 => ?_) (fun c_7 => ?_)
      · exact RT _ _ _ dX4_workPoint_77 (by rw [show t = nv by omega])
      · refine ww_aload_n C dX4_workPoint_10 0 rfl ?_
        refine ww_aload_n C dX4_workPoint_11 1 rfl ?_
        refine ww_iload_n C dX4_workPoint_12 3 rfl ?_
        refine ww_iload_n C dX4_workPoint_13 2 rfl ?_
        refine ww_callV C (As := [.ref (wa w 26), .int (iZ ((t : Nat) : Int)), .int (iZ ((p : Nat) : Int))]) 1 (by decide) (ct_X4_comes_26 w (ups M 26 (wkA (M 2) (M 4) (M 5) (M 6) (M 7) (M 8) (M 26) p t)) t p (by omega) (by omega) (hs) (hst)) mf_X4_comes ml_X4_67 rfl rfl (by decide) rfl rfl (Nat.le_of_ble_eq_true rfl) dX4_workPoint_14 (fun z_14 M_14 hp_14 => ?_)
        rw [hp_14.1, hp_14.2]
        refine ww_top (b := comeZ ((M 2)) ((M 4)) ((M 8)) ((wkA (M 2) (M 4) (M 5) (M 6) (M 7) (M 8) (M 26) p t)) t p) rfl ?_
        refine ww_istore C dX4_workPoint_17 (lv' := [(4, .int (iZ (comeZ ((M 2)) ((M 4)) ((M 8)) ((wkA (M 2) (M 4) (M 5) (M 6) (M 7) (M 8) (M 26) p t)) t p))), (0, .ref (wa w 1)), (1, .ref (wa w 26)), (2, .int (iZ ((p : Nat) : Int))), (3, .int (iZ ((t : Nat) : Int)))]) (by rw [hkL]; decide) rfl ?_
        refine ww_aload_n C dX4_workPoint_19 1 rfl ?_
        refine ww_aload_n C dX4_workPoint_20 2 rfl ?_
        refine ww_aload_n C dX4_workPoint_21 1 rfl ?_
        refine gt_X4_31 C dX4_workPoint_22 ?_
        refine ww_iload_n C dX4_workPoint_25 4 rfl ?_
        refine al_6 C t (z := (((M 6 t).toNat : Nat) : Int)) rfl (by omega) (show M 6 t = _ from by have := hlf1 (by omega); omega) dX4_workPoint_26 ?_
        refine ww_iload_n C dX4_workPoint_27 3 rfl ?_
        refine ww_callV C (As := [.ref (wa w 26), .int (iZ (((M 6 t).toNat : Nat) : Int)), .int (iZ ((p : Nat) : Int))]) 1 (by decide) (ct_X4_comes_26 w (ups M 26 (wkA (M 2) (M 4) (M 5) (M 6) (M 7) (M 8) (M 26) p t)) ((M 6 t).toNat) p (by have := hlf1 (by omega); omega) (by omega) (hs) (hst)) mf_X4_comes ml_X4_67 rfl rfl (by decide) rfl rfl (Nat.le_of_ble_eq_true rfl) dX4_workPoint_28 (fun z_28 M_28 hp_28 => ?_)
        rw [hp_28.1, hp_28.2]
        refine ww_top (b := comeZ ((M 2)) ((M 4)) ((M 8)) ((wkA (M 2) (M 4) (M 5) (M 6) (M 7) (M 8) (M 26) p t)) ((M 6 t).toNat) p) rfl ?_
        refine ww_istore C dX4_workPoint_31 (lv' := [(5, .int (iZ (comeZ ((M 2)) ((M 4)) ((M 8)) ((wkA (M 2) (M 4) (M 5) (M 6) (M 7) (M 8) (M 26) p t)) ((M 6 t).toNat) p))), (4, .int (iZ (comeZ ((M 2)) ((M 4)) ((M 8)) ((wkA (M 2) (M 4) (M 5) (M 6) (M 7) (M 8) (M 26) p t)) t p))), (0, .ref (wa w 1)), (1, .ref (wa w 26)), (2, .int (iZ ((p : Nat) : Int))), (3, .int (iZ ((t : Nat) : Int)))]) (by rw [hkL]; decide) rfl ?_
        refine ww_aload_n C dX4_workPoint_33 2 rfl ?_
        refine ww_aload_n C dX4_workPoint_34 3 rfl ?_
        refine ww_aload_n C dX4_workPoint_35 2 rfl ?_
        refine gt_X4_34 C dX4_workPoint_36 ?_
        refine ww_iload_n C dX4_workPoint_39 5 rfl ?_
        refine al_7 C t (z := (((M 7 t).toNat : Nat) : Int)) rfl (by omega) (show M 7 t = _ from by have := hrt1 (by omega); omega) dX4_workPoint_40 ?_
        refine ww_iload_n C dX4_workPoint_41 4 rfl ?_
        refine ww_callV C (As := [.ref (wa w 26), .int (iZ (((M 7 t).toNat : Nat) : Int)), .int (iZ ((p : Nat) : Int))]) 1 (by decide) (ct_X4_comes_26 w (ups M 26 (wkA (M 2) (M 4) (M 5) (M 6) (M 7) (M 8) (M 26) p t)) ((M 7 t).toNat) p (by have := hrt1 (by omega); omega) (by omega) (hs) (hst)) mf_X4_comes ml_X4_67 rfl rfl (by decide) rfl rfl (Nat.le_of_ble_eq_true rfl) dX4_workPoint_42 (fun z_42 M_42 hp_42 => ?_)
        rw [hp_42.1, hp_42.2]
        refine ww_top (b := comeZ ((M 2)) ((M 4)) ((M 8)) ((wkA (M 2) (M 4) (M 5) (M 6) (M 7) (M 8) (M 26) p t)) ((M 7 t).toNat) p) rfl ?_
        refine ww_istore C dX4_workPoint_45 (lv' := [(6, .int (iZ (comeZ ((M 2)) ((M 4)) ((M 8)) ((wkA (M 2) (M 4) (M 5) (M 6) (M 7) (M 8) (M 26) p t)) ((M 7 t).toNat) p))), (5, .int (iZ (comeZ ((M 2)) ((M 4)) ((M 8)) ((wkA (M 2) (M 4) (M 5) (M 6) (M 7) (M 8) (M 26) p t)) ((M 6 t).toNat) p))), (4, .int (iZ (comeZ ((M 2)) ((M 4)) ((M 8)) ((wkA (M 2) (M 4) (M 5) (M 6) (M 7) (M 8) (M 26) p t)) t p))), (0, .ref (wa w 1)), (1, .ref (wa w 26)), (2, .int (iZ ((p : Nat) : Int))), (3, .int (iZ ((t : Nat) : Int)))]) (by rw [hkL]; decide) rfl ?_
        refine ww_aload_n C dX4_workPoint_47 4 rfl ?_
        refine ww_iload_n C dX4_workPoint_48 6 rfl ?_
        refine ww_sipush C dX4_workPoint_49 (by decide) ?_
        refine ww_imul C dX4_workPoint_52 ?_
        refine ww_iload_n C dX4_workPoint_53 5 rfl ?_
        refine ww_iadd C dX4_workPoint_54 ?_
        refine ww_aload_n C dX4_workPoint_55 3 rfl ?_
        refine gt_X4_28 C dX4_workPoint_56 ?_
        refine ww_iload_n C dX4_workPoint_59 6 rfl ?_
        refine al_5 C t (z := M 5 t) rfl (by omega) rfl dX4_workPoint_60 ?_
        refine ww_iload C dX4_workPoint_61 2 rfl ?_
        refine ww_iload C dX4_workPoint_63 1 rfl ?_
        refine ww_iload C dX4_workPoint_65 0 rfl ?_
        refine ww_callS C (As := [.int (iZ (M 5 t)), .int (iZ (comeZ ((M 2)) ((M 4)) ((M 8)) ((wkA (M 2) (M 4) (M 5) (M 6) (M 7) (M 8) (M 26) p t)) t p)), .int (iZ (comeZ ((M 2)) ((M 4)) ((M 8)) ((wkA (M 2) (M 4) (M 5) (M 6) (M 7) (M 8) (M 26) p t)) ((M 6 t).toNat) p)), .int (iZ (comeZ ((M 2)) ((M 4)) ((M 8)) ((wkA (M 2) (M 4) (M 5) (M 6) (M 7) (M 8) (M 26) p t)) ((M 7 t).toNat) p))]) (ct_X4_made w (ups M 26 (wkA (M 2) (M 4) (M 5) (M 6) (M 7) (M 8) (M 26) p t)) (M 5 t) (comeZ ((M 2)) ((M 4)) ((M 8)) ((wkA (M 2) (M 4) (M 5) (M 6) (M 7) (M 8) (M 26) p t)) t p) (comeZ ((M 2)) ((M 4)) ((M 8)) ((wkA (M 2) (M 4) (M 5) (M 6) (M 7) (M 8) (M 26) p t)) ((M 6 t).toNat) p) (comeZ ((M 2)) ((M 4)) ((M 8)) ((wkA (M 2) (M 4) (M 5) (M 6) (M 7) (M 8) (M 26) p t)) ((M 7 t).toNat) p) (hac1 (by omega)) (hc _) (hc _) (hc _)) mf_X4_made ml_X4_71 (by decide) rfl rfl (Nat.le_of_ble_eq_true rfl) dX4_workPoint_67 (fun z_67 M_67 hp_67 => ?_)
        rw [hp_67.1, hp_67.2]
        refine ww_top (b := madeZ (M 5 t) (comeZ ((M 2)) ((M 4)) ((M 8)) ((wkA (M 2) (M 4) (M 5) (M 6) (M 7) (M 8) (M 26) p t)) t p) (comeZ ((M 2)) ((M 4)) ((M 8)) ((wkA (M 2) (M 4) (M 5) (M 6) (M 7) (M 8) (M 26) p t)) ((M 6 t).toNat) p) (comeZ ((M 2)) ((M 4)) ((M 8)) ((wkA (M 2) (M 4) (M 5) (M 6) (M 7) (M 8) (M 26) p t)) ((M 7 t).toNat) p)) rfl ?_
        refine as_26 C (512 * t + p) (by omega) (by omega) dX4_workPoint_70 ?_
        refine ww_mem (M1 := ups M 26 (wkA (M 2) (M 4) (M 5) (M 6) (M 7) (M 8) (M 26) p (t + 1))) (by rw [ups_ups]; rfl) ?_
        refine ww_iinc2 C dX4_workPoint_71 6 rfl (b := ((t + 1 : Nat) : Int)) (by omega) (lv' := [(3, .int (iZ ((t + 1 : Nat) : Int))), (6, .int (iZ (comeZ ((M 2)) ((M 4)) ((M 8)) ((wkA (M 2) (M 4) (M 5) (M 6) (M 7) (M 8) (M 26) p t)) ((M 7 t).toNat) p))), (5, .int (iZ (comeZ ((M 2)) ((M 4)) ((M 8)) ((wkA (M 2) (M 4) (M 5) (M 6) (M 7) (M 8) (M 26) p t)) ((M 6 t).toNat) p))), (4, .int (iZ (comeZ ((M 2)) ((M 4)) ((M 8)) ((wkA (M 2) (M 4) (M 5) (M 6) (M 7) (M 8) (M 26) p t)) t p))), (0, .ref (wa w 1)), (1, .ref (wa w 26)), (2, .int (iZ ((p : Nat) : Int)))]) (by rw [hkL]; decide) rfl ?_
        refine ww_goto C 2 dX4_workPoint_74 (by decide) ?_
        refine ww_sub [4, 5, 6, 0] rfl ?_
        exact ih_2 (t + 1) (by omega) (by omega)
  refine ww_sub [1, 2, 3, 0] rfl ?_
  refine ww_mem (M1 := ups M 26 (wkA (M 2) (M 4) (M 5) (M 6) (M 7) (M 8) (M 26) p 0)) ((ups_id (M := M)).symm) ?_
  exact L_2 _ 0 (by omega) (Nat.lt_succ_self _)
end
section
set_option maxRecDepth 100000 in
set_option maxHeartbeats 4000000 in
theorem ct_X1_put (w : WLD) (M : Mem) (h q : Nat) (a b c : Int) (hpl : pl h) (hq : q < 3) : CtV w yX1_put cX1_put 5 rm_X1_put [.ref (wa w h), .int (iZ ((q : Nat) : Int)), .int (iZ a), .int (iZ b), .int (iZ c)] M (fun M1 => M1 = ups M (h + 1) (up1 (up1 (up1 (M (h + 1)) (3 * q) a) (3 * q + 1) b) (3 * q + 2) c)) := by
  refine CtV.of (by decide) (Nat.le_of_ble_eq_true rfl) rfl rfl ?_
  intro k hkL C RT
  show WW w k 0 [(0, .ref (wa w h)), (1, .int (iZ ((q : Nat) : Int))), (2, .int (iZ a)), (3, .int (iZ b)), (4, .int (iZ c))] [] M
  refine ww_aload_n C dX1_put_0 0 rfl ?_
  refine gt_X1_9 C hpl dX1_put_1 ?_
  refine ww_iconst C dX1_put_4 ?_
  refine ww_iload_n C dX1_put_5 1 rfl ?_
  refine ww_imul C dX1_put_6 ?_
  refine ww_iload_n C dX1_put_7 2 rfl ?_
  refine as_pl C hpl (3 * q) (by omega) (by omega) dX1_put_8 ?_
  refine ww_aload_n C dX1_put_9 0 rfl ?_
  refine gt_X1_9 C hpl dX1_put_10 ?_
  refine ww_iconst C dX1_put_13 ?_
  refine ww_iload_n C dX1_put_14 1 rfl ?_
  refine ww_imul C dX1_put_15 ?_
  refine ww_iconst C dX1_put_16 ?_
  refine ww_iadd C dX1_put_17 ?_
  refine ww_iload_n C dX1_put_18 3 rfl ?_
  refine as_pl C hpl (3 * q + 1) (by omega) (by omega) dX1_put_19 ?_
  refine ww_mem (M1 := ups M (h + 1) (up1 (up1 (M (h + 1)) (3 * q) a) (3 * q + 1) b)) (by rw [ups_s]; exact ups_ups) ?_
  refine ww_aload_n C dX1_put_20 0 rfl ?_
  refine gt_X1_9 C hpl dX1_put_21 ?_
  refine ww_iconst C dX1_put_24 ?_
  refine ww_iload_n C dX1_put_25 1 rfl ?_
  refine ww_imul C dX1_put_26 ?_
  refine ww_iconst C dX1_put_27 ?_
  refine ww_iadd C dX1_put_28 ?_
  refine ww_iload C dX1_put_29 4 rfl ?_
  refine as_pl C hpl (3 * q + 2) (by omega) (by omega) dX1_put_31 ?_
  refine ww_mem (M1 := ups M (h + 1) (up1 (up1 (up1 (M (h + 1)) (3 * q) a) (3 * q + 1) b) (3 * q + 2) c)) (by rw [ups_s]; exact ups_ups) ?_
  exact RT _ _ _ dX1_put_32 (rfl)
set_option maxRecDepth 100000 in
set_option maxHeartbeats 4000000 in
theorem ct_X1_takeNumbers_10 (w : WLD) (M : Mem)  : CtV w yX1_takeNumbers cX1_takeNumbers 2 rm_X1_takeNumbers [.ref (wa w 10), .ref (wa w 20)] M (fun M1 => M1 = ups M 11 (fun j => if j < 9 then M 21 j else M 11 j)) := by
  refine CtV.of (by decide) (Nat.le_of_ble_eq_true rfl) rfl rfl ?_
  intro k hkL C RT
  show WW w k 0 [(0, .ref (wa w 10)), (1, .ref (wa w 20))] [] M
  refine ww_aload_n C dX1_takeNumbers_0 1 rfl ?_
  refine gt_X1_9 C (Or.inr (Or.inl rfl)) dX1_takeNumbers_1 ?_
  refine ww_iconst C dX1_takeNumbers_4 ?_
  refine ww_aload_n C dX1_takeNumbers_5 0 rfl ?_
  refine gt_X1_9 C (Or.inl rfl) dX1_takeNumbers_6 ?_
  refine ww_iconst C dX1_takeNumbers_9 ?_
  refine ww_aload_n C dX1_takeNumbers_10 0 rfl ?_
  refine gt_X1_9 C (Or.inl rfl) dX1_takeNumbers_11 ?_
  refine ww_alen C 11 (by decide) (N := 9) rfl dX1_takeNumbers_14 ?_
  refine ww_copy9 C (h0 := 21) (h1 := 11) (by decide) (by decide) ml_X1_19 (fun _ => rfl) (fun _ => rfl) (by decide) dX1_takeNumbers_15 ?_
  exact RT _ _ _ dX1_takeNumbers_18 (rfl)
set_option maxRecDepth 100000 in
set_option maxHeartbeats 4000000 in
theorem ct_X1_takeNumbers_20 (w : WLD) (M : Mem)  : CtV w yX1_takeNumbers cX1_takeNumbers 2 rm_X1_takeNumbers [.ref (wa w 20), .ref (wa w 22)] M (fun M1 => M1 = ups M 21 (fun j => if j < 9 then M 23 j else M 21 j)) := by
  refine CtV.of (by decide) (Nat.le_of_ble_eq_true rfl) rfl rfl ?_
  intro k hkL C RT
  show WW w k 0 [(0, .ref (wa w 20)), (1, .ref (wa w 22))] [] M
  refine ww_aload_n C dX1_takeNumbers_0 1 rfl ?_
  refine gt_X1_9 C (Or.inr (Or.inr rfl)) dX1_takeNumbers_1 ?_
  refine ww_iconst C dX1_takeNumbers_4 ?_
  refine ww_aload_n C dX1_takeNumbers_5 0 rfl ?_
  refine gt_X1_9 C (Or.inr (Or.inl rfl)) dX1_takeNumbers_6 ?_
  refine ww_iconst C dX1_takeNumbers_9 ?_
  refine ww_aload_n C dX1_takeNumbers_10 0 rfl ?_
  refine gt_X1_9 C (Or.inr (Or.inl rfl)) dX1_takeNumbers_11 ?_
  refine ww_alen C 21 (by decide) (N := 9) rfl dX1_takeNumbers_14 ?_
  refine ww_copy9 C (h0 := 23) (h1 := 21) (by decide) (by decide) ml_X1_19 (fun _ => rfl) (fun _ => rfl) (by decide) dX1_takeNumbers_15 ?_
  exact RT _ _ _ dX1_takeNumbers_18 (rfl)
set_option maxRecDepth 100000 in
set_option maxHeartbeats 4000000 in
theorem ct_X1_times (w : WLD) (M : Mem) (h q : Nat) (a b c : Int) (hpl : pl h) (hq : q < 3) : CtI w yX1_times cX1_times 6 (some .int) rm_X1_times [.ref (wa w h), .int (iZ ((q : Nat) : Int)), .int (iZ a), .int (iZ b), .int (iZ c)] M (fun z M1 => z = dotZ (M (h + 1)) q a b c ∧ M1 = M) := by
  refine CtI.of (by decide) (Nat.le_of_ble_eq_true rfl) rfl rfl ?_
  intro k hkL C RT
  show WW w k 0 [(0, .ref (wa w h)), (1, .int (iZ ((q : Nat) : Int))), (2, .int (iZ a)), (3, .int (iZ b)), (4, .int (iZ c))] [] M
  refine ww_iconst C dX1_times_0 ?_
  refine ww_iload_n C dX1_times_1 1 rfl ?_
  refine ww_imul C dX1_times_2 ?_
  refine ww_istore C dX1_times_3 (lv' := [(5, .int (iZ (3 * ((q : Nat) : Int)))), (0, .ref (wa w h)), (1, .int (iZ ((q : Nat) : Int))), (2, .int (iZ a)), (3, .int (iZ b)), (4, .int (iZ c))]) (by rw [hkL]; decide) rfl ?_
  refine ww_aload_n C dX1_times_5 1 rfl ?_
  refine gt_X1_9 C hpl dX1_times_6 ?_
  refine ww_iload C dX1_times_9 0 rfl ?_
  refine al_pl C hpl (3 * q) (z := (M (h + 1)) (3 * q)) (by omega) (by omega) rfl dX1_times_11 ?_
  refine ww_iload_n C dX1_times_12 3 rfl ?_
  refine ww_imul C dX1_times_13 ?_
  refine ww_aload_n C dX1_times_14 1 rfl ?_
  refine gt_X1_9 C hpl dX1_times_15 ?_
  refine ww_iload C dX1_times_18 0 rfl ?_
  refine ww_iconst C dX1_times_20 ?_
  refine ww_iadd C dX1_times_21 ?_
  refine al_pl C hpl (3 * q + 1) (z := (M (h + 1)) (3 * q + 1)) (by omega) (by omega) rfl dX1_times_22 ?_
  refine ww_iload_n C dX1_times_23 4 rfl ?_
  refine ww_imul C dX1_times_24 ?_
  refine ww_iadd C dX1_times_25 ?_
  refine ww_aload_n C dX1_times_26 1 rfl ?_
  refine gt_X1_9 C hpl dX1_times_27 ?_
  refine ww_iload C dX1_times_30 0 rfl ?_
  refine ww_iconst C dX1_times_32 ?_
  refine ww_iadd C dX1_times_33 ?_
  refine al_pl C hpl (3 * q + 2) (z := (M (h + 1)) (3 * q + 2)) (by omega) (by omega) rfl dX1_times_34 ?_
  refine ww_iload C dX1_times_35 5 rfl ?_
  refine ww_imul C dX1_times_37 ?_
  refine ww_iadd C dX1_times_38 ?_
  exact RT _ _ _ _ dX1_times_39 (⟨rfl, rfl⟩)
set_option maxRecDepth 100000 in
set_option maxHeartbeats 4000000 in
theorem ct_X1_timesCode (w : WLD) (M : Mem) (h q p : Nat) (hpl : pl h) (hq : q < 3) (hp : p < 512) : CtI w yX1_timesCode cX1_timesCode 3 (some .int) rm_X1_timesCode [.ref (wa w h), .int (iZ ((q : Nat) : Int)), .int (iZ ((p : Nat) : Int))] M (fun z M1 => z = dotP (M (h + 1)) q p ∧ M1 = M) := by
  refine CtI.of (by decide) (Nat.le_of_ble_eq_true rfl) rfl rfl ?_
  intro k hkL C RT
  show WW w k 0 [(0, .ref (wa w h)), (1, .int (iZ ((q : Nat) : Int))), (2, .int (iZ ((p : Nat) : Int)))] [] M
  refine ww_aload_n C dX1_timesCode_0 0 rfl ?_
  refine ww_iload_n C dX1_timesCode_1 1 rfl ?_
  refine ww_iload_n C dX1_timesCode_2 2 rfl ?_
  refine ww_bipush C dX1_timesCode_3 (by decide) ?_
  refine ww_ishr6 C dX1_timesCode_5 p rfl (by omega) ?_
  refine ww_iload_n C dX1_timesCode_6 2 rfl ?_
  refine ww_iconst C dX1_timesCode_7 ?_
  refine ww_ishr3 C dX1_timesCode_8 p rfl (by omega) ?_
  refine ww_bipush C dX1_timesCode_9 (by decide) ?_
  refine ww_iand7 C dX1_timesCode_11 (p / 8) rfl (by omega) ?_
  refine ww_iload_n C dX1_timesCode_12 2 rfl ?_
  refine ww_bipush C dX1_timesCode_13 (by decide) ?_
  refine ww_iand7 C dX1_timesCode_15 p rfl (by omega) ?_
  refine ww_callV C (As := [.int (iZ ((q : Nat) : Int)), .int (iZ ((p / 64 : Nat) : Int)), .int (iZ (((p / 8) % 8 : Nat) : Int)), .int (iZ ((p % 8 : Nat) : Int))]) h (pl_lt hpl) (ct_X1_times w M h q ((p / 64 : Nat) : Int) (((p / 8) % 8 : Nat) : Int) ((p % 8 : Nat) : Int) (hpl) (by omega)) mf_X1_times ml_X1_25 (pl_cell hpl _) rfl (by decide) rfl rfl (Nat.le_of_ble_eq_true rfl) dX1_timesCode_16 (fun z_16 M_16 hp_16 => ?_)
  rw [hp_16.1, hp_16.2]
  exact RT _ _ _ _ dX1_timesCode_19 (⟨rfl, rfl⟩)
set_option maxRecDepth 100000 in
set_option maxHeartbeats 4000000 in
theorem ct_X1_least (w : WLD) (M : Mem) (h q : Nat) (hpl : pl h) (hnu : NuOk (M (h + 1))) (hq : q < 3) (hs : SzOk (M 2)) : CtI w yX1_least cX1_least 5 (some .int) rm_X1_least [.ref (wa w h), .int (iZ ((q : Nat) : Int)), .ref (wa w 1)] M (fun z M1 => z = lesZ (M (h + 1)) (M 2) q ∧ M1 = M) := by
  refine CtI.of (by decide) (Nat.le_of_ble_eq_true rfl) rfl rfl ?_
  intro k hkL C RT
  have n0 := hnu (3 * q) (by omega)
  have n1 := hnu (3 * q + 1) (by omega)
  have n2 := hnu (3 * q + 2) (by omega)
  have c0 := mulb3 (b := M 2 0 - 1) n0.1 n0.2 (by omega) (by omega)
  have c1 := mulb3 (b := M 2 1 - 1) n1.1 n1.2 (by omega) (by omega)
  have c2 := mulb3 (b := M 2 2 - 1) n2.1 n2.2 (by omega) (by omega)
  show WW w k 0 [(0, .ref (wa w h)), (1, .int (iZ ((q : Nat) : Int))), (2, .ref (wa w 1))] [] M
  refine ww_iconst C dX1_least_0 ?_
  refine ww_istore_n C dX1_least_1 (lv' := [(3, .int (iZ 0)), (0, .ref (wa w h)), (1, .int (iZ ((q : Nat) : Int))), (2, .ref (wa w 1))]) (by rw [hkL]; decide) rfl ?_
  refine ww_iconst C dX1_least_2 ?_
  refine ww_istore C dX1_least_3 (lv' := [(4, .int (iZ 0)), (3, .int (iZ 0)), (0, .ref (wa w h)), (1, .int (iZ ((q : Nat) : Int))), (2, .ref (wa w 1))]) (by rw [hkL]; decide) rfl ?_
  refine ww_iload C dX1_least_5 0 rfl ?_
  refine ww_iconst C dX1_least_7 ?_
  refine ww_icmp_ge C 45 dX1_least_8 (by decide) (by omega) (by omega) (fun c_8 => ?_) (fun c_8 => ?_)
  · exact absurd c_8 (by decide)
  · refine ww_iload_n C dX1_least_11 1 rfl ?_
    refine ww_iconst C dX1_least_12 ?_
    refine ww_aload_n C dX1_least_13 2 rfl ?_
    refine gt_X1_9 C hpl dX1_least_14 ?_
    refine ww_iconst C dX1_least_17 ?_
    refine ww_iload_n C dX1_least_18 3 rfl ?_
    refine ww_imul C dX1_least_19 ?_
    refine ww_iload C dX1_least_20 0 rfl ?_
    refine ww_iadd C dX1_least_22 ?_
    refine al_pl C hpl (3 * q) (z := (M (h + 1)) (3 * q)) (by omega) (by omega) rfl dX1_least_23 ?_
    refine ww_aload_n C dX1_least_24 4 rfl ?_
    refine gt_X1_29 C dX1_least_25 ?_
    refine ww_iload C dX1_least_28 0 rfl ?_
    refine al_2 C 0 (z := M 2 0) rfl (by omega) rfl dX1_least_30 ?_
    refine ww_iconst C dX1_least_31 ?_
    refine ww_isub C dX1_least_32 ?_
    refine ww_imul C dX1_least_33 ?_
    refine ww_min C ml_X1_34 (by omega) (by omega) (by decide) (Nat.le_of_ble_eq_true rfl) dX1_least_34 ?_
    refine ww_iadd C dX1_least_37 ?_
    refine ww_istore_n C dX1_least_38 (lv' := [(3, .int (iZ (0 + (min 0 (((M (h + 1)) (3 * q)) * ((M 2 0) - 1)))))), (4, .int (iZ 0)), (0, .ref (wa w h)), (1, .int (iZ ((q : Nat) : Int))), (2, .ref (wa w 1))]) (by rw [hkL]; decide) rfl ?_
    refine ww_iinc2 C dX1_least_39 1 rfl (b := 1) (by omega) (lv' := [(4, .int (iZ 1)), (3, .int (iZ (0 + (min 0 (((M (h + 1)) (3 * q)) * ((M 2 0) - 1)))))), (0, .ref (wa w h)), (1, .int (iZ ((q : Nat) : Int))), (2, .ref (wa w 1))]) (by rw [hkL]; decide) rfl ?_
    refine ww_goto C 5 dX1_least_42 (by decide) ?_
    refine ww_iload C dX1_least_5 0 rfl ?_
    refine ww_iconst C dX1_least_7 ?_
    refine ww_icmp_ge C 45 dX1_least_8 (by decide) (by omega) (by omega) (fun c_8 => ?_) (fun c_8 => ?_)
    · exact absurd c_8 (by decide)
    · refine ww_iload_n C dX1_least_11 1 rfl ?_
      refine ww_iconst C dX1_least_12 ?_
      refine ww_aload_n C dX1_least_13 2 rfl ?_
      refine gt_X1_9 C hpl dX1_least_14 ?_
      refine ww_iconst C dX1_least_17 ?_
      refine ww_iload_n C dX1_least_18 3 rfl ?_
      refine ww_imul C dX1_least_19 ?_
      refine ww_iload C dX1_least_20 0 rfl ?_
      refine ww_iadd C dX1_least_22 ?_
      refine al_pl C hpl (3 * q + 1) (z := (M (h + 1)) (3 * q + 1)) (by omega) (by omega) rfl dX1_least_23 ?_
      refine ww_aload_n C dX1_least_24 4 rfl ?_
      refine gt_X1_29 C dX1_least_25 ?_
      refine ww_iload C dX1_least_28 0 rfl ?_
      refine al_2 C 1 (z := M 2 1) rfl (by omega) rfl dX1_least_30 ?_
      refine ww_iconst C dX1_least_31 ?_
      refine ww_isub C dX1_least_32 ?_
      refine ww_imul C dX1_least_33 ?_
      refine ww_min C ml_X1_34 (by omega) (by omega) (by decide) (Nat.le_of_ble_eq_true rfl) dX1_least_34 ?_
      refine ww_iadd C dX1_least_37 ?_
      refine ww_istore_n C dX1_least_38 (lv' := [(3, .int (iZ ((0 + (min 0 (((M (h + 1)) (3 * q)) * ((M 2 0) - 1)))) + (min 0 (((M (h + 1)) (3 * q + 1)) * ((M 2 1) - 1)))))), (4, .int (iZ 1)), (0, .ref (wa w h)), (1, .int (iZ ((q : Nat) : Int))), (2, .ref (wa w 1))]) (by rw [hkL]; decide) rfl ?_
      refine ww_iinc2 C dX1_least_39 1 rfl (b := 2) (by omega) (lv' := [(4, .int (iZ 2)), (3, .int (iZ ((0 + (min 0 (((M (h + 1)) (3 * q)) * ((M 2 0) - 1)))) + (min 0 (((M (h + 1)) (3 * q + 1)) * ((M 2 1) - 1)))))), (0, .ref (wa w h)), (1, .int (iZ ((q : Nat) : Int))), (2, .ref (wa w 1))]) (by rw [hkL]; decide) rfl ?_
      refine ww_goto C 5 dX1_least_42 (by decide) ?_
      refine ww_iload C dX1_least_5 0 rfl ?_
      refine ww_iconst C dX1_least_7 ?_
      refine ww_icmp_ge C 45 dX1_least_8 (by decide) (by omega) (by omega) (fun c_8 => ?_) (fun c_8 => ?_)
      · exact absurd c_8 (by decide)
      · refine ww_iload_n C dX1_least_11 1 rfl ?_
        refine ww_iconst C dX1_least_12 ?_
        refine ww_aload_n C dX1_least_13 2 rfl ?_
        refine gt_X1_9 C hpl dX1_least_14 ?_
        refine ww_iconst C dX1_least_17 ?_
        refine ww_iload_n C dX1_least_18 3 rfl ?_
        refine ww_imul C dX1_least_19 ?_
        refine ww_iload C dX1_least_20 0 rfl ?_
        refine ww_iadd C dX1_least_22 ?_
        refine al_pl C hpl (3 * q + 2) (z := (M (h + 1)) (3 * q + 2)) (by omega) (by omega) rfl dX1_least_23 ?_
        refine ww_aload_n C dX1_least_24 4 rfl ?_
        refine gt_X1_29 C dX1_least_25 ?_
        refine ww_iload C dX1_least_28 0 rfl ?_
        refine al_2 C 2 (z := M 2 2) rfl (by omega) rfl dX1_least_30 ?_
        refine ww_iconst C dX1_least_31 ?_
        refine ww_isub C dX1_least_32 ?_
        refine ww_imul C dX1_least_33 ?_
        refine ww_min C ml_X1_34 (by omega) (by omega) (by decide) (Nat.le_of_ble_eq_true rfl) dX1_least_34 ?_
        refine ww_iadd C dX1_least_37 ?_
        refine ww_istore_n C dX1_least_38 (lv' := [(3, .int (iZ (((0 + (min 0 (((M (h + 1)) (3 * q)) * ((M 2 0) - 1)))) + (min 0 (((M (h + 1)) (3 * q + 1)) * ((M 2 1) - 1)))) + (min 0 (((M (h + 1)) (3 * q + 2)) * ((M 2 2) - 1)))))), (4, .int (iZ 2)), (0, .ref (wa w h)), (1, .int (iZ ((q : Nat) : Int))), (2, .ref (wa w 1))]) (by rw [hkL]; decide) rfl ?_
        refine ww_iinc2 C dX1_least_39 1 rfl (b := 3) (by omega) (lv' := [(4, .int (iZ 3)), (3, .int (iZ (((0 + (min 0 (((M (h + 1)) (3 * q)) * ((M 2 0) - 1)))) + (min 0 (((M (h + 1)) (3 * q + 1)) * ((M 2 1) - 1)))) + (min 0 (((M (h + 1)) (3 * q + 2)) * ((M 2 2) - 1)))))), (0, .ref (wa w h)), (1, .int (iZ ((q : Nat) : Int))), (2, .ref (wa w 1))]) (by rw [hkL]; decide) rfl ?_
        refine ww_goto C 5 dX1_least_42 (by decide) ?_
        refine ww_iload C dX1_least_5 0 rfl ?_
        refine ww_iconst C dX1_least_7 ?_
        refine ww_icmp_ge C 45 dX1_least_8 (by decide) (by omega) (by omega) (fun c_8 => ?_) (fun c_8 => ?_)
        · refine ww_iload_n C dX1_least_45 1 rfl ?_
          exact RT _ _ _ _ dX1_least_46 (⟨by unfold lesZ; omega, rfl⟩)
        · exact absurd c_8 (by decide)
set_option maxRecDepth 100000 in
set_option maxHeartbeats 4000000 in
theorem ct_X1_beatsUnfolded (w : WLD) (M : Mem) (h : Nat) (hpl : pl h) (hnu : NuOk (M (h + 1))) (hs : SzOk (M 2)) : CtI w yX1_beatsUnfolded cX1_beatsUnfolded 4 (some .int) rm_X1_beatsUnfolded [.ref (wa w h), .ref (wa w 1)] M (fun z M1 => z = buZ (M (h + 1)) (M 2) ∧ M1 = M) := by
  refine CtI.of (by decide) (Nat.le_of_ble_eq_true rfl) rfl rfl ?_
  intro k hkL C RT
  have n0 := hnu 0 (by omega)
  have n1 := hnu 1 (by omega)
  have n2 := hnu 2 (by omega)
  show WW w k 0 [(0, .ref (wa w h)), (1, .ref (wa w 1))] [] M
  refine ww_iconst C dX1_beatsUnfolded_0 ?_
  refine ww_istore_n C dX1_beatsUnfolded_1 (lv' := [(2, .int (iZ 0)), (0, .ref (wa w h)), (1, .ref (wa w 1))]) (by rw [hkL]; decide) rfl ?_
  refine ww_iconst C dX1_beatsUnfolded_2 ?_
  refine ww_istore_n C dX1_beatsUnfolded_3 (lv' := [(3, .int (iZ 0)), (2, .int (iZ 0)), (0, .ref (wa w h)), (1, .ref (wa w 1))]) (by rw [hkL]; decide) rfl ?_
  refine ww_iload_n C dX1_beatsUnfolded_4 0 rfl ?_
  refine ww_iconst C dX1_beatsUnfolded_5 ?_
  refine ww_icmp_ge C 36 dX1_beatsUnfolded_6 (by decide) (by omega) (by omega) (fun c_6 => ?_) (fun c_6 => ?_)
  · exact absurd c_6 (by decide)
  · refine ww_iload_n C dX1_beatsUnfolded_9 1 rfl ?_
    refine ww_aload_n C dX1_beatsUnfolded_10 2 rfl ?_
    refine gt_X1_9 C hpl dX1_beatsUnfolded_11 ?_
    refine ww_iload_n C dX1_beatsUnfolded_14 0 rfl ?_
    refine al_pl C hpl 0 (z := (M (h + 1)) 0) rfl (by omega) rfl dX1_beatsUnfolded_15 ?_
    refine ww_abs C ml_X1_40 (by omega) (by decide) (Nat.le_of_ble_eq_true rfl) dX1_beatsUnfolded_16 ?_
    refine ww_aload_n C dX1_beatsUnfolded_19 3 rfl ?_
    refine gt_X1_29 C dX1_beatsUnfolded_20 ?_
    refine ww_iload_n C dX1_beatsUnfolded_23 0 rfl ?_
    refine al_2 C 0 (z := M 2 0) rfl (by omega) rfl dX1_beatsUnfolded_24 ?_
    refine ww_iconst C dX1_beatsUnfolded_25 ?_
    refine ww_isub C dX1_beatsUnfolded_26 ?_
    refine ww_imul C dX1_beatsUnfolded_27 ?_
    refine ww_iadd C dX1_beatsUnfolded_28 ?_
    refine ww_istore_n C dX1_beatsUnfolded_29 (lv' := [(2, .int (iZ (0 + ((aZ ((M (h + 1)) 0)) * ((M 2 0) - 1))))), (3, .int (iZ 0)), (0, .ref (wa w h)), (1, .ref (wa w 1))]) (by rw [hkL]; decide) rfl ?_
    refine ww_iinc2 C dX1_beatsUnfolded_30 1 rfl (b := 1) (by omega) (lv' := [(3, .int (iZ 1)), (2, .int (iZ (0 + ((aZ ((M (h + 1)) 0)) * ((M 2 0) - 1))))), (0, .ref (wa w h)), (1, .ref (wa w 1))]) (by rw [hkL]; decide) rfl ?_
    refine ww_goto C 4 dX1_beatsUnfolded_33 (by decide) ?_
    refine ww_iload_n C dX1_beatsUnfolded_4 0 rfl ?_
    refine ww_iconst C dX1_beatsUnfolded_5 ?_
    refine ww_icmp_ge C 36 dX1_beatsUnfolded_6 (by decide) (by omega) (by omega) (fun c_6 => ?_) (fun c_6 => ?_)
    · exact absurd c_6 (by decide)
    · refine ww_iload_n C dX1_beatsUnfolded_9 1 rfl ?_
      refine ww_aload_n C dX1_beatsUnfolded_10 2 rfl ?_
      refine gt_X1_9 C hpl dX1_beatsUnfolded_11 ?_
      refine ww_iload_n C dX1_beatsUnfolded_14 0 rfl ?_
      refine al_pl C hpl 1 (z := (M (h + 1)) 1) rfl (by omega) rfl dX1_beatsUnfolded_15 ?_
      refine ww_abs C ml_X1_40 (by omega) (by decide) (Nat.le_of_ble_eq_true rfl) dX1_beatsUnfolded_16 ?_
      refine ww_aload_n C dX1_beatsUnfolded_19 3 rfl ?_
      refine gt_X1_29 C dX1_beatsUnfolded_20 ?_
      refine ww_iload_n C dX1_beatsUnfolded_23 0 rfl ?_
      refine al_2 C 1 (z := M 2 1) rfl (by omega) rfl dX1_beatsUnfolded_24 ?_
      refine ww_iconst C dX1_beatsUnfolded_25 ?_
      refine ww_isub C dX1_beatsUnfolded_26 ?_
      refine ww_imul C dX1_beatsUnfolded_27 ?_
      refine ww_iadd C dX1_beatsUnfolded_28 ?_
      refine ww_istore_n C dX1_beatsUnfolded_29 (lv' := [(2, .int (iZ ((0 + ((aZ ((M (h + 1)) 0)) * ((M 2 0) - 1))) + ((aZ ((M (h + 1)) 1)) * ((M 2 1) - 1))))), (3, .int (iZ 1)), (0, .ref (wa w h)), (1, .ref (wa w 1))]) (by rw [hkL]; decide) rfl ?_
      refine ww_iinc2 C dX1_beatsUnfolded_30 1 rfl (b := 2) (by omega) (lv' := [(3, .int (iZ 2)), (2, .int (iZ ((0 + ((aZ ((M (h + 1)) 0)) * ((M 2 0) - 1))) + ((aZ ((M (h + 1)) 1)) * ((M 2 1) - 1))))), (0, .ref (wa w h)), (1, .ref (wa w 1))]) (by rw [hkL]; decide) rfl ?_
      refine ww_goto C 4 dX1_beatsUnfolded_33 (by decide) ?_
      refine ww_iload_n C dX1_beatsUnfolded_4 0 rfl ?_
      refine ww_iconst C dX1_beatsUnfolded_5 ?_
      refine ww_icmp_ge C 36 dX1_beatsUnfolded_6 (by decide) (by omega) (by omega) (fun c_6 => ?_) (fun c_6 => ?_)
      · exact absurd c_6 (by decide)
      · refine ww_iload_n C dX1_beatsUnfolded_9 1 rfl ?_
        refine ww_aload_n C dX1_beatsUnfolded_10 2 rfl ?_
        refine gt_X1_9 C hpl dX1_beatsUnfolded_11 ?_
        refine ww_iload_n C dX1_beatsUnfolded_14 0 rfl ?_
        refine al_pl C hpl 2 (z := (M (h + 1)) 2) rfl (by omega) rfl dX1_beatsUnfolded_15 ?_
        refine ww_abs C ml_X1_40 (by omega) (by decide) (Nat.le_of_ble_eq_true rfl) dX1_beatsUnfolded_16 ?_
        refine ww_aload_n C dX1_beatsUnfolded_19 3 rfl ?_
        refine gt_X1_29 C dX1_beatsUnfolded_20 ?_
        refine ww_iload_n C dX1_beatsUnfolded_23 0 rfl ?_
        refine al_2 C 2 (z := M 2 2) rfl (by omega) rfl dX1_beatsUnfolded_24 ?_
        refine ww_iconst C dX1_beatsUnfolded_25 ?_
        refine ww_isub C dX1_beatsUnfolded_26 ?_
        refine ww_imul C dX1_beatsUnfolded_27 ?_
        refine ww_iadd C dX1_beatsUnfolded_28 ?_
        refine ww_istore_n C dX1_beatsUnfolded_29 (lv' := [(2, .int (iZ (((0 + ((aZ ((M (h + 1)) 0)) * ((M 2 0) - 1))) + ((aZ ((M (h + 1)) 1)) * ((M 2 1) - 1))) + ((aZ ((M (h + 1)) 2)) * ((M 2 2) - 1))))), (3, .int (iZ 2)), (0, .ref (wa w h)), (1, .ref (wa w 1))]) (by rw [hkL]; decide) rfl ?_
        refine ww_iinc2 C dX1_beatsUnfolded_30 1 rfl (b := 3) (by omega) (lv' := [(3, .int (iZ 3)), (2, .int (iZ (((0 + ((aZ ((M (h + 1)) 0)) * ((M 2 0) - 1))) + ((aZ ((M (h + 1)) 1)) * ((M 2 1) - 1))) + ((aZ ((M (h + 1)) 2)) * ((M 2 2) - 1))))), (0, .ref (wa w h)), (1, .ref (wa w 1))]) (by rw [hkL]; decide) rfl ?_
        refine ww_goto C 4 dX1_beatsUnfolded_33 (by decide) ?_
        refine ww_iload_n C dX1_beatsUnfolded_4 0 rfl ?_
        refine ww_iconst C dX1_beatsUnfolded_5 ?_
        refine ww_icmp_ge C 36 dX1_beatsUnfolded_6 (by decide) (by omega) (by omega) (fun c_6 => ?_) (fun c_6 => ?_)
        · refine ww_iload_n C dX1_beatsUnfolded_36 1 rfl ?_
          refine ww_iconst C dX1_beatsUnfolded_37 ?_
          refine ww_iadd C dX1_beatsUnfolded_38 ?_
          exact RT _ _ _ _ dX1_beatsUnfolded_39 (⟨by unfold buZ; omega, rfl⟩)
        · exact absurd c_6 (by decide)
set_option maxRecDepth 100000 in
set_option maxHeartbeats 4000000 in
theorem ct_X1_timesStep (w : WLD) (M : Mem) (h q v : Nat) (hpl : pl h) (hq : q < 3) (hv : v < 4) : CtI w yX1_timesStep cX1_timesStep 6 (some .int) rm_X1_timesStep [.ref (wa w h), .int (iZ ((q : Nat) : Int)), .ref (wa w 1), .int (iZ ((v : Nat) : Int))] M (fun z M1 => z = stepB (M (h + 1)) (M 4) q v ∧ M1 = M) := by
  refine CtI.of (by decide) (Nat.le_of_ble_eq_true rfl) rfl rfl ?_
  intro k hkL C RT
  show WW w k 0 [(0, .ref (wa w h)), (1, .int (iZ ((q : Nat) : Int))), (2, .ref (wa w 1)), (3, .int (iZ ((v : Nat) : Int)))] [] M
  refine ww_iconst C dX1_timesStep_0 ?_
  refine ww_istore C dX1_timesStep_1 (lv' := [(4, .int (iZ 0)), (0, .ref (wa w h)), (1, .int (iZ ((q : Nat) : Int))), (2, .ref (wa w 1)), (3, .int (iZ ((v : Nat) : Int)))]) (by rw [hkL]; decide) rfl ?_
  refine ww_iconst C dX1_timesStep_3 ?_
  refine ww_istore C dX1_timesStep_4 (lv' := [(5, .int (iZ 0)), (4, .int (iZ 0)), (0, .ref (wa w h)), (1, .int (iZ ((q : Nat) : Int))), (2, .ref (wa w 1)), (3, .int (iZ ((v : Nat) : Int)))]) (by rw [hkL]; decide) rfl ?_
  refine ww_iload C dX1_timesStep_6 0 rfl ?_
  refine ww_iconst C dX1_timesStep_8 ?_
  refine ww_icmp_ge C 46 dX1_timesStep_9 (by decide) (by omega) (by omega) (fun c_9 => ?_) (fun c_9 => ?_)
  · exact absurd c_9 (by decide)
  · refine ww_iload C dX1_timesStep_12 1 rfl ?_
    refine ww_aload_n C dX1_timesStep_14 2 rfl ?_
    refine gt_X1_9 C hpl dX1_timesStep_15 ?_
    refine ww_iconst C dX1_timesStep_18 ?_
    refine ww_iload_n C dX1_timesStep_19 3 rfl ?_
    refine ww_imul C dX1_timesStep_20 ?_
    refine ww_iload C dX1_timesStep_21 0 rfl ?_
    refine ww_iadd C dX1_timesStep_23 ?_
    refine al_pl C hpl (3 * q) (z := (M (h + 1)) (3 * q)) (by omega) (by omega) rfl dX1_timesStep_24 ?_
    refine ww_aload_n C dX1_timesStep_25 4 rfl ?_
    refine gt_X1_48 C dX1_timesStep_26 ?_
    refine ww_iconst C dX1_timesStep_29 ?_
    refine ww_iload_n C dX1_timesStep_30 5 rfl ?_
    refine ww_imul C dX1_timesStep_31 ?_
    refine ww_iload C dX1_timesStep_32 0 rfl ?_
    refine ww_iadd C dX1_timesStep_34 ?_
    refine al_4 C (3 * v) (z := M 4 (3 * v)) (by omega) (by omega) rfl dX1_timesStep_35 ?_
    refine ww_imul C dX1_timesStep_36 ?_
    refine ww_iadd C dX1_timesStep_37 ?_
    refine ww_istore C dX1_timesStep_38 (lv' := [(4, .int (iZ (0 + (((M (h + 1)) (3 * q)) * (M 4 (3 * v)))))), (5, .int (iZ 0)), (0, .ref (wa w h)), (1, .int (iZ ((q : Nat) : Int))), (2, .ref (wa w 1)), (3, .int (iZ ((v : Nat) : Int)))]) (by rw [hkL]; decide) rfl ?_
    refine ww_iinc2 C dX1_timesStep_40 1 rfl (b := 1) (by omega) (lv' := [(5, .int (iZ 1)), (4, .int (iZ (0 + (((M (h + 1)) (3 * q)) * (M 4 (3 * v)))))), (0, .ref (wa w h)), (1, .int (iZ ((q : Nat) : Int))), (2, .ref (wa w 1)), (3, .int (iZ ((v : Nat) : Int)))]) (by rw [hkL]; decide) rfl ?_
    refine ww_goto C 6 dX1_timesStep_43 (by decide) ?_
    refine ww_iload C dX1_timesStep_6 0 rfl ?_
    refine ww_iconst C dX1_timesStep_8 ?_
    refine ww_icmp_ge C 46 dX1_timesStep_9 (by decide) (by omega) (by omega) (fun c_9 => ?_) (fun c_9 => ?_)
    · exact absurd c_9 (by decide)
    · refine ww_iload C dX1_timesStep_12 1 rfl ?_
      refine ww_aload_n C dX1_timesStep_14 2 rfl ?_
      refine gt_X1_9 C hpl dX1_timesStep_15 ?_
      refine ww_iconst C dX1_timesStep_18 ?_
      refine ww_iload_n C dX1_timesStep_19 3 rfl ?_
      refine ww_imul C dX1_timesStep_20 ?_
      refine ww_iload C dX1_timesStep_21 0 rfl ?_
      refine ww_iadd C dX1_timesStep_23 ?_
      refine al_pl C hpl (3 * q + 1) (z := (M (h + 1)) (3 * q + 1)) (by omega) (by omega) rfl dX1_timesStep_24 ?_
      refine ww_aload_n C dX1_timesStep_25 4 rfl ?_
      refine gt_X1_48 C dX1_timesStep_26 ?_
      refine ww_iconst C dX1_timesStep_29 ?_
      refine ww_iload_n C dX1_timesStep_30 5 rfl ?_
      refine ww_imul C dX1_timesStep_31 ?_
      refine ww_iload C dX1_timesStep_32 0 rfl ?_
      refine ww_iadd C dX1_timesStep_34 ?_
      refine al_4 C (3 * v + 1) (z := M 4 (3 * v + 1)) (by omega) (by omega) rfl dX1_timesStep_35 ?_
      refine ww_imul C dX1_timesStep_36 ?_
      refine ww_iadd C dX1_timesStep_37 ?_
      refine ww_istore C dX1_timesStep_38 (lv' := [(4, .int (iZ ((0 + (((M (h + 1)) (3 * q)) * (M 4 (3 * v)))) + (((M (h + 1)) (3 * q + 1)) * (M 4 (3 * v + 1)))))), (5, .int (iZ 1)), (0, .ref (wa w h)), (1, .int (iZ ((q : Nat) : Int))), (2, .ref (wa w 1)), (3, .int (iZ ((v : Nat) : Int)))]) (by rw [hkL]; decide) rfl ?_
      refine ww_iinc2 C dX1_timesStep_40 1 rfl (b := 2) (by omega) (lv' := [(5, .int (iZ 2)), (4, .int (iZ ((0 + (((M (h + 1)) (3 * q)) * (M 4 (3 * v)))) + (((M (h + 1)) (3 * q + 1)) * (M 4 (3 * v + 1)))))), (0, .ref (wa w h)), (1, .int (iZ ((q : Nat) : Int))), (2, .ref (wa w 1)), (3, .int (iZ ((v : Nat) : Int)))]) (by rw [hkL]; decide) rfl ?_
      refine ww_goto C 6 dX1_timesStep_43 (by decide) ?_
      refine ww_iload C dX1_timesStep_6 0 rfl ?_
      refine ww_iconst C dX1_timesStep_8 ?_
      refine ww_icmp_ge C 46 dX1_timesStep_9 (by decide) (by omega) (by omega) (fun c_9 => ?_) (fun c_9 => ?_)
      · exact absurd c_9 (by decide)
      · refine ww_iload C dX1_timesStep_12 1 rfl ?_
        refine ww_aload_n C dX1_timesStep_14 2 rfl ?_
        refine gt_X1_9 C hpl dX1_timesStep_15 ?_
        refine ww_iconst C dX1_timesStep_18 ?_
        refine ww_iload_n C dX1_timesStep_19 3 rfl ?_
        refine ww_imul C dX1_timesStep_20 ?_
        refine ww_iload C dX1_timesStep_21 0 rfl ?_
        refine ww_iadd C dX1_timesStep_23 ?_
        refine al_pl C hpl (3 * q + 2) (z := (M (h + 1)) (3 * q + 2)) (by omega) (by omega) rfl dX1_timesStep_24 ?_
        refine ww_aload_n C dX1_timesStep_25 4 rfl ?_
        refine gt_X1_48 C dX1_timesStep_26 ?_
        refine ww_iconst C dX1_timesStep_29 ?_
        refine ww_iload_n C dX1_timesStep_30 5 rfl ?_
        refine ww_imul C dX1_timesStep_31 ?_
        refine ww_iload C dX1_timesStep_32 0 rfl ?_
        refine ww_iadd C dX1_timesStep_34 ?_
        refine al_4 C (3 * v + 2) (z := M 4 (3 * v + 2)) (by omega) (by omega) rfl dX1_timesStep_35 ?_
        refine ww_imul C dX1_timesStep_36 ?_
        refine ww_iadd C dX1_timesStep_37 ?_
        refine ww_istore C dX1_timesStep_38 (lv' := [(4, .int (iZ (((0 + (((M (h + 1)) (3 * q)) * (M 4 (3 * v)))) + (((M (h + 1)) (3 * q + 1)) * (M 4 (3 * v + 1)))) + (((M (h + 1)) (3 * q + 2)) * (M 4 (3 * v + 2)))))), (5, .int (iZ 2)), (0, .ref (wa w h)), (1, .int (iZ ((q : Nat) : Int))), (2, .ref (wa w 1)), (3, .int (iZ ((v : Nat) : Int)))]) (by rw [hkL]; decide) rfl ?_
        refine ww_iinc2 C dX1_timesStep_40 1 rfl (b := 3) (by omega) (lv' := [(5, .int (iZ 3)), (4, .int (iZ (((0 + (((M (h + 1)) (3 * q)) * (M 4 (3 * v)))) + (((M (h + 1)) (3 * q + 1)) * (M 4 (3 * v + 1)))) + (((M (h + 1)) (3 * q + 2)) * (M 4 (3 * v + 2)))))), (0, .ref (wa w h)), (1, .int (iZ ((q : Nat) : Int))), (2, .ref (wa w 1)), (3, .int (iZ ((v : Nat) : Int)))]) (by rw [hkL]; decide) rfl ?_
        refine ww_goto C 6 dX1_timesStep_43 (by decide) ?_
        refine ww_iload C dX1_timesStep_6 0 rfl ?_
        refine ww_iconst C dX1_timesStep_8 ?_
        refine ww_icmp_ge C 46 dX1_timesStep_9 (by decide) (by omega) (by omega) (fun c_9 => ?_) (fun c_9 => ?_)
        · refine ww_iload C dX1_timesStep_46 1 rfl ?_
          exact RT _ _ _ _ dX1_timesStep_48 (⟨by unfold stepB; omega, rfl⟩)
        · exact absurd c_9 (by decide)
set_option maxRecDepth 100000 in
set_option maxHeartbeats 4000000 in
theorem ct_X1_delay (w : WLD) (M : Mem) (h v : Nat) (hpl : pl h) (hv : v < 4) : CtI w yX1_delay cX1_delay 3 (some .int) rm_X1_delay [.ref (wa w h), .ref (wa w 1), .int (iZ ((v : Nat) : Int))] M (fun z M1 => z = stepB (M (h + 1)) (M 4) 0 v ∧ M1 = M) := by
  refine CtI.of (by decide) (Nat.le_of_ble_eq_true rfl) rfl rfl ?_
  intro k hkL C RT
  show WW w k 0 [(0, .ref (wa w h)), (1, .ref (wa w 1)), (2, .int (iZ ((v : Nat) : Int)))] [] M
  refine ww_aload_n C dX1_delay_0 0 rfl ?_
  refine ww_iconst C dX1_delay_1 ?_
  refine ww_aload_n C dX1_delay_2 1 rfl ?_
  refine ww_iload_n C dX1_delay_3 2 rfl ?_
  refine ww_callV C (As := [.int (iZ 0), .ref (wa w 1), .int (iZ ((v : Nat) : Int))]) h (pl_lt hpl) (ct_X1_timesStep w M h 0 v (hpl) (by omega) (by omega)) mf_X1_timesStep ml_X1_44 (pl_cell hpl _) rfl (by decide) rfl rfl (Nat.le_of_ble_eq_true rfl) dX1_delay_4 (fun z_4 M_4 hp_4 => ?_)
  rw [hp_4.1, hp_4.2]
  exact RT _ _ _ _ dX1_delay_7 (⟨rfl, rfl⟩)
set_option maxRecDepth 100000 in
set_option maxHeartbeats 4000000 in
theorem ct_X1_way (w : WLD) (M : Mem) (h v : Nat) (hpl : pl h) (hv : v < 4) (hnu : NuOk (M (h + 1))) (hst : StOk (M 4)) : CtI w yX1_way cX1_way 3 (some .int) rm_X1_way [.ref (wa w h), .ref (wa w 1), .int (iZ ((v : Nat) : Int))] M (fun z M1 => z = wayZ (M (h + 1)) (M 4) v ∧ M1 = M) := by
  refine CtI.of (by decide) (Nat.le_of_ble_eq_true rfl) rfl rfl ?_
  intro k hkL C RT
  have b1 := stepB_b (h := 1) (v := v) hnu hst (by omega) hv
  have b2 := stepB_b (h := 2) (v := v) hnu hst (by omega) hv
  show WW w k 0 [(0, .ref (wa w h)), (1, .ref (wa w 1)), (2, .int (iZ ((v : Nat) : Int)))] [] M
  refine ww_aload_n C dX1_way_0 0 rfl ?_
  refine ww_iconst C dX1_way_1 ?_
  refine ww_aload_n C dX1_way_2 1 rfl ?_
  refine ww_iload_n C dX1_way_3 2 rfl ?_
  refine ww_callV C (As := [.int (iZ 1), .ref (wa w 1), .int (iZ ((v : Nat) : Int))]) h (pl_lt hpl) (ct_X1_timesStep w M h 1 v (hpl) (by omega) (by omega)) mf_X1_timesStep ml_X1_44 (pl_cell hpl _) rfl (by decide) rfl rfl (Nat.le_of_ble_eq_true rfl) dX1_way_4 (fun z_4 M_4 hp_4 => ?_)
  rw [hp_4.1, hp_4.2]
  refine ww_abs C ml_X1_40 (by omega) (by decide) (Nat.le_of_ble_eq_true rfl) dX1_way_7 ?_
  refine ww_aload_n C dX1_way_10 0 rfl ?_
  refine ww_iconst C dX1_way_11 ?_
  refine ww_aload_n C dX1_way_12 1 rfl ?_
  refine ww_iload_n C dX1_way_13 2 rfl ?_
  refine ww_callV C (As := [.int (iZ 2), .ref (wa w 1), .int (iZ ((v : Nat) : Int))]) h (pl_lt hpl) (ct_X1_timesStep w M h 2 v (hpl) (by omega) (by omega)) mf_X1_timesStep ml_X1_44 (pl_cell hpl _) rfl (by decide) rfl rfl (Nat.le_of_ble_eq_true rfl) dX1_way_14 (fun z_14 M_14 hp_14 => ?_)
  rw [hp_14.1, hp_14.2]
  refine ww_abs C ml_X1_40 (by omega) (by decide) (Nat.le_of_ble_eq_true rfl) dX1_way_17 ?_
  refine ww_iadd C dX1_way_20 ?_
  exact RT _ _ _ _ dX1_way_21 (⟨rfl, rfl⟩)
set_option maxRecDepth 100000 in
set_option maxHeartbeats 4000000 in
theorem ct_X1_tooEarly (w : WLD) (M : Mem) (h nv : Nat) (hpl : pl h) (hnu : NuOk (M (h + 1))) (hnv : M 1 3 = (nv : Int)) (hn4 : nv ≤ 4) (hs : SzOk (M 2)) (hst : StOk (M 4)) : CtI w yX1_tooEarly cX1_tooEarly 3 (some .int) rm_X1_tooEarly [.ref (wa w h), .ref (wa w 1)] M (fun z M1 => isFst (earP (M (h + 1)) (M 2) (M 4)) nv z ∧ M1 = M) := by
  refine CtI.of (by decide) (Nat.le_of_ble_eq_true rfl) rfl rfl ?_
  intro k hkL C RT
  show WW w k 0 [(0, .ref (wa w h)), (1, .ref (wa w 1))] [] M
  refine ww_iconst C dX1_tooEarly_0 ?_
  refine ww_istore_n C dX1_tooEarly_1 (lv' := [(2, .int (iZ 0)), (0, .ref (wa w h)), (1, .ref (wa w 1))]) (by rw [hkL]; decide) rfl ?_
  have L_2 : ∀ (fuel : Nat) (t : Nat) (ht : t ≤ nv) (hno : ∀ u : Nat, u < t → ¬ earP (M (h + 1)) (M 2) (M 4) u), nv - t < fuel → WW w k 2 [(0, .ref (wa w h)), (1, .ref (wa w 1)), (2, .int (iZ ((t : Nat) : Int)))] [] M := by
    intro fuel
    induction fuel with
    | zero => intro t ht hno hf_2; exact absurd hf_2 (Nat.not_lt_zero _)
    | succ fuel ih_2 =>
      intro t ht hno hf_2
      have b0 : t < 4 → _ := fun hv9 => stepB_b (h := 0) (v := t) hnu hst (by omega) hv9
      have b1 : t < 4 → _ := fun hv9 => wayZ_b (v := t) hnu hst hv9
      refine ww_iload_n C dX1_tooEarly_2 2 rfl ?_
      refine ww_aload_n C dX1_tooEarly_3 1 rfl ?_
      refine gt_X1_51 C dX1_tooEarly_4 ?_
      refine ww_top (b := ((nv : Nat) : Int)) (hnv) ?_
      refine ww_icmp_ge C 36 dX1_tooEarly_7 (by decide) (by omega) (by omega) (fun c_7 => ?_) (fun c_7 => ?_)
      · refine ww_iconst C dX1_tooEarly_36 ?_
        exact RT _ _ _ _ dX1_tooEarly_37 (⟨Or.inl ⟨rfl, fun u h9 => hno u (by omega)⟩, rfl⟩)
      · refine ww_aload_n C dX1_tooEarly_10 1 rfl ?_
        refine ww_iload_n C dX1_tooEarly_11 2 rfl ?_
        refine ww_callV C (As := [.int (iZ ((t : Nat) : Int))]) 1 (by decide) (ct_X4_isNeeded w M t (by omega) (hs) (hst)) mf_X4_isNeeded ml_X1_54 rfl rfl (by decide) rfl rfl (Nat.le_of_ble_eq_true rfl) dX1_tooEarly_12 (fun z_12 M_12 hp_12 => ?_)
        rw [hp_12.1, hp_12.2]
        refine ww_ifb_eq C 30 dX1_tooEarly_15 (by decide) (fun c_15 => ?_) (fun c_15 => ?_)
        · refine ww_iinc2 C dX1_tooEarly_30 2 rfl (b := ((t + 1 : Nat) : Int)) (by omega) (lv' := [(2, .int (iZ ((t + 1 : Nat) : Int))), (0, .ref (wa w h)), (1, .ref (wa w 1))]) (by rw [hkL]; decide) rfl ?_
          refine ww_goto C 2 dX1_tooEarly_33 (by decide) ?_
          refine ww_sub [1, 2, 0] rfl ?_
          exact ih_2 (t + 1) (by omega) (fun u h9 => by rcases Nat.lt_succ_iff_lt_or_eq.mp h9 with h9 | rfl; exact hno u h9; first | exact fun h8 => c_15 h8.1 | exact fun h8 => by have := h8.2; omega) (by omega)
        · refine ww_aload_n C dX1_tooEarly_18 0 rfl ?_
          refine ww_aload_n C dX1_tooEarly_19 1 rfl ?_
          refine ww_iload_n C dX1_tooEarly_20 2 rfl ?_
          refine ww_callV C (As := [.ref (wa w 1), .int (iZ ((t : Nat) : Int))]) h (pl_lt hpl) (ct_X1_delay w M h t (hpl) (by omega)) mf_X1_delay ml_X1_58 (pl_cell hpl _) rfl (by decide) rfl rfl (Nat.le_of_ble_eq_true rfl) dX1_tooEarly_21 (fun z_21 M_21 hp_21 => ?_)
          rw [hp_21.1, hp_21.2]
          refine ww_iconst C dX1_tooEarly_24 ?_
          refine ww_icmp_ge C 30 dX1_tooEarly_25 (by decide) (by omega) (by omega) (fun c_25 => ?_) (fun c_25 => ?_)
          · refine ww_iinc2 C dX1_tooEarly_30 2 rfl (b := ((t + 1 : Nat) : Int)) (by omega) (lv' := [(2, .int (iZ ((t + 1 : Nat) : Int))), (0, .ref (wa w h)), (1, .ref (wa w 1))]) (by rw [hkL]; decide) rfl ?_
            refine ww_goto C 2 dX1_tooEarly_33 (by decide) ?_
            refine ww_sub [1, 2, 0] rfl ?_
            exact ih_2 (t + 1) (by omega) (fun u h9 => by rcases Nat.lt_succ_iff_lt_or_eq.mp h9 with h9 | rfl; exact hno u h9; first | exact fun h8 => c_15 h8.1 | exact fun h8 => by have := h8.2; omega) (by omega)
          · refine ww_iload_n C dX1_tooEarly_28 2 rfl ?_
            exact RT _ _ _ _ dX1_tooEarly_29 (⟨Or.inr ⟨t, rfl, by omega, ⟨c_15, by omega⟩, hno⟩, rfl⟩)
  refine ww_sub [1, 2, 0] rfl ?_
  exact L_2 _ 0 (by omega) (fun u h9 => absurd h9 (Nat.not_lt_zero _)) (Nat.lt_succ_self _)
set_option maxRecDepth 100000 in
set_option maxHeartbeats 4000000 in
theorem ct_X1_tooFar (w : WLD) (M : Mem) (h nv : Nat) (hpl : pl h) (hnu : NuOk (M (h + 1))) (hnv : M 1 3 = (nv : Int)) (hn4 : nv ≤ 4) (hs : SzOk (M 2)) (hst : StOk (M 4)) : CtI w yX1_tooFar cX1_tooFar 3 (some .int) rm_X1_tooFar [.ref (wa w h), .ref (wa w 1)] M (fun z M1 => isFst (farP (M (h + 1)) (M 2) (M 4)) nv z ∧ M1 = M) := by
  refine CtI.of (by decide) (Nat.le_of_ble_eq_true rfl) rfl rfl ?_
  intro k hkL C RT
  show WW w k 0 [(0, .ref (wa w h)), (1, .ref (wa w 1))] [] M
  refine ww_iconst C dX1_tooFar_0 ?_
  refine ww_istore_n C dX1_tooFar_1 (lv' := [(2, .int (iZ 0)), (0, .ref (wa w h)), (1, .ref (wa w 1))]) (by rw [hkL]; decide) rfl ?_
  have L_2 : ∀ (fuel : Nat) (t : Nat) (ht : t ≤ nv) (hno : ∀ u : Nat, u < t → ¬ farP (M (h + 1)) (M 2) (M 4) u), nv - t < fuel → WW w k 2 [(0, .ref (wa w h)), (1, .ref (wa w 1)), (2, .int (iZ ((t : Nat) : Int)))] [] M := by
    intro fuel
    induction fuel with
    | zero => intro t ht hno hf_2; exact absurd hf_2 (Nat.not_lt_zero _)
    | succ fuel ih_2 =>
      intro t ht hno hf_2
      have b0 : t < 4 → _ := fun hv9 => stepB_b (h := 0) (v := t) hnu hst (by omega) hv9
      have b1 : t < 4 → _ := fun hv9 => wayZ_b (v := t) hnu hst hv9
      refine ww_iload_n C dX1_tooFar_2 2 rfl ?_
      refine ww_aload_n C dX1_tooFar_3 1 rfl ?_
      refine gt_X1_51 C dX1_tooFar_4 ?_
      refine ww_top (b := ((nv : Nat) : Int)) (hnv) ?_
      refine ww_icmp_ge C 41 dX1_tooFar_7 (by decide) (by omega) (by omega) (fun c_7 => ?_) (fun c_7 => ?_)
      · refine ww_iconst C dX1_tooFar_41 ?_
        exact RT _ _ _ _ dX1_tooFar_42 (⟨Or.inl ⟨rfl, fun u h9 => hno u (by omega)⟩, rfl⟩)
      · refine ww_aload_n C dX1_tooFar_10 1 rfl ?_
        refine ww_iload_n C dX1_tooFar_11 2 rfl ?_
        refine ww_callV C (As := [.int (iZ ((t : Nat) : Int))]) 1 (by decide) (ct_X4_isNeeded w M t (by omega) (hs) (hst)) mf_X4_isNeeded ml_X1_54 rfl rfl (by decide) rfl rfl (Nat.le_of_ble_eq_true rfl) dX1_tooFar_12 (fun z_12 M_12 hp_12 => ?_)
        rw [hp_12.1, hp_12.2]
        refine ww_ifb_eq C 35 dX1_tooFar_15 (by decide) (fun c_15 => ?_) (fun c_15 => ?_)
        · refine ww_iinc2 C dX1_tooFar_35 2 rfl (b := ((t + 1 : Nat) : Int)) (by omega) (lv' := [(2, .int (iZ ((t + 1 : Nat) : Int))), (0, .ref (wa w h)), (1, .ref (wa w 1))]) (by rw [hkL]; decide) rfl ?_
          refine ww_goto C 2 dX1_tooFar_38 (by decide) ?_
          refine ww_sub [1, 2, 0] rfl ?_
          exact ih_2 (t + 1) (by omega) (fun u h9 => by rcases Nat.lt_succ_iff_lt_or_eq.mp h9 with h9 | rfl; exact hno u h9; first | exact fun h8 => c_15 h8.1 | exact fun h8 => by have := h8.2; omega) (by omega)
        · refine ww_aload_n C dX1_tooFar_18 0 rfl ?_
          refine ww_aload_n C dX1_tooFar_19 1 rfl ?_
          refine ww_iload_n C dX1_tooFar_20 2 rfl ?_
          refine ww_callV C (As := [.ref (wa w 1), .int (iZ ((t : Nat) : Int))]) h (pl_lt hpl) (ct_X1_way w M h t (hpl) (by omega) (hnu) (hst)) mf_X1_way ml_X1_62 (pl_cell hpl _) rfl (by decide) rfl rfl (Nat.le_of_ble_eq_true rfl) dX1_tooFar_21 (fun z_21 M_21 hp_21 => ?_)
          rw [hp_21.1, hp_21.2]
          refine ww_aload_n C dX1_tooFar_24 0 rfl ?_
          refine ww_aload_n C dX1_tooFar_25 1 rfl ?_
          refine ww_iload_n C dX1_tooFar_26 2 rfl ?_
          refine ww_callV C (As := [.ref (wa w 1), .int (iZ ((t : Nat) : Int))]) h (pl_lt hpl) (ct_X1_delay w M h t (hpl) (by omega)) mf_X1_delay ml_X1_58 (pl_cell hpl _) rfl (by decide) rfl rfl (Nat.le_of_ble_eq_true rfl) dX1_tooFar_27 (fun z_27 M_27 hp_27 => ?_)
          rw [hp_27.1, hp_27.2]
          refine ww_icmp_le C 35 dX1_tooFar_30 (by decide) (by omega) (by omega) (fun c_30 => ?_) (fun c_30 => ?_)
          · refine ww_iinc2 C dX1_tooFar_35 2 rfl (b := ((t + 1 : Nat) : Int)) (by omega) (lv' := [(2, .int (iZ ((t + 1 : Nat) : Int))), (0, .ref (wa w h)), (1, .ref (wa w 1))]) (by rw [hkL]; decide) rfl ?_
            refine ww_goto C 2 dX1_tooFar_38 (by decide) ?_
            refine ww_sub [1, 2, 0] rfl ?_
            exact ih_2 (t + 1) (by omega) (fun u h9 => by rcases Nat.lt_succ_iff_lt_or_eq.mp h9 with h9 | rfl; exact hno u h9; first | exact fun h8 => c_15 h8.1 | exact fun h8 => by have := h8.2; omega) (by omega)
          · refine ww_iload_n C dX1_tooFar_33 2 rfl ?_
            exact RT _ _ _ _ dX1_tooFar_34 (⟨Or.inr ⟨t, rfl, by omega, ⟨c_15, by omega⟩, hno⟩, rfl⟩)
  refine ww_sub [1, 2, 0] rfl ?_
  exact L_2 _ 0 (by omega) (fun u h9 => absurd h9 (Nat.not_lt_zero _)) (Nat.lt_succ_self _)
end
section
set_option maxRecDepth 100000 in
set_option maxHeartbeats 4000000 in
theorem ct_X4_resize (w : WLD) (M : Mem) (a b c : Int) (ha : 1 ≤ a ∧ a ≤ 8) (hb : 1 ≤ b ∧ b ≤ 8) (hc : 1 ≤ c ∧ c ≤ 8) : CtV w yX4_resize cX4_resize 5 rm_X4_resize [.ref (wa w 1), .int (iZ a), .int (iZ b), .int (iZ c)] M (fun M1 => ∃ (np : Nat) (co : Nat → Int), CdOk (up1 (up1 (up1 (M 2) 0 a) 1 b) 2 c) co np ∧ M1 = ups (ups (ups (ups M 2 (up1 (up1 (up1 (M 2) 0 a) 1 b) 2 c)) 1 (up1 (up1 (M 1) 2 ((np : Nat) : Int)) 10 0)) 3 co) 8 (fil 2048 0 (M 8))) := by
  refine CtV.of (by decide) (Nat.le_of_ble_eq_true rfl) rfl rfl ?_
  intro k hkL C RT
  have hz : SzOk (up1 (up1 (up1 (M 2) 0 a) 1 b) 2 c) := ⟨ha, hb, hc⟩
  show WW w k 0 [(0, .ref (wa w 1)), (1, .int (iZ a)), (2, .int (iZ b)), (3, .int (iZ c))] [] M
  refine ww_aload_n C dX4_resize_0 0 rfl ?_
  refine gt_X4_9 C dX4_resize_1 ?_
  refine ww_iconst C dX4_resize_4 ?_
  refine ww_iload_n C dX4_resize_5 1 rfl ?_
  refine as_2 C 0 rfl (by omega) dX4_resize_6 ?_
  refine ww_aload_n C dX4_resize_7 0 rfl ?_
  refine gt_X4_9 C dX4_resize_8 ?_
  refine ww_iconst C dX4_resize_11 ?_
  refine ww_iload_n C dX4_resize_12 2 rfl ?_
  refine as_2 C 1 rfl (by omega) dX4_resize_13 ?_
  refine ww_mem (M1 := ups M 2 (up1 (up1 (M 2) 0 a) 1 b)) (ups_ups) ?_
  refine ww_aload_n C dX4_resize_14 0 rfl ?_
  refine gt_X4_9 C dX4_resize_15 ?_
  refine ww_iconst C dX4_resize_18 ?_
  refine ww_iload_n C dX4_resize_19 3 rfl ?_
  refine as_2 C 2 rfl (by omega) dX4_resize_20 ?_
  refine ww_mem (M1 := ups M 2 (up1 (up1 (up1 (M 2) 0 a) 1 b) 2 c)) (ups_ups) ?_
  refine ww_aload_n C dX4_resize_21 0 rfl ?_
  refine ww_iconst C dX4_resize_22 ?_
  refine pt_X4_18 C dX4_resize_23 ?_
  refine ww_mem (M1 := ups (ups M 2 (up1 (up1 (up1 (M 2) 0 a) 1 b) 2 c)) 1 (up1 (M 1) 2 0)) rfl ?_
  refine ww_iconst C dX4_resize_26 ?_
  refine ww_istore C dX4_resize_27 (lv' := [(4, .int (iZ 0)), (0, .ref (wa w 1)), (1, .int (iZ a)), (2, .int (iZ b)), (3, .int (iZ c))]) (by rw [hkL]; decide) rfl ?_
  have L_29 : ∀ (fuel : Nat) (t np : Nat) (co : Nat → Int) (ht : t ≤ 512) (hcd : CdT (up1 (up1 (up1 (M 2) 0 a) 1 b) 2 c) co np t), 512 - t < fuel → WW w k 29 [(0, .ref (wa w 1)), (4, .int (iZ ((t : Nat) : Int)))] [] (ups (ups (ups M 2 (up1 (up1 (up1 (M 2) 0 a) 1 b) 2 c)) 1 (up1 (M 1) 2 ((np : Nat) : Int))) 3 co) := by
    intro fuel
    induction fuel with
    | zero => intro t np co ht hcd hf_29; exact absurd hf_29 (Nat.not_lt_zero _)
    | succ fuel ih_29 =>
      intro t np co ht hcd hf_29
      have hnp := hcd.2.2.2.2
      refine ww_iload C dX4_resize_29 1 rfl ?_
      refine ww_sipush C dX4_resize_31 (by decide) ?_
      refine ww_icmp_ge C 89 dX4_resize_34 (by decide) (by omega) (by omega) (fun c_34 => ?_) (fun c_34 => ?_)
      · refine ww_aload_n C dX4_resize_89 0 rfl ?_
        refine gt_X4_37 C dX4_resize_90 ?_
        refine ww_iconst C dX4_resize_93 ?_
        refine ww_callSV C (As := [.ref (wa w 8), .int (iZ 0)]) (ct_J7_fill_53178 w (ups (ups (ups M 2 (up1 (up1 (up1 (M 2) 0 a) 1 b) 2 c)) 1 (up1 (M 1) 2 ((np : Nat) : Int))) 3 co) 8 2048 0 (by decide) (fun _ => rfl) (by decide)) mf_J7_fill_53178 ml_X4_51 (by decide) rfl rfl (Nat.le_of_ble_eq_true rfl) dX4_resize_94 (fun M_94 hp_94 => ?_)
        rw [hp_94]
        refine ww_mem (M1 := ups (ups (ups (ups M 2 (up1 (up1 (up1 (M 2) 0 a) 1 b) 2 c)) 1 (up1 (M 1) 2 ((np : Nat) : Int))) 3 co) 8 (fil 2048 0 ((ups (ups (ups M 2 (up1 (up1 (up1 (M 2) 0 a) 1 b) 2 c)) 1 (up1 (M 1) 2 ((np : Nat) : Int))) 3 co) 8))) rfl ?_
        refine ww_aload_n C dX4_resize_97 0 rfl ?_
        refine ww_iconst C dX4_resize_98 ?_
        refine pt_X4_43 C (by decide) dX4_resize_99 ?_
        refine ww_mem (M1 := ups (ups (ups (ups M 2 (up1 (up1 (up1 (M 2) 0 a) 1 b) 2 c)) 1 (up1 (up1 (M 1) 2 ((np : Nat) : Int)) 10 0)) 3 co) 8 (fil 2048 0 ((ups (ups (ups M 2 (up1 (up1 (up1 (M 2) 0 a) 1 b) 2 c)) 1 (up1 (M 1) 2 ((np : Nat) : Int))) 3 co) 8))) (((ups_comm (by decide)).trans (congrArg (fun X9 => ups X9 8 (fil 2048 0 ((ups (ups (ups M 2 (up1 (up1 (up1 (M 2) 0 a) 1 b) 2 c)) 1 (up1 (M 1) 2 ((np : Nat) : Int))) 3 co) 8))) ((ups_comm (by decide)).trans (congrArg (fun X9 => ups X9 3 co) ups_ups))))) ?_
        exact RT _ _ _ dX4_resize_102 (⟨np, co, by rw [show t = 512 by omega] at hcd; exact hcd, rfl⟩)
      · refine ww_aload_n C dX4_resize_37 0 rfl ?_
        refine ww_iload C dX4_resize_38 1 rfl ?_
        refine ww_bipush C dX4_resize_40 (by decide) ?_
        refine ww_ishr6 C dX4_resize_42 t rfl (by omega) ?_
        refine ww_iload C dX4_resize_43 1 rfl ?_
        refine ww_iconst C dX4_resize_45 ?_
        refine ww_ishr3 C dX4_resize_46 t rfl (by omega) ?_
        refine ww_bipush C dX4_resize_47 (by decide) ?_
        refine ww_iand7 C dX4_resize_49 (t / 8) rfl (by omega) ?_
        refine ww_iload C dX4_resize_50 1 rfl ?_
        refine ww_bipush C dX4_resize_52 (by decide) ?_
        refine ww_iand7 C dX4_resize_54 t rfl (by omega) ?_
        refine ww_callV C (As := [.int (iZ ((t / 64 : Nat) : Int)), .int (iZ (((t / 8) % 8 : Nat) : Int)), .int (iZ ((t % 8 : Nat) : Int))]) 1 (by decide) (ct_X4_codeOf w (ups (ups (ups M 2 (up1 (up1 (up1 (M 2) 0 a) 1 b) 2 c)) 1 (up1 (M 1) 2 ((np : Nat) : Int))) 3 co) ((t / 64 : Nat) : Int) (((t / 8) % 8 : Nat) : Int) ((t % 8 : Nat) : Int) (by omega) (by omega) (by omega) (hz)) mf_X4_codeOf ml_X4_47 rfl rfl (by decide) rfl rfl (Nat.le_of_ble_eq_true rfl) dX4_resize_55 (fun z_55 M_55 hp_55 => ?_)
        rw [hp_55.1, hp_55.2]
        refine ww_top (b := codeZ ((up1 (up1 (up1 (M 2) 0 a) 1 b) 2 c)) ((t / 64 : Nat) : Int) (((t / 8) % 8 : Nat) : Int) ((t % 8 : Nat) : Int)) rfl ?_
        refine ww_iconst C dX4_resize_58 ?_
        refine ww_icmp_eq C 83 dX4_resize_59 (by decide) (by have := codeZ_b (i := ((t / 64 : Nat) : Int)) (j := ((t / 8 % 8 : Nat) : Int)) (k := ((t % 8 : Nat) : Int)) hz; exact ⟨by omega, by omega⟩) (by omega) (fun c_59 => ?_) (fun c_59 => ?_)
        · refine ww_iinc2 C dX4_resize_83 1 rfl (b := ((t + 1 : Nat) : Int)) (by omega) (lv' := [(4, .int (iZ ((t + 1 : Nat) : Int))), (0, .ref (wa w 1))]) (by rw [hkL]; decide) rfl ?_
          refine ww_goto C 29 dX4_resize_86 (by decide) ?_
          refine ww_sub [1, 0] rfl ?_
          exact ih_29 (t + 1) np co (by omega) (CdT_skip hcd (fun q9 => by have e9 := codeZ_P q9; omega)) (by omega)
        · refine ww_aload_n C dX4_resize_62 0 rfl ?_
          refine gt_X4_15 C dX4_resize_63 ?_
          refine ww_aload_n C dX4_resize_66 0 rfl ?_
          refine gt_X4_18 C dX4_resize_67 ?_
          refine ww_top (b := ((np : Nat) : Int)) (rfl) ?_
          refine ww_iload C dX4_resize_70 1 rfl ?_
          refine as_3 C np rfl (by omega) dX4_resize_72 ?_
          refine ww_mem (M1 := ups (ups (ups M 2 (up1 (up1 (up1 (M 2) 0 a) 1 b) 2 c)) 1 (up1 (M 1) 2 ((np : Nat) : Int))) 3 (up1 co np ((t : Nat) : Int))) (ups_ups) ?_
          refine ww_aload_n C dX4_resize_73 0 rfl ?_
          refine ww_dup C dX4_resize_74 rfl ?_
          refine gt_X4_18 C dX4_resize_75 ?_
          refine ww_top (b := ((np : Nat) : Int)) (rfl) ?_
          refine ww_iconst C dX4_resize_78 ?_
          refine ww_iadd C dX4_resize_79 ?_
          refine ww_top (b := ((np + 1 : Nat) : Int)) (by omega) ?_
          refine pt_X4_18 C dX4_resize_80 ?_
          refine ww_mem (M1 := ups (ups (ups M 2 (up1 (up1 (up1 (M 2) 0 a) 1 b) 2 c)) 1 (up1 (up1 (M 1) 2 ((np : Nat) : Int)) 2 ((np + 1 : Nat) : Int))) 3 (up1 co np ((t : Nat) : Int))) (((ups_comm (by decide)).trans (congrArg (fun X9 => ups X9 3 (up1 co np ((t : Nat) : Int))) ups_ups))) ?_
          refine ww_iinc2 C dX4_resize_83 1 rfl (b := ((t + 1 : Nat) : Int)) (by omega) (lv' := [(4, .int (iZ ((t + 1 : Nat) : Int))), (0, .ref (wa w 1))]) (by rw [hkL]; decide) rfl ?_
          refine ww_goto C 29 dX4_resize_86 (by decide) ?_
          refine ww_sub [1, 0] rfl ?_
          exact ih_29 (t + 1) (np + 1) (up1 co np ((t : Nat) : Int)) (by omega) (CdT_add hcd (Classical.byContradiction (fun q9 => c_59 (codeZ_N q9)))) (by omega)
  refine ww_sub [1, 0] rfl ?_
  refine ww_mem (M1 := ups (ups (ups M 2 (up1 (up1 (up1 (M 2) 0 a) 1 b) 2 c)) 1 (up1 (M 1) 2 ((0 : Nat) : Int))) 3 (M 3)) ((ups_id (M := ups (ups M 2 (up1 (up1 (up1 (M 2) 0 a) 1 b) 2 c)) 1 (up1 (M 1) 2 0)) (h := 3)).symm) ?_
  exact L_29 _ 0 0 (M 3) (by omega) (CdT_0 _ _) (Nat.lt_succ_self _)
set_option maxRecDepth 100000 in
set_option maxHeartbeats 4000000 in
theorem ct_X4_plainValue (w : WLD) (M : Mem) (nv np v p : Nat) (hv : v < 4) (hp : p < 512) (hvk : M 1 10 = 0 ∨ M 1 10 = 1) (har : ∀ q : Nat, R32 (M 9 q)) (hnv : M 1 3 = (nv : Int)) (hn4 : nv ≤ 4) (hs : SzOk (M 2)) (hst : StOk (M 4)) (hac : ∀ v : Nat, v < nv → 0 ≤ M 5 v ∧ M 5 v ≤ 7) (hlf : ∀ v : Nat, v < nv → 0 ≤ M 6 v ∧ M 6 v < nv) (hrt : ∀ v : Nat, v < nv → 0 ≤ M 7 v ∧ M 7 v < nv) (hed : ∀ q : Nat, R32 (M 8 q)) (hnp : M 1 2 = (np : Int)) (hcd : CdOk (M 2) (M 3) np) : CtI w yX4_plainValue cX4_plainValue 4 (some .int) rm_X4_plainValue [.ref (wa w 1), .int (iZ ((v : Nat) : Int)), .int (iZ ((p : Nat) : Int))] M (fun z M1 => (M 1 10 = 1 ∧ z = M 9 (512 * v + p) ∧ M1 = M) ∨ (M 1 10 = 0 ∧ z = plA (M 2) (M 4) (M 5) (M 6) (M 7) (M 8) nv (M 9) 512 (512 * v + p) ∧ M1 = ups (ups M 9 (plA (M 2) (M 4) (M 5) (M 6) (M 7) (M 8) nv (M 9) 512)) 1 (up1 (M 1) 10 1))) := by
  refine CtI.of (by decide) (Nat.le_of_ble_eq_true rfl) rfl rfl ?_
  intro k hkL C RT
  show WW w k 0 [(0, .ref (wa w 1)), (1, .int (iZ ((v : Nat) : Int))), (2, .int (iZ ((p : Nat) : Int)))] [] M
  refine ww_aload_n C dX4_plainValue_0 0 rfl ?_
  refine gt_X4_43 C dX4_plainValue_1 ?_
  refine ww_if_ne C 42 dX4_plainValue_4 (by decide) (by omega) (fun c_4 => ?_) (fun c_4 => ?_)
  · refine ww_aload_n C dX4_plainValue_42 0 rfl ?_
    refine gt_X4_40 C dX4_plainValue_43 ?_
    refine ww_iload_n C dX4_plainValue_46 1 rfl ?_
    refine ww_sipush C dX4_plainValue_47 (by decide) ?_
    refine ww_imul C dX4_plainValue_50 ?_
    refine ww_iload_n C dX4_plainValue_51 2 rfl ?_
    refine ww_iadd C dX4_plainValue_52 ?_
    refine al_9 C (512 * v + p) (z := M 9 (512 * v + p)) (by omega) (by omega) rfl dX4_plainValue_53 ?_
    exact RT _ _ _ _ dX4_plainValue_54 (by first | exact Or.inl ⟨by omega, rfl, rfl⟩ | exact Or.inr ⟨by omega, rfl, rfl⟩)
  · refine ww_iconst C dX4_plainValue_7 ?_
    refine ww_istore_n C dX4_plainValue_8 (lv' := [(3, .int (iZ 0)), (0, .ref (wa w 1)), (1, .int (iZ ((v : Nat) : Int))), (2, .int (iZ ((p : Nat) : Int)))]) (by rw [hkL]; decide) rfl ?_
    have L_9 : ∀ (fuel : Nat) (t : Nat) (ht : t ≤ np), np - t < fuel → WW w k 9 [(0, .ref (wa w 1)), (1, .int (iZ ((v : Nat) : Int))), (2, .int (iZ ((p : Nat) : Int))), (3, .int (iZ ((t : Nat) : Int)))] [] (ups M 9 (plA (M 2) (M 4) (M 5) (M 6) (M 7) (M 8) nv (M 9) (bdN (M 3) np t))) := by
      intro fuel
      induction fuel with
      | zero => intro t ht hf_9; exact absurd hf_9 (Nat.not_lt_zero _)
      | succ fuel ih_9 =>
        intro t ht hf_9
        have hc1 := hcd.1 t
        have hnp9 := hcd.2.2.2.2
        refine ww_iload_n C dX4_plainValue_9 3 rfl ?_
        refine ww_aload_n C dX4_plainValue_10 0 rfl ?_
        refine gt_X4_18 C dX4_plainValue_11 ?_
        refine ww_top (b := ((np : Nat) : Int)) (hnp) ?_
        refine ww_icmp_ge C 37 dX4_plainValue_14 (by decide) (by omega) (by omega) (fun c_14 => ?_) (fun c_14 => ?_)
        · refine ww_mem (M1 := ups M 9 (plA (M 2) (M 4) (M 5) (M 6) (M 7) (M 8) nv (M 9) 512)) (by rw [show t = np by omega, bdN_out (Nat.le_refl np)]) ?_
          refine ww_aload_n C dX4_plainValue_37 0 rfl ?_
          refine ww_iconst C dX4_plainValue_38 ?_
          refine pt_X4_43 C (by decide) dX4_plainValue_39 ?_
          refine ww_mem (M1 := ups (ups M 9 (plA (M 2) (M 4) (M 5) (M 6) (M 7) (M 8) nv (M 9) 512)) 1 (up1 (M 1) 10 1)) rfl ?_
          refine ww_aload_n C dX4_plainValue_42 0 rfl ?_
          refine gt_X4_40 C dX4_plainValue_43 ?_
          refine ww_iload_n C dX4_plainValue_46 1 rfl ?_
          refine ww_sipush C dX4_plainValue_47 (by decide) ?_
          refine ww_imul C dX4_plainValue_50 ?_
          refine ww_iload_n C dX4_plainValue_51 2 rfl ?_
          refine ww_iadd C dX4_plainValue_52 ?_
          refine al_9 C (512 * v + p) (z := (plA (M 2) (M 4) (M 5) (M 6) (M 7) (M 8) nv (M 9) 512) (512 * v + p)) (by omega) (by omega) rfl dX4_plainValue_53 ?_
          exact RT _ _ _ _ dX4_plainValue_54 (by first | exact Or.inl ⟨by omega, rfl, rfl⟩ | exact Or.inr ⟨by omega, rfl, rfl⟩)
        · refine ww_aload_n C dX4_plainValue_17 0 rfl ?_
          refine ww_aload_n C dX4_plainValue_18 0 rfl ?_
          refine gt_X4_40 C dX4_plainValue_19 ?_
          refine ww_aload_n C dX4_plainValue_22 0 rfl ?_
          refine gt_X4_15 C dX4_plainValue_23 ?_
          refine ww_iload_n C dX4_plainValue_26 3 rfl ?_
          refine al_3 C t (z := (((M 3 t).toNat : Nat) : Int)) rfl (by have := hcd.2.2.2.2; omega) ((hcd.1 t (by omega)).1) dX4_plainValue_27 ?_
          refine ww_callVV C (As := [.ref (wa w 9), .int (iZ (((M 3 t).toNat : Nat) : Int))]) 1 (by decide) (ct_X4_workPoint_9 w (ups M 9 (plA (M 2) (M 4) (M 5) (M 6) (M 7) (M 8) nv (M 9) (bdN (M 3) np t))) nv ((M 3 t).toNat) ((hcd.1 t (by omega)).2.1) (hnv) (hn4) (hs) (hst) (hac) (hlf) (hrt) (hed) (fun q9 => plA_R hed har _ q9)) mf_X4_workPoint ml_X4_85 rfl rfl (by decide) rfl rfl (Nat.le_of_ble_eq_true rfl) dX4_plainValue_28 (fun M_28 hp_28 => ?_)
          rw [hp_28]
          refine ww_mem (M1 := ups M 9 (wkA ((M 2)) ((M 4)) ((M 5)) ((M 6)) ((M 7)) ((M 8)) ((plA (M 2) (M 4) (M 5) (M 6) (M 7) (M 8) nv (M 9) (bdN (M 3) np t))) ((M 3 t).toNat) nv)) ups_ups ?_
          refine ww_mem (M1 := ups M 9 (plA (M 2) (M 4) (M 5) (M 6) (M 7) (M 8) nv (M 9) (bdN (M 3) np (t + 1)))) (by rw [plA_bd hcd (by omega)]) ?_
          refine ww_iinc2 C dX4_plainValue_31 3 rfl (b := ((t + 1 : Nat) : Int)) (by omega) (lv' := [(3, .int (iZ ((t + 1 : Nat) : Int))), (0, .ref (wa w 1)), (1, .int (iZ ((v : Nat) : Int))), (2, .int (iZ ((p : Nat) : Int)))]) (by rw [hkL]; decide) rfl ?_
          refine ww_goto C 9 dX4_plainValue_34 (by decide) ?_
          refine ww_sub [1, 2, 3, 0] rfl ?_
          exact ih_9 (t + 1) (by omega) (by omega)
    refine ww_sub [1, 2, 3, 0] rfl ?_
    refine ww_mem (M1 := ups M 9 (plA (M 2) (M 4) (M 5) (M 6) (M 7) (M 8) nv (M 9) (bdN (M 3) np 0))) (by rw [plA_bd0 hcd, ups_id]) ?_
    exact L_9 _ 0 (by omega) (Nat.lt_succ_self _)
set_option maxRecDepth 100000 in
set_option maxHeartbeats 4000000 in
theorem ct_X4_resultCode (w : WLD) (M : Mem) (np v : Nat) (n : Int) (hv : v < 4) (hn : R32 n) (hs : SzOk (M 2)) (hst : StOk (M 4)) (hnp : M 1 2 = (np : Int)) (hcd : CdOk (M 2) (M 3) np) : CtI w yX4_resultCode cX4_resultCode 5 (some .int) rm_X4_resultCode [.ref (wa w 1), .int (iZ ((v : Nat) : Int)), .int (iZ n)] M (fun z M1 => nthR (fun u : Nat => isP (M 2) u ∧ stepZ (M 2) (M 4) v u 1 = -1) n z ∧ M1 = M) := by
  refine CtI.of (by decide) (Nat.le_of_ble_eq_true rfl) rfl rfl ?_
  intro k hkL C RT
  show WW w k 0 [(0, .ref (wa w 1)), (1, .int (iZ ((v : Nat) : Int))), (2, .int (iZ n))] [] M
  refine ww_iconst C dX4_resultCode_0 ?_
  refine ww_istore_n C dX4_resultCode_1 (lv' := [(3, .int (iZ 0)), (0, .ref (wa w 1)), (1, .int (iZ ((v : Nat) : Int))), (2, .int (iZ n))]) (by rw [hkL]; decide) rfl ?_
  refine ww_iconst C dX4_resultCode_2 ?_
  refine ww_istore C dX4_resultCode_3 (lv' := [(4, .int (iZ 0)), (3, .int (iZ 0)), (0, .ref (wa w 1)), (1, .int (iZ ((v : Nat) : Int))), (2, .int (iZ n))]) (by rw [hkL]; decide) rfl ?_
  have L_5 : ∀ (fuel : Nat) (t m : Nat) (ht : t ≤ np) (hm : (m : Int) = cnt (fun u : Nat => isP (M 2) u ∧ stepZ (M 2) (M 4) v u 1 = -1) (bdN (M 3) np t)) (hno : ∀ u : Nat, u < bdN (M 3) np t → (fun u : Nat => isP (M 2) u ∧ stepZ (M 2) (M 4) v u 1 = -1) u → cnt (fun u : Nat => isP (M 2) u ∧ stepZ (M 2) (M 4) v u 1 = -1) u ≠ n), np - t < fuel → WW w k 5 [(0, .ref (wa w 1)), (1, .int (iZ ((v : Nat) : Int))), (2, .int (iZ n)), (3, .int (iZ ((m : Nat) : Int))), (4, .int (iZ ((t : Nat) : Int)))] [] M := by
    intro fuel
    induction fuel with
    | zero => intro t m ht hm hno hf_5; exact absurd hf_5 (Nat.not_lt_zero _)
    | succ fuel ih_5 =>
      intro t m ht hm hno hf_5
      have hc1 := hcd.1 t
      have hnp9 := hcd.2.2.2.2
      have hmb := cnt_b (fun u : Nat => isP (M 2) u ∧ stepZ (M 2) (M 4) v u 1 = -1) (bdN (M 3) np t)
      have hbd : bdN (M 3) np t ≤ 512 := by
        unfold bdN
        split
        · exact Nat.le_of_lt (hcd.1 t (by assumption)).2.1
        · exact Nat.le_refl _
      have hsb := stepZ_b (sz := M 2) (st := M 4) (v := v) (p := (M 3 t).toNat) (sg := 1) hs
      refine ww_iload C dX4_resultCode_5 4 rfl ?_
      refine ww_aload_n C dX4_resultCode_7 0 rfl ?_
      refine gt_X4_18 C dX4_resultCode_8 ?_
      refine ww_top (b := ((np : Nat) : Int)) (hnp) ?_
      refine ww_icmp_ge C 53 dX4_resultCode_11 (by decide) (by omega) (by omega) (fun c_11 => ?_) (fun c_11 => ?_)
      · refine ww_iconst C dX4_resultCode_53 ?_
        exact RT _ _ _ _ dX4_resultCode_54 (⟨Or.inr ⟨rfl, fun u h9 q9 => hno u (by rw [bdN_out (by omega)]; exact h9) q9⟩, rfl⟩)
      · refine ww_aload_n C dX4_resultCode_14 0 rfl ?_
        refine ww_iload_n C dX4_resultCode_15 1 rfl ?_
        refine ww_aload_n C dX4_resultCode_16 0 rfl ?_
        refine gt_X4_15 C dX4_resultCode_17 ?_
        refine ww_iload C dX4_resultCode_20 4 rfl ?_
        refine al_3 C t (z := (((M 3 t).toNat : Nat) : Int)) rfl (by omega) ((hcd.1 t (by omega)).1) dX4_resultCode_22 ?_
        refine ww_iconst C dX4_resultCode_23 ?_
        refine ww_callV C (As := [.int (iZ ((v : Nat) : Int)), .int (iZ (((M 3 t).toNat : Nat) : Int)), .int (iZ 1)]) 1 (by decide) (ct_X4_stepped w M v ((M 3 t).toNat) 1 (by omega) ((hcd.1 t (by omega)).2.1) (Or.inl rfl) (hs) (hst)) mf_X4_stepped ml_X4_75 rfl rfl (by decide) rfl rfl (Nat.le_of_ble_eq_true rfl) dX4_resultCode_24 (fun z_24 M_24 hp_24 => ?_)
        rw [hp_24.1, hp_24.2]
        refine ww_iconst C dX4_resultCode_27 ?_
        refine ww_icmp_ne C 47 dX4_resultCode_28 (by decide) (by omega) (by omega) (fun c_28 => ?_) (fun c_28 => ?_)
        · refine ww_iinc2 C dX4_resultCode_47 4 rfl (b := ((t + 1 : Nat) : Int)) (by omega) (lv' := [(4, .int (iZ ((t + 1 : Nat) : Int))), (0, .ref (wa w 1)), (1, .int (iZ ((v : Nat) : Int))), (2, .int (iZ n)), (3, .int (iZ ((m : Nat) : Int)))]) (by rw [hkL]; decide) rfl ?_
          refine ww_goto C 5 dX4_resultCode_50 (by decide) ?_
          refine ww_sub [1, 2, 3, 4, 0] rfl ?_
          exact ih_5 (t + 1) m (by omega) (by rw [cnt_skip (a := (M 3 t).toNat + 1) (bd_le hcd (by omega)) (fun u h1 h2 q9 => bd_gap hcd (by omega) u h1 h2 q9.1), cnt_f (P := fun u : Nat => isP (M 2) u ∧ stepZ (M 2) (M 4) v u 1 = -1) (fun q9 => c_28 q9.2)]; rw [bdN_in (by omega)] at hm; exact hm) (fun u h9 q9 => by rcases Nat.lt_trichotomy u (M 3 t).toNat with a9 | a9 | a9; exact hno u (by rw [bdN_in (by omega)]; exact a9) q9; rw [a9] at q9; exact absurd q9.2 c_28; exact absurd q9.1 (bd_gap hcd (by omega) u a9 h9)) (by omega)
        · refine ww_iload_n C dX4_resultCode_31 3 rfl ?_
          refine ww_iload_n C dX4_resultCode_32 2 rfl ?_
          refine ww_icmp_ne C 44 dX4_resultCode_33 (by decide) (by omega) (by omega) (fun c_33 => ?_) (fun c_33 => ?_)
          · refine ww_iinc2 C dX4_resultCode_44 3 rfl (b := ((m + 1 : Nat) : Int)) (by omega) (lv' := [(3, .int (iZ ((m + 1 : Nat) : Int))), (0, .ref (wa w 1)), (1, .int (iZ ((v : Nat) : Int))), (2, .int (iZ n)), (4, .int (iZ ((t : Nat) : Int)))]) (by rw [hkL]; decide) rfl ?_
            refine ww_iinc2 C dX4_resultCode_47 4 rfl (b := ((t + 1 : Nat) : Int)) (by omega) (lv' := [(4, .int (iZ ((t + 1 : Nat) : Int))), (3, .int (iZ ((m + 1 : Nat) : Int))), (0, .ref (wa w 1)), (1, .int (iZ ((v : Nat) : Int))), (2, .int (iZ n))]) (by rw [hkL]; decide) rfl ?_
            refine ww_goto C 5 dX4_resultCode_50 (by decide) ?_
            refine ww_sub [2, 3, 4, 1, 0] rfl ?_
            exact ih_5 (t + 1) (m + 1) (by omega) (by rw [cnt_skip (a := (M 3 t).toNat + 1) (bd_le hcd (by omega)) (fun u h1 h2 q9 => bd_gap hcd (by omega) u h1 h2 q9.1), cnt_t (P := fun u : Nat => isP (M 2) u ∧ stepZ (M 2) (M 4) v u 1 = -1) ⟨(hcd.1 t (by omega)).2.2, c_28⟩]; rw [bdN_in (by omega)] at hm; omega) (fun u h9 q9 => by rcases Nat.lt_trichotomy u (M 3 t).toNat with a9 | a9 | a9; exact hno u (by rw [bdN_in (by omega)]; exact a9) q9; rw [a9]; rw [bdN_in (by omega)] at hm; omega; exact absurd q9.1 (bd_gap hcd (by omega) u a9 h9)) (by omega)
          · refine ww_aload_n C dX4_resultCode_36 0 rfl ?_
            refine gt_X4_15 C dX4_resultCode_37 ?_
            refine ww_iload C dX4_resultCode_40 4 rfl ?_
            refine al_3 C t (z := (((M 3 t).toNat : Nat) : Int)) rfl (by omega) ((hcd.1 t (by omega)).1) dX4_resultCode_42 ?_
            exact RT _ _ _ _ dX4_resultCode_43 (⟨Or.inl ⟨(M 3 t).toNat, (hcd.1 t (by omega)).2.1, rfl, ⟨(hcd.1 t (by omega)).2.2, c_28⟩, by rw [bdN_in (by omega)] at hm; omega⟩, rfl⟩)
  refine ww_sub [2, 3, 4, 1, 0] rfl ?_
  exact L_5 _ 0 0 (by omega) ((cnt_skip (a := 0) (Nat.zero_le _) (fun u _ h9 q9 => bd_0 hcd u h9 q9.1)).symm) (fun u h9 q9 => absurd q9.1 (bd_0 hcd u h9)) (Nat.lt_succ_self _)
end
section
set_option maxRecDepth 100000 in
set_option maxHeartbeats 4000000 in
theorem ct_X0_layPoints (w : WLD) (M : Mem) (np : Nat) (hf : 1 ≤ M 10 1 ∧ M 10 1 ≤ 8) (hnu : NuOk (M 11)) (hs : SzOk (M 2)) (hnp : M 1 2 = (np : Int)) (hcd : CdOk (M 2) (M 3) np) : CtV w yX0_layPoints cX0_layPoints 10 rm_X0_layPoints [.ref (wa w 12), .ref (wa w 1), .ref (wa w 10)] M (fun M1 => ∃ be ce se : Nat → Int, LayOk (M 11) (M 2) (M 10 1) be ce se ∧ M1 = ups (ups (ups M 13 be) 14 ce) 15 se) := by
  refine CtV.of (by decide) (Nat.le_of_ble_eq_true rfl) rfl rfl ?_
  intro k hkL C RT
  have l0 := lesZ_b (h := 0) hnu hs (by omega)
  have l1 := lesZ_b (h := 1) hnu hs (by omega)
  have l2 := lesZ_b (h := 2) hnu hs (by omega)
  have hnp9 := hcd.2.2.2.2
  show WW w k 0 [(0, .ref (wa w 12)), (1, .ref (wa w 1)), (2, .ref (wa w 10))] [] M
  refine ww_aload_n C dX0_layPoints_0 2 rfl ?_
  refine ww_iconst C dX0_layPoints_1 ?_
  refine ww_aload_n C dX0_layPoints_2 1 rfl ?_
  refine ww_callV C (As := [.int (iZ 0), .ref (wa w 1)]) 10 (pl_lt (Or.inl rfl)) (ct_X1_least w M 10 0 (Or.inl rfl) (hnu) (by omega) (hs)) mf_X1_least ml_X0_76 (pl_cell (Or.inl rfl) _) rfl (by decide) rfl rfl (Nat.le_of_ble_eq_true rfl) dX0_layPoints_3 (fun z_3 M_3 hp_3 => ?_)
  rw [hp_3.1, hp_3.2]
  refine ww_istore_n C dX0_layPoints_6 (lv' := [(3, .int (iZ (lesZ (M (10 + 1)) ((M 2)) 0))), (0, .ref (wa w 12)), (1, .ref (wa w 1)), (2, .ref (wa w 10))]) (by rw [hkL]; decide) rfl ?_
  refine ww_aload_n C dX0_layPoints_7 3 rfl ?_
  refine ww_iconst C dX0_layPoints_8 ?_
  refine ww_aload_n C dX0_layPoints_9 2 rfl ?_
  refine ww_callV C (As := [.int (iZ 1), .ref (wa w 1)]) 10 (pl_lt (Or.inl rfl)) (ct_X1_least w M 10 1 (Or.inl rfl) (hnu) (by omega) (hs)) mf_X1_least ml_X0_76 (pl_cell (Or.inl rfl) _) rfl (by decide) rfl rfl (Nat.le_of_ble_eq_true rfl) dX0_layPoints_10 (fun z_10 M_10 hp_10 => ?_)
  rw [hp_10.1, hp_10.2]
  refine ww_istore C dX0_layPoints_13 (lv' := [(4, .int (iZ (lesZ (M (10 + 1)) ((M 2)) 1))), (3, .int (iZ (lesZ (M (10 + 1)) ((M 2)) 0))), (0, .ref (wa w 12)), (1, .ref (wa w 1)), (2, .ref (wa w 10))]) (by rw [hkL]; decide) rfl ?_
  refine ww_aload_n C dX0_layPoints_15 4 rfl ?_
  refine ww_iconst C dX0_layPoints_16 ?_
  refine ww_aload_n C dX0_layPoints_17 3 rfl ?_
  refine ww_callV C (As := [.int (iZ 2), .ref (wa w 1)]) 10 (pl_lt (Or.inl rfl)) (ct_X1_least w M 10 2 (Or.inl rfl) (hnu) (by omega) (hs)) mf_X1_least ml_X0_76 (pl_cell (Or.inl rfl) _) rfl (by decide) rfl rfl (Nat.le_of_ble_eq_true rfl) dX0_layPoints_18 (fun z_18 M_18 hp_18 => ?_)
  rw [hp_18.1, hp_18.2]
  refine ww_istore C dX0_layPoints_21 (lv' := [(5, .int (iZ (lesZ (M (10 + 1)) ((M 2)) 2))), (4, .int (iZ (lesZ (M (10 + 1)) ((M 2)) 1))), (3, .int (iZ (lesZ (M (10 + 1)) ((M 2)) 0))), (0, .ref (wa w 12)), (1, .ref (wa w 1)), (2, .ref (wa w 10))]) (by rw [hkL]; decide) rfl ?_
  refine ww_iconst C dX0_layPoints_23 ?_
  refine ww_aload_n C dX0_layPoints_24 5 rfl ?_
  refine gt_X0_82 C (Or.inl rfl) dX0_layPoints_25 ?_
  refine ww_max C ml_X0_59 (by omega) (by omega) (by decide) (Nat.le_of_ble_eq_true rfl) dX0_layPoints_28 ?_
  refine ww_top (b := M 10 1) (by omega) ?_
  refine ww_istore C dX0_layPoints_31 (lv' := [(6, .int (iZ (M 10 1))), (5, .int (iZ (lesZ (M (10 + 1)) ((M 2)) 2))), (4, .int (iZ (lesZ (M (10 + 1)) ((M 2)) 1))), (3, .int (iZ (lesZ (M (10 + 1)) ((M 2)) 0))), (0, .ref (wa w 12)), (1, .ref (wa w 1)), (2, .ref (wa w 10))]) (by rw [hkL]; decide) rfl ?_
  refine ww_iconst C dX0_layPoints_33 ?_
  refine ww_istore C dX0_layPoints_34 (lv' := [(7, .int (iZ 0)), (6, .int (iZ (M 10 1))), (5, .int (iZ (lesZ (M (10 + 1)) ((M 2)) 2))), (4, .int (iZ (lesZ (M (10 + 1)) ((M 2)) 1))), (3, .int (iZ (lesZ (M (10 + 1)) ((M 2)) 0))), (0, .ref (wa w 12)), (1, .ref (wa w 1)), (2, .ref (wa w 10))]) (by rw [hkL]; decide) rfl ?_
  have L_36 : ∀ (fuel : Nat) (t : Nat) (be ce se : Nat → Int) (ht : t ≤ np) (hlt : ∀ u : Nat, u < t → be (M 3 u).toNat = beatZ (M 11) (M 2) (M 10 1) (M 3 u).toNat ∧ ce (M 3 u).toNat = cellZ (M 11) (M 2) (M 10 1) (M 3 u).toNat ∧ se (M 3 u).toNat = atZ (M 11) (M 2) 2 (M 3 u).toNat), np - t < fuel → WW w k 36 [(0, .ref (wa w 12)), (1, .ref (wa w 1)), (2, .ref (wa w 10)), (3, .int (iZ (lesZ (M 11) (M 2) 0))), (4, .int (iZ (lesZ (M 11) (M 2) 1))), (5, .int (iZ (lesZ (M 11) (M 2) 2))), (6, .int (iZ (M 10 1))), (7, .int (iZ ((t : Nat) : Int)))] [] (ups (ups (ups M 13 be) 14 ce) 15 se) := by
    intro fuel
    induction fuel with
    | zero => intro t be ce se ht hlt hf_36; exact absurd hf_36 (Nat.not_lt_zero _)
    | succ fuel ih_36 =>
      intro t be ce se ht hlt hf_36
      have hc1 := hcd.1 t
      refine ww_iload C dX0_layPoints_36 7 rfl ?_
      refine ww_aload_n C dX0_layPoints_38 1 rfl ?_
      refine gt_X0_51 C dX0_layPoints_39 ?_
      refine ww_top (b := ((np : Nat) : Int)) (hnp) ?_
      refine ww_icmp_ge C 126 dX0_layPoints_42 (by decide) (by omega) (by omega) (fun c_42 => ?_) (fun c_42 => ?_)
      · exact RT _ _ _ dX0_layPoints_126 (⟨be, ce, se, fun p9 hp9 => by obtain ⟨u, hu1, hu2⟩ := hcd.2.2.1 p9 (isP_lt hs hp9) hp9; have := hlt u (by omega); rw [hu2] at this; exact this, rfl⟩)
      · refine ww_aload_n C dX0_layPoints_45 1 rfl ?_
        refine gt_X0_56 C dX0_layPoints_46 ?_
        refine ww_iload C dX0_layPoints_49 7 rfl ?_
        refine al_3 C t (z := (((M 3 t).toNat : Nat) : Int)) rfl (by omega) ((hcd.1 t (by omega)).1) dX0_layPoints_51 ?_
        refine ww_istore C dX0_layPoints_52 (lv' := [(8, .int (iZ (((M 3 t).toNat : Nat) : Int))), (0, .ref (wa w 12)), (1, .ref (wa w 1)), (2, .ref (wa w 10)), (3, .int (iZ (lesZ (M 11) (M 2) 0))), (4, .int (iZ (lesZ (M 11) (M 2) 1))), (5, .int (iZ (lesZ (M 11) (M 2) 2))), (6, .int (iZ (M 10 1))), (7, .int (iZ ((t : Nat) : Int)))]) (by rw [hkL]; decide) rfl ?_
        refine ww_aload_n C dX0_layPoints_54 3 rfl ?_
        refine ww_iconst C dX0_layPoints_55 ?_
        refine ww_iload C dX0_layPoints_56 0 rfl ?_
        refine ww_callV C (As := [.int (iZ 1), .int (iZ (((M 3 t).toNat : Nat) : Int))]) 10 (pl_lt (Or.inl rfl)) (ct_X1_timesCode w (ups (ups (ups M 13 be) 14 ce) 15 se) 10 1 ((M 3 t).toNat) (Or.inl rfl) (by omega) ((hc1 (by omega)).2.1)) mf_X1_timesCode ml_X0_85 (pl_cell (Or.inl rfl) _) rfl (by decide) rfl rfl (Nat.le_of_ble_eq_true rfl) dX0_layPoints_58 (fun z_58 M_58 hp_58 => ?_)
        rw [hp_58.1, hp_58.2]
        refine ww_top (b := dotP ((ups (ups (ups M 13 be) 14 ce) 15 se) (10 + 1)) 1 ((M 3 t).toNat)) rfl ?_
        refine ww_iload C dX0_layPoints_61 5 rfl ?_
        refine ww_isub C dX0_layPoints_63 ?_
        refine ww_top (b := atZ (M 11) (M 2) 1 (M 3 t).toNat) (rfl) ?_
        refine ww_istore C dX0_layPoints_64 (lv' := [(9, .int (iZ (atZ (M 11) (M 2) 1 (M 3 t).toNat))), (8, .int (iZ (((M 3 t).toNat : Nat) : Int))), (0, .ref (wa w 12)), (1, .ref (wa w 1)), (2, .ref (wa w 10)), (3, .int (iZ (lesZ (M 11) (M 2) 0))), (4, .int (iZ (lesZ (M 11) (M 2) 1))), (5, .int (iZ (lesZ (M 11) (M 2) 2))), (6, .int (iZ (M 10 1))), (7, .int (iZ ((t : Nat) : Int)))]) (by rw [hkL]; decide) rfl ?_
        have g0 := atZ_b (h := 0) hnu hs (by omega) (hc1 (by omega)).2.2
        have g1 := atZ_b (h := 1) hnu hs (by omega) (hc1 (by omega)).2.2
        have hc2 := (hc1 (by omega)).2.1
        refine ww_aload_n C dX0_layPoints_66 2 rfl ?_
        refine gt_X0_9 C dX0_layPoints_67 ?_
        refine ww_iload C dX0_layPoints_70 1 rfl ?_
        refine ww_iload C dX0_layPoints_72 8 rfl ?_
        refine ww_aload_n C dX0_layPoints_74 4 rfl ?_
        refine ww_iconst C dX0_layPoints_75 ?_
        refine ww_iload C dX0_layPoints_76 1 rfl ?_
        refine ww_callV C (As := [.int (iZ 0), .int (iZ (((M 3 t).toNat : Nat) : Int))]) 10 (pl_lt (Or.inl rfl)) (ct_X1_timesCode w (ups (ups (ups M 13 be) 14 ce) 15 se) 10 0 ((M 3 t).toNat) (Or.inl rfl) (by omega) ((hc1 (by omega)).2.1)) mf_X1_timesCode ml_X0_85 (pl_cell (Or.inl rfl) _) rfl (by decide) rfl rfl (Nat.le_of_ble_eq_true rfl) dX0_layPoints_78 (fun z_78 M_78 hp_78 => ?_)
        rw [hp_78.1, hp_78.2]
        refine ww_top (b := dotP ((ups (ups (ups M 13 be) 14 ce) 15 se) (10 + 1)) 0 ((M 3 t).toNat)) rfl ?_
        refine ww_iload_n C dX0_layPoints_81 5 rfl ?_
        refine ww_isub C dX0_layPoints_82 ?_
        refine ww_top (b := atZ (M 11) (M 2) 0 (M 3 t).toNat) (rfl) ?_
        refine ww_imul C dX0_layPoints_83 ?_
        refine ww_iload C dX0_layPoints_84 0 rfl ?_
        refine ww_iload C dX0_layPoints_86 8 rfl ?_
        refine ww_iremN C dX0_layPoints_88 (by omega) (by omega) ?_
        refine ww_iadd C dX0_layPoints_89 ?_
        refine ww_top (b := beatZ (M 11) (M 2) (M 10 1) (M 3 t).toNat) (rfl) ?_
        refine as_13 C ((M 3 t).toNat) rfl (by omega) dX0_layPoints_90 ?_
        refine ww_mem (M1 := ups (ups (ups M 13 (up1 be ((M 3 t).toNat) (beatZ (M 11) (M 2) (M 10 1) (M 3 t).toNat))) 14 ce) 15 se) (((ups_comm (by decide)).trans (congrArg (fun X9 => ups X9 15 se) ((ups_comm (by decide)).trans (congrArg (fun X9 => ups X9 14 ce) ups_ups))))) ?_
        refine ww_aload_n C dX0_layPoints_91 2 rfl ?_
        refine gt_X0_15 C dX0_layPoints_92 ?_
        refine ww_iload C dX0_layPoints_95 1 rfl ?_
        refine ww_iload C dX0_layPoints_97 0 rfl ?_
        refine ww_iload C dX0_layPoints_99 8 rfl ?_
        refine ww_idivN C dX0_layPoints_101 (by omega) (by omega) ?_
        refine ww_top (b := cellZ (M 11) (M 2) (M 10 1) (M 3 t).toNat) (rfl) ?_
        refine as_14 C ((M 3 t).toNat) rfl (by omega) dX0_layPoints_102 ?_
        refine ww_mem (M1 := ups (ups (ups M 13 (up1 be ((M 3 t).toNat) (beatZ (M 11) (M 2) (M 10 1) (M 3 t).toNat))) 14 (up1 ce ((M 3 t).toNat) (cellZ (M 11) (M 2) (M 10 1) (M 3 t).toNat))) 15 se) (((ups_comm (by decide)).trans (congrArg (fun X9 => ups X9 15 se) ups_ups))) ?_
        refine ww_aload_n C dX0_layPoints_103 2 rfl ?_
        refine gt_X0_18 C dX0_layPoints_104 ?_
        refine ww_iload C dX0_layPoints_107 1 rfl ?_
        refine ww_aload_n C dX0_layPoints_109 4 rfl ?_
        refine ww_iconst C dX0_layPoints_110 ?_
        refine ww_iload C dX0_layPoints_111 1 rfl ?_
        refine ww_callV C (As := [.int (iZ 2), .int (iZ (((M 3 t).toNat : Nat) : Int))]) 10 (pl_lt (Or.inl rfl)) (ct_X1_timesCode w (ups (ups (ups M 13 (up1 be ((M 3 t).toNat) (beatZ (M 11) (M 2) (M 10 1) (M 3 t).toNat))) 14 (up1 ce ((M 3 t).toNat) (cellZ (M 11) (M 2) (M 10 1) (M 3 t).toNat))) 15 se) 10 2 ((M 3 t).toNat) (Or.inl rfl) (by omega) ((hc1 (by omega)).2.1)) mf_X1_timesCode ml_X0_85 (pl_cell (Or.inl rfl) _) rfl (by decide) rfl rfl (Nat.le_of_ble_eq_true rfl) dX0_layPoints_113 (fun z_113 M_113 hp_113 => ?_)
        rw [hp_113.1, hp_113.2]
        refine ww_top (b := dotP ((ups (ups (ups M 13 (up1 be ((M 3 t).toNat) (beatZ (M 11) (M 2) (M 10 1) (M 3 t).toNat))) 14 (up1 ce ((M 3 t).toNat) (cellZ (M 11) (M 2) (M 10 1) (M 3 t).toNat))) 15 se) (10 + 1)) 2 ((M 3 t).toNat)) rfl ?_
        refine ww_iload C dX0_layPoints_116 7 rfl ?_
        refine ww_isub C dX0_layPoints_118 ?_
        refine ww_top (b := atZ (M 11) (M 2) 2 (M 3 t).toNat) (rfl) ?_
        refine as_15 C ((M 3 t).toNat) rfl (by omega) dX0_layPoints_119 ?_
        refine ww_mem (M1 := ups (ups (ups M 13 (up1 be ((M 3 t).toNat) (beatZ (M 11) (M 2) (M 10 1) (M 3 t).toNat))) 14 (up1 ce ((M 3 t).toNat) (cellZ (M 11) (M 2) (M 10 1) (M 3 t).toNat))) 15 (up1 se ((M 3 t).toNat) (atZ (M 11) (M 2) 2 (M 3 t).toNat))) (ups_ups) ?_
        refine ww_iinc2 C dX0_layPoints_120 9 rfl (b := ((t + 1 : Nat) : Int)) (by omega) (lv' := [(7, .int (iZ ((t + 1 : Nat) : Int))), (9, .int (iZ (atZ (M 11) (M 2) 1 (M 3 t).toNat))), (8, .int (iZ (((M 3 t).toNat : Nat) : Int))), (0, .ref (wa w 12)), (1, .ref (wa w 1)), (2, .ref (wa w 10)), (3, .int (iZ (lesZ (M 11) (M 2) 0))), (4, .int (iZ (lesZ (M 11) (M 2) 1))), (5, .int (iZ (lesZ (M 11) (M 2) 2))), (6, .int (iZ (M 10 1)))]) (by rw [hkL]; decide) rfl ?_
        refine ww_goto C 36 dX0_layPoints_123 (by decide) ?_
        refine ww_sub [3, 4, 5, 6, 7, 8, 9, 0] rfl ?_
        exact ih_36 (t + 1) (up1 be (M 3 t).toNat (beatZ (M 11) (M 2) (M 10 1) (M 3 t).toNat)) (up1 ce (M 3 t).toNat (cellZ (M 11) (M 2) (M 10 1) (M 3 t).toNat)) (up1 se (M 3 t).toNat (atZ (M 11) (M 2) 2 (M 3 t).toNat)) (by omega) (fun u h9 => by rcases Nat.lt_succ_iff_lt_or_eq.mp h9 with h9 | rfl; (have a9 := hcd.2.1 u t h9 (by omega); rw [up1_n (by omega), up1_n (by omega), up1_n (by omega)]; exact hlt u h9); (rw [up1_s, up1_s, up1_s]; exact ⟨rfl, rfl, rfl⟩)) (by omega)
  refine ww_sub [5, 6, 7, 4, 3, 2, 1, 0] rfl ?_
  refine ww_mem (M1 := ups (ups (ups M 13 (M 13)) 14 (M 14)) 15 (M 15)) (by rw [ups_id, ups_id, ups_id]) ?_
  exact L_36 _ 0 (M 13) (M 14) (M 15) (by omega) (fun u h9 => absurd h9 (Nat.not_lt_zero _)) (Nat.lt_succ_self _)
set_option maxRecDepth 100000 in
set_option maxHeartbeats 4000000 in
theorem ct_X0_cellKey (w : WLD) (M : Mem) (p : Nat) (hp : p < 512) : CtI w yX0_cellKey cX0_cellKey 2 (some .int) rm_X0_cellKey [.ref (wa w 12), .int (iZ ((p : Nat) : Int))] M (fun z M1 => z = 64 * M 14 p + M 15 p ∧ M1 = M) := by
  refine CtI.of (by decide) (Nat.le_of_ble_eq_true rfl) rfl rfl ?_
  intro k hkL C RT
  show WW w k 0 [(0, .ref (wa w 12)), (1, .int (iZ ((p : Nat) : Int)))] [] M
  refine ww_bipush C dX0_cellKey_0 (by decide) ?_
  refine ww_aload_n C dX0_cellKey_2 0 rfl ?_
  refine gt_X0_15 C dX0_cellKey_3 ?_
  refine ww_iload_n C dX0_cellKey_6 1 rfl ?_
  refine al_14 C p (z := M 14 p) rfl (by omega) rfl dX0_cellKey_7 ?_
  refine ww_imul C dX0_cellKey_8 ?_
  refine ww_aload_n C dX0_cellKey_9 0 rfl ?_
  refine gt_X0_18 C dX0_cellKey_10 ?_
  refine ww_iload_n C dX0_cellKey_13 1 rfl ?_
  refine al_15 C p (z := M 15 p) rfl (by omega) rfl dX0_cellKey_14 ?_
  refine ww_iadd C dX0_cellKey_15 ?_
  exact RT _ _ _ _ dX0_cellKey_16 (⟨rfl, rfl⟩)
set_option maxRecDepth 100000 in
set_option maxHeartbeats 4000000 in
theorem ct_X0_link (w : WLD) (M : Mem) (p kk : Nat) (hp : p < 512) (hk : 64 * M 14 p + M 15 p = (kk : Int)) (hk2 : kk < 4096) (hr : R32 (M 16 kk)) : CtV w yX0_link cX0_link 3 rm_X0_link [.ref (wa w 12), .int (iZ ((p : Nat) : Int))] M (fun M1 => M1 = ups (ups (ups M 12 (up1 (M 12) 5 (M 12 5 + b2i (M 16 kk = 0)))) 17 (up1 (M 17) p (M 16 kk))) 16 (up1 (M 16) kk ((p : Int) + 1))) := by
  refine CtV.of (by decide) (Nat.le_of_ble_eq_true rfl) rfl rfl ?_
  intro k hkL C RT
  show WW w k 0 [(0, .ref (wa w 12)), (1, .int (iZ ((p : Nat) : Int)))] [] M
  refine ww_aload_n C dX0_link_0 0 rfl ?_
  refine ww_iload_n C dX0_link_1 1 rfl ?_
  refine ww_callV C (As := [.int (iZ ((p : Nat) : Int))]) 12 (by decide) (ct_X0_cellKey w M p (by omega)) mf_X0_cellKey ml_X0_73 rfl rfl (by decide) rfl rfl (Nat.le_of_ble_eq_true rfl) dX0_link_2 (fun z_2 M_2 hp_2 => ?_)
  rw [hp_2.1, hp_2.2]
  refine ww_top (b := ((kk : Nat) : Int)) (hk) ?_
  refine ww_istore_n C dX0_link_5 (lv' := [(2, .int (iZ ((kk : Nat) : Int))), (0, .ref (wa w 12)), (1, .int (iZ ((p : Nat) : Int)))]) (by rw [hkL]; decide) rfl ?_
  refine ww_aload_n C dX0_link_6 1 rfl ?_
  refine gt_X0_32 C dX0_link_7 ?_
  refine ww_iload_n C dX0_link_10 0 rfl ?_
  refine al_16 C kk (z := M 16 kk) rfl (by omega) rfl dX0_link_11 ?_
  refine ww_if_ne C 25 dX0_link_12 (by decide) (by omega) (fun c_12 => ?_) (fun c_12 => ?_)
  · refine ww_aload_n C dX0_link_25 1 rfl ?_
    refine gt_X0_35 C dX0_link_26 ?_
    refine ww_iload_n C dX0_link_29 2 rfl ?_
    refine ww_aload_n C dX0_link_30 1 rfl ?_
    refine gt_X0_32 C dX0_link_31 ?_
    refine ww_iload_n C dX0_link_34 0 rfl ?_
    refine al_16 C kk (z := M 16 kk) rfl (by omega) rfl dX0_link_35 ?_
    refine as_17 C p rfl (by omega) dX0_link_36 ?_
    refine ww_aload_n C dX0_link_37 1 rfl ?_
    refine gt_X0_32 C dX0_link_38 ?_
    refine ww_iload_n C dX0_link_41 0 rfl ?_
    refine ww_iload_n C dX0_link_42 2 rfl ?_
    refine ww_iconst C dX0_link_43 ?_
    refine ww_iadd C dX0_link_44 ?_
    refine as_16 C kk rfl (by omega) dX0_link_45 ?_
    refine ww_mem (M1 := ups (ups M 17 (up1 (M 17) p (M 16 kk))) 16 (up1 (M 16) kk (((p : Nat) : Int) + 1))) rfl ?_
    exact RT _ _ _ dX0_link_46 (by first | rw [b2i_t c_12] | rw [b2i_f c_12, Int.add_zero, up1_id, ups_id])
  · refine ww_aload_n C dX0_link_15 1 rfl ?_
    refine ww_dup C dX0_link_16 rfl ?_
    refine gt_X0_48 C dX0_link_17 ?_
    refine ww_iconst C dX0_link_20 ?_
    refine ww_iadd C dX0_link_21 ?_
    refine pt_X0_48 C dX0_link_22 ?_
    refine ww_aload_n C dX0_link_25 1 rfl ?_
    refine gt_X0_35 C dX0_link_26 ?_
    refine ww_iload_n C dX0_link_29 2 rfl ?_
    refine ww_aload_n C dX0_link_30 1 rfl ?_
    refine gt_X0_32 C dX0_link_31 ?_
    refine ww_iload_n C dX0_link_34 0 rfl ?_
    refine al_16 C kk (z := M 16 kk) rfl (by omega) rfl dX0_link_35 ?_
    refine as_17 C p rfl (by omega) dX0_link_36 ?_
    refine ww_mem (M1 := ups (ups M 12 (up1 (M 12) 5 ((M 12 5) + 1))) 17 (up1 (M 17) p (M 16 kk))) rfl ?_
    refine ww_aload_n C dX0_link_37 1 rfl ?_
    refine gt_X0_32 C dX0_link_38 ?_
    refine ww_iload_n C dX0_link_41 0 rfl ?_
    refine ww_iload_n C dX0_link_42 2 rfl ?_
    refine ww_iconst C dX0_link_43 ?_
    refine ww_iadd C dX0_link_44 ?_
    refine as_16 C kk rfl (by omega) dX0_link_45 ?_
    refine ww_mem (M1 := ups (ups (ups M 12 (up1 (M 12) 5 ((M 12 5) + 1))) 17 (up1 (M 17) p (M 16 kk))) 16 (up1 (M 16) kk (((p : Nat) : Int) + 1))) rfl ?_
    exact RT _ _ _ dX0_link_46 (by first | rw [b2i_t c_12] | rw [b2i_f c_12, Int.add_zero, up1_id, ups_id])
set_option maxRecDepth 100000 in
set_option maxHeartbeats 4000000 in
theorem ct_X0_metBy (w : WLD) (M : Mem) (K : Nat → Int) (p : Nat) (hah : AhOk (M 2) K (M 17)) (hbe : ∀ u : Nat, isP (M 2) u → R32 (M 13 u) ∧ 0 ≤ M 13 u ∧ M 13 u < 512) (hs : SzOk (M 2)) (hpp : isP (M 2) p) : CtI w yX0_metBy cX0_metBy 4 (some .int) rm_X0_metBy [.ref (wa w 12), .int (iZ ((p : Nat) : Int))] M (fun z M1 => ((z = -1 ∧ ∀ u : Nat, ¬ mtP (M 2) K (M 13) u p) ∨ ∃ u : Nat, z = (u : Int) ∧ mtP (M 2) K (M 13) u p) ∧ M1 = M) := by
  refine CtI.of (by decide) (Nat.le_of_ble_eq_true rfl) rfl rfl ?_
  intro k hkL C RT
  have hpb := lastR_b (hah p hpp)
  have hp5 := isP_lt hs hpp
  show WW w k 0 [(0, .ref (wa w 12)), (1, .int (iZ ((p : Nat) : Int)))] [] M
  refine ww_aload_n C dX0_metBy_0 0 rfl ?_
  refine gt_X0_35 C dX0_metBy_1 ?_
  refine ww_iload_n C dX0_metBy_4 1 rfl ?_
  refine al_17 C p (z := M 17 p) rfl (by omega) rfl dX0_metBy_5 ?_
  refine ww_iconst C dX0_metBy_6 ?_
  refine ww_isub C dX0_metBy_7 ?_
  refine ww_istore_n C dX0_metBy_8 (lv' := [(2, .int (iZ ((M 17 p) - 1))), (0, .ref (wa w 12)), (1, .int (iZ ((p : Nat) : Int)))]) (by rw [hkL]; decide) rfl ?_
  refine ww_iconst C dX0_metBy_9 ?_
  refine ww_istore_n C dX0_metBy_10 (lv' := [(3, .int (iZ 0)), (2, .int (iZ ((M 17 p) - 1))), (0, .ref (wa w 12)), (1, .int (iZ ((p : Nat) : Int)))]) (by rw [hkL]; decide) rfl ?_
  have L_11 : ∀ (fuel : Nat) (n b : Nat) (x : Int) (hn : n + b ≤ p) (hlr : lastR (M 2) K (K p) b (x + 1)) (hno : ∀ u : Nat, b ≤ u → u < p → isP (M 2) u → K u = K p → M 13 u ≠ M 13 p), 512 - n < fuel → WW w k 11 [(0, .ref (wa w 12)), (1, .int (iZ ((p : Nat) : Int))), (2, .int (iZ x)), (3, .int (iZ ((n : Nat) : Int)))] [] M := by
    intro fuel
    induction fuel with
    | zero => intro n b x hn hlr hno hf_11; exact absurd hf_11 (Nat.not_lt_zero _)
    | succ fuel ih_11 =>
      intro n b x hn hlr hno hf_11
      have hxb := lastR_b hlr
      have hp5 := isP_lt hs hpp
      have hbp := hbe p hpp
      have hq : x ≠ -1 → ∃ q : Nat, x = (q : Int) ∧ q < b ∧ isP (M 2) q ∧ K q = K p ∧ ∀ r : Nat, q < r → r < b → isP (M 2) r → K r ≠ K p := by
        intro h9
        rcases hlr with ⟨e9, -⟩ | ⟨q, a1, a2, a3, a4, a5⟩
        · omega
        · exact ⟨q, by omega, a1, a3, a4, a5⟩
      refine ww_iload_n C dX0_metBy_11 3 rfl ?_
      refine ww_sipush C dX0_metBy_12 (by decide) ?_
      refine ww_icmp_ge C 55 dX0_metBy_15 (by decide) (by omega) (by omega) (fun c_15 => ?_) (fun c_15 => ?_)
      · refine ww_iconst C dX0_metBy_55 ?_
        exact RT _ _ _ _ dX0_metBy_56 (⟨Or.inl ⟨rfl, fun u h9 => by have hu := h9.1; rcases Nat.lt_or_ge u b with b9 | b9; (rcases hlr with ⟨e9, f9⟩ | ⟨q, a1, a2, a3, a4, a5⟩; exact f9 u b9 h9.2.1 h9.2.2.2.1; omega); exact hno u b9 hu h9.2.1 h9.2.2.2.1 h9.2.2.2.2⟩, rfl⟩)
      · refine ww_iload_n C dX0_metBy_18 2 rfl ?_
        refine ww_iconst C dX0_metBy_19 ?_
        refine ww_icmp_eq C 55 dX0_metBy_20 (by decide) (by omega) (by omega) (fun c_20 => ?_) (fun c_20 => ?_)
        · refine ww_iconst C dX0_metBy_55 ?_
          exact RT _ _ _ _ dX0_metBy_56 (⟨Or.inl ⟨rfl, fun u h9 => by have hu := h9.1; rcases Nat.lt_or_ge u b with b9 | b9; (rcases hlr with ⟨e9, f9⟩ | ⟨q, a1, a2, a3, a4, a5⟩; exact f9 u b9 h9.2.1 h9.2.2.2.1; omega); exact hno u b9 hu h9.2.1 h9.2.2.2.1 h9.2.2.2.2⟩, rfl⟩)
        · refine ww_aload_n C dX0_metBy_23 0 rfl ?_
          refine gt_X0_9 C dX0_metBy_24 ?_
          refine ww_iload_n C dX0_metBy_27 2 rfl ?_
          refine al_13 C q (z := M 13 q) (rfl) (by omega) rfl dX0_metBy_28 ?_
          refine ww_aload_n C dX0_metBy_29 0 rfl ?_
          refine gt_X0_9 C dX0_metBy_30 ?_
          refine ww_iload_n C dX0_metBy_33 1 rfl ?_
          refine al_13 C p (z := M 13 p) rfl (by omega) rfl dX0_metBy_34 ?_
          refine ww_icmp_ne C 40 dX0_metBy_35 (by decide) (by omega) (by omega) (fun c_35 => ?_) (fun c_35 => ?_)
          · refine ww_aload_n C dX0_metBy_40 0 rfl ?_
            refine gt_X0_35 C dX0_metBy_41 ?_
            refine ww_iload_n C dX0_metBy_44 2 rfl ?_
            refine al_17 C q (z := M 17 q) (rfl) (by omega) rfl dX0_metBy_45 ?_
            refine ww_iconst C dX0_metBy_46 ?_
            refine ww_isub C dX0_metBy_47 ?_
            refine ww_istore_n C dX0_metBy_48 (lv' := [(2, .int (iZ ((M 17 q) - 1))), (0, .ref (wa w 12)), (1, .int (iZ ((p : Nat) : Int))), (3, .int (iZ ((n : Nat) : Int)))]) (by rw [hkL]; decide) rfl ?_
            refine ww_iinc2 C dX0_metBy_49 3 rfl (b := ((n + 1 : Nat) : Int)) (by omega) (lv' := [(3, .int (iZ ((n + 1 : Nat) : Int))), (2, .int (iZ ((M 17 q) - 1))), (0, .ref (wa w 12)), (1, .int (iZ ((p : Nat) : Int)))]) (by rw [hkL]; decide) rfl ?_
            refine ww_goto C 11 dX0_metBy_52 (by decide) ?_
            refine ww_sub [2, 3, 1, 0] rfl ?_
            exact ih_11 (n + 1) q ((M 17 q) - 1) (by omega) (by rw [show M 17 q - 1 + 1 = M 17 q by omega, ← hq3]; exact hah q hq2) (fun u h7 h8 h9 h10 => by rcases Nat.lt_trichotomy u q with a9 | a9 | a9; omega; (rw [a9]; exact c_35); (rcases Nat.lt_or_ge u b with b9 | b9; exact absurd h10 (hq4 u a9 b9 h9); exact hno u b9 h8 h9 h10)) (by omega)
          · refine ww_iload_n C dX0_metBy_38 2 rfl ?_
            exact RT _ _ _ _ dX0_metBy_39 (⟨Or.inr ⟨q, rfl, by omega, hq2, hpp, hq3, c_35⟩, rfl⟩)
  refine ww_sub [2, 3, 1, 0] rfl ?_
  exact L_11 _ 0 p (M 17 p - 1) (by omega) (by rw [show M 17 p - 1 + 1 = M 17 p by omega]; exact hah p hpp) (fun u h8 h9 => by omega) (Nat.lt_succ_self _)
set_option maxRecDepth 100000 in
set_option maxHeartbeats 4000000 in
theorem ct_X0_markBetween (w : WLD) (M : Mem) (K : Nat → Int) (p : Nat) (hah : AhOk (M 2) K (M 17)) (hbe : ∀ u : Nat, isP (M 2) u → R32 (M 13 u) ∧ 0 ≤ M 13 u ∧ M 13 u < 512) (hs : SzOk (M 2)) (hpp : isP (M 2) p) (hb0 : ∀ d : Nat, M 18 d = 0 ∨ M 18 d = 1) : CtV w yX0_markBetween cX0_markBetween 4 rm_X0_markBetween [.ref (wa w 12), .int (iZ ((p : Nat) : Int))] M (fun M1 => ∃ bt : Nat → Int, (∀ d : Nat, (bt d = 0 ∨ bt d = 1) ∧ (bt d = 1 ↔ M 18 d = 1 ∨ ∃ u : Nat, u < p ∧ isP (M 2) u ∧ K u = K p ∧ aZ (M 13 p - M 13 u) = (d : Int))) ∧ M1 = ups M 18 bt) := by
  refine CtV.of (by decide) (Nat.le_of_ble_eq_true rfl) rfl rfl ?_
  intro k hkL C RT
  have hpb := lastR_b (hah p hpp)
  have hp5 := isP_lt hs hpp
  show WW w k 0 [(0, .ref (wa w 12)), (1, .int (iZ ((p : Nat) : Int)))] [] M
  refine ww_aload_n C dX0_markBetween_0 0 rfl ?_
  refine gt_X0_35 C dX0_markBetween_1 ?_
  refine ww_iload_n C dX0_markBetween_4 1 rfl ?_
  refine al_17 C p (z := M 17 p) rfl (by omega) rfl dX0_markBetween_5 ?_
  refine ww_iconst C dX0_markBetween_6 ?_
  refine ww_isub C dX0_markBetween_7 ?_
  refine ww_istore_n C dX0_markBetween_8 (lv' := [(2, .int (iZ ((M 17 p) - 1))), (0, .ref (wa w 12)), (1, .int (iZ ((p : Nat) : Int)))]) (by rw [hkL]; decide) rfl ?_
  refine ww_iconst C dX0_markBetween_9 ?_
  refine ww_istore_n C dX0_markBetween_10 (lv' := [(3, .int (iZ 0)), (2, .int (iZ ((M 17 p) - 1))), (0, .ref (wa w 12)), (1, .int (iZ ((p : Nat) : Int)))]) (by rw [hkL]; decide) rfl ?_
  have L_11 : ∀ (fuel : Nat) (n b : Nat) (x : Int) (bt : Nat → Int) (hn : n + b ≤ p) (hlr : lastR (M 2) K (K p) b (x + 1)) (hbt : ∀ d : Nat, (bt d = 0 ∨ bt d = 1) ∧ (bt d = 1 ↔ M 18 d = 1 ∨ ∃ u : Nat, b ≤ u ∧ u < p ∧ isP (M 2) u ∧ K u = K p ∧ aZ (M 13 p - M 13 u) = (d : Int))), 512 - n < fuel → WW w k 11 [(0, .ref (wa w 12)), (1, .int (iZ ((p : Nat) : Int))), (2, .int (iZ x)), (3, .int (iZ ((n : Nat) : Int)))] [] (ups M 18 bt) := by
    intro fuel
    induction fuel with
    | zero => intro n b x bt hn hlr hbt hf_11; exact absurd hf_11 (Nat.not_lt_zero _)
    | succ fuel ih_11 =>
      intro n b x bt hn hlr hbt hf_11
      have hxb := lastR_b hlr
      have hp5 := isP_lt hs hpp
      have hbp := hbe p hpp
      have hq : x ≠ -1 → ∃ q : Nat, x = (q : Int) ∧ q < b ∧ isP (M 2) q ∧ K q = K p ∧ ∀ r : Nat, q < r → r < b → isP (M 2) r → K r ≠ K p := by
        intro h9
        rcases hlr with ⟨e9, -⟩ | ⟨q, a1, a2, a3, a4, a5⟩
        · omega
        · exact ⟨q, by omega, a1, a3, a4, a5⟩
      refine ww_iload_n C dX0_markBetween_11 3 rfl ?_
      refine ww_sipush C dX0_markBetween_12 (by decide) ?_
      refine ww_icmp_ge C 60 dX0_markBetween_15 (by decide) (by omega) (by omega) (fun c_15 => ?_) (fun c_15 => ?_)
      · exact RT _ _ _ dX0_markBetween_60 (⟨bt, fun d => ⟨(hbt d).1, (hbt d).2.trans ⟨fun h9 => h9.elim Or.inl (fun ⟨u, a1, a2, a3⟩ => Or.inr ⟨u, a2, a3⟩), fun h9 => h9.elim Or.inl (fun ⟨u, a2, a3, a4, a5⟩ => Or.inr ⟨u, Nat.le_of_not_lt (fun b9 => by rcases hlr with ⟨e9, f9⟩ | ⟨q, a1, a2, a3, a4, a5⟩; exact f9 u b9 a3 a4; omega), a2, a3, a4, a5⟩)⟩⟩, rfl⟩)
      · refine ww_iload_n C dX0_markBetween_18 2 rfl ?_
        refine ww_iconst C dX0_markBetween_19 ?_
        refine ww_icmp_eq C 60 dX0_markBetween_20 (by decide) (by omega) (by omega) (fun c_20 => ?_) (fun c_20 => ?_)
        · exact RT _ _ _ dX0_markBetween_60 (⟨bt, fun d => ⟨(hbt d).1, (hbt d).2.trans ⟨fun h9 => h9.elim Or.inl (fun ⟨u, a1, a2, a3⟩ => Or.inr ⟨u, a2, a3⟩), fun h9 => h9.elim Or.inl (fun ⟨u, a2, a3, a4, a5⟩ => Or.inr ⟨u, Nat.le_of_not_lt (fun b9 => by rcases hlr with ⟨e9, f9⟩ | ⟨q, a1, a2, a3, a4, a5⟩; exact f9 u b9 a3 a4; omega), a2, a3, a4, a5⟩)⟩⟩, rfl⟩)
        · refine ww_aload_n C dX0_markBetween_23 0 rfl ?_
          refine gt_X0_38 C dX0_markBetween_24 ?_
          refine ww_aload_n C dX0_markBetween_27 0 rfl ?_
          refine gt_X0_9 C dX0_markBetween_28 ?_
          refine ww_iload_n C dX0_markBetween_31 1 rfl ?_
          refine al_13 C p (z := M 13 p) rfl (by omega) rfl dX0_markBetween_32 ?_
          refine ww_aload_n C dX0_markBetween_33 0 rfl ?_
          refine gt_X0_9 C dX0_markBetween_34 ?_
          refine ww_iload_n C dX0_markBetween_37 2 rfl ?_
          refine al_13 C q (z := M 13 q) (rfl) (by omega) rfl dX0_markBetween_38 ?_
          refine ww_isub C dX0_markBetween_39 ?_
          refine ww_abs C ml_X0_101 (by omega) (by decide) (Nat.le_of_ble_eq_true rfl) dX0_markBetween_40 ?_
          refine ww_iconst C dX0_markBetween_43 ?_
          refine as_18 C ((aZ (M 13 p - M 13 q)).toNat) (by omega) (by omega) dX0_markBetween_44 ?_
          refine ww_mem (M1 := ups M 18 (up1 bt ((aZ (M 13 p - M 13 q)).toNat) 1)) (ups_ups) ?_
          refine ww_aload_n C dX0_markBetween_45 0 rfl ?_
          refine gt_X0_35 C dX0_markBetween_46 ?_
          refine ww_iload_n C dX0_markBetween_49 2 rfl ?_
          refine al_17 C q (z := M 17 q) (rfl) (by omega) rfl dX0_markBetween_50 ?_
          refine ww_iconst C dX0_markBetween_51 ?_
          refine ww_isub C dX0_markBetween_52 ?_
          refine ww_istore_n C dX0_markBetween_53 (lv' := [(2, .int (iZ ((M 17 q) - 1))), (0, .ref (wa w 12)), (1, .int (iZ ((p : Nat) : Int))), (3, .int (iZ ((n : Nat) : Int)))]) (by rw [hkL]; decide) rfl ?_
          refine ww_iinc2 C dX0_markBetween_54 3 rfl (b := ((n + 1 : Nat) : Int)) (by omega) (lv' := [(3, .int (iZ ((n + 1 : Nat) : Int))), (2, .int (iZ ((M 17 q) - 1))), (0, .ref (wa w 12)), (1, .int (iZ ((p : Nat) : Int)))]) (by rw [hkL]; decide) rfl ?_
          refine ww_goto C 11 dX0_markBetween_57 (by decide) ?_
          refine ww_sub [2, 3, 1, 0] rfl ?_
          exact ih_11 (n + 1) q ((M 17 q) - 1) (up1 bt (aZ (M 13 p - M 13 q)).toNat 1) (by omega) (by rw [show M 17 q - 1 + 1 = M 17 q by omega, ← hq3]; exact hah q hq2) (markStep hbt hq1 (by omega) hq2 hq3 hq4 hd0) (by omega)
  refine ww_sub [2, 3, 1, 0] rfl ?_
  refine ww_mem (M1 := ups M 18 (M 18)) (ups_id.symm) ?_
  exact L_11 _ 0 p (M 17 p - 1) (M 18) (by omega) (by rw [show M 17 p - 1 + 1 = M 17 p by omega]; exact hah p hpp) (fun d => ⟨hb0 d, ⟨fun h9 => Or.inl h9, fun h9 => h9.elim id (fun ⟨u, a1, a2, _⟩ => by omega)⟩⟩) (Nat.lt_succ_self _)
set_option maxRecDepth 100000 in
set_option maxHeartbeats 4000000 in
theorem ct_X0_use (w : WLD) (M : Mem) (np : Nat) (hb : 1 ≤ M 12 4 ∧ M 12 4 ≤ 512) (hc : 1 ≤ M 12 5 ∧ M 12 5 ≤ 512) (hnp : M 1 2 = (np : Int)) (hn5 : np ≤ 512) : CtI w yX0_use cX0_use 3 (some .int) rm_X0_use [.ref (wa w 12), .ref (wa w 1)] M (fun z M1 => z = 1000 * (np : Int) / (M 12 4 * M 12 5) ∧ M1 = M) := by
  refine CtI.of (by decide) (Nat.le_of_ble_eq_true rfl) rfl rfl ?_
  intro k hkL C RT
  have hm : 1 ≤ M 12 4 * M 12 5 ∧ M 12 4 * M 12 5 ≤ 262144 := ⟨by have := Int.mul_le_mul hb.1 hc.1 (by omega) (by omega); omega, by have := Int.mul_le_mul hb.2 hc.2 (by omega) (by omega); omega⟩
  show WW w k 0 [(0, .ref (wa w 12)), (1, .ref (wa w 1))] [] M
  refine ww_aload_n C dX0_use_0 0 rfl ?_
  refine gt_X0_45 C dX0_use_1 ?_
  refine ww_aload_n C dX0_use_4 0 rfl ?_
  refine gt_X0_48 C dX0_use_5 ?_
  refine ww_imul C dX0_use_8 ?_
  refine ww_istore_n C dX0_use_9 (lv' := [(2, .int (iZ ((M 12 4) * (M 12 5)))), (0, .ref (wa w 12)), (1, .ref (wa w 1))]) (by rw [hkL]; decide) rfl ?_
  refine ww_iload_n C dX0_use_10 0 rfl ?_
  refine ww_if_ne C 18 dX0_use_11 (by decide) (by omega) (fun c_11 => ?_) (fun c_11 => ?_)
  · refine ww_sipush C dX0_use_18 (by decide) ?_
    refine ww_aload_n C dX0_use_21 2 rfl ?_
    refine gt_X0_51 C dX0_use_22 ?_
    refine ww_top (b := ((np : Nat) : Int)) (hnp) ?_
    refine ww_imul C dX0_use_25 ?_
    refine ww_iload_n C dX0_use_26 0 rfl ?_
    refine ww_idivN C dX0_use_27 (by omega) (by omega) ?_
    exact RT _ _ _ _ dX0_use_28 (⟨by first | rfl | (exfalso; omega), rfl⟩)
  · refine ww_iconst C dX0_use_14 ?_
    refine ww_goto C 28 dX0_use_15 (by decide) ?_
    exact RT _ _ _ _ dX0_use_28 (⟨by first | rfl | (exfalso; omega), rfl⟩)
set_option maxRecDepth 100000 in
set_option maxHeartbeats 4000000 in
theorem ct_X0_isFree (w : WLD) (M : Mem) (n : Nat) (hn : 1 ≤ n ∧ n < 512) (hb : 0 ≤ M 12 4 ∧ M 12 4 ≤ 512) (hb0 : ∀ d : Nat, M 18 d = 0 ∨ M 18 d = 1) : CtI w yX0_isFree cX0_isFree 3 (some .boolean) rm_X0_isFree [.ref (wa w 12), .int (iZ ((n : Nat) : Int))] M (fun z M1 => (z = 0 ∨ z = 1) ∧ (z = 1 ↔ ∀ u : Nat, 1 ≤ u → ((u * n : Nat) : Int) < M 12 4 → M 18 (u * n) = 0) ∧ M1 = M) := by
  refine CtI.ofZ (by decide) (Nat.le_of_ble_eq_true rfl) rfl rfl (fun z M9 h9 => h9.1) ?_
  intro k hkL C RT
  show WW w k 0 [(0, .ref (wa w 12)), (1, .int (iZ ((n : Nat) : Int)))] [] M
  refine ww_iconst C dX0_isFree_0 ?_
  refine ww_istore_n C dX0_isFree_1 (lv' := [(2, .int (iZ 1)), (0, .ref (wa w 12)), (1, .int (iZ ((n : Nat) : Int)))]) (by rw [hkL]; decide) rfl ?_
  have L_2 : ∀ (fuel : Nat) (t : Nat) (ht : 1 ≤ t ∧ t ≤ 512) (hno : ∀ u : Nat, 1 ≤ u → u < t → M 18 (u * n) = 0), 512 - t < fuel → WW w k 2 [(0, .ref (wa w 12)), (1, .int (iZ ((n : Nat) : Int))), (2, .int (iZ ((t : Nat) : Int)))] [] M := by
    intro fuel
    induction fuel with
    | zero => intro t ht hno hf_2; exact absurd hf_2 (Nat.not_lt_zero _)
    | succ fuel ih_2 =>
      intro t ht hno hf_2
      have hm1 := mulNN (m := t) (n := n) (by omega) (by omega)
      have hm2 : t ≤ t * n := Nat.le_mul_of_pos_right t (by omega)
      have hb9 := hb0 (t * n)
      have hmono : ∀ u : Nat, t ≤ u → t * n ≤ u * n := fun u h9 => Nat.mul_le_mul_right n h9
      refine ww_iload_n C dX0_isFree_2 2 rfl ?_
      refine ww_aload_n C dX0_isFree_3 0 rfl ?_
      refine gt_X0_45 C dX0_isFree_4 ?_
      refine ww_icmp_ge C 39 dX0_isFree_7 (by decide) (by omega) (by omega) (fun c_7 => ?_) (fun c_7 => ?_)
      · refine ww_iconst C dX0_isFree_39 ?_
        exact RT _ _ _ _ dX0_isFree_40 (⟨by omega, ⟨fun _ u h8 h9 => by rcases Nat.lt_or_ge u t with b9 | b9; exact hno u h8 b9; (have := hmono u b9; omega), fun _ => rfl⟩, rfl⟩)
      · refine ww_iload_n C dX0_isFree_10 2 rfl ?_
        refine ww_iload_n C dX0_isFree_11 1 rfl ?_
        refine ww_imul C dX0_isFree_12 ?_
        refine ww_top (b := ((t * n : Nat) : Int)) (by rw [Int.natCast_mul]) ?_
        refine ww_aload_n C dX0_isFree_13 0 rfl ?_
        refine gt_X0_45 C dX0_isFree_14 ?_
        refine ww_icmp_ge C 39 dX0_isFree_17 (by decide) (by omega) (by omega) (fun c_17 => ?_) (fun c_17 => ?_)
        · refine ww_iconst C dX0_isFree_39 ?_
          exact RT _ _ _ _ dX0_isFree_40 (⟨by omega, ⟨fun _ u h8 h9 => by rcases Nat.lt_or_ge u t with b9 | b9; exact hno u h8 b9; (have := hmono u b9; omega), fun _ => rfl⟩, rfl⟩)
        · refine ww_aload_n C dX0_isFree_20 0 rfl ?_
          refine gt_X0_38 C dX0_isFree_21 ?_
          refine ww_iload_n C dX0_isFree_24 2 rfl ?_
          refine ww_iload_n C dX0_isFree_25 1 rfl ?_
          refine ww_imul C dX0_isFree_26 ?_
          refine ww_top (b := ((t * n : Nat) : Int)) (by rw [Int.natCast_mul]) ?_
          refine al_18 C (t * n) (z := M 18 (t * n)) rfl (by omega) rfl dX0_isFree_27 ?_
          refine ww_if_eq C 33 dX0_isFree_28 (by decide) (by omega) (fun c_28 => ?_) (fun c_28 => ?_)
          · refine ww_iinc2 C dX0_isFree_33 2 rfl (b := ((t + 1 : Nat) : Int)) (by omega) (lv' := [(2, .int (iZ ((t + 1 : Nat) : Int))), (0, .ref (wa w 12)), (1, .int (iZ ((n : Nat) : Int)))]) (by rw [hkL]; decide) rfl ?_
            refine ww_goto C 2 dX0_isFree_36 (by decide) ?_
            refine ww_sub [1, 2, 0] rfl ?_
            exact ih_2 (t + 1) (by omega) (fun u h8 h9 => by rcases Nat.lt_succ_iff_lt_or_eq.mp h9 with h9 | rfl; exact hno u h8 h9; exact c_28) (by omega)
          · refine ww_iconst C dX0_isFree_31 ?_
            exact RT _ _ _ _ dX0_isFree_32 (⟨by omega, ⟨fun h9 => by omega, fun h9 => absurd (h9 t ht.1 (by omega)) c_28⟩, rfl⟩)
  refine ww_sub [1, 2, 0] rfl ?_
  exact L_2 _ 1 (by omega) (fun u h8 h9 => by omega) (Nat.lt_succ_self _)
end
