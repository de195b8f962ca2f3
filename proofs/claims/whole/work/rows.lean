section
-- ===== PART A: goes FIRST, ahead of the names: the tables' words, and 'selects' of the private methods out of them =====
/-- a private method of a class that the tables say can be made, by its rows of tables_1 -/
def lw_okq (q : MethodName × Nat) : Prop := (q.1.cls ≠ "java/lang/invoke/MethodHandle" ∧ q.1.cls ≠ "java/lang/invoke/VarHandle") ∧ Cond.instantiable q.1.cls q.2 ∈ tables_1 ∧ Cond.privateMethod q.1 ∈ tables_1 ∧ Cond.instanceMethod q.1 ∈ tables_1
theorem lw_p0 : lw_okq (⟨"WeighedMachines", "isState", "(II)Z"⟩, 10) := ⟨⟨by decide +kernel, by decide +kernel⟩, List.mem_of_getElem? (i := 18) (by decide +kernel), List.mem_of_getElem? (i := 297) (by decide +kernel), List.mem_of_getElem? (i := 298) (by decide +kernel)⟩
theorem lw_p1 : lw_okq (⟨"WeighedMachines$Composing", "find", "(I)I"⟩, 4) := ⟨⟨by decide +kernel, by decide +kernel⟩, List.mem_of_getElem? (i := 109) (by decide +kernel), List.mem_of_getElem? (i := 346) (by decide +kernel), List.mem_of_getElem? (i := 347) (by decide +kernel)⟩
theorem lw_p2 : lw_okq (⟨"WeighedMachines$Composing", "leave", "(I)Z"⟩, 4) := ⟨⟨by decide +kernel, by decide +kernel⟩, List.mem_of_getElem? (i := 109) (by decide +kernel), List.mem_of_getElem? (i := 351) (by decide +kernel), List.mem_of_getElem? (i := 352) (by decide +kernel)⟩
theorem lw_p3 : lw_okq (⟨"WeighedMachines$Composing", "bringBoth", "(IIIZ)Z"⟩, 4) := ⟨⟨by decide +kernel, by decide +kernel⟩, List.mem_of_getElem? (i := 109) (by decide +kernel), List.mem_of_getElem? (i := 364) (by decide +kernel), List.mem_of_getElem? (i := 365) (by decide +kernel)⟩
theorem lw_p4 : lw_okq (⟨"WeighedMachines$Composing", "bring", "(IIIJ)Z"⟩, 4) := ⟨⟨by decide +kernel, by decide +kernel⟩, List.mem_of_getElem? (i := 109) (by decide +kernel), List.mem_of_getElem? (i := 382) (by decide +kernel), List.mem_of_getElem? (i := 383) (by decide +kernel)⟩
theorem lw_p5 : lw_okq (⟨"WeighedMachines$Composing", "bringFirst", "(III)Z"⟩, 4) := ⟨⟨by decide +kernel, by decide +kernel⟩, List.mem_of_getElem? (i := 109) (by decide +kernel), List.mem_of_getElem? (i := 387) (by decide +kernel), List.mem_of_getElem? (i := 388) (by decide +kernel)⟩
theorem lw_p6 : lw_okq (⟨"WeighedMachines$Composing", "bringSecond", "(III)Z"⟩, 4) := ⟨⟨by decide +kernel, by decide +kernel⟩, List.mem_of_getElem? (i := 109) (by decide +kernel), List.mem_of_getElem? (i := 391) (by decide +kernel), List.mem_of_getElem? (i := 392) (by decide +kernel)⟩
theorem lw_p7 : lw_okq (⟨"WeighedMachines", "take", "(ZI)Z"⟩, 10) := ⟨⟨by decide +kernel, by decide +kernel⟩, List.mem_of_getElem? (i := 18) (by decide +kernel), List.mem_of_getElem? (i := 395) (by decide +kernel), List.mem_of_getElem? (i := 396) (by decide +kernel)⟩
theorem lw_p8 : lw_okq (⟨"WeighedMachines$Baring", "leastEnd", "(LWeighedMachines$Machine;)J"⟩, 1) := ⟨⟨by decide +kernel, by decide +kernel⟩, List.mem_of_getElem? (i := 128) (by decide +kernel), List.mem_of_getElem? (i := 427) (by decide +kernel), List.mem_of_getElem? (i := 428) (by decide +kernel)⟩
theorem lw_p9 : lw_okq (⟨"WeighedMachines$Baring", "bringOthers", "(LWeighedMachines$Machine;ILWeighedMachines$Machine;)Z"⟩, 1) := ⟨⟨by decide +kernel, by decide +kernel⟩, List.mem_of_getElem? (i := 128) (by decide +kernel), List.mem_of_getElem? (i := 434) (by decide +kernel), List.mem_of_getElem? (i := 435) (by decide +kernel)⟩
theorem lw_p10 : lw_okq (⟨"WeighedMachines$Determining", "findNext", "()I"⟩, 4) := ⟨⟨by decide +kernel, by decide +kernel⟩, List.mem_of_getElem? (i := 138) (by decide +kernel), List.mem_of_getElem? (i := 467) (by decide +kernel), List.mem_of_getElem? (i := 468) (by decide +kernel)⟩
theorem lw_p11 : lw_okq (⟨"WeighedMachines$Determining", "isNext", "(I)Z"⟩, 4) := ⟨⟨by decide +kernel, by decide +kernel⟩, List.mem_of_getElem? (i := 138) (by decide +kernel), List.mem_of_getElem? (i := 471) (by decide +kernel), List.mem_of_getElem? (i := 472) (by decide +kernel)⟩
theorem lw_p12 : lw_okq (⟨"WeighedMachines$Determining", "leastEnd", "(I)J"⟩, 4) := ⟨⟨by decide +kernel, by decide +kernel⟩, List.mem_of_getElem? (i := 138) (by decide +kernel), List.mem_of_getElem? (i := 477) (by decide +kernel), List.mem_of_getElem? (i := 478) (by decide +kernel)⟩
theorem lw_p13 : lw_okq (⟨"WeighedMachines$Determining", "leave", "(II)Z"⟩, 4) := ⟨⟨by decide +kernel, by decide +kernel⟩, List.mem_of_getElem? (i := 138) (by decide +kernel), List.mem_of_getElem? (i := 484) (by decide +kernel), List.mem_of_getElem? (i := 485) (by decide +kernel)⟩
theorem lw_p14 : lw_okq (⟨"WeighedMachines$Determining", "sumUp", "(II)J"⟩, 4) := ⟨⟨by decide +kernel, by decide +kernel⟩, List.mem_of_getElem? (i := 138) (by decide +kernel), List.mem_of_getElem? (i := 488) (by decide +kernel), List.mem_of_getElem? (i := 489) (by decide +kernel)⟩
theorem lw_p15 : lw_okq (⟨"WeighedMachines$Onward", "costAlong", "(LWeighedMachines$Machine;I)J"⟩, 1) := ⟨⟨by decide +kernel, by decide +kernel⟩, List.mem_of_getElem? (i := 157) (by decide +kernel), List.mem_of_getElem? (i := 509) (by decide +kernel), List.mem_of_getElem? (i := 510) (by decide +kernel)⟩
def lw_privs_1 : List (MethodName × Nat) := [(⟨"WeighedMachines", "isState", "(II)Z"⟩, 10), (⟨"WeighedMachines$Composing", "find", "(I)I"⟩, 4), (⟨"WeighedMachines$Composing", "leave", "(I)Z"⟩, 4), (⟨"WeighedMachines$Composing", "bringBoth", "(IIIZ)Z"⟩, 4), (⟨"WeighedMachines$Composing", "bring", "(IIIJ)Z"⟩, 4), (⟨"WeighedMachines$Composing", "bringFirst", "(III)Z"⟩, 4), (⟨"WeighedMachines$Composing", "bringSecond", "(III)Z"⟩, 4), (⟨"WeighedMachines", "take", "(ZI)Z"⟩, 10), (⟨"WeighedMachines$Baring", "leastEnd", "(LWeighedMachines$Machine;)J"⟩, 1), (⟨"WeighedMachines$Baring", "bringOthers", "(LWeighedMachines$Machine;ILWeighedMachines$Machine;)Z"⟩, 1), (⟨"WeighedMachines$Determining", "findNext", "()I"⟩, 4), (⟨"WeighedMachines$Determining", "isNext", "(I)Z"⟩, 4), (⟨"WeighedMachines$Determining", "leastEnd", "(I)J"⟩, 4), (⟨"WeighedMachines$Determining", "leave", "(II)Z"⟩, 4), (⟨"WeighedMachines$Determining", "sumUp", "(II)J"⟩, 4), (⟨"WeighedMachines$Onward", "costAlong", "(LWeighedMachines$Machine;I)J"⟩, 1)]
theorem lw_r1 : ∀ q ∈ lw_privs_1, lw_okq q := List.forall_mem_cons.mpr ⟨lw_p0, List.forall_mem_cons.mpr ⟨lw_p1, List.forall_mem_cons.mpr ⟨lw_p2, List.forall_mem_cons.mpr ⟨lw_p3, List.forall_mem_cons.mpr ⟨lw_p4, List.forall_mem_cons.mpr ⟨lw_p5, List.forall_mem_cons.mpr ⟨lw_p6, List.forall_mem_cons.mpr ⟨lw_p7, List.forall_mem_cons.mpr ⟨lw_p8, List.forall_mem_cons.mpr ⟨lw_p9, List.forall_mem_cons.mpr ⟨lw_p10, List.forall_mem_cons.mpr ⟨lw_p11, List.forall_mem_cons.mpr ⟨lw_p12, List.forall_mem_cons.mpr ⟨lw_p13, List.forall_mem_cons.mpr ⟨lw_p14, List.forall_mem_cons.mpr ⟨lw_p15, fun _ h => absurd h List.not_mem_nil⟩⟩⟩⟩⟩⟩⟩⟩⟩⟩⟩⟩⟩⟩⟩⟩
theorem lw_p16 : lw_okq (⟨"WeighedMachines", "buildPushed", "(LWeighedMachines$Machine;)V"⟩, 10) := ⟨⟨by decide +kernel, by decide +kernel⟩, List.mem_of_getElem? (i := 18) (by decide +kernel), List.mem_of_getElem? (i := 515) (by decide +kernel), List.mem_of_getElem? (i := 516) (by decide +kernel)⟩
theorem lw_p17 : lw_okq (⟨"WeighedMachines", "buildTrimmed", "(LWeighedMachines$Machine;)V"⟩, 10) := ⟨⟨by decide +kernel, by decide +kernel⟩, List.mem_of_getElem? (i := 18) (by decide +kernel), List.mem_of_getElem? (i := 534) (by decide +kernel), List.mem_of_getElem? (i := 535) (by decide +kernel)⟩
theorem lw_p18 : lw_okq (⟨"WeighedMachines$Weighing", "leave", "(LWeighedMachines$Machine;II)V"⟩, 3) := ⟨⟨by decide +kernel, by decide +kernel⟩, List.mem_of_getElem? (i := 167) (by decide +kernel), List.mem_of_getElem? (i := 576) (by decide +kernel), List.mem_of_getElem? (i := 577) (by decide +kernel)⟩
theorem lw_p19 : lw_okq (⟨"WeighedMachines$Weighing", "leastEnd", "(LWeighedMachines$Machine;I)J"⟩, 3) := ⟨⟨by decide +kernel, by decide +kernel⟩, List.mem_of_getElem? (i := 167) (by decide +kernel), List.mem_of_getElem? (i := 590) (by decide +kernel), List.mem_of_getElem? (i := 591) (by decide +kernel)⟩
theorem lw_p20 : lw_okq (⟨"WeighedMachines$Text", "putNumber", "(J)V"⟩, 2) := ⟨⟨by decide +kernel, by decide +kernel⟩, List.mem_of_getElem? (i := 216) (by decide +kernel), List.mem_of_getElem? (i := 654) (by decide +kernel), List.mem_of_getElem? (i := 655) (by decide +kernel)⟩
theorem lw_p21 : lw_okq (⟨"WeighedMachines$Text", "putStateWeight", "(CIJ)V"⟩, 2) := ⟨⟨by decide +kernel, by decide +kernel⟩, List.mem_of_getElem? (i := 216) (by decide +kernel), List.mem_of_getElem? (i := 659) (by decide +kernel), List.mem_of_getElem? (i := 660) (by decide +kernel)⟩
theorem lw_p22 : lw_okq (⟨"WeighedMachines$Text", "putWeight", "(J)V"⟩, 2) := ⟨⟨by decide +kernel, by decide +kernel⟩, List.mem_of_getElem? (i := 216) (by decide +kernel), List.mem_of_getElem? (i := 663) (by decide +kernel), List.mem_of_getElem? (i := 664) (by decide +kernel)⟩
theorem lw_p23 : lw_okq (⟨"WeighedMachines$Text", "putArc", "(IJ)V"⟩, 2) := ⟨⟨by decide +kernel, by decide +kernel⟩, List.mem_of_getElem? (i := 216) (by decide +kernel), List.mem_of_getElem? (i := 668) (by decide +kernel), List.mem_of_getElem? (i := 669) (by decide +kernel)⟩
theorem lw_p24 : lw_okq (⟨"WeighedMachines$Parsing", "readSize", "()I"⟩, 4) := ⟨⟨by decide +kernel, by decide +kernel⟩, List.mem_of_getElem? (i := 232) (by decide +kernel), List.mem_of_getElem? (i := 684) (by decide +kernel), List.mem_of_getElem? (i := 685) (by decide +kernel)⟩
theorem lw_p25 : lw_okq (⟨"WeighedMachines$Parsing", "readSign", "(C)I"⟩, 4) := ⟨⟨by decide +kernel, by decide +kernel⟩, List.mem_of_getElem? (i := 232) (by decide +kernel), List.mem_of_getElem? (i := 688) (by decide +kernel), List.mem_of_getElem? (i := 689) (by decide +kernel)⟩
theorem lw_p26 : lw_okq (⟨"WeighedMachines$Parsing", "readNumber", "(J)I"⟩, 4) := ⟨⟨by decide +kernel, by decide +kernel⟩, List.mem_of_getElem? (i := 232) (by decide +kernel), List.mem_of_getElem? (i := 697) (by decide +kernel), List.mem_of_getElem? (i := 698) (by decide +kernel)⟩
theorem lw_p27 : lw_okq (⟨"WeighedMachines$Parsing", "readItem", "()I"⟩, 4) := ⟨⟨by decide +kernel, by decide +kernel⟩, List.mem_of_getElem? (i := 232) (by decide +kernel), List.mem_of_getElem? (i := 707) (by decide +kernel), List.mem_of_getElem? (i := 708) (by decide +kernel)⟩
theorem lw_p28 : lw_okq (⟨"WeighedMachines$Parsing", "readStart", "()I"⟩, 4) := ⟨⟨by decide +kernel, by decide +kernel⟩, List.mem_of_getElem? (i := 232) (by decide +kernel), List.mem_of_getElem? (i := 711) (by decide +kernel), List.mem_of_getElem? (i := 712) (by decide +kernel)⟩
theorem lw_p29 : lw_okq (⟨"WeighedMachines$Parsing", "readState", "()I"⟩, 4) := ⟨⟨by decide +kernel, by decide +kernel⟩, List.mem_of_getElem? (i := 232) (by decide +kernel), List.mem_of_getElem? (i := 715) (by decide +kernel), List.mem_of_getElem? (i := 716) (by decide +kernel)⟩
theorem lw_p30 : lw_okq (⟨"WeighedMachines$Parsing", "readWeight", "()I"⟩, 4) := ⟨⟨by decide +kernel, by decide +kernel⟩, List.mem_of_getElem? (i := 232) (by decide +kernel), List.mem_of_getElem? (i := 719) (by decide +kernel), List.mem_of_getElem? (i := 720) (by decide +kernel)⟩
theorem lw_p31 : lw_okq (⟨"WeighedMachines$Parsing", "readEnd", "()I"⟩, 4) := ⟨⟨by decide +kernel, by decide +kernel⟩, List.mem_of_getElem? (i := 232) (by decide +kernel), List.mem_of_getElem? (i := 725) (by decide +kernel), List.mem_of_getElem? (i := 726) (by decide +kernel)⟩
def lw_privs_2 : List (MethodName × Nat) := [(⟨"WeighedMachines", "buildPushed", "(LWeighedMachines$Machine;)V"⟩, 10), (⟨"WeighedMachines", "buildTrimmed", "(LWeighedMachines$Machine;)V"⟩, 10), (⟨"WeighedMachines$Weighing", "leave", "(LWeighedMachines$Machine;II)V"⟩, 3), (⟨"WeighedMachines$Weighing", "leastEnd", "(LWeighedMachines$Machine;I)J"⟩, 3), (⟨"WeighedMachines$Text", "putNumber", "(J)V"⟩, 2), (⟨"WeighedMachines$Text", "putStateWeight", "(CIJ)V"⟩, 2), (⟨"WeighedMachines$Text", "putWeight", "(J)V"⟩, 2), (⟨"WeighedMachines$Text", "putArc", "(IJ)V"⟩, 2), (⟨"WeighedMachines$Parsing", "readSize", "()I"⟩, 4), (⟨"WeighedMachines$Parsing", "readSign", "(C)I"⟩, 4), (⟨"WeighedMachines$Parsing", "readNumber", "(J)I"⟩, 4), (⟨"WeighedMachines$Parsing", "readItem", "()I"⟩, 4), (⟨"WeighedMachines$Parsing", "readStart", "()I"⟩, 4), (⟨"WeighedMachines$Parsing", "readState", "()I"⟩, 4), (⟨"WeighedMachines$Parsing", "readWeight", "()I"⟩, 4), (⟨"WeighedMachines$Parsing", "readEnd", "()I"⟩, 4)]
theorem lw_r2 : ∀ q ∈ lw_privs_2, lw_okq q := List.forall_mem_cons.mpr ⟨lw_p16, List.forall_mem_cons.mpr ⟨lw_p17, List.forall_mem_cons.mpr ⟨lw_p18, List.forall_mem_cons.mpr ⟨lw_p19, List.forall_mem_cons.mpr ⟨lw_p20, List.forall_mem_cons.mpr ⟨lw_p21, List.forall_mem_cons.mpr ⟨lw_p22, List.forall_mem_cons.mpr ⟨lw_p23, List.forall_mem_cons.mpr ⟨lw_p24, List.forall_mem_cons.mpr ⟨lw_p25, List.forall_mem_cons.mpr ⟨lw_p26, List.forall_mem_cons.mpr ⟨lw_p27, List.forall_mem_cons.mpr ⟨lw_p28, List.forall_mem_cons.mpr ⟨lw_p29, List.forall_mem_cons.mpr ⟨lw_p30, List.forall_mem_cons.mpr ⟨lw_p31, fun _ h => absurd h List.not_mem_nil⟩⟩⟩⟩⟩⟩⟩⟩⟩⟩⟩⟩⟩⟩⟩⟩
theorem lw_p32 : lw_okq (⟨"WeighedMachines$Parsing", "readArc", "()I"⟩, 4) := ⟨⟨by decide +kernel, by decide +kernel⟩, List.mem_of_getElem? (i := 232) (by decide +kernel), List.mem_of_getElem? (i := 730) (by decide +kernel), List.mem_of_getElem? (i := 731) (by decide +kernel)⟩
theorem lw_p33 : lw_okq (⟨"WeighedMachines$Parsing", "readLabel", "()I"⟩, 4) := ⟨⟨by decide +kernel, by decide +kernel⟩, List.mem_of_getElem? (i := 232) (by decide +kernel), List.mem_of_getElem? (i := 734) (by decide +kernel), List.mem_of_getElem? (i := 735) (by decide +kernel)⟩
theorem lw_p34 : lw_okq (⟨"WeighedMachinesModel", "blank", "(II)V"⟩, 28) := ⟨⟨by decide +kernel, by decide +kernel⟩, List.mem_of_getElem? (i := 758) (by decide +kernel), List.mem_of_getElem? (i := 764) (by decide +kernel), List.mem_of_getElem? (i := 765) (by decide +kernel)⟩
theorem lw_p35 : lw_okq (⟨"WeighedMachinesModel", "isState", "(II)Z"⟩, 28) := ⟨⟨by decide +kernel, by decide +kernel⟩, List.mem_of_getElem? (i := 758) (by decide +kernel), List.mem_of_getElem? (i := 866) (by decide +kernel), List.mem_of_getElem? (i := 867) (by decide +kernel)⟩
theorem lw_p36 : lw_okq (⟨"WeighedMachinesModel", "put", "(IIIIIJ)Z"⟩, 28) := ⟨⟨by decide +kernel, by decide +kernel⟩, List.mem_of_getElem? (i := 758) (by decide +kernel), List.mem_of_getElem? (i := 882) (by decide +kernel), List.mem_of_getElem? (i := 883) (by decide +kernel)⟩
theorem lw_p37 : lw_okq (⟨"WeighedMachinesModel", "against", "(IIIII)I"⟩, 28) := ⟨⟨by decide +kernel, by decide +kernel⟩, List.mem_of_getElem? (i := 758) (by decide +kernel), List.mem_of_getElem? (i := 886) (by decide +kernel), List.mem_of_getElem? (i := 887) (by decide +kernel)⟩
theorem lw_p38 : lw_okq (⟨"WeighedMachinesModel", "reach", "(III)I"⟩, 28) := ⟨⟨by decide +kernel, by decide +kernel⟩, List.mem_of_getElem? (i := 758) (by decide +kernel), List.mem_of_getElem? (i := 894) (by decide +kernel), List.mem_of_getElem? (i := 895) (by decide +kernel)⟩
theorem lw_p39 : lw_okq (⟨"WeighedMachinesModel", "explore", "(II)Z"⟩, 28) := ⟨⟨by decide +kernel, by decide +kernel⟩, List.mem_of_getElem? (i := 758) (by decide +kernel), List.mem_of_getElem? (i := 898) (by decide +kernel), List.mem_of_getElem? (i := 899) (by decide +kernel)⟩
theorem lw_p40 : lw_okq (⟨"WeighedMachinesModel", "meet", "(IIIZ)Z"⟩, 28) := ⟨⟨by decide +kernel, by decide +kernel⟩, List.mem_of_getElem? (i := 758) (by decide +kernel), List.mem_of_getElem? (i := 902) (by decide +kernel), List.mem_of_getElem? (i := 903) (by decide +kernel)⟩
theorem lw_p41 : lw_okq (⟨"WeighedMachinesModel", "link", "(IIIIJ)Z"⟩, 28) := ⟨⟨by decide +kernel, by decide +kernel⟩, List.mem_of_getElem? (i := 758) (by decide +kernel), List.mem_of_getElem? (i := 906) (by decide +kernel), List.mem_of_getElem? (i := 907) (by decide +kernel)⟩
theorem lw_p42 : lw_okq (⟨"WeighedMachinesModel", "alone", "(IIZ)Z"⟩, 28) := ⟨⟨by decide +kernel, by decide +kernel⟩, List.mem_of_getElem? (i := 758) (by decide +kernel), List.mem_of_getElem? (i := 910) (by decide +kernel), List.mem_of_getElem? (i := 911) (by decide +kernel)⟩
theorem lw_p43 : lw_okq (⟨"WeighedMachinesModel", "keep", "(I)Z"⟩, 28) := ⟨⟨by decide +kernel, by decide +kernel⟩, List.mem_of_getElem? (i := 758) (by decide +kernel), List.mem_of_getElem? (i := 914) (by decide +kernel), List.mem_of_getElem? (i := 915) (by decide +kernel)⟩
theorem lw_p44 : lw_okq (⟨"WeighedMachinesModel", "spread", "(II)V"⟩, 28) := ⟨⟨by decide +kernel, by decide +kernel⟩, List.mem_of_getElem? (i := 758) (by decide +kernel), List.mem_of_getElem? (i := 922) (by decide +kernel), List.mem_of_getElem? (i := 923) (by decide +kernel)⟩
theorem lw_p45 : lw_okq (⟨"WeighedMachinesModel", "isFit", "(I)Z"⟩, 28) := ⟨⟨by decide +kernel, by decide +kernel⟩, List.mem_of_getElem? (i := 758) (by decide +kernel), List.mem_of_getElem? (i := 931) (by decide +kernel), List.mem_of_getElem? (i := 932) (by decide +kernel)⟩
theorem lw_p46 : lw_okq (⟨"WeighedMachinesModel", "gather", "(I)Z"⟩, 28) := ⟨⟨by decide +kernel, by decide +kernel⟩, List.mem_of_getElem? (i := 758) (by decide +kernel), List.mem_of_getElem? (i := 935) (by decide +kernel), List.mem_of_getElem? (i := 936) (by decide +kernel)⟩
theorem lw_p47 : lw_okq (⟨"WeighedMachinesModel", "follow", "(III)J"⟩, 28) := ⟨⟨by decide +kernel, by decide +kernel⟩, List.mem_of_getElem? (i := 758) (by decide +kernel), List.mem_of_getElem? (i := 939) (by decide +kernel), List.mem_of_getElem? (i := 940) (by decide +kernel)⟩
def lw_privs_3 : List (MethodName × Nat) := [(⟨"WeighedMachines$Parsing", "readArc", "()I"⟩, 4), (⟨"WeighedMachines$Parsing", "readLabel", "()I"⟩, 4), (⟨"WeighedMachinesModel", "blank", "(II)V"⟩, 28), (⟨"WeighedMachinesModel", "isState", "(II)Z"⟩, 28), (⟨"WeighedMachinesModel", "put", "(IIIIIJ)Z"⟩, 28), (⟨"WeighedMachinesModel", "against", "(IIIII)I"⟩, 28), (⟨"WeighedMachinesModel", "reach", "(III)I"⟩, 28), (⟨"WeighedMachinesModel", "explore", "(II)Z"⟩, 28), (⟨"WeighedMachinesModel", "meet", "(IIIZ)Z"⟩, 28), (⟨"WeighedMachinesModel", "link", "(IIIIJ)Z"⟩, 28), (⟨"WeighedMachinesModel", "alone", "(IIZ)Z"⟩, 28), (⟨"WeighedMachinesModel", "keep", "(I)Z"⟩, 28), (⟨"WeighedMachinesModel", "spread", "(II)V"⟩, 28), (⟨"WeighedMachinesModel", "isFit", "(I)Z"⟩, 28), (⟨"WeighedMachinesModel", "gather", "(I)Z"⟩, 28), (⟨"WeighedMachinesModel", "follow", "(III)J"⟩, 28)]
theorem lw_r3 : ∀ q ∈ lw_privs_3, lw_okq q := List.forall_mem_cons.mpr ⟨lw_p32, List.forall_mem_cons.mpr ⟨lw_p33, List.forall_mem_cons.mpr ⟨lw_p34, List.forall_mem_cons.mpr ⟨lw_p35, List.forall_mem_cons.mpr ⟨lw_p36, List.forall_mem_cons.mpr ⟨lw_p37, List.forall_mem_cons.mpr ⟨lw_p38, List.forall_mem_cons.mpr ⟨lw_p39, List.forall_mem_cons.mpr ⟨lw_p40, List.forall_mem_cons.mpr ⟨lw_p41, List.forall_mem_cons.mpr ⟨lw_p42, List.forall_mem_cons.mpr ⟨lw_p43, List.forall_mem_cons.mpr ⟨lw_p44, List.forall_mem_cons.mpr ⟨lw_p45, List.forall_mem_cons.mpr ⟨lw_p46, List.forall_mem_cons.mpr ⟨lw_p47, fun _ h => absurd h List.not_mem_nil⟩⟩⟩⟩⟩⟩⟩⟩⟩⟩⟩⟩⟩⟩⟩⟩
theorem lw_p48 : lw_okq (⟨"WeighedMachinesModel", "settle", "()I"⟩, 28) := ⟨⟨by decide +kernel, by decide +kernel⟩, List.mem_of_getElem? (i := 758) (by decide +kernel), List.mem_of_getElem? (i := 943) (by decide +kernel), List.mem_of_getElem? (i := 944) (by decide +kernel)⟩
theorem lw_p49 : lw_okq (⟨"WeighedMachinesModel", "findOnward", "(I)V"⟩, 28) := ⟨⟨by decide +kernel, by decide +kernel⟩, List.mem_of_getElem? (i := 758) (by decide +kernel), List.mem_of_getElem? (i := 951) (by decide +kernel), List.mem_of_getElem? (i := 952) (by decide +kernel)⟩
theorem lw_p50 : lw_okq (⟨"WeighedMachinesModel", "findReached", "(I)V"⟩, 28) := ⟨⟨by decide +kernel, by decide +kernel⟩, List.mem_of_getElem? (i := 758) (by decide +kernel), List.mem_of_getElem? (i := 959) (by decide +kernel), List.mem_of_getElem? (i := 960) (by decide +kernel)⟩
theorem lw_p51 : lw_okq (⟨"WeighedMachinesModel", "rank", "(I)I"⟩, 28) := ⟨⟨by decide +kernel, by decide +kernel⟩, List.mem_of_getElem? (i := 758) (by decide +kernel), List.mem_of_getElem? (i := 963) (by decide +kernel), List.mem_of_getElem? (i := 964) (by decide +kernel)⟩
theorem lw_p52 : lw_okq (⟨"WeighedMachinesModel", "isOnPath", "(I)Z"⟩, 28) := ⟨⟨by decide +kernel, by decide +kernel⟩, List.mem_of_getElem? (i := 758) (by decide +kernel), List.mem_of_getElem? (i := 967) (by decide +kernel), List.mem_of_getElem? (i := 968) (by decide +kernel)⟩
theorem lw_p53 : lw_okq (⟨"WeighedMachinesModel", "relax", "(I)Z"⟩, 28) := ⟨⟨by decide +kernel, by decide +kernel⟩, List.mem_of_getElem? (i := 758) (by decide +kernel), List.mem_of_getElem? (i := 981) (by decide +kernel), List.mem_of_getElem? (i := 982) (by decide +kernel)⟩
theorem lw_p54 : lw_okq (⟨"WeighedMachinesModel", "say", "(I)V"⟩, 28) := ⟨⟨by decide +kernel, by decide +kernel⟩, List.mem_of_getElem? (i := 758) (by decide +kernel), List.mem_of_getElem? (i := 1009) (by decide +kernel), List.mem_of_getElem? (i := 1010) (by decide +kernel)⟩
theorem lw_p55 : lw_okq (⟨"WeighedMachinesModel", "sayNumber", "(JI)V"⟩, 28) := ⟨⟨by decide +kernel, by decide +kernel⟩, List.mem_of_getElem? (i := 758) (by decide +kernel), List.mem_of_getElem? (i := 1013) (by decide +kernel), List.mem_of_getElem? (i := 1014) (by decide +kernel)⟩
theorem lw_p56 : lw_okq (⟨"WeighedMachinesModel", "sayDigit", "(I)V"⟩, 28) := ⟨⟨by decide +kernel, by decide +kernel⟩, List.mem_of_getElem? (i := 758) (by decide +kernel), List.mem_of_getElem? (i := 1018) (by decide +kernel), List.mem_of_getElem? (i := 1019) (by decide +kernel)⟩
theorem lw_p57 : lw_okq (⟨"WeighedMachinesModel", "takeIf", "(I)V"⟩, 28) := ⟨⟨by decide +kernel, by decide +kernel⟩, List.mem_of_getElem? (i := 758) (by decide +kernel), List.mem_of_getElem? (i := 1035) (by decide +kernel), List.mem_of_getElem? (i := 1036) (by decide +kernel)⟩
theorem lw_p58 : lw_okq (⟨"WeighedMachinesModel", "take", "(I)V"⟩, 28) := ⟨⟨by decide +kernel, by decide +kernel⟩, List.mem_of_getElem? (i := 758) (by decide +kernel), List.mem_of_getElem? (i := 1039) (by decide +kernel), List.mem_of_getElem? (i := 1040) (by decide +kernel)⟩
theorem lw_p59 : lw_okq (⟨"WeighedMachinesModel", "here", "()I"⟩, 28) := ⟨⟨by decide +kernel, by decide +kernel⟩, List.mem_of_getElem? (i := 758) (by decide +kernel), List.mem_of_getElem? (i := 1043) (by decide +kernel), List.mem_of_getElem? (i := 1044) (by decide +kernel)⟩
theorem lw_p60 : lw_okq (⟨"WeighedMachinesModel", "fail", "(I)V"⟩, 28) := ⟨⟨by decide +kernel, by decide +kernel⟩, List.mem_of_getElem? (i := 758) (by decide +kernel), List.mem_of_getElem? (i := 1047) (by decide +kernel), List.mem_of_getElem? (i := 1048) (by decide +kernel)⟩
theorem lw_p61 : lw_okq (⟨"WeighedMachinesModel", "takeNumber", "(J)J"⟩, 28) := ⟨⟨by decide +kernel, by decide +kernel⟩, List.mem_of_getElem? (i := 758) (by decide +kernel), List.mem_of_getElem? (i := 1052) (by decide +kernel), List.mem_of_getElem? (i := 1053) (by decide +kernel)⟩
theorem lw_p62 : lw_okq (⟨"WeighedMachinesModel", "isDigit", "()Z"⟩, 28) := ⟨⟨by decide +kernel, by decide +kernel⟩, List.mem_of_getElem? (i := 758) (by decide +kernel), List.mem_of_getElem? (i := 1056) (by decide +kernel), List.mem_of_getElem? (i := 1057) (by decide +kernel)⟩
theorem lw_p63 : lw_okq (⟨"WeighedMachinesModel", "parseEnds", "(Z)V"⟩, 28) := ⟨⟨by decide +kernel, by decide +kernel⟩, List.mem_of_getElem? (i := 758) (by decide +kernel), List.mem_of_getElem? (i := 1061) (by decide +kernel), List.mem_of_getElem? (i := 1062) (by decide +kernel)⟩
def lw_privs_4 : List (MethodName × Nat) := [(⟨"WeighedMachinesModel", "settle", "()I"⟩, 28), (⟨"WeighedMachinesModel", "findOnward", "(I)V"⟩, 28), (⟨"WeighedMachinesModel", "findReached", "(I)V"⟩, 28), (⟨"WeighedMachinesModel", "rank", "(I)I"⟩, 28), (⟨"WeighedMachinesModel", "isOnPath", "(I)Z"⟩, 28), (⟨"WeighedMachinesModel", "relax", "(I)Z"⟩, 28), (⟨"WeighedMachinesModel", "say", "(I)V"⟩, 28), (⟨"WeighedMachinesModel", "sayNumber", "(JI)V"⟩, 28), (⟨"WeighedMachinesModel", "sayDigit", "(I)V"⟩, 28), (⟨"WeighedMachinesModel", "takeIf", "(I)V"⟩, 28), (⟨"WeighedMachinesModel", "take", "(I)V"⟩, 28), (⟨"WeighedMachinesModel", "here", "()I"⟩, 28), (⟨"WeighedMachinesModel", "fail", "(I)V"⟩, 28), (⟨"WeighedMachinesModel", "takeNumber", "(J)J"⟩, 28), (⟨"WeighedMachinesModel", "isDigit", "()Z"⟩, 28), (⟨"WeighedMachinesModel", "parseEnds", "(Z)V"⟩, 28)]
theorem lw_r4 : ∀ q ∈ lw_privs_4, lw_okq q := List.forall_mem_cons.mpr ⟨lw_p48, List.forall_mem_cons.mpr ⟨lw_p49, List.forall_mem_cons.mpr ⟨lw_p50, List.forall_mem_cons.mpr ⟨lw_p51, List.forall_mem_cons.mpr ⟨lw_p52, List.forall_mem_cons.mpr ⟨lw_p53, List.forall_mem_cons.mpr ⟨lw_p54, List.forall_mem_cons.mpr ⟨lw_p55, List.forall_mem_cons.mpr ⟨lw_p56, List.forall_mem_cons.mpr ⟨lw_p57, List.forall_mem_cons.mpr ⟨lw_p58, List.forall_mem_cons.mpr ⟨lw_p59, List.forall_mem_cons.mpr ⟨lw_p60, List.forall_mem_cons.mpr ⟨lw_p61, List.forall_mem_cons.mpr ⟨lw_p62, List.forall_mem_cons.mpr ⟨lw_p63, fun _ h => absurd h List.not_mem_nil⟩⟩⟩⟩⟩⟩⟩⟩⟩⟩⟩⟩⟩⟩⟩⟩
theorem lw_p64 : lw_okq (⟨"WeighedMachinesModel", "takeState", "()I"⟩, 28) := ⟨⟨by decide +kernel, by decide +kernel⟩, List.mem_of_getElem? (i := 758) (by decide +kernel), List.mem_of_getElem? (i := 1065) (by decide +kernel), List.mem_of_getElem? (i := 1066) (by decide +kernel)⟩
theorem lw_p65 : lw_okq (⟨"WeighedMachinesModel", "parseArc", "()V"⟩, 28) := ⟨⟨by decide +kernel, by decide +kernel⟩, List.mem_of_getElem? (i := 758) (by decide +kernel), List.mem_of_getElem? (i := 1069) (by decide +kernel), List.mem_of_getElem? (i := 1070) (by decide +kernel)⟩
theorem lw_p66 : lw_okq (⟨"WeighedMachinesModel", "takeLabel", "()I"⟩, 28) := ⟨⟨by decide +kernel, by decide +kernel⟩, List.mem_of_getElem? (i := 758) (by decide +kernel), List.mem_of_getElem? (i := 1073) (by decide +kernel), List.mem_of_getElem? (i := 1074) (by decide +kernel)⟩
def lw_privs_5 : List (MethodName × Nat) := [(⟨"WeighedMachinesModel", "takeState", "()I"⟩, 28), (⟨"WeighedMachinesModel", "parseArc", "()V"⟩, 28), (⟨"WeighedMachinesModel", "takeLabel", "()I"⟩, 28)]
theorem lw_r5 : ∀ q ∈ lw_privs_5, lw_okq q := List.forall_mem_cons.mpr ⟨lw_p64, List.forall_mem_cons.mpr ⟨lw_p65, List.forall_mem_cons.mpr ⟨lw_p66, fun _ h => absurd h List.not_mem_nil⟩⟩⟩
def lw_privs : List (MethodName × Nat) := lw_privs_1 ++ (lw_privs_2 ++ (lw_privs_3 ++ (lw_privs_4 ++ (lw_privs_5))))
def lw_tbl : List Cond := k2_sels lw_privs ++ tables_1
theorem lw_privs_ok : ∀ q ∈ lw_privs, lw_okq q := by
  show ∀ q ∈ lw_privs_1 ++ (lw_privs_2 ++ (lw_privs_3 ++ (lw_privs_4 ++ (lw_privs_5)))), lw_okq q
  exact List.forall_mem_append.mpr ⟨lw_r1, List.forall_mem_append.mpr ⟨lw_r2, List.forall_mem_append.mpr ⟨lw_r3, List.forall_mem_append.mpr ⟨lw_r4, lw_r5⟩⟩⟩⟩
theorem tb_1 {w : Cond} (h : w ∈ tables_1_1) : w ∈ lw_tbl := List.mem_append_right _ (List.mem_append_left _ h)
theorem tb_2 {w : Cond} (h : w ∈ tables_1_2) : w ∈ lw_tbl := List.mem_append_right _ (List.mem_append_right _ (List.mem_append_left _ h))
theorem tb_3 {w : Cond} (h : w ∈ tables_1_3) : w ∈ lw_tbl := List.mem_append_right _ (List.mem_append_right _ (List.mem_append_right _ (List.mem_append_left _ h)))
theorem tb_4 {w : Cond} (h : w ∈ tables_1_4) : w ∈ lw_tbl := List.mem_append_right _ (List.mem_append_right _ (List.mem_append_right _ (List.mem_append_right _ (List.mem_append_left _ h))))
theorem tb_5 {w : Cond} (h : w ∈ tables_1_5) : w ∈ lw_tbl := List.mem_append_right _ (List.mem_append_right _ (List.mem_append_right _ (List.mem_append_right _ (List.mem_append_right _ h))))
end
section
def RX_Ba : String := "WeighedMachines$Baring"
def TX_Ba : u_T := fun k => match k with
  | _ => ("WeighedMachines$Baring", "near", "[J", true)
def ty_Ba : Nat → FieldType := fun k => match k with
  | _ => (.array .long)
theorem nm_Ba : ∀ a, a < 1 → ∀ b, b < 1 → a ≠ b → (TX_Ba a).2.1 ≠ (TX_Ba b).2.1 := by decide +kernel
theorem tk_Ba : ∀ k, k < 1 → parseFieldDescriptor (TX_Ba k).2.2.1 = some (ty_Ba k) := by decide +kernel
def RX_BP : String := "WeighedMachines$BestPath"
def TX_BP : u_T := fun k => match k with
  | 0 => ("WeighedMachines$BestPath", "length", "I", false)
  | 1 => ("WeighedMachines$BestPath", "keys", "[I", true)
  | _ => ("WeighedMachines$BestPath", "weights", "[J", true)
def ty_BP : Nat → FieldType := fun k => match k with
  | 0 => .int
  | 1 => (.array .int)
  | _ => (.array .long)
theorem nm_BP : ∀ a, a < 3 → ∀ b, b < 3 → a ≠ b → (TX_BP a).2.1 ≠ (TX_BP b).2.1 := by decide +kernel
theorem tk_BP : ∀ k, k < 3 → parseFieldDescriptor (TX_BP k).2.2.1 = some (ty_BP k) := by decide +kernel
def RX_Co : String := "WeighedMachines$Composing"
def TX_Co : u_T := fun k => match k with
  | 0 => ("WeighedMachines$Composing", "first", "LWeighedMachines$Machine;", false)
  | 1 => ("WeighedMachines$Composing", "second", "LWeighedMachines$Machine;", false)
  | 2 => ("WeighedMachines$Composing", "made", "LWeighedMachines$Machine;", false)
  | _ => ("WeighedMachines$Composing", "triples", "[I", true)
def ty_Co : Nat → FieldType := fun k => match k with
  | 0 => (.object "WeighedMachines$Machine")
  | 1 => (.object "WeighedMachines$Machine")
  | 2 => (.object "WeighedMachines$Machine")
  | _ => (.array .int)
theorem nm_Co : ∀ a, a < 4 → ∀ b, b < 4 → a ≠ b → (TX_Co a).2.1 ≠ (TX_Co b).2.1 := by decide +kernel
theorem tk_Co : ∀ k, k < 4 → parseFieldDescriptor (TX_Co k).2.2.1 = some (ty_Co k) := by decide +kernel
def RX_De : String := "WeighedMachines$Determining"
def TX_De : u_T := fun k => match k with
  | 0 => ("WeighedMachines$Determining", "given", "LWeighedMachines$Machine;", false)
  | 1 => ("WeighedMachines$Determining", "made", "LWeighedMachines$Machine;", false)
  | 2 => ("WeighedMachines$Determining", "rests", "[J", true)
  | _ => ("WeighedMachines$Determining", "next", "[J", true)
def ty_De : Nat → FieldType := fun k => match k with
  | 0 => (.object "WeighedMachines$Machine")
  | 1 => (.object "WeighedMachines$Machine")
  | 2 => (.array .long)
  | _ => (.array .long)
theorem nm_De : ∀ a, a < 4 → ∀ b, b < 4 → a ≠ b → (TX_De a).2.1 ≠ (TX_De b).2.1 := by decide +kernel
theorem tk_De : ∀ k, k < 4 → parseFieldDescriptor (TX_De k).2.2.1 = some (ty_De k) := by decide +kernel
def RX_Ma : String := "WeighedMachines$Machine"
def TX_Ma : u_T := fun k => match k with
  | 0 => ("WeighedMachines$Machine", "states", "I", false)
  | 1 => ("WeighedMachines$Machine", "startState", "I", false)
  | 2 => ("WeighedMachines$Machine", "startWeight", "J", false)
  | 3 => ("WeighedMachines$Machine", "endWeights", "[J", true)
  | 4 => ("WeighedMachines$Machine", "arcs", "I", false)
  | 5 => ("WeighedMachines$Machine", "keys", "[I", true)
  | _ => ("WeighedMachines$Machine", "weights", "[J", true)
def ty_Ma : Nat → FieldType := fun k => match k with
  | 0 => .int
  | 1 => .int
  | 2 => .long
  | 3 => (.array .long)
  | 4 => .int
  | 5 => (.array .int)
  | _ => (.array .long)
theorem nm_Ma : ∀ a, a < 7 → ∀ b, b < 7 → a ≠ b → (TX_Ma a).2.1 ≠ (TX_Ma b).2.1 := by decide +kernel
theorem tk_Ma : ∀ k, k < 7 → parseFieldDescriptor (TX_Ma k).2.2.1 = some (ty_Ma k) := by decide +kernel
def RX_On : String := "WeighedMachines$Onward"
def TX_On : u_T := fun k => match k with
  | _ => ("WeighedMachines$Onward", "costs", "[J", true)
def ty_On : Nat → FieldType := fun k => match k with
  | _ => (.array .long)
theorem nm_On : ∀ a, a < 1 → ∀ b, b < 1 → a ≠ b → (TX_On a).2.1 ≠ (TX_On b).2.1 := by decide +kernel
theorem tk_On : ∀ k, k < 1 → parseFieldDescriptor (TX_On k).2.2.1 = some (ty_On k) := by decide +kernel
def RX_Pa : String := "WeighedMachines$Parsing"
def TX_Pa : u_T := fun k => match k with
  | 0 => ("WeighedMachines$Parsing", "text", "LWeighedMachines$Text;", false)
  | 1 => ("WeighedMachines$Parsing", "made", "LWeighedMachines$Machine;", false)
  | 2 => ("WeighedMachines$Parsing", "at", "I", false)
  | _ => ("WeighedMachines$Parsing", "value", "J", false)
def ty_Pa : Nat → FieldType := fun k => match k with
  | 0 => (.object "WeighedMachines$Text")
  | 1 => (.object "WeighedMachines$Machine")
  | 2 => .int
  | _ => .long
theorem nm_Pa : ∀ a, a < 4 → ∀ b, b < 4 → a ≠ b → (TX_Pa a).2.1 ≠ (TX_Pa b).2.1 := by decide +kernel
theorem tk_Pa : ∀ k, k < 4 → parseFieldDescriptor (TX_Pa k).2.2.1 = some (ty_Pa k) := by decide +kernel
def RX_Ro : String := "WeighedMachines$Row"
def TX_Ro : u_T := fun k => match k with
  | 0 => ("WeighedMachines$Row", "length", "I", false)
  | _ => ("WeighedMachines$Row", "lastFirst", "[I", true)
def ty_Ro : Nat → FieldType := fun k => match k with
  | 0 => .int
  | _ => (.array .int)
theorem nm_Ro : ∀ a, a < 2 → ∀ b, b < 2 → a ≠ b → (TX_Ro a).2.1 ≠ (TX_Ro b).2.1 := by decide +kernel
theorem tk_Ro : ∀ k, k < 2 → parseFieldDescriptor (TX_Ro k).2.2.1 = some (ty_Ro k) := by decide +kernel
def RX_Te : String := "WeighedMachines$Text"
def TX_Te : u_T := fun k => match k with
  | 0 => ("WeighedMachines$Text", "length", "I", false)
  | _ => ("WeighedMachines$Text", "letters", "[C", true)
def ty_Te : Nat → FieldType := fun k => match k with
  | 0 => .int
  | _ => (.array .char)
theorem nm_Te : ∀ a, a < 2 → ∀ b, b < 2 → a ≠ b → (TX_Te a).2.1 ≠ (TX_Te b).2.1 := by decide +kernel
theorem tk_Te : ∀ k, k < 2 → parseFieldDescriptor (TX_Te k).2.2.1 = some (ty_Te k) := by decide +kernel
def RX_We : String := "WeighedMachines$Weighing"
def TX_We : u_T := fun k => match k with
  | 0 => ("WeighedMachines$Weighing", "read", "LWeighedMachines$Row;", true)
  | 1 => ("WeighedMachines$Weighing", "written", "LWeighedMachines$Row;", true)
  | _ => ("WeighedMachines$Weighing", "least", "[J", true)
def ty_We : Nat → FieldType := fun k => match k with
  | 0 => (.object "WeighedMachines$Row")
  | 1 => (.object "WeighedMachines$Row")
  | _ => (.array .long)
theorem nm_We : ∀ a, a < 3 → ∀ b, b < 3 → a ≠ b → (TX_We a).2.1 ≠ (TX_We b).2.1 := by decide +kernel
theorem tk_We : ∀ k, k < 3 → parseFieldDescriptor (TX_We k).2.2.1 = some (ty_We k) := by decide +kernel
def RX_WM : String := "WeighedMachines"
def TX_WM : u_T := fun k => match k with
  | 0 => ("WeighedMachines", "slots", "[LWeighedMachines$Machine;", true)
  | 1 => ("WeighedMachines", "composing", "LWeighedMachines$Composing;", true)
  | 2 => ("WeighedMachines", "baring", "LWeighedMachines$Baring;", true)
  | 3 => ("WeighedMachines", "determining", "LWeighedMachines$Determining;", true)
  | 4 => ("WeighedMachines", "onward", "LWeighedMachines$Onward;", true)
  | 5 => ("WeighedMachines", "weighing", "LWeighedMachines$Weighing;", true)
  | 6 => ("WeighedMachines", "bestPath", "LWeighedMachines$BestPath;", true)
  | 7 => ("WeighedMachines", "text", "LWeighedMachines$Text;", true)
  | 8 => ("WeighedMachines", "parsing", "LWeighedMachines$Parsing;", true)
  | _ => ("WeighedMachines", "made", "LWeighedMachines$Machine;", false)
def ty_WM : Nat → FieldType := fun k => match k with
  | 0 => (.array (.object "WeighedMachines$Machine"))
  | 1 => (.object "WeighedMachines$Composing")
  | 2 => (.object "WeighedMachines$Baring")
  | 3 => (.object "WeighedMachines$Determining")
  | 4 => (.object "WeighedMachines$Onward")
  | 5 => (.object "WeighedMachines$Weighing")
  | 6 => (.object "WeighedMachines$BestPath")
  | 7 => (.object "WeighedMachines$Text")
  | 8 => (.object "WeighedMachines$Parsing")
  | _ => (.object "WeighedMachines$Machine")
theorem nm_WM : ∀ a, a < 10 → ∀ b, b < 10 → a ≠ b → (TX_WM a).2.1 ≠ (TX_WM b).2.1 := by decide +kernel
theorem tk_WM : ∀ k, k < 10 → parseFieldDescriptor (TX_WM k).2.2.1 = some (ty_WM k) := by decide +kernel
def RX_Mo : String := "WeighedMachinesModel"
def TX_Mo : u_T := fun k => match k with
  | 0 => ("WeighedMachinesModel", "states", "[I", true)
  | 1 => ("WeighedMachinesModel", "starts", "[I", true)
  | 2 => ("WeighedMachinesModel", "startWeights", "[J", true)
  | 3 => ("WeighedMachinesModel", "ends", "[J", true)
  | 4 => ("WeighedMachinesModel", "arcs", "[I", true)
  | 5 => ("WeighedMachinesModel", "froms", "[I", true)
  | 6 => ("WeighedMachinesModel", "tos", "[I", true)
  | 7 => ("WeighedMachinesModel", "ins", "[I", true)
  | 8 => ("WeighedMachinesModel", "outs", "[I", true)
  | 9 => ("WeighedMachinesModel", "weights", "[J", true)
  | 10 => ("WeighedMachinesModel", "steps", "I", false)
  | 11 => ("WeighedMachinesModel", "path", "[I", true)
  | 12 => ("WeighedMachinesModel", "pathWeights", "[J", true)
  | 13 => ("WeighedMachinesModel", "text", "[I", true)
  | 14 => ("WeighedMachinesModel", "length", "I", false)
  | 15 => ("WeighedMachinesModel", "at", "I", false)
  | 16 => ("WeighedMachinesModel", "fault", "I", false)
  | 17 => ("WeighedMachinesModel", "least", "[J", true)
  | 18 => ("WeighedMachinesModel", "fewest", "[I", true)
  | 19 => ("WeighedMachinesModel", "reached", "[Z", true)
  | 20 => ("WeighedMachinesModel", "table", "[J", true)
  | 21 => ("WeighedMachinesModel", "readRow", "[I", true)
  | 22 => ("WeighedMachinesModel", "writeRow", "[I", true)
  | 23 => ("WeighedMachinesModel", "reads", "I", false)
  | 24 => ("WeighedMachinesModel", "writes", "I", false)
  | 25 => ("WeighedMachinesModel", "triple", "[I", true)
  | 26 => ("WeighedMachinesModel", "rest", "[J", true)
  | _ => ("WeighedMachinesModel", "found", "I", false)
def ty_Mo : Nat → FieldType := fun k => match k with
  | 0 => (.array .int)
  | 1 => (.array .int)
  | 2 => (.array .long)
  | 3 => (.array .long)
  | 4 => (.array .int)
  | 5 => (.array .int)
  | 6 => (.array .int)
  | 7 => (.array .int)
  | 8 => (.array .int)
  | 9 => (.array .long)
  | 10 => .int
  | 11 => (.array .int)
  | 12 => (.array .long)
  | 13 => (.array .int)
  | 14 => .int
  | 15 => .int
  | 16 => .int
  | 17 => (.array .long)
  | 18 => (.array .int)
  | 19 => (.array .boolean)
  | 20 => (.array .long)
  | 21 => (.array .int)
  | 22 => (.array .int)
  | 23 => .int
  | 24 => .int
  | 25 => (.array .int)
  | 26 => (.array .long)
  | _ => .int
theorem nm_Mo : ∀ a, a < 28 → ∀ b, b < 28 → a ≠ b → (TX_Mo a).2.1 ≠ (TX_Mo b).2.1 := by decide +kernel
theorem tk_Mo : ∀ k, k < 28 → parseFieldDescriptor (TX_Mo k).2.2.1 = some (ty_Mo k) := by decide +kernel
abbrev vw_Cl : List vw_C := [(RX_Ba, TX_Ba, 1), (RX_BP, TX_BP, 3), (RX_Co, TX_Co, 4), (RX_De, TX_De, 4), (RX_Ma, TX_Ma, 7), (RX_On, TX_On, 1), (RX_Pa, TX_Pa, 4), (RX_Ro, TX_Ro, 2), (RX_Te, TX_Te, 2), (RX_We, TX_We, 3), (RX_WM, TX_WM, 10), (RX_Mo, TX_Mo, 28)]
abbrev cc_WM_init : ByteArray := prog_1_method_1_code
def yy_WM_init : MethodName := ⟨"WeighedMachines", "<init>", "()V"⟩
abbrev cc_Ma_init : ByteArray := prog_6_method_1_code
def yy_Ma_init : MethodName := ⟨"WeighedMachines$Machine", "<init>", "()V"⟩
abbrev cc_JA_fill : ByteArray := prog_17_method_101_code
def yy_JA_fill : MethodName := ⟨"java/util/Arrays", "fill", "([JJ)V"⟩
abbrev cc_Co_init : ByteArray := prog_4_method_1_code
def yy_Co_init : MethodName := ⟨"WeighedMachines$Composing", "<init>", "()V"⟩
abbrev cc_Ba_init : ByteArray := prog_2_method_1_code
def yy_Ba_init : MethodName := ⟨"WeighedMachines$Baring", "<init>", "()V"⟩
abbrev cc_De_init : ByteArray := prog_5_method_1_code
def yy_De_init : MethodName := ⟨"WeighedMachines$Determining", "<init>", "()V"⟩
abbrev cc_On_init : ByteArray := prog_7_method_1_code
def yy_On_init : MethodName := ⟨"WeighedMachines$Onward", "<init>", "()V"⟩
abbrev cc_We_init : ByteArray := prog_11_method_1_code
def yy_We_init : MethodName := ⟨"WeighedMachines$Weighing", "<init>", "()V"⟩
abbrev cc_Ro_init : ByteArray := prog_9_method_1_code
def yy_Ro_init : MethodName := ⟨"WeighedMachines$Row", "<init>", "()V"⟩
abbrev cc_BP_init : ByteArray := prog_3_method_1_code
def yy_BP_init : MethodName := ⟨"WeighedMachines$BestPath", "<init>", "()V"⟩
abbrev cc_Te_init : ByteArray := prog_10_method_1_code
def yy_Te_init : MethodName := ⟨"WeighedMachines$Text", "<init>", "()V"⟩
abbrev cc_Pa_init : ByteArray := prog_8_method_1_code
def yy_Pa_init : MethodName := ⟨"WeighedMachines$Parsing", "<init>", "()V"⟩
abbrev cc_WM_fresh : ByteArray := prog_1_method_2_code
def yy_WM_fresh : MethodName := ⟨"WeighedMachines", "fresh", "(II)Z"⟩
abbrev cc_WM_isSlot : ByteArray := prog_1_method_21_code
def yy_WM_isSlot : MethodName := ⟨"WeighedMachines", "isSlot", "(I)Z"⟩
abbrev cc_Ma_clear : ByteArray := prog_6_method_2_code
def yy_Ma_clear : MethodName := ⟨"WeighedMachines$Machine", "clear", "(I)V"⟩
abbrev cc_WM_start : ByteArray := prog_1_method_3_code
def yy_WM_start : MethodName := ⟨"WeighedMachines", "start", "(III)Z"⟩
abbrev cc_WM_isState : ByteArray := prog_1_method_22_code
def yy_WM_isState : MethodName := ⟨"WeighedMachines", "isState", "(II)Z"⟩
abbrev cc_WM_isWeight : ByteArray := prog_1_method_23_code
def yy_WM_isWeight : MethodName := ⟨"WeighedMachines", "isWeight", "(J)Z"⟩
abbrev cc_Ma_setStart : ByteArray := prog_6_method_3_code
def yy_Ma_setStart : MethodName := ⟨"WeighedMachines$Machine", "setStart", "(IJ)V"⟩
abbrev cc_WM_end : ByteArray := prog_1_method_4_code
def yy_WM_end : MethodName := ⟨"WeighedMachines", "end", "(III)Z"⟩
abbrev cc_WM_arc : ByteArray := prog_1_method_5_code
def yy_WM_arc : MethodName := ⟨"WeighedMachines", "arc", "(IIIII)I"⟩
abbrev cc_WM_keyOf : ByteArray := prog_1_method_31_code
def yy_WM_keyOf : MethodName := ⟨"WeighedMachines", "keyOf", "(III)I"⟩
abbrev cc_Ma_bring : ByteArray := prog_6_method_8_code
def yy_Ma_bring : MethodName := ⟨"WeighedMachines$Machine", "bring", "(IJ)Z"⟩
abbrev cc_Ma_placeOf : ByteArray := prog_6_method_7_code
def yy_Ma_placeOf : MethodName := ⟨"WeighedMachines$Machine", "placeOf", "(I)I"⟩
abbrev cc_JM_min : ByteArray := prog_15_method_70_code
def yy_JM_min : MethodName := ⟨"java/lang/Math", "min", "(JJ)J"⟩
abbrev cc_WM_compose : ByteArray := prog_1_method_6_code
def yy_WM_compose : MethodName := ⟨"WeighedMachines", "compose", "(III)I"⟩
abbrev cc_Co_build : ByteArray := prog_4_method_2_code
def yy_Co_build : MethodName := ⟨"WeighedMachines$Composing", "build", "(LWeighedMachines$Machine;LWeighedMachines$Machine;LWeighedMachines$Machine;)Z"⟩
abbrev cc_Co_tripleOf : ByteArray := prog_4_method_3_code
def yy_Co_tripleOf : MethodName := ⟨"WeighedMachines$Composing", "tripleOf", "(III)I"⟩
abbrev cc_Co_find : ByteArray := prog_4_method_9_code
def yy_Co_find : MethodName := ⟨"WeighedMachines$Composing", "find", "(I)I"⟩
abbrev cc_Co_leave : ByteArray := prog_4_method_4_code
def yy_Co_leave : MethodName := ⟨"WeighedMachines$Composing", "leave", "(I)Z"⟩
abbrev cc_Ma_endOrFar : ByteArray := prog_6_method_5_code
def yy_Ma_endOrFar : MethodName := ⟨"WeighedMachines$Machine", "endOrFar", "(I)J"⟩
abbrev cc_Ma_setEndUnlessFar : ByteArray := prog_6_method_4_code
def yy_Ma_setEndUnlessFar : MethodName := ⟨"WeighedMachines$Machine", "setEndUnlessFar", "(IJ)V"⟩
abbrev cc_Co_bringBoth : ByteArray := prog_4_method_5_code
def yy_Co_bringBoth : MethodName := ⟨"WeighedMachines$Composing", "bringBoth", "(IIIZ)Z"⟩
abbrev cc_WM_outOf : ByteArray := prog_1_method_35_code
def yy_WM_outOf : MethodName := ⟨"WeighedMachines", "outOf", "(I)I"⟩
abbrev cc_WM_labelPair : ByteArray := prog_1_method_30_code
def yy_WM_labelPair : MethodName := ⟨"WeighedMachines", "labelPair", "(II)I"⟩
abbrev cc_WM_toOf : ByteArray := prog_1_method_36_code
def yy_WM_toOf : MethodName := ⟨"WeighedMachines", "toOf", "(I)I"⟩
abbrev cc_WM_inOf : ByteArray := prog_1_method_34_code
def yy_WM_inOf : MethodName := ⟨"WeighedMachines", "inOf", "(I)I"⟩
abbrev cc_Co_bring : ByteArray := prog_4_method_8_code
def yy_Co_bring : MethodName := ⟨"WeighedMachines$Composing", "bring", "(IIIJ)Z"⟩
abbrev cc_Co_bringFirst : ByteArray := prog_4_method_6_code
def yy_Co_bringFirst : MethodName := ⟨"WeighedMachines$Composing", "bringFirst", "(III)Z"⟩
abbrev cc_Co_bringSecond : ByteArray := prog_4_method_7_code
def yy_Co_bringSecond : MethodName := ⟨"WeighedMachines$Composing", "bringSecond", "(III)Z"⟩
abbrev cc_WM_take : ByteArray := prog_1_method_25_code
def yy_WM_take : MethodName := ⟨"WeighedMachines", "take", "(ZI)Z"⟩
abbrev cc_Ma_weightsFit : ByteArray := prog_6_method_9_code
def yy_Ma_weightsFit : MethodName := ⟨"WeighedMachines$Machine", "weightsFit", "()Z"⟩
abbrev cc_WM_bare : ByteArray := prog_1_method_7_code
def yy_WM_bare : MethodName := ⟨"WeighedMachines", "bare", "(II)I"⟩
abbrev cc_Ba_build : ByteArray := prog_2_method_2_code
def yy_Ba_build : MethodName := ⟨"WeighedMachines$Baring", "build", "(LWeighedMachines$Machine;LWeighedMachines$Machine;)Z"⟩
abbrev cc_Ma_spread : ByteArray := prog_6_method_10_code
def yy_Ma_spread : MethodName := ⟨"WeighedMachines$Machine", "spread", "([JI)V"⟩
abbrev cc_WM_fromOf : ByteArray := prog_1_method_32_code
def yy_WM_fromOf : MethodName := ⟨"WeighedMachines", "fromOf", "(I)I"⟩
abbrev cc_WM_labelsOf : ByteArray := prog_1_method_33_code
def yy_WM_labelsOf : MethodName := ⟨"WeighedMachines", "labelsOf", "(I)I"⟩
abbrev cc_Ba_leastEnd : ByteArray := prog_2_method_3_code
def yy_Ba_leastEnd : MethodName := ⟨"WeighedMachines$Baring", "leastEnd", "(LWeighedMachines$Machine;)J"⟩
abbrev cc_Ba_bringOthers : ByteArray := prog_2_method_4_code
def yy_Ba_bringOthers : MethodName := ⟨"WeighedMachines$Baring", "bringOthers", "(LWeighedMachines$Machine;ILWeighedMachines$Machine;)Z"⟩
abbrev cc_WM_determine : ByteArray := prog_1_method_8_code
def yy_WM_determine : MethodName := ⟨"WeighedMachines", "determine", "(II)I"⟩
abbrev cc_Ma_copiesLabels : ByteArray := prog_6_method_13_code
def yy_Ma_copiesLabels : MethodName := ⟨"WeighedMachines$Machine", "copiesLabels", "()Z"⟩
abbrev cc_Ma_hasCycle : ByteArray := prog_6_method_14_code
def yy_Ma_hasCycle : MethodName := ⟨"WeighedMachines$Machine", "hasCycle", "()Z"⟩
abbrev cc_WM_isIn : ByteArray := prog_1_method_28_code
def yy_WM_isIn : MethodName := ⟨"WeighedMachines", "isIn", "(II)Z"⟩
abbrev cc_De_build : ByteArray := prog_5_method_2_code
def yy_De_build : MethodName := ⟨"WeighedMachines$Determining", "build", "(LWeighedMachines$Machine;LWeighedMachines$Machine;)Z"⟩
abbrev cc_De_findNext : ByteArray := prog_5_method_6_code
def yy_De_findNext : MethodName := ⟨"WeighedMachines$Determining", "findNext", "()I"⟩
abbrev cc_De_isNext : ByteArray := prog_5_method_7_code
def yy_De_isNext : MethodName := ⟨"WeighedMachines$Determining", "isNext", "(I)Z"⟩
abbrev cc_De_leastEnd : ByteArray := prog_5_method_3_code
def yy_De_leastEnd : MethodName := ⟨"WeighedMachines$Determining", "leastEnd", "(I)J"⟩
abbrev cc_De_leave : ByteArray := prog_5_method_4_code
def yy_De_leave : MethodName := ⟨"WeighedMachines$Determining", "leave", "(II)Z"⟩
abbrev cc_De_sumUp : ByteArray := prog_5_method_5_code
def yy_De_sumUp : MethodName := ⟨"WeighedMachines$Determining", "sumUp", "(II)J"⟩
abbrev cc_WM_push : ByteArray := prog_1_method_9_code
def yy_WM_push : MethodName := ⟨"WeighedMachines", "push", "(II)I"⟩
abbrev cc_On_look : ByteArray := prog_7_method_2_code
def yy_On_look : MethodName := ⟨"WeighedMachines$Onward", "look", "(LWeighedMachines$Machine;)V"⟩
abbrev cc_On_costAlong : ByteArray := prog_7_method_3_code
def yy_On_costAlong : MethodName := ⟨"WeighedMachines$Onward", "costAlong", "(LWeighedMachines$Machine;I)J"⟩
abbrev cc_WM_buildPushed : ByteArray := prog_1_method_26_code
def yy_WM_buildPushed : MethodName := ⟨"WeighedMachines", "buildPushed", "(LWeighedMachines$Machine;)V"⟩
abbrev cc_On_weightOf : ByteArray := prog_7_method_5_code
def yy_On_weightOf : MethodName := ⟨"WeighedMachines$Onward", "weightOf", "(I)J"⟩
abbrev cc_On_isThere : ByteArray := prog_7_method_4_code
def yy_On_isThere : MethodName := ⟨"WeighedMachines$Onward", "isThere", "(I)Z"⟩
abbrev cc_WM_trim : ByteArray := prog_1_method_10_code
def yy_WM_trim : MethodName := ⟨"WeighedMachines", "trim", "(II)I"⟩
abbrev cc_WM_buildTrimmed : ByteArray := prog_1_method_27_code
def yy_WM_buildTrimmed : MethodName := ⟨"WeighedMachines", "buildTrimmed", "(LWeighedMachines$Machine;)V"⟩
abbrev cc_Ma_statesAhead : ByteArray := prog_6_method_11_code
def yy_Ma_statesAhead : MethodName := ⟨"WeighedMachines$Machine", "statesAhead", "()I"⟩
abbrev cc_Ma_statesBehind : ByteArray := prog_6_method_12_code
def yy_Ma_statesBehind : MethodName := ⟨"WeighedMachines$Machine", "statesBehind", "()I"⟩
abbrev cc_JI_bitCount : ByteArray := prog_14_method_49_code
def yy_JI_bitCount : MethodName := ⟨"java/lang/Integer", "bitCount", "(I)I"⟩
abbrev cc_WM_rankIn : ByteArray := prog_1_method_29_code
def yy_WM_rankIn : MethodName := ⟨"WeighedMachines", "rankIn", "(II)I"⟩
abbrev cc_WM_weigh : ByteArray := prog_1_method_11_code
def yy_WM_weigh : MethodName := ⟨"WeighedMachines", "weigh", "(III)J"⟩
abbrev cc_We_leastWeight : ByteArray := prog_11_method_3_code
def yy_We_leastWeight : MethodName := ⟨"WeighedMachines$Weighing", "leastWeight", "(LWeighedMachines$Machine;II)J"⟩
abbrev cc_Ro_take : ByteArray := prog_9_method_2_code
def yy_Ro_take : MethodName := ⟨"WeighedMachines$Row", "take", "(I)Z"⟩
abbrev cc_We_baseOf : ByteArray := prog_11_method_2_code
def yy_We_baseOf : MethodName := ⟨"WeighedMachines$Weighing", "baseOf", "(II)I"⟩
abbrev cc_We_leave : ByteArray := prog_11_method_4_code
def yy_We_leave : MethodName := ⟨"WeighedMachines$Weighing", "leave", "(LWeighedMachines$Machine;II)V"⟩
abbrev cc_Ro_doneAfter : ByteArray := prog_9_method_3_code
def yy_Ro_doneAfter : MethodName := ⟨"WeighedMachines$Row", "doneAfter", "(II)I"⟩
abbrev cc_We_leastEnd : ByteArray := prog_11_method_5_code
def yy_We_leastEnd : MethodName := ⟨"WeighedMachines$Weighing", "leastEnd", "(LWeighedMachines$Machine;I)J"⟩
abbrev cc_WM_best : ByteArray := prog_1_method_12_code
def yy_WM_best : MethodName := ⟨"WeighedMachines", "best", "(I)J"⟩
abbrev cc_BP_keep : ByteArray := prog_3_method_2_code
def yy_BP_keep : MethodName := ⟨"WeighedMachines$BestPath", "keep", "(LWeighedMachines$Machine;LWeighedMachines$Onward;)V"⟩
abbrev cc_On_arcsOf : ByteArray := prog_7_method_6_code
def yy_On_arcsOf : MethodName := ⟨"WeighedMachines$Onward", "arcsOf", "(I)I"⟩
abbrev cc_JM_minX : ByteArray := prog_15_method_69_code
def yy_JM_minX : MethodName := ⟨"java/lang/Math", "min", "(II)I"⟩
abbrev cc_On_bestArc : ByteArray := prog_7_method_7_code
def yy_On_bestArc : MethodName := ⟨"WeighedMachines$Onward", "bestArc", "(LWeighedMachines$Machine;I)I"⟩
abbrev cc_WM_step : ByteArray := prog_1_method_13_code
def yy_WM_step : MethodName := ⟨"WeighedMachines", "step", "(II)I"⟩
abbrev cc_WM_arcPart : ByteArray := prog_1_method_37_code
def yy_WM_arcPart : MethodName := ⟨"WeighedMachines", "arcPart", "(IJI)I"⟩
abbrev cc_WM_count : ByteArray := prog_1_method_14_code
def yy_WM_count : MethodName := ⟨"WeighedMachines", "count", "(II)I"⟩
abbrev cc_Ma_countEnds : ByteArray := prog_6_method_6_code
def yy_Ma_countEnds : MethodName := ⟨"WeighedMachines$Machine", "countEnds", "()I"⟩
abbrev cc_WM_part : ByteArray := prog_1_method_15_code
def yy_WM_part : MethodName := ⟨"WeighedMachines", "part", "(III)I"⟩
abbrev cc_WM_endOf : ByteArray := prog_1_method_16_code
def yy_WM_endOf : MethodName := ⟨"WeighedMachines", "endOf", "(II)I"⟩
abbrev cc_WM_print : ByteArray := prog_1_method_17_code
def yy_WM_print : MethodName := ⟨"WeighedMachines", "print", "(I)I"⟩
abbrev cc_Te_tell : ByteArray := prog_10_method_8_code
def yy_Te_tell : MethodName := ⟨"WeighedMachines$Text", "tell", "(LWeighedMachines$Machine;)V"⟩
abbrev cc_Te_put : ByteArray := prog_10_method_3_code
def yy_Te_put : MethodName := ⟨"WeighedMachines$Text", "put", "(I)V"⟩
abbrev cc_Te_putNumber : ByteArray := prog_10_method_4_code
def yy_Te_putNumber : MethodName := ⟨"WeighedMachines$Text", "putNumber", "(J)V"⟩
abbrev cc_Te_putStateWeight : ByteArray := prog_10_method_6_code
def yy_Te_putStateWeight : MethodName := ⟨"WeighedMachines$Text", "putStateWeight", "(CIJ)V"⟩
abbrev cc_Te_putWeight : ByteArray := prog_10_method_5_code
def yy_Te_putWeight : MethodName := ⟨"WeighedMachines$Text", "putWeight", "(J)V"⟩
abbrev cc_Te_putArc : ByteArray := prog_10_method_7_code
def yy_Te_putArc : MethodName := ⟨"WeighedMachines$Text", "putArc", "(IJ)V"⟩
abbrev cc_WM_parse : ByteArray := prog_1_method_18_code
def yy_WM_parse : MethodName := ⟨"WeighedMachines", "parse", "(I)I"⟩
abbrev cc_Pa_build : ByteArray := prog_8_method_2_code
def yy_Pa_build : MethodName := ⟨"WeighedMachines$Parsing", "build", "(LWeighedMachines$Text;LWeighedMachines$Machine;)I"⟩
abbrev cc_Pa_readSize : ByteArray := prog_8_method_3_code
def yy_Pa_readSize : MethodName := ⟨"WeighedMachines$Parsing", "readSize", "()I"⟩
abbrev cc_Pa_readSign : ByteArray := prog_8_method_10_code
def yy_Pa_readSign : MethodName := ⟨"WeighedMachines$Parsing", "readSign", "(C)I"⟩
abbrev cc_Te_codeAt : ByteArray := prog_10_method_2_code
def yy_Te_codeAt : MethodName := ⟨"WeighedMachines$Text", "codeAt", "(I)I"⟩
abbrev cc_Pa_readNumber : ByteArray := prog_8_method_13_code
def yy_Pa_readNumber : MethodName := ⟨"WeighedMachines$Parsing", "readNumber", "(J)I"⟩
abbrev cc_Pa_isDigit : ByteArray := prog_8_method_11_code
def yy_Pa_isDigit : MethodName := ⟨"WeighedMachines$Parsing", "isDigit", "(I)Z"⟩
abbrev cc_Pa_readItem : ByteArray := prog_8_method_4_code
def yy_Pa_readItem : MethodName := ⟨"WeighedMachines$Parsing", "readItem", "()I"⟩
abbrev cc_Pa_readStart : ByteArray := prog_8_method_5_code
def yy_Pa_readStart : MethodName := ⟨"WeighedMachines$Parsing", "readStart", "()I"⟩
abbrev cc_Pa_readState : ByteArray := prog_8_method_8_code
def yy_Pa_readState : MethodName := ⟨"WeighedMachines$Parsing", "readState", "()I"⟩
abbrev cc_Pa_readWeight : ByteArray := prog_8_method_9_code
def yy_Pa_readWeight : MethodName := ⟨"WeighedMachines$Parsing", "readWeight", "()I"⟩
abbrev cc_Pa_readEnd : ByteArray := prog_8_method_6_code
def yy_Pa_readEnd : MethodName := ⟨"WeighedMachines$Parsing", "readEnd", "()I"⟩
abbrev cc_Pa_readArc : ByteArray := prog_8_method_7_code
def yy_Pa_readArc : MethodName := ⟨"WeighedMachines$Parsing", "readArc", "()I"⟩
abbrev cc_Pa_readLabel : ByteArray := prog_8_method_12_code
def yy_Pa_readLabel : MethodName := ⟨"WeighedMachines$Parsing", "readLabel", "()I"⟩
abbrev cc_WM_feed : ByteArray := prog_1_method_19_code
def yy_WM_feed : MethodName := ⟨"WeighedMachines", "feed", "(JI)I"⟩
abbrev cc_WM_areLetters : ByteArray := prog_1_method_24_code
def yy_WM_areLetters : MethodName := ⟨"WeighedMachines", "areLetters", "(JI)Z"⟩
abbrev cc_WM_letter : ByteArray := prog_1_method_20_code
def yy_WM_letter : MethodName := ⟨"WeighedMachines", "letter", "(I)I"⟩
abbrev cc_Mo_init : ByteArray := prog_13_method_1_code
def yy_Mo_init : MethodName := ⟨"WeighedMachinesModel", "<init>", "()V"⟩
abbrev cc_Mo_blank : ByteArray := prog_13_method_3_code
def yy_Mo_blank : MethodName := ⟨"WeighedMachinesModel", "blank", "(II)V"⟩
abbrev cc_Mo_fresh : ByteArray := prog_13_method_6_code
def yy_Mo_fresh : MethodName := ⟨"WeighedMachinesModel", "fresh", "(II)Z"⟩
abbrev cc_Mo_isSlot : ByteArray := prog_13_method_2_code
def yy_Mo_isSlot : MethodName := ⟨"WeighedMachinesModel", "isSlot", "(I)Z"⟩
abbrev cc_Mo_start : ByteArray := prog_13_method_7_code
def yy_Mo_start : MethodName := ⟨"WeighedMachinesModel", "start", "(III)Z"⟩
abbrev cc_Mo_isState : ByteArray := prog_13_method_4_code
def yy_Mo_isState : MethodName := ⟨"WeighedMachinesModel", "isState", "(II)Z"⟩
abbrev cc_Mo_isWeight : ByteArray := prog_13_method_5_code
def yy_Mo_isWeight : MethodName := ⟨"WeighedMachinesModel", "isWeight", "(J)Z"⟩
abbrev cc_Mo_end : ByteArray := prog_13_method_8_code
def yy_Mo_end : MethodName := ⟨"WeighedMachinesModel", "end", "(III)Z"⟩
abbrev cc_Mo_arc : ByteArray := prog_13_method_11_code
def yy_Mo_arc : MethodName := ⟨"WeighedMachinesModel", "arc", "(IIIII)I"⟩
abbrev cc_Mo_put : ByteArray := prog_13_method_10_code
def yy_Mo_put : MethodName := ⟨"WeighedMachinesModel", "put", "(IIIIIJ)Z"⟩
abbrev cc_Mo_against : ByteArray := prog_13_method_9_code
def yy_Mo_against : MethodName := ⟨"WeighedMachinesModel", "against", "(IIIII)I"⟩
abbrev cc_Mo_compose : ByteArray := prog_13_method_18_code
def yy_Mo_compose : MethodName := ⟨"WeighedMachinesModel", "compose", "(III)I"⟩
abbrev cc_Mo_reach : ByteArray := prog_13_method_13_code
def yy_Mo_reach : MethodName := ⟨"WeighedMachinesModel", "reach", "(III)I"⟩
abbrev cc_Mo_explore : ByteArray := prog_13_method_17_code
def yy_Mo_explore : MethodName := ⟨"WeighedMachinesModel", "explore", "(II)Z"⟩
abbrev cc_Mo_meet : ByteArray := prog_13_method_15_code
def yy_Mo_meet : MethodName := ⟨"WeighedMachinesModel", "meet", "(IIIZ)Z"⟩
abbrev cc_Mo_link : ByteArray := prog_13_method_14_code
def yy_Mo_link : MethodName := ⟨"WeighedMachinesModel", "link", "(IIIIJ)Z"⟩
abbrev cc_Mo_alone : ByteArray := prog_13_method_16_code
def yy_Mo_alone : MethodName := ⟨"WeighedMachinesModel", "alone", "(IIZ)Z"⟩
abbrev cc_Mo_keep : ByteArray := prog_13_method_12_code
def yy_Mo_keep : MethodName := ⟨"WeighedMachinesModel", "keep", "(I)Z"⟩
abbrev cc_Mo_bare : ByteArray := prog_13_method_20_code
def yy_Mo_bare : MethodName := ⟨"WeighedMachinesModel", "bare", "(II)I"⟩
abbrev cc_Mo_spread : ByteArray := prog_13_method_19_code
def yy_Mo_spread : MethodName := ⟨"WeighedMachinesModel", "spread", "(II)V"⟩
abbrev cc_Mo_determine : ByteArray := prog_13_method_25_code
def yy_Mo_determine : MethodName := ⟨"WeighedMachinesModel", "determine", "(II)I"⟩
abbrev cc_Mo_isFit : ByteArray := prog_13_method_21_code
def yy_Mo_isFit : MethodName := ⟨"WeighedMachinesModel", "isFit", "(I)Z"⟩
abbrev cc_Mo_gather : ByteArray := prog_13_method_24_code
def yy_Mo_gather : MethodName := ⟨"WeighedMachinesModel", "gather", "(I)Z"⟩
abbrev cc_Mo_follow : ByteArray := prog_13_method_22_code
def yy_Mo_follow : MethodName := ⟨"WeighedMachinesModel", "follow", "(III)J"⟩
abbrev cc_Mo_settle : ByteArray := prog_13_method_23_code
def yy_Mo_settle : MethodName := ⟨"WeighedMachinesModel", "settle", "()I"⟩
abbrev cc_Mo_push : ByteArray := prog_13_method_27_code
def yy_Mo_push : MethodName := ⟨"WeighedMachinesModel", "push", "(II)I"⟩
abbrev cc_Mo_findOnward : ByteArray := prog_13_method_26_code
def yy_Mo_findOnward : MethodName := ⟨"WeighedMachinesModel", "findOnward", "(I)V"⟩
abbrev cc_Mo_trim : ByteArray := prog_13_method_31_code
def yy_Mo_trim : MethodName := ⟨"WeighedMachinesModel", "trim", "(II)I"⟩
abbrev cc_Mo_findReached : ByteArray := prog_13_method_28_code
def yy_Mo_findReached : MethodName := ⟨"WeighedMachinesModel", "findReached", "(I)V"⟩
abbrev cc_Mo_rank : ByteArray := prog_13_method_29_code
def yy_Mo_rank : MethodName := ⟨"WeighedMachinesModel", "rank", "(I)I"⟩
abbrev cc_Mo_isOnPath : ByteArray := prog_13_method_30_code
def yy_Mo_isOnPath : MethodName := ⟨"WeighedMachinesModel", "isOnPath", "(I)Z"⟩
abbrev cc_Mo_weigh : ByteArray := prog_13_method_35_code
def yy_Mo_weigh : MethodName := ⟨"WeighedMachinesModel", "weigh", "(III)J"⟩
abbrev cc_Mo_sizeOf : ByteArray := prog_13_method_32_code
def yy_Mo_sizeOf : MethodName := ⟨"WeighedMachinesModel", "sizeOf", "(I)I"⟩
abbrev cc_Mo_labelAt : ByteArray := prog_13_method_33_code
def yy_Mo_labelAt : MethodName := ⟨"WeighedMachinesModel", "labelAt", "(III)I"⟩
abbrev cc_Mo_relax : ByteArray := prog_13_method_34_code
def yy_Mo_relax : MethodName := ⟨"WeighedMachinesModel", "relax", "(I)Z"⟩
abbrev cc_Mo_best : ByteArray := prog_13_method_36_code
def yy_Mo_best : MethodName := ⟨"WeighedMachinesModel", "best", "(I)J"⟩
abbrev cc_Mo_step : ByteArray := prog_13_method_37_code
def yy_Mo_step : MethodName := ⟨"WeighedMachinesModel", "step", "(II)I"⟩
abbrev cc_Mo_count : ByteArray := prog_13_method_38_code
def yy_Mo_count : MethodName := ⟨"WeighedMachinesModel", "count", "(II)I"⟩
abbrev cc_Mo_part : ByteArray := prog_13_method_39_code
def yy_Mo_part : MethodName := ⟨"WeighedMachinesModel", "part", "(III)I"⟩
abbrev cc_Mo_endOf : ByteArray := prog_13_method_40_code
def yy_Mo_endOf : MethodName := ⟨"WeighedMachinesModel", "endOf", "(II)I"⟩
abbrev cc_Mo_print : ByteArray := prog_13_method_44_code
def yy_Mo_print : MethodName := ⟨"WeighedMachinesModel", "print", "(I)I"⟩
abbrev cc_Mo_say : ByteArray := prog_13_method_41_code
def yy_Mo_say : MethodName := ⟨"WeighedMachinesModel", "say", "(I)V"⟩
abbrev cc_Mo_sayNumber : ByteArray := prog_13_method_43_code
def yy_Mo_sayNumber : MethodName := ⟨"WeighedMachinesModel", "sayNumber", "(JI)V"⟩
abbrev cc_Mo_sayDigit : ByteArray := prog_13_method_42_code
def yy_Mo_sayDigit : MethodName := ⟨"WeighedMachinesModel", "sayDigit", "(I)V"⟩
abbrev cc_Mo_letter : ByteArray := prog_13_method_45_code
def yy_Mo_letter : MethodName := ⟨"WeighedMachinesModel", "letter", "(I)I"⟩
abbrev cc_Mo_feed : ByteArray := prog_13_method_46_code
def yy_Mo_feed : MethodName := ⟨"WeighedMachinesModel", "feed", "(JI)I"⟩
abbrev cc_Mo_parse : ByteArray := prog_13_method_57_code
def yy_Mo_parse : MethodName := ⟨"WeighedMachinesModel", "parse", "(I)I"⟩
abbrev cc_Mo_takeIf : ByteArray := prog_13_method_54_code
def yy_Mo_takeIf : MethodName := ⟨"WeighedMachinesModel", "takeIf", "(I)V"⟩
abbrev cc_Mo_take : ByteArray := prog_13_method_50_code
def yy_Mo_take : MethodName := ⟨"WeighedMachinesModel", "take", "(I)V"⟩
abbrev cc_Mo_here : ByteArray := prog_13_method_47_code
def yy_Mo_here : MethodName := ⟨"WeighedMachinesModel", "here", "()I"⟩
abbrev cc_Mo_fail : ByteArray := prog_13_method_49_code
def yy_Mo_fail : MethodName := ⟨"WeighedMachinesModel", "fail", "(I)V"⟩
abbrev cc_Mo_takeNumber : ByteArray := prog_13_method_51_code
def yy_Mo_takeNumber : MethodName := ⟨"WeighedMachinesModel", "takeNumber", "(J)J"⟩
abbrev cc_Mo_isDigit : ByteArray := prog_13_method_48_code
def yy_Mo_isDigit : MethodName := ⟨"WeighedMachinesModel", "isDigit", "()Z"⟩
abbrev cc_Mo_parseEnds : ByteArray := prog_13_method_55_code
def yy_Mo_parseEnds : MethodName := ⟨"WeighedMachinesModel", "parseEnds", "(Z)V"⟩
abbrev cc_Mo_takeState : ByteArray := prog_13_method_52_code
def yy_Mo_takeState : MethodName := ⟨"WeighedMachinesModel", "takeState", "()I"⟩
abbrev cc_Mo_parseArc : ByteArray := prog_13_method_56_code
def yy_Mo_parseArc : MethodName := ⟨"WeighedMachinesModel", "parseArc", "()V"⟩
abbrev cc_Mo_takeLabel : ByteArray := prog_13_method_53_code
def yy_Mo_takeLabel : MethodName := ⟨"WeighedMachinesModel", "takeLabel", "()I"⟩
end
section
/-! THE LAYER: a judgement gx_G that keeps the machine's own names out of sight (they lie in K), and a row for each instruction over it. -/
-- the words: the good ones of the tables, and the nest's
def gx_nest : Cond → Bool
  | .fieldLinkNest .. => true
  | .methodLinkNest .. => true
  | _ => false
def gx_F : List Cond := lw_tbl.filter goodWord
theorem gx_F_in {w : Cond} (h : w ∈ lw_tbl) (hg : goodWord w = true) : w ∈ gx_F := List.mem_filter.mpr ⟨h, hg⟩
theorem gx_F_good {w : Cond} (h : w ∈ gx_F) : (w.onTables && w.keeps) = true ∨ ∃ ty, w = .arrayClass ty := good_of_word (List.mem_filter.mp h).2
def gx_N (U : State) : Prop := ∀ w ∈ lw_tbl, gx_nest w = true → va_Nw w U
theorem gx_N.warm {s U : State} (hW : s.WarmedH U.vm) (h : gx_N s) : gx_N U := by
  intro w hw hn
  cases w <;> first | exact va_Nw.warmF hW (h _ hw hn) | exact va_Nw.warmM hW (h _ hw hn) | cases hn
theorem gx_N.same {s U : State} (hv : s.vm = U.vm) (h : gx_N s) : gx_N U := by
  intro w hw hn
  cases w <;> first | exact va_Nw.same rfl hv (h _ hw hn) | cases hn
theorem gx_N.of {args : Array Value} {s : State} (h : ∀ w ∈ lw_tbl, w.before args s = true) : gx_N s := by
  intro w hw hn
  cases w <;> first | exact va_Nw.of rfl (h _ hw) | cases hn
-- the array classes that the worlds hold
def gx_T (dA : Nat → ClassId) : List (ClassId × FieldType) := [(dA 0, .int), (dA 1, .long), (dA 2, .char), (dA 3, .boolean), (dA 4, .object "WeighedMachines$Machine")]
abbrev gx_K : Type := Program × Launch × Env × Room × State × MethodId × Array Value × List Frame × Method × Code × (Nat → Prop)
abbrev gx_l (K : gx_K) : Launch := K.2.1
abbrev gx_R (K : gx_K) : Room := K.2.2.2.1
abbrev gx_s (K : gx_K) : State := K.2.2.2.2.1
abbrev gx_a (K : gx_K) : Array Value := K.2.2.2.2.2.2.1
abbrev gx_b (K : gx_K) : List Frame := K.2.2.2.2.2.2.2.1
abbrev gx_A (K : gx_K) : Nat → Prop := K.2.2.2.2.2.2.2.2.2.2
/-- what stands fast while a method runs -/
def gx_C (K : gx_K) (D : va_G) (dA : Nat → ClassId) (y : MethodName) (cc : ByteArray) (nL : Nat) (ret : Option FieldType) (d : Nat) : Prop :=
  match K with
  | (p, _, _, R, s, m, args, _, meth, c, A) => p.tables.exec = Jvm.exec ∧ c.code = cc ∧ meth.sig.returnType = ret ∧ meth.locks = false ∧ c.maxLocals = nL ∧ s.vm.findClass y.cls = some m.cls ∧ meth.name = y.name ∧ (∀ w ∈ gx_F, w.before args s = true) ∧ gx_N s ∧ va_K D vw_Cl (gx_T dA) s ∧ (∀ q : Nat, s.heap.size ≤ q → A q) ∧ d ≤ R.frames ∧ 51 * d ≤ R.locals
/-- the machine, at pc with these locals, this stack and this world, comes to Z -/
def gx_G (K : gx_K) (D : va_G) (nL k n pc : Nat) (lv : List (Nat × Value)) (st : List Value) (ws : va_W) (Z : State → Prop) : Prop :=
  match K with
  | (p, l, e, R, s, m, args, below, meth, c, A) => ∀ (H : Heap) (locs : List Loc) (ls : Array Slot), va_P D vw_Cl ws H → va_D A ws → va_S A s.heap H locs → lv_has ls nL lv → W p l e R s m args below meth c H locs k n Z (F0 m pc ls st)
def gx_Q (D : va_G) (dA : Nat → ClassId) (Q : Option Value → va_W → Prop) (A : Nat → Prop) : Array Value → State → Outcome → State → Prop := fun _ st oc t =>
  (∃ (v : Option Value) (w : va_W), oc = .returned v ∧ Q v w ∧ va_P D vw_Cl w t.heap ∧ va_K D vw_Cl (gx_T dA) t ∧ va_D A w) ∧ va_F A st t
def gx_rm (d mc ms : Nat) : Room := { frames := d, cells := mc, slots := ms, locals := 51 * d }
def gx_Pc (D : va_G) (dA : Nat → ClassId) (av : List Value) (ws : va_W) (sz : Nat) : Array Value → State → Prop :=
  va_Pc av (fun U => U.heap.size = sz ∧ va_P D vw_Cl ws U.heap ∧ va_K D vw_Cl (gx_T dA) U ∧ va_D (fun _ => True) ws ∧ gx_N U)
/-- a method's contract: from the world ws with the arguments av it returns, and Q holds of its answer and the world behind it -/
def gx_Ct (l : Launch) (D : va_G) (dA : Nat → ClassId) (y : MethodName) (cc : ByteArray) (nL : Nat) (ret : Option FieldType) (d mc ms : Nat) (av : List Value) (ws : va_W) (Q : Option Value → va_W → Prop) : Prop :=
  ∀ sz : Nat, Met l y (Cond.code y cc nL ret :: gx_F) (gx_rm d mc ms) (gx_Pc D dA av ws sz) (gx_Q D dA Q (va_A ws sz)) mc ms (va_A ws sz)
/-- where a method's walk ends -/
def gx_Z (K : gx_K) (D : va_G) (dA : Nat → ClassId) (mc ms : Nat) (Q : Option Value → va_W → Prop) : State → Prop :=
  MQ (gx_b K) (gx_Q D dA Q (gx_A K)) (gx_a K) (gx_s K) mc ms (gx_A K)
theorem gx_of {l : Launch} {D : va_G} {dA : Nat → ClassId} {y : MethodName} {cc : ByteArray} {nL : Nat} {ret : Option FieldType} {d mc ms : Nat} {av : List Value} {ws : va_W} {Q : Option Value → va_W → Prop}
    (hy : plainName y.cls = true) (hlen : (lg_sl av).length ≤ nL)
    (body : ∀ K : gx_K, gx_C K D dA y cc nL ret d → (gx_R K).cells = mc → (gx_R K).slots = ms → gx_G K D nL 0 0 0 (lv_args 0 av) [] ws (gx_Z K D dA mc ms Q)) :
    gx_Ct l D dA y cc nL ret d mc ms av ws Q := by
  intro sz
  refine Met.ofW (cc := cc) (maxL := nL) (ret := ret) hy rfl ?_
  intro p e s m args below meth c s₁ B hml hv
  obtain ⟨rfl, hsz, hP, hK, hD0, hN⟩ := hv
  have hts := atoms_spec (ws := Cond.code y cc nL ret :: gx_F) B.pre
  have hown : s.vm.findClass y.cls = some m.cls := findClass_of_methodNamed B.named
  have hnm : meth.name = y.name := (name_of_methodNamed B.named B.method).1
  subst hsz
  have hD := hD0.self (sz := s.heap.size)
  generalize hAe : va_A ws s.heap.size = A at hD ⊢
  have hA : ∀ q : Nat, s.heap.size ≤ q → A q := fun q h => by rw [← hAe]; exact Or.inr h
  have hl := lv_entry av (n := nL) hlen
  rw [lg_entry_eq]
  generalize (lg_sl av ++ List.replicate (nL - (lg_sl av).length) Slot.unset).toArray = ls at hl ⊢
  exact body (p, l, e, gx_rm d mc ms, s, m, av.toArray, below, meth, c, A) ⟨B.exec, B.bytes, B.returns, B.notSynchronized, hml, hown, hnm, fun w hw => hts w (List.mem_cons_of_mem _ hw), hN, hK, hA, Nat.le_refl _, Nat.le_refl _⟩ rfl rfl s.heap [] ls hP hD va_S.rf hl
section GX
variable {K : gx_K} {D : va_G} {dA : Nat → ClassId} {y : MethodName} {cc : ByteArray} {nL : Nat} {ret : Option FieldType} {d k n pc : Nat} {lv : List (Nat × Value)} {st : List Value} {ws : va_W} {Z : State → Prop}
theorem gx_iconst (C : gx_C K D dA y cc nL ret d) {i : Int} {v : Int32} (hd : decode cc pc = .ok (.iconst i, 1)) (hv : Int32.ofInt i = v := by rfl) (kk : gx_G K D nL k n (pc + 1) lv (.int v :: st) ws Z) : gx_G K D nL k n pc lv st ws Z := by
  obtain ⟨p, l, e, R, s, m, args, below, meth, c, A⟩ := K
  obtain ⟨hx, hb, hr, hlk, hml, hown, hnm, hts, hN, hK, hA, hR1, hR2⟩ := C
  intro H locs ls hP hD hS hl
  exact lv_iconst hx hb hd hv (kk H locs ls hP hD hS hl)
theorem gx_bipush (C : gx_C K D dA y cc nL ret d) {i : Int} {v : Int32} (hd : decode cc pc = .ok (.bipush i, 2)) (hv : (Int8.ofInt i).toInt32 = v := by rfl) (kk : gx_G K D nL k n (pc + 2) lv (.int v :: st) ws Z) : gx_G K D nL k n pc lv st ws Z := by
  obtain ⟨p, l, e, R, s, m, args, below, meth, c, A⟩ := K
  obtain ⟨hx, hb, hr, hlk, hml, hown, hnm, hts, hN, hK, hA, hR1, hR2⟩ := C
  intro H locs ls hP hD hS hl
  exact lv_bipush hx hb hd hv (kk H locs ls hP hD hS hl)
theorem gx_sipush (C : gx_C K D dA y cc nL ret d) {i : Int} {v : Int32} (hd : decode cc pc = .ok (.sipush i, 3)) (hv : (Int16.ofInt i).toInt32 = v := by rfl) (kk : gx_G K D nL k n (pc + 3) lv (.int v :: st) ws Z) : gx_G K D nL k n pc lv st ws Z := by
  obtain ⟨p, l, e, R, s, m, args, below, meth, c, A⟩ := K
  obtain ⟨hx, hb, hr, hlk, hml, hown, hnm, hts, hN, hK, hA, hR1, hR2⟩ := C
  intro H locs ls hP hD hS hl
  exact lv_sipush hx hb hd hv (kk H locs ls hP hD hS hl)
theorem gx_lconst (C : gx_C K D dA y cc nL ret d) {i : Fin 2} {v : Int64} (hd : decode cc pc = .ok (.lconst i, 1)) (hv : Int64.ofNat (i : Nat) = v := by rfl) (kk : gx_G K D nL k n (pc + 1) lv (.long v :: st) ws Z) : gx_G K D nL k n pc lv st ws Z := by
  obtain ⟨p, l, e, R, s, m, args, below, meth, c, A⟩ := K
  obtain ⟨hx, hb, hr, hlk, hml, hown, hnm, hts, hN, hK, hA, hR1, hR2⟩ := C
  intro H locs ls hP hD hS hl
  exact lv_lconst hx hb hd hv (kk H locs ls hP hD hS hl)
theorem gx_ldc (C : gx_C K D dA y cc nL ret d) {i : Nat} {v : Int32} (hd : decode cc pc = .ok (.ldc i, 2)) (hw : Cond.constant y.cls i v ∈ gx_F) (kk : gx_G K D nL k n (pc + 2) lv (.int v :: st) ws Z) : gx_G K D nL k n pc lv st ws Z := by
  obtain ⟨p, l, e, R, s, m, args, below, meth, c, A⟩ := K
  obtain ⟨hx, hb, hr, hlk, hml, hown, hnm, hts, hN, hK, hA, hR1, hR2⟩ := C
  intro H locs ls hP hD hS hl
  exact lv_ldc hx hb hown (hts _ hw) hd (kk H locs ls hP hD hS hl)
theorem gx_ldc2 (C : gx_C K D dA y cc nL ret d) {i : Nat} {v : Int64} (hd : decode cc pc = .ok (.ldc2_w i, 3)) (hw : Cond.constantLong y.cls i v ∈ gx_F) (kk : gx_G K D nL k n (pc + 3) lv (.long v :: st) ws Z) : gx_G K D nL k n pc lv st ws Z := by
  obtain ⟨p, l, e, R, s, m, args, below, meth, c, A⟩ := K
  obtain ⟨hx, hb, hr, hlk, hml, hown, hnm, hts, hN, hK, hA, hR1, hR2⟩ := C
  intro H locs ls hP hD hS hl
  exact lv_ldc2 hx hb hown (hts _ hw) hd (kk H locs ls hP hD hS hl)
theorem gx_iload_n (C : gx_C K D dA y cc nL ret d) {j : Fin 4} (q : Nat) {i : Nat} {x : Int32} (hd : decode cc pc = .ok (.iload_n j, 1)) (hi : (j : Nat) = i := by rfl) (hq : lv[q]? = some (i, .int x) := by rfl) (kk : gx_G K D nL k n (pc + 1) lv (.int x :: st) ws Z) : gx_G K D nL k n pc lv st ws Z := by
  obtain ⟨p, l, e, R, s, m, args, below, meth, c, A⟩ := K
  obtain ⟨hx, hb, hr, hlk, hml, hown, hnm, hts, hN, hK, hA, hR1, hR2⟩ := C
  intro H locs ls hP hD hS hl
  exact lv_iload_n hx hb hd hi (lv_at hl q hq) (kk H locs ls hP hD hS hl)
theorem gx_iload (C : gx_C K D dA y cc nL ret d) (q : Nat) {i : Nat} {x : Int32} (hd : decode cc pc = .ok (.iload i, 2)) (hq : lv[q]? = some (i, .int x) := by rfl) (kk : gx_G K D nL k n (pc + 2) lv (.int x :: st) ws Z) : gx_G K D nL k n pc lv st ws Z := by
  obtain ⟨p, l, e, R, s, m, args, below, meth, c, A⟩ := K
  obtain ⟨hx, hb, hr, hlk, hml, hown, hnm, hts, hN, hK, hA, hR1, hR2⟩ := C
  intro H locs ls hP hD hS hl
  exact lv_iload hx hb hd (lv_at hl q hq) (kk H locs ls hP hD hS hl)
theorem gx_istore_n (C : gx_C K D dA y cc nL ret d) {j : Fin 4} {i : Nat} {x : Int32} (lv' : List (Nat × Value)) (hd : decode cc pc = .ok (.istore_n j, 1)) (hi : (j : Nat) = i := by rfl) (hn : i < nL := by decide) (hf : (i, Value.int x) :: lv.filter (fun q => !(q.1 == i) && !(q.1 + 1 == i && q.2.category == 2)) = lv' := by rfl) (kk : gx_G K D nL k n (pc + 1) lv' st ws Z) : gx_G K D nL k n pc lv (.int x :: st) ws Z := by
  obtain ⟨p, l, e, R, s, m, args, below, meth, c, A⟩ := K
  obtain ⟨hx, hb, hr, hlk, hml, hown, hnm, hts, hN, hK, hA, hR1, hR2⟩ := C
  intro H locs ls hP hD hS hl
  exact lv_istore_n hx hb hd hi hl hn hf (fun ls' hl' => kk H locs ls' hP hD hS hl')
theorem gx_istore (C : gx_C K D dA y cc nL ret d) {i : Nat} {x : Int32} (lv' : List (Nat × Value)) (hd : decode cc pc = .ok (.istore i, 2)) (hn : i < nL := by decide) (hf : (i, Value.int x) :: lv.filter (fun q => !(q.1 == i) && !(q.1 + 1 == i && q.2.category == 2)) = lv' := by rfl) (kk : gx_G K D nL k n (pc + 2) lv' st ws Z) : gx_G K D nL k n pc lv (.int x :: st) ws Z := by
  obtain ⟨p, l, e, R, s, m, args, below, meth, c, A⟩ := K
  obtain ⟨hx, hb, hr, hlk, hml, hown, hnm, hts, hN, hK, hA, hR1, hR2⟩ := C
  intro H locs ls hP hD hS hl
  exact lv_istore hx hb hd hl hn hf (fun ls' hl' => kk H locs ls' hP hD hS hl')
theorem gx_lload_n (C : gx_C K D dA y cc nL ret d) {j : Fin 4} (q : Nat) {i : Nat} {x : Int64} (hd : decode cc pc = .ok (.lload_n j, 1)) (hi : (j : Nat) = i := by rfl) (hq : lv[q]? = some (i, .long x) := by rfl) (kk : gx_G K D nL k n (pc + 1) lv (.long x :: st) ws Z) : gx_G K D nL k n pc lv st ws Z := by
  obtain ⟨p, l, e, R, s, m, args, below, meth, c, A⟩ := K
  obtain ⟨hx, hb, hr, hlk, hml, hown, hnm, hts, hN, hK, hA, hR1, hR2⟩ := C
  intro H locs ls hP hD hS hl
  exact lv_lload_n hx hb hd hi (lv_at hl q hq) (kk H locs ls hP hD hS hl)
theorem gx_lload (C : gx_C K D dA y cc nL ret d) (q : Nat) {i : Nat} {x : Int64} (hd : decode cc pc = .ok (.lload i, 2)) (hq : lv[q]? = some (i, .long x) := by rfl) (kk : gx_G K D nL k n (pc + 2) lv (.long x :: st) ws Z) : gx_G K D nL k n pc lv st ws Z := by
  obtain ⟨p, l, e, R, s, m, args, below, meth, c, A⟩ := K
  obtain ⟨hx, hb, hr, hlk, hml, hown, hnm, hts, hN, hK, hA, hR1, hR2⟩ := C
  intro H locs ls hP hD hS hl
  exact lv_lload hx hb hd (lv_at hl q hq) (kk H locs ls hP hD hS hl)
theorem gx_lstore_n (C : gx_C K D dA y cc nL ret d) {j : Fin 4} {i : Nat} {x : Int64} (lv' : List (Nat × Value)) (hd : decode cc pc = .ok (.lstore_n j, 1)) (hi : (j : Nat) = i := by rfl) (hn : i + 1 < nL := by decide) (hf : (i, Value.long x) :: lv.filter (fun q => !(q.1 == i) && (!(q.1 == i + 1) && !(q.1 + 1 == i && q.2.category == 2))) = lv' := by rfl) (kk : gx_G K D nL k n (pc + 1) lv' st ws Z) : gx_G K D nL k n pc lv (.long x :: st) ws Z := by
  obtain ⟨p, l, e, R, s, m, args, below, meth, c, A⟩ := K
  obtain ⟨hx, hb, hr, hlk, hml, hown, hnm, hts, hN, hK, hA, hR1, hR2⟩ := C
  intro H locs ls hP hD hS hl
  exact lv_lstore_n hx hb hd hi hl hn hf (fun ls' hl' => kk H locs ls' hP hD hS hl')
theorem gx_lstore (C : gx_C K D dA y cc nL ret d) {i : Nat} {x : Int64} (lv' : List (Nat × Value)) (hd : decode cc pc = .ok (.lstore i, 2)) (hn : i + 1 < nL := by decide) (hf : (i, Value.long x) :: lv.filter (fun q => !(q.1 == i) && (!(q.1 == i + 1) && !(q.1 + 1 == i && q.2.category == 2))) = lv' := by rfl) (kk : gx_G K D nL k n (pc + 2) lv' st ws Z) : gx_G K D nL k n pc lv (.long x :: st) ws Z := by
  obtain ⟨p, l, e, R, s, m, args, below, meth, c, A⟩ := K
  obtain ⟨hx, hb, hr, hlk, hml, hown, hnm, hts, hN, hK, hA, hR1, hR2⟩ := C
  intro H locs ls hP hD hS hl
  exact lv_lstore hx hb hd hl hn hf (fun ls' hl' => kk H locs ls' hP hD hS hl')
theorem gx_aload_n (C : gx_C K D dA y cc nL ret d) {j : Fin 4} (q : Nat) {i : Nat} {x : Nat} (hd : decode cc pc = .ok (.aload_n j, 1)) (hi : (j : Nat) = i := by rfl) (hq : lv[q]? = some (i, .ref x) := by rfl) (kk : gx_G K D nL k n (pc + 1) lv (.ref x :: st) ws Z) : gx_G K D nL k n pc lv st ws Z := by
  obtain ⟨p, l, e, R, s, m, args, below, meth, c, A⟩ := K
  obtain ⟨hx, hb, hr, hlk, hml, hown, hnm, hts, hN, hK, hA, hR1, hR2⟩ := C
  intro H locs ls hP hD hS hl
  exact lv_aload_n hx hb hd hi (lv_at hl q hq) (kk H locs ls hP hD hS hl)
theorem gx_aload (C : gx_C K D dA y cc nL ret d) (q : Nat) {i : Nat} {x : Nat} (hd : decode cc pc = .ok (.aload i, 2)) (hq : lv[q]? = some (i, .ref x) := by rfl) (kk : gx_G K D nL k n (pc + 2) lv (.ref x :: st) ws Z) : gx_G K D nL k n pc lv st ws Z := by
  obtain ⟨p, l, e, R, s, m, args, below, meth, c, A⟩ := K
  obtain ⟨hx, hb, hr, hlk, hml, hown, hnm, hts, hN, hK, hA, hR1, hR2⟩ := C
  intro H locs ls hP hD hS hl
  exact lv_aload hx hb hd (lv_at hl q hq) (kk H locs ls hP hD hS hl)
theorem gx_astore_n (C : gx_C K D dA y cc nL ret d) {j : Fin 4} {i : Nat} {x : Nat} (lv' : List (Nat × Value)) (hd : decode cc pc = .ok (.astore_n j, 1)) (hi : (j : Nat) = i := by rfl) (hn : i < nL := by decide) (hf : (i, Value.ref x) :: lv.filter (fun q => !(q.1 == i) && !(q.1 + 1 == i && q.2.category == 2)) = lv' := by rfl) (kk : gx_G K D nL k n (pc + 1) lv' st ws Z) : gx_G K D nL k n pc lv (.ref x :: st) ws Z := by
  obtain ⟨p, l, e, R, s, m, args, below, meth, c, A⟩ := K
  obtain ⟨hx, hb, hr, hlk, hml, hown, hnm, hts, hN, hK, hA, hR1, hR2⟩ := C
  intro H locs ls hP hD hS hl
  exact lv_astore_n hx hb hd hi hl hn hf (fun ls' hl' => kk H locs ls' hP hD hS hl')
theorem gx_astore (C : gx_C K D dA y cc nL ret d) {i : Nat} {x : Nat} (lv' : List (Nat × Value)) (hd : decode cc pc = .ok (.astore i, 2)) (hn : i < nL := by decide) (hf : (i, Value.ref x) :: lv.filter (fun q => !(q.1 == i) && !(q.1 + 1 == i && q.2.category == 2)) = lv' := by rfl) (kk : gx_G K D nL k n (pc + 2) lv' st ws Z) : gx_G K D nL k n pc lv (.ref x :: st) ws Z := by
  obtain ⟨p, l, e, R, s, m, args, below, meth, c, A⟩ := K
  obtain ⟨hx, hb, hr, hlk, hml, hown, hnm, hts, hN, hK, hA, hR1, hR2⟩ := C
  intro H locs ls hP hD hS hl
  exact lv_astore hx hb hd hl hn hf (fun ls' hl' => kk H locs ls' hP hD hS hl')
theorem gx_iinc (C : gx_C K D dA y cc nL ret d) (q : Nat) {i : Nat} {j : Int} {x : Int32} (v : Int32) (lv' : List (Nat × Value)) (hd : decode cc pc = .ok (.iinc i j, 3)) (hv : x + Int32.ofInt j = v) (hq : lv[q]? = some (i, .int x) := by rfl) (hn : i < nL := by decide) (hf : (i, Value.int v) :: lv.filter (fun q => !(q.1 == i) && !(q.1 + 1 == i && q.2.category == 2)) = lv' := by rfl) (kk : gx_G K D nL k n (pc + 3) lv' st ws Z) : gx_G K D nL k n pc lv st ws Z := by
  obtain ⟨p, l, e, R, s, m, args, below, meth, c, A⟩ := K
  obtain ⟨hx, hb, hr, hlk, hml, hown, hnm, hts, hN, hK, hA, hR1, hR2⟩ := C
  intro H locs ls hP hD hS hl
  exact lv_iinc hx hb hd hl hq hv hn hf (fun ls' hl' => kk H locs ls' hP hD hS hl')
theorem gx_iadd (C : gx_C K D dA y cc nL ret d) {u v : Int32} (hd : decode cc pc = .ok (.iadd, 1))  (kk : gx_G K D nL k n (pc + 1) lv (.int (u + v) :: st) ws Z) : gx_G K D nL k n pc lv (.int v :: .int u :: st) ws Z := by
  obtain ⟨p, l, e, R, s, m, args, below, meth, c, A⟩ := K
  obtain ⟨hx, hb, hr, hlk, hml, hown, hnm, hts, hN, hK, hA, hR1, hR2⟩ := C
  intro H locs ls hP hD hS hl
  exact lv_iadd hx hb hd  (kk H locs ls hP hD hS hl)
theorem gx_isub (C : gx_C K D dA y cc nL ret d) {u v : Int32} (hd : decode cc pc = .ok (.isub, 1))  (kk : gx_G K D nL k n (pc + 1) lv (.int (u - v) :: st) ws Z) : gx_G K D nL k n pc lv (.int v :: .int u :: st) ws Z := by
  obtain ⟨p, l, e, R, s, m, args, below, meth, c, A⟩ := K
  obtain ⟨hx, hb, hr, hlk, hml, hown, hnm, hts, hN, hK, hA, hR1, hR2⟩ := C
  intro H locs ls hP hD hS hl
  exact lv_isub hx hb hd  (kk H locs ls hP hD hS hl)
theorem gx_imul (C : gx_C K D dA y cc nL ret d) {u v : Int32} (hd : decode cc pc = .ok (.imul, 1))  (kk : gx_G K D nL k n (pc + 1) lv (.int (u * v) :: st) ws Z) : gx_G K D nL k n pc lv (.int v :: .int u :: st) ws Z := by
  obtain ⟨p, l, e, R, s, m, args, below, meth, c, A⟩ := K
  obtain ⟨hx, hb, hr, hlk, hml, hown, hnm, hts, hN, hK, hA, hR1, hR2⟩ := C
  intro H locs ls hP hD hS hl
  exact lv_imul hx hb hd  (kk H locs ls hP hD hS hl)
theorem gx_iand (C : gx_C K D dA y cc nL ret d) {u v : Int32} (hd : decode cc pc = .ok (.iand, 1))  (kk : gx_G K D nL k n (pc + 1) lv (.int (u &&& v) :: st) ws Z) : gx_G K D nL k n pc lv (.int v :: .int u :: st) ws Z := by
  obtain ⟨p, l, e, R, s, m, args, below, meth, c, A⟩ := K
  obtain ⟨hx, hb, hr, hlk, hml, hown, hnm, hts, hN, hK, hA, hR1, hR2⟩ := C
  intro H locs ls hP hD hS hl
  exact lv_iand hx hb hd  (kk H locs ls hP hD hS hl)
theorem gx_ior (C : gx_C K D dA y cc nL ret d) {u v : Int32} (hd : decode cc pc = .ok (.ior, 1))  (kk : gx_G K D nL k n (pc + 1) lv (.int (u ||| v) :: st) ws Z) : gx_G K D nL k n pc lv (.int v :: .int u :: st) ws Z := by
  obtain ⟨p, l, e, R, s, m, args, below, meth, c, A⟩ := K
  obtain ⟨hx, hb, hr, hlk, hml, hown, hnm, hts, hN, hK, hA, hR1, hR2⟩ := C
  intro H locs ls hP hD hS hl
  exact lv_ior hx hb hd  (kk H locs ls hP hD hS hl)
theorem gx_ixor (C : gx_C K D dA y cc nL ret d) {u v : Int32} (hd : decode cc pc = .ok (.ixor, 1))  (kk : gx_G K D nL k n (pc + 1) lv (.int (u ^^^ v) :: st) ws Z) : gx_G K D nL k n pc lv (.int v :: .int u :: st) ws Z := by
  obtain ⟨p, l, e, R, s, m, args, below, meth, c, A⟩ := K
  obtain ⟨hx, hb, hr, hlk, hml, hown, hnm, hts, hN, hK, hA, hR1, hR2⟩ := C
  intro H locs ls hP hD hS hl
  exact lv_ixor hx hb hd  (kk H locs ls hP hD hS hl)
theorem gx_idiv (C : gx_C K D dA y cc nL ret d) {u v : Int32} (hd : decode cc pc = .ok (.idiv, 1)) (hne : ¬ v = 0 := by decide) (kk : gx_G K D nL k n (pc + 1) lv (.int (u / v) :: st) ws Z) : gx_G K D nL k n pc lv (.int v :: .int u :: st) ws Z := by
  obtain ⟨p, l, e, R, s, m, args, below, meth, c, A⟩ := K
  obtain ⟨hx, hb, hr, hlk, hml, hown, hnm, hts, hN, hK, hA, hR1, hR2⟩ := C
  intro H locs ls hP hD hS hl
  exact lv_idiv hx hb hd hne (kk H locs ls hP hD hS hl)
theorem gx_irem (C : gx_C K D dA y cc nL ret d) {u v : Int32} (hd : decode cc pc = .ok (.irem, 1)) (hne : ¬ v = 0 := by decide) (kk : gx_G K D nL k n (pc + 1) lv (.int (u - u / v * v) :: st) ws Z) : gx_G K D nL k n pc lv (.int v :: .int u :: st) ws Z := by
  obtain ⟨p, l, e, R, s, m, args, below, meth, c, A⟩ := K
  obtain ⟨hx, hb, hr, hlk, hml, hown, hnm, hts, hN, hK, hA, hR1, hR2⟩ := C
  intro H locs ls hP hD hS hl
  exact lv_irem hx hb hd hne (kk H locs ls hP hD hS hl)
theorem gx_ladd (C : gx_C K D dA y cc nL ret d) {u v : Int64} (hd : decode cc pc = .ok (.ladd, 1))  (kk : gx_G K D nL k n (pc + 1) lv (.long (u + v) :: st) ws Z) : gx_G K D nL k n pc lv (.long v :: .long u :: st) ws Z := by
  obtain ⟨p, l, e, R, s, m, args, below, meth, c, A⟩ := K
  obtain ⟨hx, hb, hr, hlk, hml, hown, hnm, hts, hN, hK, hA, hR1, hR2⟩ := C
  intro H locs ls hP hD hS hl
  exact lv_ladd hx hb hd  (kk H locs ls hP hD hS hl)
theorem gx_lsub (C : gx_C K D dA y cc nL ret d) {u v : Int64} (hd : decode cc pc = .ok (.lsub, 1))  (kk : gx_G K D nL k n (pc + 1) lv (.long (u - v) :: st) ws Z) : gx_G K D nL k n pc lv (.long v :: .long u :: st) ws Z := by
  obtain ⟨p, l, e, R, s, m, args, below, meth, c, A⟩ := K
  obtain ⟨hx, hb, hr, hlk, hml, hown, hnm, hts, hN, hK, hA, hR1, hR2⟩ := C
  intro H locs ls hP hD hS hl
  exact lv_lsub hx hb hd  (kk H locs ls hP hD hS hl)
theorem gx_lmul (C : gx_C K D dA y cc nL ret d) {u v : Int64} (hd : decode cc pc = .ok (.lmul, 1))  (kk : gx_G K D nL k n (pc + 1) lv (.long (u * v) :: st) ws Z) : gx_G K D nL k n pc lv (.long v :: .long u :: st) ws Z := by
  obtain ⟨p, l, e, R, s, m, args, below, meth, c, A⟩ := K
  obtain ⟨hx, hb, hr, hlk, hml, hown, hnm, hts, hN, hK, hA, hR1, hR2⟩ := C
  intro H locs ls hP hD hS hl
  exact lv_lmul hx hb hd  (kk H locs ls hP hD hS hl)
theorem gx_land (C : gx_C K D dA y cc nL ret d) {u v : Int64} (hd : decode cc pc = .ok (.land, 1))  (kk : gx_G K D nL k n (pc + 1) lv (.long (u &&& v) :: st) ws Z) : gx_G K D nL k n pc lv (.long v :: .long u :: st) ws Z := by
  obtain ⟨p, l, e, R, s, m, args, below, meth, c, A⟩ := K
  obtain ⟨hx, hb, hr, hlk, hml, hown, hnm, hts, hN, hK, hA, hR1, hR2⟩ := C
  intro H locs ls hP hD hS hl
  exact lv_land hx hb hd  (kk H locs ls hP hD hS hl)
theorem gx_lor (C : gx_C K D dA y cc nL ret d) {u v : Int64} (hd : decode cc pc = .ok (.lor, 1))  (kk : gx_G K D nL k n (pc + 1) lv (.long (u ||| v) :: st) ws Z) : gx_G K D nL k n pc lv (.long v :: .long u :: st) ws Z := by
  obtain ⟨p, l, e, R, s, m, args, below, meth, c, A⟩ := K
  obtain ⟨hx, hb, hr, hlk, hml, hown, hnm, hts, hN, hK, hA, hR1, hR2⟩ := C
  intro H locs ls hP hD hS hl
  exact lv_lor hx hb hd  (kk H locs ls hP hD hS hl)
theorem gx_lxor (C : gx_C K D dA y cc nL ret d) {u v : Int64} (hd : decode cc pc = .ok (.lxor, 1))  (kk : gx_G K D nL k n (pc + 1) lv (.long (u ^^^ v) :: st) ws Z) : gx_G K D nL k n pc lv (.long v :: .long u :: st) ws Z := by
  obtain ⟨p, l, e, R, s, m, args, below, meth, c, A⟩ := K
  obtain ⟨hx, hb, hr, hlk, hml, hown, hnm, hts, hN, hK, hA, hR1, hR2⟩ := C
  intro H locs ls hP hD hS hl
  exact lv_lxor hx hb hd  (kk H locs ls hP hD hS hl)
theorem gx_ldiv (C : gx_C K D dA y cc nL ret d) {u v : Int64} (hd : decode cc pc = .ok (.ldiv, 1)) (hne : ¬ v = 0 := by decide) (kk : gx_G K D nL k n (pc + 1) lv (.long (u / v) :: st) ws Z) : gx_G K D nL k n pc lv (.long v :: .long u :: st) ws Z := by
  obtain ⟨p, l, e, R, s, m, args, below, meth, c, A⟩ := K
  obtain ⟨hx, hb, hr, hlk, hml, hown, hnm, hts, hN, hK, hA, hR1, hR2⟩ := C
  intro H locs ls hP hD hS hl
  exact lv_ldiv hx hb hd hne (kk H locs ls hP hD hS hl)
theorem gx_lrem (C : gx_C K D dA y cc nL ret d) {u v : Int64} (hd : decode cc pc = .ok (.lrem, 1)) (hne : ¬ v = 0 := by decide) (kk : gx_G K D nL k n (pc + 1) lv (.long (u - u / v * v) :: st) ws Z) : gx_G K D nL k n pc lv (.long v :: .long u :: st) ws Z := by
  obtain ⟨p, l, e, R, s, m, args, below, meth, c, A⟩ := K
  obtain ⟨hx, hb, hr, hlk, hml, hown, hnm, hts, hN, hK, hA, hR1, hR2⟩ := C
  intro H locs ls hP hD hS hl
  exact lv_lrem hx hb hd hne (kk H locs ls hP hD hS hl)
theorem gx_ishl (C : gx_C K D dA y cc nL ret d) {u v : Int32} (hd : decode cc pc = .ok (.ishl, 1))  (kk : gx_G K D nL k n (pc + 1) lv (.int (u <<< (v &&& 31)) :: st) ws Z) : gx_G K D nL k n pc lv (.int v :: .int u :: st) ws Z := by
  obtain ⟨p, l, e, R, s, m, args, below, meth, c, A⟩ := K
  obtain ⟨hx, hb, hr, hlk, hml, hown, hnm, hts, hN, hK, hA, hR1, hR2⟩ := C
  intro H locs ls hP hD hS hl
  exact lv_ishl hx hb hd  (kk H locs ls hP hD hS hl)
theorem gx_ishr (C : gx_C K D dA y cc nL ret d) {u v : Int32} (hd : decode cc pc = .ok (.ishr, 1))  (kk : gx_G K D nL k n (pc + 1) lv (.int (u >>> (v &&& 31)) :: st) ws Z) : gx_G K D nL k n pc lv (.int v :: .int u :: st) ws Z := by
  obtain ⟨p, l, e, R, s, m, args, below, meth, c, A⟩ := K
  obtain ⟨hx, hb, hr, hlk, hml, hown, hnm, hts, hN, hK, hA, hR1, hR2⟩ := C
  intro H locs ls hP hD hS hl
  exact lv_ishr hx hb hd  (kk H locs ls hP hD hS hl)
theorem gx_iushr (C : gx_C K D dA y cc nL ret d) {u v w : Int32} (hd : decode cc pc = .ok (.iushr, 1)) (hv : (u.toUInt32 >>> (v.toUInt32 &&& Int32.toUInt32 31)).toInt32 = w := by rfl) (kk : gx_G K D nL k n (pc + 1) lv (.int w :: st) ws Z) : gx_G K D nL k n pc lv (.int v :: .int u :: st) ws Z := by
  obtain ⟨p, l, e, R, s, m, args, below, meth, c, A⟩ := K
  obtain ⟨hx, hb, hr, hlk, hml, hown, hnm, hts, hN, hK, hA, hR1, hR2⟩ := C
  intro H locs ls hP hD hS hl
  exact lv_iushr hx hb hd hv (kk H locs ls hP hD hS hl)
theorem gx_lshl (C : gx_C K D dA y cc nL ret d) {u w : Int64} {v : Int32} (hd : decode cc pc = .ok (.lshl, 1)) (hv : u <<< (v.toInt64 &&& 63) = w := by rfl) (kk : gx_G K D nL k n (pc + 1) lv (.long w :: st) ws Z) : gx_G K D nL k n pc lv (.int v :: .long u :: st) ws Z := by
  obtain ⟨p, l, e, R, s, m, args, below, meth, c, A⟩ := K
  obtain ⟨hx, hb, hr, hlk, hml, hown, hnm, hts, hN, hK, hA, hR1, hR2⟩ := C
  intro H locs ls hP hD hS hl
  exact lv_lshl hx hb hd hv (kk H locs ls hP hD hS hl)
theorem gx_lshr (C : gx_C K D dA y cc nL ret d) {u w : Int64} {v : Int32} (hd : decode cc pc = .ok (.lshr, 1)) (hv : u >>> (v.toInt64 &&& 63) = w := by rfl) (kk : gx_G K D nL k n (pc + 1) lv (.long w :: st) ws Z) : gx_G K D nL k n pc lv (.int v :: .long u :: st) ws Z := by
  obtain ⟨p, l, e, R, s, m, args, below, meth, c, A⟩ := K
  obtain ⟨hx, hb, hr, hlk, hml, hown, hnm, hts, hN, hK, hA, hR1, hR2⟩ := C
  intro H locs ls hP hD hS hl
  exact lv_lshr hx hb hd hv (kk H locs ls hP hD hS hl)
theorem gx_ineg (C : gx_C K D dA y cc nL ret d) {u : Int32} (hd : decode cc pc = .ok (.ineg, 1))  (kk : gx_G K D nL k n (pc + 1) lv (.int (-u) :: st) ws Z) : gx_G K D nL k n pc lv (.int u :: st) ws Z := by
  obtain ⟨p, l, e, R, s, m, args, below, meth, c, A⟩ := K
  obtain ⟨hx, hb, hr, hlk, hml, hown, hnm, hts, hN, hK, hA, hR1, hR2⟩ := C
  intro H locs ls hP hD hS hl
  exact lv_ineg hx hb hd (kk H locs ls hP hD hS hl)
theorem gx_i2l (C : gx_C K D dA y cc nL ret d) {u : Int32} {w : Int64} (hd : decode cc pc = .ok (.i2l, 1)) (hv : u.toInt64 = w := by rfl) (kk : gx_G K D nL k n (pc + 1) lv (.long w :: st) ws Z) : gx_G K D nL k n pc lv (.int u :: st) ws Z := by
  obtain ⟨p, l, e, R, s, m, args, below, meth, c, A⟩ := K
  obtain ⟨hx, hb, hr, hlk, hml, hown, hnm, hts, hN, hK, hA, hR1, hR2⟩ := C
  intro H locs ls hP hD hS hl
  exact lv_i2l hx hb hd hv (kk H locs ls hP hD hS hl)
theorem gx_l2i (C : gx_C K D dA y cc nL ret d) {u : Int64} {w : Int32} (hd : decode cc pc = .ok (.l2i, 1)) (hv : u.toInt32 = w := by rfl) (kk : gx_G K D nL k n (pc + 1) lv (.int w :: st) ws Z) : gx_G K D nL k n pc lv (.long u :: st) ws Z := by
  obtain ⟨p, l, e, R, s, m, args, below, meth, c, A⟩ := K
  obtain ⟨hx, hb, hr, hlk, hml, hown, hnm, hts, hN, hK, hA, hR1, hR2⟩ := C
  intro H locs ls hP hD hS hl
  exact lv_l2i hx hb hd hv (kk H locs ls hP hD hS hl)
theorem gx_i2c (C : gx_C K D dA y cc nL ret d) {u w : Int32} (hd : decode cc pc = .ok (.i2c, 1)) (hv : (u.toUInt32 % 65536).toInt32 = w := by rfl) (kk : gx_G K D nL k n (pc + 1) lv (.int w :: st) ws Z) : gx_G K D nL k n pc lv (.int u :: st) ws Z := by
  obtain ⟨p, l, e, R, s, m, args, below, meth, c, A⟩ := K
  obtain ⟨hx, hb, hr, hlk, hml, hown, hnm, hts, hN, hK, hA, hR1, hR2⟩ := C
  intro H locs ls hP hD hS hl
  exact lv_i2c hx hb hd hv (kk H locs ls hP hD hS hl)
theorem gx_lcmp (C : gx_C K D dA y cc nL ret d) {u v : Int64} (hd : decode cc pc = .ok (.lcmp, 1))  (kk : gx_G K D nL k n (pc + 1) lv (.int (lg_cmp u v) :: st) ws Z) : gx_G K D nL k n pc lv (.long v :: .long u :: st) ws Z := by
  obtain ⟨p, l, e, R, s, m, args, below, meth, c, A⟩ := K
  obtain ⟨hx, hb, hr, hlk, hml, hown, hnm, hts, hN, hK, hA, hR1, hR2⟩ := C
  intro H locs ls hP hD hS hl
  exact W.lcmp hx hb hd (kk H locs ls hP hD hS hl)
theorem gx_dup (C : gx_C K D dA y cc nL ret d) {a : Value} (hd : decode cc pc = .ok (.dup, 1)) (ha : a.category = 1 := by rfl) (kk : gx_G K D nL k n (pc + 1) lv (a :: a :: st) ws Z) : gx_G K D nL k n pc lv (a :: st) ws Z := by
  obtain ⟨p, l, e, R, s, m, args, below, meth, c, A⟩ := K
  obtain ⟨hx, hb, hr, hlk, hml, hown, hnm, hts, hN, hK, hA, hR1, hR2⟩ := C
  intro H locs ls hP hD hS hl
  exact lv_dup hx hb hd ha (kk H locs ls hP hD hS hl)
theorem gx_dup_x1 (C : gx_C K D dA y cc nL ret d) {a b : Value} (hd : decode cc pc = .ok (.dup_x1, 1)) (ha : a.category = 1 := by rfl) (hb1 : b.category = 1 := by rfl) (kk : gx_G K D nL k n (pc + 1) lv (a :: b :: a :: st) ws Z) : gx_G K D nL k n pc lv (a :: b :: st) ws Z := by
  obtain ⟨p, l, e, R, s, m, args, below, meth, c, A⟩ := K
  obtain ⟨hx, hb, hr, hlk, hml, hown, hnm, hts, hN, hK, hA, hR1, hR2⟩ := C
  intro H locs ls hP hD hS hl
  exact lv_dup_x1 hx hb hd ha hb1 (kk H locs ls hP hD hS hl)
theorem gx_dup2_11 (C : gx_C K D dA y cc nL ret d) {a b : Value} (hd : decode cc pc = .ok (.dup2, 1)) (ha : a.category = 1 := by rfl) (hb1 : b.category = 1 := by rfl) (kk : gx_G K D nL k n (pc + 1) lv (a :: b :: a :: b :: st) ws Z) : gx_G K D nL k n pc lv (a :: b :: st) ws Z := by
  obtain ⟨p, l, e, R, s, m, args, below, meth, c, A⟩ := K
  obtain ⟨hx, hb, hr, hlk, hml, hown, hnm, hts, hN, hK, hA, hR1, hR2⟩ := C
  intro H locs ls hP hD hS hl
  exact lv_dup2_11 hx hb hd ha hb1 (kk H locs ls hP hD hS hl)
theorem gx_dup2_2 (C : gx_C K D dA y cc nL ret d) {a : Value} (hd : decode cc pc = .ok (.dup2, 1)) (ha : a.category = 2 := by rfl) (kk : gx_G K D nL k n (pc + 1) lv (a :: a :: st) ws Z) : gx_G K D nL k n pc lv (a :: st) ws Z := by
  obtain ⟨p, l, e, R, s, m, args, below, meth, c, A⟩ := K
  obtain ⟨hx, hb, hr, hlk, hml, hown, hnm, hts, hN, hK, hA, hR1, hR2⟩ := C
  intro H locs ls hP hD hS hl
  exact lv_dup2_2 hx hb hd ha (kk H locs ls hP hD hS hl)
theorem gx_dup2_x1_2 (C : gx_C K D dA y cc nL ret d) {a b : Value} (hd : decode cc pc = .ok (.dup2_x1, 1)) (ha : a.category = 2 := by rfl) (hb1 : b.category = 1 := by rfl) (kk : gx_G K D nL k n (pc + 1) lv (a :: b :: a :: st) ws Z) : gx_G K D nL k n pc lv (a :: b :: st) ws Z := by
  obtain ⟨p, l, e, R, s, m, args, below, meth, c, A⟩ := K
  obtain ⟨hx, hb, hr, hlk, hml, hown, hnm, hts, hN, hK, hA, hR1, hR2⟩ := C
  intro H locs ls hP hD hS hl
  exact lv_dup2_x1_2 hx hb hd ha hb1 (kk H locs ls hP hD hS hl)
theorem gx_pop (C : gx_C K D dA y cc nL ret d) {a : Value} (hd : decode cc pc = .ok (.pop, 1)) (ha : a.category = 1 := by rfl) (kk : gx_G K D nL k n (pc + 1) lv st ws Z) : gx_G K D nL k n pc lv (a :: st) ws Z := by
  obtain ⟨p, l, e, R, s, m, args, below, meth, c, A⟩ := K
  obtain ⟨hx, hb, hr, hlk, hml, hown, hnm, hts, hN, hK, hA, hR1, hR2⟩ := C
  intro H locs ls hP hD hS hl
  exact lv_pop hx hb hd ha (kk H locs ls hP hD hS hl)
theorem gx_pop2_2 (C : gx_C K D dA y cc nL ret d) {a : Value} (hd : decode cc pc = .ok (.pop2, 1)) (ha : a.category = 2 := by rfl) (kk : gx_G K D nL k n (pc + 1) lv st ws Z) : gx_G K D nL k n pc lv (a :: st) ws Z := by
  obtain ⟨p, l, e, R, s, m, args, below, meth, c, A⟩ := K
  obtain ⟨hx, hb, hr, hlk, hml, hown, hnm, hts, hN, hK, hA, hR1, hR2⟩ := C
  intro H locs ls hP hD hS hl
  exact lv_pop2_2 hx hb hd ha (kk H locs ls hP hD hS hl)
theorem gx_icmp_eq (C : gx_C K D dA y cc nL ret d) {u v : Int32} {off : Int} (tgt : Nat) (hd : decode cc pc = .ok (.if_icmp .eq off, 3)) (kt : u = v → gx_G K D nL k n tgt lv st ws Z) (kf : ¬ u = v → gx_G K D nL k n (pc + 3) lv st ws Z) (ht : (pc : Int) + off = (tgt : Int) := by rfl) : gx_G K D nL k n pc lv (.int v :: .int u :: st) ws Z := by
  obtain ⟨p, l, e, R, s, m, args, below, meth, c, A⟩ := K
  obtain ⟨hx, hb, hr, hlk, hml, hown, hnm, hts, hN, hK, hA, hR1, hR2⟩ := C
  intro H locs ls hP hD hS hl
  exact lv_icmp_eq hx hb hd ht (fun h => kt h H locs ls hP hD hS hl) (fun h => kf h H locs ls hP hD hS hl)
theorem gx_if_eq (C : gx_C K D dA y cc nL ret d) {u : Int32} {off : Int} (tgt : Nat) (hd : decode cc pc = .ok (.ifCond .eq off, 3)) (kt : u = 0 → gx_G K D nL k n tgt lv st ws Z) (kf : ¬ u = 0 → gx_G K D nL k n (pc + 3) lv st ws Z) (ht : (pc : Int) + off = (tgt : Int) := by rfl) : gx_G K D nL k n pc lv (.int u :: st) ws Z := by
  obtain ⟨p, l, e, R, s, m, args, below, meth, c, A⟩ := K
  obtain ⟨hx, hb, hr, hlk, hml, hown, hnm, hts, hN, hK, hA, hR1, hR2⟩ := C
  intro H locs ls hP hD hS hl
  exact lv_if_eq hx hb hd ht (fun h => kt h H locs ls hP hD hS hl) (fun h => kf h H locs ls hP hD hS hl)
theorem gx_icmp_ne (C : gx_C K D dA y cc nL ret d) {u v : Int32} {off : Int} (tgt : Nat) (hd : decode cc pc = .ok (.if_icmp .ne off, 3)) (kt : ¬ u = v → gx_G K D nL k n tgt lv st ws Z) (kf : u = v → gx_G K D nL k n (pc + 3) lv st ws Z) (ht : (pc : Int) + off = (tgt : Int) := by rfl) : gx_G K D nL k n pc lv (.int v :: .int u :: st) ws Z := by
  obtain ⟨p, l, e, R, s, m, args, below, meth, c, A⟩ := K
  obtain ⟨hx, hb, hr, hlk, hml, hown, hnm, hts, hN, hK, hA, hR1, hR2⟩ := C
  intro H locs ls hP hD hS hl
  exact lv_icmp_ne hx hb hd ht (fun h => kt h H locs ls hP hD hS hl) (fun h => kf h H locs ls hP hD hS hl)
theorem gx_if_ne (C : gx_C K D dA y cc nL ret d) {u : Int32} {off : Int} (tgt : Nat) (hd : decode cc pc = .ok (.ifCond .ne off, 3)) (kt : ¬ u = 0 → gx_G K D nL k n tgt lv st ws Z) (kf : u = 0 → gx_G K D nL k n (pc + 3) lv st ws Z) (ht : (pc : Int) + off = (tgt : Int) := by rfl) : gx_G K D nL k n pc lv (.int u :: st) ws Z := by
  obtain ⟨p, l, e, R, s, m, args, below, meth, c, A⟩ := K
  obtain ⟨hx, hb, hr, hlk, hml, hown, hnm, hts, hN, hK, hA, hR1, hR2⟩ := C
  intro H locs ls hP hD hS hl
  exact lv_if_ne hx hb hd ht (fun h => kt h H locs ls hP hD hS hl) (fun h => kf h H locs ls hP hD hS hl)
theorem gx_icmp_lt (C : gx_C K D dA y cc nL ret d) {u v : Int32} {off : Int} (tgt : Nat) (hd : decode cc pc = .ok (.if_icmp .lt off, 3)) (kt : u < v → gx_G K D nL k n tgt lv st ws Z) (kf : ¬ u < v → gx_G K D nL k n (pc + 3) lv st ws Z) (ht : (pc : Int) + off = (tgt : Int) := by rfl) : gx_G K D nL k n pc lv (.int v :: .int u :: st) ws Z := by
  obtain ⟨p, l, e, R, s, m, args, below, meth, c, A⟩ := K
  obtain ⟨hx, hb, hr, hlk, hml, hown, hnm, hts, hN, hK, hA, hR1, hR2⟩ := C
  intro H locs ls hP hD hS hl
  exact lv_icmp_lt hx hb hd ht (fun h => kt h H locs ls hP hD hS hl) (fun h => kf h H locs ls hP hD hS hl)
theorem gx_if_lt (C : gx_C K D dA y cc nL ret d) {u : Int32} {off : Int} (tgt : Nat) (hd : decode cc pc = .ok (.ifCond .lt off, 3)) (kt : u < 0 → gx_G K D nL k n tgt lv st ws Z) (kf : ¬ u < 0 → gx_G K D nL k n (pc + 3) lv st ws Z) (ht : (pc : Int) + off = (tgt : Int) := by rfl) : gx_G K D nL k n pc lv (.int u :: st) ws Z := by
  obtain ⟨p, l, e, R, s, m, args, below, meth, c, A⟩ := K
  obtain ⟨hx, hb, hr, hlk, hml, hown, hnm, hts, hN, hK, hA, hR1, hR2⟩ := C
  intro H locs ls hP hD hS hl
  exact lv_if_lt hx hb hd ht (fun h => kt h H locs ls hP hD hS hl) (fun h => kf h H locs ls hP hD hS hl)
theorem gx_icmp_ge (C : gx_C K D dA y cc nL ret d) {u v : Int32} {off : Int} (tgt : Nat) (hd : decode cc pc = .ok (.if_icmp .ge off, 3)) (kt : v ≤ u → gx_G K D nL k n tgt lv st ws Z) (kf : ¬ v ≤ u → gx_G K D nL k n (pc + 3) lv st ws Z) (ht : (pc : Int) + off = (tgt : Int) := by rfl) : gx_G K D nL k n pc lv (.int v :: .int u :: st) ws Z := by
  obtain ⟨p, l, e, R, s, m, args, below, meth, c, A⟩ := K
  obtain ⟨hx, hb, hr, hlk, hml, hown, hnm, hts, hN, hK, hA, hR1, hR2⟩ := C
  intro H locs ls hP hD hS hl
  exact lv_icmp_ge hx hb hd ht (fun h => kt h H locs ls hP hD hS hl) (fun h => kf h H locs ls hP hD hS hl)
theorem gx_if_ge (C : gx_C K D dA y cc nL ret d) {u : Int32} {off : Int} (tgt : Nat) (hd : decode cc pc = .ok (.ifCond .ge off, 3)) (kt : 0 ≤ u → gx_G K D nL k n tgt lv st ws Z) (kf : ¬ 0 ≤ u → gx_G K D nL k n (pc + 3) lv st ws Z) (ht : (pc : Int) + off = (tgt : Int) := by rfl) : gx_G K D nL k n pc lv (.int u :: st) ws Z := by
  obtain ⟨p, l, e, R, s, m, args, below, meth, c, A⟩ := K
  obtain ⟨hx, hb, hr, hlk, hml, hown, hnm, hts, hN, hK, hA, hR1, hR2⟩ := C
  intro H locs ls hP hD hS hl
  exact lv_if_ge hx hb hd ht (fun h => kt h H locs ls hP hD hS hl) (fun h => kf h H locs ls hP hD hS hl)
theorem gx_icmp_gt (C : gx_C K D dA y cc nL ret d) {u v : Int32} {off : Int} (tgt : Nat) (hd : decode cc pc = .ok (.if_icmp .gt off, 3)) (kt : v < u → gx_G K D nL k n tgt lv st ws Z) (kf : ¬ v < u → gx_G K D nL k n (pc + 3) lv st ws Z) (ht : (pc : Int) + off = (tgt : Int) := by rfl) : gx_G K D nL k n pc lv (.int v :: .int u :: st) ws Z := by
  obtain ⟨p, l, e, R, s, m, args, below, meth, c, A⟩ := K
  obtain ⟨hx, hb, hr, hlk, hml, hown, hnm, hts, hN, hK, hA, hR1, hR2⟩ := C
  intro H locs ls hP hD hS hl
  exact lv_icmp_gt hx hb hd ht (fun h => kt h H locs ls hP hD hS hl) (fun h => kf h H locs ls hP hD hS hl)
theorem gx_if_gt (C : gx_C K D dA y cc nL ret d) {u : Int32} {off : Int} (tgt : Nat) (hd : decode cc pc = .ok (.ifCond .gt off, 3)) (kt : 0 < u → gx_G K D nL k n tgt lv st ws Z) (kf : ¬ 0 < u → gx_G K D nL k n (pc + 3) lv st ws Z) (ht : (pc : Int) + off = (tgt : Int) := by rfl) : gx_G K D nL k n pc lv (.int u :: st) ws Z := by
  obtain ⟨p, l, e, R, s, m, args, below, meth, c, A⟩ := K
  obtain ⟨hx, hb, hr, hlk, hml, hown, hnm, hts, hN, hK, hA, hR1, hR2⟩ := C
  intro H locs ls hP hD hS hl
  exact lv_if_gt hx hb hd ht (fun h => kt h H locs ls hP hD hS hl) (fun h => kf h H locs ls hP hD hS hl)
theorem gx_icmp_le (C : gx_C K D dA y cc nL ret d) {u v : Int32} {off : Int} (tgt : Nat) (hd : decode cc pc = .ok (.if_icmp .le off, 3)) (kt : u ≤ v → gx_G K D nL k n tgt lv st ws Z) (kf : ¬ u ≤ v → gx_G K D nL k n (pc + 3) lv st ws Z) (ht : (pc : Int) + off = (tgt : Int) := by rfl) : gx_G K D nL k n pc lv (.int v :: .int u :: st) ws Z := by
  obtain ⟨p, l, e, R, s, m, args, below, meth, c, A⟩ := K
  obtain ⟨hx, hb, hr, hlk, hml, hown, hnm, hts, hN, hK, hA, hR1, hR2⟩ := C
  intro H locs ls hP hD hS hl
  exact lv_icmp_le hx hb hd ht (fun h => kt h H locs ls hP hD hS hl) (fun h => kf h H locs ls hP hD hS hl)
theorem gx_if_le (C : gx_C K D dA y cc nL ret d) {u : Int32} {off : Int} (tgt : Nat) (hd : decode cc pc = .ok (.ifCond .le off, 3)) (kt : u ≤ 0 → gx_G K D nL k n tgt lv st ws Z) (kf : ¬ u ≤ 0 → gx_G K D nL k n (pc + 3) lv st ws Z) (ht : (pc : Int) + off = (tgt : Int) := by rfl) : gx_G K D nL k n pc lv (.int u :: st) ws Z := by
  obtain ⟨p, l, e, R, s, m, args, below, meth, c, A⟩ := K
  obtain ⟨hx, hb, hr, hlk, hml, hown, hnm, hts, hN, hK, hA, hR1, hR2⟩ := C
  intro H locs ls hP hD hS hl
  exact lv_if_le hx hb hd ht (fun h => kt h H locs ls hP hD hS hl) (fun h => kf h H locs ls hP hD hS hl)
theorem gx_goto (C : gx_C K D dA y cc nL ret d) {off : Int} (tgt : Nat) (hd : decode cc pc = .ok (.goto off, 3)) (kk : gx_G K D nL k n tgt lv st ws Z) (ht : (pc : Int) + off = (tgt : Int) := by rfl) : gx_G K D nL k n pc lv st ws Z := by
  obtain ⟨p, l, e, R, s, m, args, below, meth, c, A⟩ := K
  obtain ⟨hx, hb, hr, hlk, hml, hown, hnm, hts, hN, hK, hA, hR1, hR2⟩ := C
  intro H locs ls hP hD hS hl
  exact lv_goto hx hb hd ht (kk H locs ls hP hD hS hl)
theorem gx_tableIn (C : gx_C K D dA y cc nL ret d) {dflt lo hi : Int} {offs : Array Int} {len : Nat} {x : Int32} {off : Int} (tgt : Nat) (hd : decode cc pc = .ok (.tableswitch dflt lo hi offs, len)) (h1 : ¬ x.toInt < lo) (h2 : ¬ hi < x.toInt) (ho : offs[(x.toInt - lo).toNat]? = some off) (ht : (pc : Int) + off = (tgt : Int)) (kk : gx_G K D nL k n tgt lv st ws Z) : gx_G K D nL k n pc lv (.int x :: st) ws Z := by
  obtain ⟨p, l, e, R, s, m, args, below, meth, c, A⟩ := K
  obtain ⟨hx, hb, hr, hlk, hml, hown, hnm, hts, hN, hK, hA, hR1, hR2⟩ := C
  intro H locs ls hP hD hS hl
  exact lv_tableIn hx hb hd h1 h2 ho ht (kk H locs ls hP hD hS hl)
theorem gx_tableOut (C : gx_C K D dA y cc nL ret d) {dflt lo hi : Int} {offs : Array Int} {len : Nat} {x : Int32} (tgt : Nat) (hd : decode cc pc = .ok (.tableswitch dflt lo hi offs, len)) (h : x.toInt < lo ∨ hi < x.toInt) (ht : (pc : Int) + dflt = (tgt : Int)) (kk : gx_G K D nL k n tgt lv st ws Z) : gx_G K D nL k n pc lv (.int x :: st) ws Z := by
  obtain ⟨p, l, e, R, s, m, args, below, meth, c, A⟩ := K
  obtain ⟨hx, hb, hr, hlk, hml, hown, hnm, hts, hN, hK, hA, hR1, hR2⟩ := C
  intro H locs ls hP hD hS hl
  exact lv_tableOut hx hb hd h ht (kk H locs ls hP hD hS hl)
theorem gx_lookup (C : gx_C K D dA y cc nL ret d) {dflt : Int} {ps : Array (Int × Int)} {len : Nat} {x : Int32} {off : Int} (tgt : Nat) (hd : decode cc pc = .ok (.lookupswitch dflt ps, len)) (hp : (ps.toList.zip (ps.toList.drop 1)).all (fun (a, next) => a.1 < next.1) = true) (ho : Op.lookupswitch.offset ps.toList dflt x.toInt = off) (ht : (pc : Int) + off = (tgt : Int)) (kk : gx_G K D nL k n tgt lv st ws Z) : gx_G K D nL k n pc lv (.int x :: st) ws Z := by
  obtain ⟨p, l, e, R, s, m, args, below, meth, c, A⟩ := K
  obtain ⟨hx, hb, hr, hlk, hml, hown, hnm, hts, hN, hK, hA, hR1, hR2⟩ := C
  intro H locs ls hP hD hS hl
  exact lv_lookup hx hb hd hp ho ht (kk H locs ls hP hD hS hl)
theorem gx_top {a b : Value} (h : a = b) (kk : gx_G K D nL k n pc lv (b :: st) ws Z) : gx_G K D nL k n pc lv (a :: st) ws Z := h ▸ kk
theorem gx_topi {a : Int32} (b : Int32) (h : a = b) (kk : gx_G K D nL k n pc lv (.int b :: st) ws Z) : gx_G K D nL k n pc lv (.int a :: st) ws Z := h ▸ kk
theorem gx_topl {a : Int64} (b : Int64) (h : a = b) (kk : gx_G K D nL k n pc lv (.long b :: st) ws Z) : gx_G K D nL k n pc lv (.long a :: st) ws Z := h ▸ kk
theorem gx_stk {st' : List Value} (h : st = st') (kk : gx_G K D nL k n pc lv st' ws Z) : gx_G K D nL k n pc lv st ws Z := h ▸ kk
theorem gx_wld {ws' : va_W} (h : ws = ws') (kk : gx_G K D nL k n pc lv st ws' Z) : gx_G K D nL k n pc lv st ws Z := h ▸ kk
theorem gx_loc {lv' : List (Nat × Value)} (is : List Nat) (kk : gx_G K D nL k n pc lv' st ws Z) (h : lv_pick lv is = lv' := by rfl) : gx_G K D nL k n pc lv st ws Z := by
  obtain ⟨p, l, e, R, s, m, args, below, meth, c, A⟩ := K
  intro H locs ls hP hD hS hl
  exact kk H locs ls hP hD hS (lv_sub hl is h)
theorem gx_widen {k' n' : Nat} (h1 : k ≤ k') (h2 : n ≤ n') (kk : gx_G K D nL k' n' pc lv st ws Z) : gx_G K D nL k n pc lv st ws Z := by
  obtain ⟨p, l, e, R, s, m, args, below, meth, c, A⟩ := K
  intro H locs ls hP hD hS hl
  exact W.widen h1 h2 (kk H locs ls hP hD hS hl)
theorem gx_iret {Q : Option Value → va_W → Prop} {v : Int32} (C : gx_C K D dA y cc nL (some .int) d) (hd : decode cc pc = .ok (.ireturn, 1)) (hq : Q (some (.int v)) ws) : gx_G K D nL k n pc lv [.int v] ws (gx_Z K D dA k n Q) := by
  obtain ⟨p, l, e, R, s, m, args, below, meth, c, A⟩ := K
  obtain ⟨hx, hb, hr, hlk, hml, hown, hnm, hts, hN, hK, hA, hR1, hR2⟩ := C
  intro H locs ls hP hD hS hl
  exact W.iret hx hb hr (fun t ht hW => ⟨⟨_, ws, rfl, hq, by rw [ht]; exact hP, va_K.moved hW.alike hK, hD⟩, hS.F ht⟩) hS.2.2 hd hlk
theorem gx_lret {Q : Option Value → va_W → Prop} {v : Int64} (C : gx_C K D dA y cc nL (some .long) d) (hd : decode cc pc = .ok (.lreturn, 1)) (hq : Q (some (.long v)) ws) : gx_G K D nL k n pc lv [.long v] ws (gx_Z K D dA k n Q) := by
  obtain ⟨p, l, e, R, s, m, args, below, meth, c, A⟩ := K
  obtain ⟨hx, hb, hr, hlk, hml, hown, hnm, hts, hN, hK, hA, hR1, hR2⟩ := C
  intro H locs ls hP hD hS hl
  exact W.lret hx hb hr (fun t ht hW => ⟨⟨_, ws, rfl, hq, by rw [ht]; exact hP, va_K.moved hW.alike hK, hD⟩, hS.F ht⟩) hS.2.2 hd hlk
theorem gx_vret {Q : Option Value → va_W → Prop}  (C : gx_C K D dA y cc nL none d) (hd : decode cc pc = .ok (.return_, 1)) (hq : Q none ws) : gx_G K D nL k n pc lv [] ws (gx_Z K D dA k n Q) := by
  obtain ⟨p, l, e, R, s, m, args, below, meth, c, A⟩ := K
  obtain ⟨hx, hb, hr, hlk, hml, hown, hnm, hts, hN, hK, hA, hR1, hR2⟩ := C
  intro H locs ls hP hD hS hl
  exact W.vret hx hb hr (fun t ht hW => ⟨⟨_, ws, rfl, hq, by rw [ht]; exact hP, va_K.moved hW.alike hK, hD⟩, hS.F ht⟩) hS.2.2 hd hlk
theorem gx_zret {Q : Option Value → va_W → Prop} {v : Int32} {ty : FieldType} (C : gx_C K D dA y cc nL (some ty) d) (hd : decode cc pc = .ok (.ireturn, 1)) (hn : narrow ty (.int v) = .int v) (hq : Q (some (.int v)) ws) : gx_G K D nL k n pc lv [.int v] ws (gx_Z K D dA k n Q) := by
  obtain ⟨p, l, e, R, s, m, args, below, meth, c, A⟩ := K
  obtain ⟨hx, hb, hr, hlk, hml, hown, hnm, hts, hN, hK, hA, hR1, hR2⟩ := C
  intro H locs ls hP hD hS hl
  exact W.zret hx hb hr hn (fun t ht hW => ⟨⟨_, ws, rfl, hq, by rw [ht]; exact hP, va_K.moved hW.alike hK, hD⟩, hS.F ht⟩) hS.2.2 hd hlk
/-- a field's site: the pool's number idx in y's own file names field j of kind ci -/
def gx_fd (own : String) (idx ci j : Nat) : Prop := ∃ (C : String) (T : u_T) (N : Nat), vw_Cl[ci]? = some (C, T, N) ∧ j < N ∧ (∀ w ∈ u_ws C T N, w ∈ gx_F) ∧ (Cond.fieldLink own idx (T j).1 (T j).2.1 (T j).2.2.1 ∈ gx_F ∨ ∃ h : String, Cond.fieldLinkNest own idx (T j).1 (T j).2.1 (T j).2.2.1 h ∈ lw_tbl)
/-- and may be written with values of type ty -/
def gx_fw (own : String) (idx ci j : Nat) (ty : FieldType) : Prop := ∃ (C : String) (T : u_T) (N : Nat) (ty0 : Nat → FieldType), vw_Cl[ci]? = some (C, T, N) ∧ j < N ∧ (∀ w ∈ u_ws C T N, w ∈ gx_F) ∧ (Cond.fieldLink own idx (T j).1 (T j).2.1 (T j).2.2.1 ∈ gx_F ∨ ∃ h : String, Cond.fieldLinkNest own idx (T j).1 (T j).2.1 (T j).2.2.1 h ∈ lw_tbl) ∧ (∀ k, k < N → parseFieldDescriptor (T k).2.2.1 = some (ty0 k)) ∧ (∀ a, a < N → ∀ b, b < N → a ≠ b → (T a).2.1 ≠ (T b).2.1) ∧ (T j).2.2.2 = false ∧ ty0 j = ty
/-- a final field in its own constructor -/
def gx_ff (own : String) (idx ci j : Nat) (ty : FieldType) : Prop := ∃ (C : String) (T : u_T) (N : Nat) (ty0 : Nat → FieldType), vw_Cl[ci]? = some (C, T, N) ∧ j < N ∧ (∀ w ∈ u_ws C T N, w ∈ gx_F) ∧ Cond.fieldLink own idx (T j).1 (T j).2.1 (T j).2.2.1 ∈ gx_F ∧ (∀ k, k < N → parseFieldDescriptor (T k).2.2.1 = some (ty0 k)) ∧ (∀ a, a < N → ∀ b, b < N → a ≠ b → (T a).2.1 ≠ (T b).2.1) ∧ (T j).2.2.2 = true ∧ (T j).1 = own ∧ ty0 j = ty
theorem gx_get0 (C : gx_C K D dA y cc nL ret d) {idx ci j a : Nat} {fs : List Value} {v : Value} (F : gx_fd y.cls idx ci j) (q0 : Nat) (he : ws[q0]? = some (a, .inr (ci, fs))) (hd : decode cc pc = .ok (.getfield idx, 3)) (hv : fs[j]? = some v) (kk : gx_G K D nL k n (pc + 3) lv (v :: st) ws Z) : gx_G K D nL k n pc lv (.ref a :: st) ws Z := by
  obtain ⟨p, l, e, R, s, m, args, below, meth, c, A⟩ := K
  obtain ⟨hx, hb, hr, hlk, hml, hown, hnm, hts, hN, hK, hA, hR1, hR2⟩ := C
  intro H locs ls hP hD hS hl
  obtain ⟨C, T, N, hc, hj, hin, hk⟩ := F
  rcases hk with hk | ⟨h, hk⟩
  · exact va_get hx hb hts hin hown hK hP q0 he hc j hj (hts _ hk) (fun _ h9 => h9) hv hd (kk H locs ls hP hD hS hl)
  · exact va_getN hx hb hts hin hown hK hP q0 he hc j hj (va_Nw.use rfl (hN _ hk rfl)) (fun _ h9 => h9) hv hd (kk H locs ls hP hD hS hl)
theorem gx_put0 (C : gx_C K D dA y cc nL ret d) {idx ci j a : Nat} {fs : List Value} {v : Value} {ty : FieldType} (F : gx_fw y.cls idx ci j ty) (q0 : Nat) (he : ws[q0]? = some (a, .inr (ci, fs))) (hd : decode cc pc = .ok (.putfield idx, 3)) (hn : narrow ty v = v) (hf : fits ty v = true) (hj2 : j < fs.length) (kk : gx_G K D nL k n (pc + 3) lv st (ws.set q0 (a, .inr (ci, fs.set j v))) Z) : gx_G K D nL k n pc lv (v :: .ref a :: st) ws Z := by
  obtain ⟨p, l, e, R, s, m, args, below, meth, c, A⟩ := K
  obtain ⟨hx, hb, hr, hlk, hml, hown, hnm, hts, hN, hK, hA, hR1, hR2⟩ := C
  intro H locs ls hP hD hS hl
  obtain ⟨C, T, N, ty0, hc, hj, hin, hk, hty, hnn, hfin, rfl⟩ := F
  rcases hk with hk | ⟨h, hk⟩
  · exact va_put hx hb hts hin ty0 hty hnn hown hK hP hD hS q0 he hc j hj (hts _ hk) (fun _ h9 => h9) hfin (hty j hj) hn hf hj2 hd (fun H1 locs1 hP hD hS => kk H1 locs1 ls hP hD hS hl)
  · exact va_putN hx hb hts hin ty0 hty hnn hown hK hP hD hS q0 he hc j hj (va_Nw.use rfl (hN _ hk rfl)) (fun _ h9 => h9) hfin (hty j hj) hn hf hj2 hd (fun H1 locs1 hP hD hS => kk H1 locs1 ls hP hD hS hl)
theorem gx_putF0 (C : gx_C K D dA y cc nL ret d) {idx ci j a : Nat} {fs : List Value} {v : Value} {ty : FieldType} (F : gx_ff y.cls idx ci j ty) (hy : y.name = "<init>") (q0 : Nat) (he : ws[q0]? = some (a, .inr (ci, fs))) (hd : decode cc pc = .ok (.putfield idx, 3)) (hn : narrow ty v = v) (hf : fits ty v = true) (hj2 : j < fs.length) (kk : gx_G K D nL k n (pc + 3) lv st (ws.set q0 (a, .inr (ci, fs.set j v))) Z) : gx_G K D nL k n pc lv (v :: .ref a :: st) ws Z := by
  obtain ⟨p, l, e, R, s, m, args, below, meth, c, A⟩ := K
  obtain ⟨hx, hb, hr, hlk, hml, hown, hnm, hts, hN, hK, hA, hR1, hR2⟩ := C
  intro H locs ls hP hD hS hl
  obtain ⟨C, T, N, ty0, hc, hj, hin, hk, hty, hnn, hfin, hown2, rfl⟩ := F
  exact va_putF hx hb hts hin ty0 hty hnn hown hK hP hD hS q0 he hc j hj (hts _ hk) (fun _ h9 => h9) hfin (hnm.trans hy) hown2 (hty j hj) hn hf hj2 hd (fun H1 locs1 hP hD hS => kk H1 locs1 ls hP hD hS hl)
theorem gx_iaload0 (C : gx_C K D dA y cc nL ret d) {a n0 : Nat} {f : Nat → Int32} {i : Int32} (q0 : Nat) (he : ws[q0]? = some (a, .inl (dA 0, n0, .inl (f)))) (hd : decode cc pc = .ok (.iaload, 1)) (hin : vp_in i n0) (kk : gx_G K D nL k n (pc + 1) lv (.int (f i.toNatClampNeg) :: st) ws Z) : gx_G K D nL k n pc lv (.int i :: .ref a :: st) ws Z := by
  obtain ⟨p, l, e, R, s, m, args, below, meth, c, A⟩ := K
  obtain ⟨hx, hb, hr, hlk, hml, hown, hnm, hts, hN, hK, hA, hR1, hR2⟩ := C
  intro H locs ls hP hD hS hl
  exact va_iald hx hb hK hP q0 0 he rfl hin hd (kk H locs ls hP hD hS hl)
theorem gx_iastore0 (C : gx_C K D dA y cc nL ret d) {a n0 : Nat} {f : Nat → Int32} {i : Int32} {x : Int32} (q0 : Nat) (he : ws[q0]? = some (a, .inl (dA 0, n0, .inl (f)))) (hd : decode cc pc = .ok (.iastore, 1)) (hin : vp_in i n0) (kk : gx_G K D nL k n (pc + 1) lv st (ws.set q0 (a, .inl (dA 0, n0, .inl (upd f i.toNatClampNeg x)))) Z) : gx_G K D nL k n pc lv (.int x :: .int i :: .ref a :: st) ws Z := by
  obtain ⟨p, l, e, R, s, m, args, below, meth, c, A⟩ := K
  obtain ⟨hx, hb, hr, hlk, hml, hown, hnm, hts, hN, hK, hA, hR1, hR2⟩ := C
  intro H locs ls hP hD hS hl
  exact va_iast hx hb hK hP hD hS q0 0 he rfl hin hd (fun H1 locs1 hP hD hS => kk H1 locs1 ls hP hD hS hl)
theorem gx_laload0 (C : gx_C K D dA y cc nL ret d) {a n0 : Nat} {f : Nat → Int64} {i : Int32} (q0 : Nat) (he : ws[q0]? = some (a, .inl (dA 1, n0, .inr (.inl (f))))) (hd : decode cc pc = .ok (.laload, 1)) (hin : vp_in i n0) (kk : gx_G K D nL k n (pc + 1) lv (.long (f i.toNatClampNeg) :: st) ws Z) : gx_G K D nL k n pc lv (.int i :: .ref a :: st) ws Z := by
  obtain ⟨p, l, e, R, s, m, args, below, meth, c, A⟩ := K
  obtain ⟨hx, hb, hr, hlk, hml, hown, hnm, hts, hN, hK, hA, hR1, hR2⟩ := C
  intro H locs ls hP hD hS hl
  exact va_lald hx hb hK hP q0 1 he rfl hin hd (kk H locs ls hP hD hS hl)
theorem gx_lastore0 (C : gx_C K D dA y cc nL ret d) {a n0 : Nat} {f : Nat → Int64} {i : Int32} {x : Int64} (q0 : Nat) (he : ws[q0]? = some (a, .inl (dA 1, n0, .inr (.inl (f))))) (hd : decode cc pc = .ok (.lastore, 1)) (hin : vp_in i n0) (kk : gx_G K D nL k n (pc + 1) lv st (ws.set q0 (a, .inl (dA 1, n0, .inr (.inl (vp_updL f i.toNatClampNeg x))))) Z) : gx_G K D nL k n pc lv (.long x :: .int i :: .ref a :: st) ws Z := by
  obtain ⟨p, l, e, R, s, m, args, below, meth, c, A⟩ := K
  obtain ⟨hx, hb, hr, hlk, hml, hown, hnm, hts, hN, hK, hA, hR1, hR2⟩ := C
  intro H locs ls hP hD hS hl
  exact va_last hx hb hK hP hD hS q0 1 he rfl hin hd (fun H1 locs1 hP hD hS => kk H1 locs1 ls hP hD hS hl)
theorem gx_caload0 (C : gx_C K D dA y cc nL ret d) {a n0 : Nat} {f : Nat → Int32} {i : Int32} (q0 : Nat) (he : ws[q0]? = some (a, .inl (dA 2, n0, .inl (f)))) (hd : decode cc pc = .ok (.caload, 1)) (hin : vp_in i n0) (kk : gx_G K D nL k n (pc + 1) lv (.int (f i.toNatClampNeg) :: st) ws Z) : gx_G K D nL k n pc lv (.int i :: .ref a :: st) ws Z := by
  obtain ⟨p, l, e, R, s, m, args, below, meth, c, A⟩ := K
  obtain ⟨hx, hb, hr, hlk, hml, hown, hnm, hts, hN, hK, hA, hR1, hR2⟩ := C
  intro H locs ls hP hD hS hl
  exact va_cald hx hb hK hP q0 2 he rfl hin hd (kk H locs ls hP hD hS hl)
theorem gx_castore0 (C : gx_C K D dA y cc nL ret d) {a n0 : Nat} {f : Nat → Int32} {i : Int32} {x : Int32} (q0 : Nat) (he : ws[q0]? = some (a, .inl (dA 2, n0, .inl (f)))) (hd : decode cc pc = .ok (.castore, 1)) (hin : vp_in i n0) (kk : gx_G K D nL k n (pc + 1) lv st (ws.set q0 (a, .inl (dA 2, n0, .inl (upd f i.toNatClampNeg (vp_nar .char x))))) Z) : gx_G K D nL k n pc lv (.int x :: .int i :: .ref a :: st) ws Z := by
  obtain ⟨p, l, e, R, s, m, args, below, meth, c, A⟩ := K
  obtain ⟨hx, hb, hr, hlk, hml, hown, hnm, hts, hN, hK, hA, hR1, hR2⟩ := C
  intro H locs ls hP hD hS hl
  exact va_cast hx hb hK hP hD hS q0 2 he rfl hin hd (fun H1 locs1 hP hD hS => kk H1 locs1 ls hP hD hS hl)
theorem gx_zaload0 (C : gx_C K D dA y cc nL ret d) {a n0 : Nat} {f : Nat → Int32} {i : Int32} (q0 : Nat) (he : ws[q0]? = some (a, .inl (dA 3, n0, .inl (f)))) (hd : decode cc pc = .ok (.baload, 1)) (hin : vp_in i n0) (kk : gx_G K D nL k n (pc + 1) lv (.int (f i.toNatClampNeg) :: st) ws Z) : gx_G K D nL k n pc lv (.int i :: .ref a :: st) ws Z := by
  obtain ⟨p, l, e, R, s, m, args, below, meth, c, A⟩ := K
  obtain ⟨hx, hb, hr, hlk, hml, hown, hnm, hts, hN, hK, hA, hR1, hR2⟩ := C
  intro H locs ls hP hD hS hl
  exact va_zald hx hb hK hP q0 3 he rfl hin hd (kk H locs ls hP hD hS hl)
theorem gx_zastore0 (C : gx_C K D dA y cc nL ret d) {a n0 : Nat} {f : Nat → Int32} {i : Int32} {x : Int32} (q0 : Nat) (he : ws[q0]? = some (a, .inl (dA 3, n0, .inl (f)))) (hd : decode cc pc = .ok (.bastore, 1)) (hin : vp_in i n0) (kk : gx_G K D nL k n (pc + 1) lv st (ws.set q0 (a, .inl (dA 3, n0, .inl (upd f i.toNatClampNeg (vp_nar .boolean x))))) Z) : gx_G K D nL k n pc lv (.int x :: .int i :: .ref a :: st) ws Z := by
  obtain ⟨p, l, e, R, s, m, args, below, meth, c, A⟩ := K
  obtain ⟨hx, hb, hr, hlk, hml, hown, hnm, hts, hN, hK, hA, hR1, hR2⟩ := C
  intro H locs ls hP hD hS hl
  exact va_zast hx hb hK hP hD hS q0 3 he rfl hin hd (fun H1 locs1 hP hD hS => kk H1 locs1 ls hP hD hS hl)
theorem gx_aaload0 (C : gx_C K D dA y cc nL ret d) {a n0 : Nat} {f : Nat → Option Nat} {i : Int32} (q0 : Nat) (he : ws[q0]? = some (a, .inl (dA 4, n0, .inr (.inr (.inr (.inr f)))))) (hd : decode cc pc = .ok (.aaload, 1)) (hin : vp_in i n0) (kk : gx_G K D nL k n (pc + 1) lv (va_rf (f i.toNatClampNeg) :: st) ws Z) : gx_G K D nL k n pc lv (.int i :: .ref a :: st) ws Z := by
  obtain ⟨p, l, e, R, s, m, args, below, meth, c, A⟩ := K
  obtain ⟨hx, hb, hr, hlk, hml, hown, hnm, hts, hN, hK, hA, hR1, hR2⟩ := C
  intro H locs ls hP hD hS hl
  exact va_aldq hx hb hK hP q0 4 he rfl hin hd (kk H locs ls hP hD hS hl)
theorem gx_alen0 (C : gx_C K D dA y cc nL ret d) {a t0 : Nat} {x : vp_A} {ty : FieldType} (q0 : Nat) (he : ws[q0]? = some (a, .inl (dA t0, x))) (ht : (gx_T dA)[t0]? = some (dA t0, ty)) (hd : decode cc pc = .ok (.arraylength, 1)) (kk : gx_G K D nL k n (pc + 1) lv (.int (Int32.ofNat x.1) :: st) ws Z) : gx_G K D nL k n pc lv (.ref a :: st) ws Z := by
  obtain ⟨p, l, e, R, s, m, args, below, meth, c, A⟩ := K
  obtain ⟨hx, hb, hr, hlk, hml, hown, hnm, hts, hN, hK, hA, hR1, hR2⟩ := C
  intro H locs ls hP hD hS hl
  exact va_alen hx hb hK hP q0 t0 he ht rfl hd (kk H locs ls hP hD hS hl)
theorem gx_aastore0 (C : gx_C K D dA y cc nL ret d) {a b n0 ci : Nat} {T : u_T} {N : Nat} {vs : List Value} {f : Nat → Option Nat} {i : Int32} (q0 qk : Nat) (he : ws[q0]? = some (a, .inl (dA 4, n0, .inr (.inr (.inr (.inr f)))))) (hv : ws[qk]? = some (b, .inr (ci, vs))) (hc : vw_Cl[ci]? = some ("WeighedMachines$Machine", T, N)) (hd : decode cc pc = .ok (.aastore, 1)) (hin : vp_in i n0) (kk : gx_G K D nL k n (pc + 1) lv st (ws.set q0 (a, .inl (dA 4, n0, .inr (.inr (.inr (.inr (va_up f i.toNatClampNeg (some b)))))))) Z) : gx_G K D nL k n pc lv (.ref b :: .int i :: .ref a :: st) ws Z := by
  obtain ⟨p, l, e, R, s, m, args, below, meth, c, A⟩ := K
  obtain ⟨hx, hb, hr, hlk, hml, hown, hnm, hts, hN, hK, hA, hR1, hR2⟩ := C
  intro H locs ls hP hD hS hl
  exact va_astq hx hb hK hP hD hS q0 4 qk ci he rfl hv hc hin hd (fun H1 locs1 hP hD hS => kk H1 locs1 ls hP hD hS hl)
/-- a method as the tables have it: its code, its kind made ready, how many it takes -/
def gx_me (y : MethodName) (cc : ByteArray) (nL : Nat) (ret : Option FieldType) (np : Nat) : Prop := Cond.code y cc nL ret ∈ gx_F ∧ Cond.initialized y.cls ∈ gx_F ∧ (y.cls ≠ "java/lang/invoke/MethodHandle" ∧ y.cls ≠ "java/lang/invoke/VarHandle" ∧ (parseMethodDescriptor y.desc).map (fun d => d.parameters.length) = some np) ∧ nL ≤ 32
/-- a call's site -/
def gx_ml (own : String) (idx : Nat) (y2 : MethodName) : Prop := Cond.methodLink own idx y2 ∈ gx_F ∨ ∃ h : String, Cond.methodLinkNest own idx y2 h ∈ lw_tbl
def gx_in (y : MethodName) : Prop := Cond.instanceMethod y ∈ gx_F ∧ Cond.selects y.cls y y ∈ gx_F
theorem gx_good {y : MethodName} {cc : ByteArray} {nL : Nat} {ret : Option FieldType} (h : Cond.code y cc nL ret ∈ gx_F) : GoodIn gx_F (Cond.code y cc nL ret :: gx_F) := by
  intro w hw
  rcases List.mem_cons.mp hw with rfl | hw
  · exact ⟨h, gx_F_good h⟩
  · exact ⟨hw, gx_F_good hw⟩
theorem gx_blind {D : va_G} {dA : Nat → ClassId} {av : List Value} {ws : va_W} {sz : Nat} : FrameBlind (gx_Pc D dA av ws sz) := by
  intro a U g mk q
  obtain ⟨q0, q1, qP, qK, qD, qN⟩ := q
  exact ⟨q0, q1, qP, va_K.moved (u := U) (U := U.calling g mk a) (Vm.Alike.refl U.vm) qK, qD, gx_N.same (s := U) (U := U.calling g mk a) rfl qN⟩
theorem gx_go {p : Program} {l : Launch} {e : Env} {R : Room} {s : State} {m : MethodId} {args : Array Value} {below : List Frame} {meth : Method} {c : Code} {H : Heap} {locs : List Loc} {cells slots mc ms pc : Nat} {ls : Array Slot} {rest st0 : List Value} {a : Array Value} {A0 A1 : Nat → Prop} {H0 : Heap} {free : Addr → Prop} {D : va_G} {dA : Nat → ClassId} {Q : Option Value → va_W → Prop} {Z : State → Prop}
    (hr : va_Run p l e R s m args below meth c H locs cells slots mc ms (F0 m pc ls st0) rest (gx_Q D dA Q A1 a) free) (hS : va_S A0 H0 H locs) (hA : ∀ q, q < H.size → A1 q → A0 q) (hf : ∀ q, free q → A0 q)
    (kk : ∀ (v : Option Value) (w : va_W) (H1 : Heap) (locs1 : List Loc), Q v w → va_P D vw_Cl w H1 → va_D A1 w → va_S A0 H0 H1 locs1 → W p l e R s m args below meth c H1 locs1 (cells + mc) (slots + ms) Z (F0 m (pc + 3) ls (v.toList ++ rest))) : W p l e R s m args below meth c H locs cells slots Z (F0 m pc ls st0) := by
  intro T hT X
  obtain ⟨v, st₀, t, T', L, h0, X', hL, e1, e2, ⟨⟨v2, w, hv, hp, hPw, hKw, hDw⟩, hz, hk⟩, st⟩ := hr T hT X
  cases hv
  rw [h0] at hz hk
  obtain ⟨t2, a1, b1⟩ := kk v w T'.heap (locs ++ L) hp (by rw [e1]; exact hPw) hDw
    ⟨Nat.le_trans hS.1 (by rw [e1]; exact hz), fun q h1 h2 => by rw [e1, hk q (Nat.lt_of_lt_of_le h1 hS.1) (fun z => h2 (hA q (Nat.lt_of_lt_of_le h1 hS.1) z))]; exact hS.2.1 q h1 h2, fun q hq => by
      rcases List.mem_append.mp hq with h | h
      · exact hS.2.2 q h
      · exact hf _ (hL q h)⟩ T' rfl X'
  exact ⟨t2, st t2 a1, b1⟩
theorem gx_own {A : Nat → Prop} {ws : va_W} {H0 H : Heap} {locs : List Loc} (hD : va_D A ws) (hS : va_S A H0 H locs) (hA : ∀ q : Nat, H0.size ≤ q → A q) : ∀ q, va_A ws H.size q → A q := by
  intro q h
  rcases h with ⟨k, e, h⟩ | h
  · exact hD.2 k (q, e) h
  · exact hA q (Nat.le_trans hS.1 h)
theorem gx_callV (C : gx_C K D dA y cc nL ret d) {idx b : Nat} {y2 : MethodName} {cc2 : ByteArray} {nL2 : Nat} {ret2 : Option FieldType} {d2 mc ms np : Nat} {Q : Option Value → va_W → Prop} {As rest : List Value} (hM : gx_Ct (gx_l K) D dA y2 cc2 nL2 ret2 d2 mc ms (.ref b :: As) ws Q) (hm : gx_me y2 cc2 nL2 ret2 np) (hsite : gx_ml y.cls idx y2) {ci : Nat} {T : u_T} {N : Nat} {fs : List Value} (hi : gx_in y2) (q0 : Nat) (he : ws[q0]? = some (b, .inr (ci, fs))) (hc : vw_Cl[ci]? = some (y2.cls, T, N)) (hd : decode cc pc = .ok (.invokevirtual idx, 3)) (hst : st = As.reverse ++ .ref b :: rest := by rfl) (hn : As.length = np := by rfl) (hdep : d2 + 1 ≤ d := by decide) (hcat : (rest.map fun v => v.category).sum ≤ 8 := by decide) (hf : k + mc ≤ (gx_R K).cells ∧ n + ms ≤ (gx_R K).slots := by exact ⟨Nat.zero_le _, Nat.zero_le _⟩)
    (kk : ∀ (v : Option Value) (w : va_W), Q v w → gx_G K D nL (k + mc) (n + ms) (pc + 3) lv (v.toList ++ rest) w Z) : gx_G K D nL k n pc lv st ws Z := by
  obtain ⟨p, l, e, R, s, m, args, below, meth, c, A⟩ := K
  obtain ⟨hx, hb, hr, hlk, hml, hown, hnm, hts, hN, hK, hA, hR1, hR2⟩ := C
  intro H locs ls hP hD hS hl
  obtain ⟨h1, h2, h3, h4⟩ := hm
  have hR : (gx_rm d2 mc ms).frames + 1 ≤ R.frames ∧ 8 + (nL2 + 11) + (gx_rm d2 mc ms).locals ≤ R.locals := ⟨Nat.le_trans hdep hR1, by show 8 + (nL2 + 11) + 51 * d2 ≤ R.locals; omega⟩
  have hF := gx_own hD hS hA
  have hgo : ∀ U : State, U.heap = H → s.WarmedH U.vm → gx_Pc D dA ((.ref b :: As)) ws H.size ((.ref b :: As) : List Value).toArray U := fun U hU hW => ⟨rfl, by rw [hU], by rw [hU]; exact hP, va_K.moved hW.alike hK, hD.weaken (fun _ _ _ _ => trivial), hN.warm hW⟩
  have hend : ∀ (v : Option Value) (w : va_W) (H1 : Heap) (locs1 : List Loc), Q v w → va_P D vw_Cl w H1 → va_D (va_A ws H.size) w → va_S A s.heap H1 locs1 → W p l e R s m args below meth c H1 locs1 (k + mc) (n + ms) Z (F0 m (pc + 3) ls (v.toList ++ rest)) := fun v w H1 locs1 hq hP1 hD1 hS1 => kk v w hq H1 locs1 ls hP1 (hD1.weaken (fun _ q _ h => hF q.1 h)) hS1 hl
  subst hst
  rcases hsite with hk | ⟨h, hk⟩
  · exact gx_go (va_runV (As := As) (rest := rest) ⟨hx, hb, hml, hown, hts⟩ (hM H.size) ⟨callB_of np hts (gx_good h1) rfl rfl rfl (hts _ h2) (hts _ hk) h3 hR, hts _ hi.1, hts _ hi.2⟩ ⟨gx_blind, va_recv hK hP hc he, hgo⟩ rfl hn hl.1 rfl (lv_room hcat) hd hf) hS (fun q _ h => hF q h) hF hend
  · exact gx_go (va_runVN (As := As) (rest := rest) ⟨hx, hb, hml, hown, hts⟩ (hM H.size) ⟨va_cnB np hts (gx_good h1) rfl rfl rfl (hN _ hk rfl) (hts _ h2) h3 hR, hts _ hi.1, hts _ hi.2⟩ ⟨gx_blind, va_recv hK hP hc he, hgo⟩ rfl hn hl.1 rfl (lv_room hcat) hd hf) hS (fun q _ h => hF q h) hF hend
theorem gx_callS (C : gx_C K D dA y cc nL ret d) {idx : Nat} {y2 : MethodName} {cc2 : ByteArray} {nL2 : Nat} {ret2 : Option FieldType} {d2 mc ms np : Nat} {Q : Option Value → va_W → Prop} {As rest : List Value} (hM : gx_Ct (gx_l K) D dA y2 cc2 nL2 ret2 d2 mc ms As ws Q) (hm : gx_me y2 cc2 nL2 ret2 np) (hsite : gx_ml y.cls idx y2) (hi : Cond.static y2 ∈ gx_F) (hd : decode cc pc = .ok (.invokestatic idx, 3)) (hst : st = As.reverse ++ rest := by rfl) (hn : As.length = np := by rfl) (hdep : d2 + 1 ≤ d := by decide) (hcat : (rest.map fun v => v.category).sum ≤ 8 := by decide) (hf : k + mc ≤ (gx_R K).cells ∧ n + ms ≤ (gx_R K).slots := by exact ⟨Nat.zero_le _, Nat.zero_le _⟩)
    (kk : ∀ (v : Option Value) (w : va_W), Q v w → gx_G K D nL (k + mc) (n + ms) (pc + 3) lv (v.toList ++ rest) w Z) : gx_G K D nL k n pc lv st ws Z := by
  obtain ⟨p, l, e, R, s, m, args, below, meth, c, A⟩ := K
  obtain ⟨hx, hb, hr, hlk, hml, hown, hnm, hts, hN, hK, hA, hR1, hR2⟩ := C
  intro H locs ls hP hD hS hl
  obtain ⟨h1, h2, h3, h4⟩ := hm
  have hR : (gx_rm d2 mc ms).frames + 1 ≤ R.frames ∧ 8 + (nL2 + 11) + (gx_rm d2 mc ms).locals ≤ R.locals := ⟨Nat.le_trans hdep hR1, by show 8 + (nL2 + 11) + 51 * d2 ≤ R.locals; omega⟩
  have hF := gx_own hD hS hA
  have hgo : ∀ U : State, U.heap = H → s.WarmedH U.vm → gx_Pc D dA (As) ws H.size (As : List Value).toArray U := fun U hU hW => ⟨rfl, by rw [hU], by rw [hU]; exact hP, va_K.moved hW.alike hK, hD.weaken (fun _ _ _ _ => trivial), hN.warm hW⟩
  have hend : ∀ (v : Option Value) (w : va_W) (H1 : Heap) (locs1 : List Loc), Q v w → va_P D vw_Cl w H1 → va_D (va_A ws H.size) w → va_S A s.heap H1 locs1 → W p l e R s m args below meth c H1 locs1 (k + mc) (n + ms) Z (F0 m (pc + 3) ls (v.toList ++ rest)) := fun v w H1 locs1 hq hP1 hD1 hS1 => kk v w hq H1 locs1 ls hP1 (hD1.weaken (fun _ q _ h => hF q.1 h)) hS1 hl
  subst hst
  rcases hsite with hk | ⟨h, hk⟩
  · exact gx_go (va_runS (As := As) (rest := rest) ⟨hx, hb, hml, hown, hts⟩ (hM H.size) ⟨callB_of np hts (gx_good h1) rfl rfl rfl (hts _ h2) (hts _ hk) h3 hR, hts _ hi⟩ ⟨gx_blind, hgo⟩ rfl hn hl.1 rfl (lv_room hcat) hd hf) hS (fun q _ h => hF q h) hF hend
  · exact gx_go (va_runSN (As := As) (rest := rest) ⟨hx, hb, hml, hown, hts⟩ (hM H.size) ⟨va_cnB np hts (gx_good h1) rfl rfl rfl (hN _ hk rfl) (hts _ h2) h3 hR, hts _ hi, trivial⟩ ⟨gx_blind, hgo⟩ rfl hn hl.1 rfl (lv_room hcat) hd hf) hS (fun q _ h => hF q h) hF hend
end GX
-- worlds of 65 cells at fixed places: the program's and the reference's
def gx_w (ad : Nat → Nat) (h : Nat → va_E) : va_W := (List.range 65).map fun k => (ad k, h k)
theorem gx_w_at {ad : Nat → Nat} {h : Nat → va_E} {k : Nat} {e : va_E} (hk : k < 65) (he : h k = e) : (gx_w ad h)[k]? = some (ad k, e) := by
  subst he
  simp [gx_w, hk]
theorem gx_w_set {ad : Nat → Nat} {h : Nat → va_E} {k : Nat} (e : va_E) : (gx_w ad h).set k (ad k, e) = gx_w ad (va_up h k e) := by
  apply List.ext_getElem?
  intro i
  rw [List.getElem?_set]
  by_cases hi : i < 65
  · by_cases hk : k = i
    · subst hk
      simp [gx_w, hi, va_up]
    · simp [gx_w, hi, va_up, hk, Ne.symm hk]
  · by_cases hk : k = i
    · subst hk
      simp [gx_w, hi]
    · simp [gx_w, hi, hk]
end
section
theorem ly_Ba_0 : u_lay RX_Ba TX_Ba 0 ∈ gx_F := gx_F_in (tb_1 (List.mem_of_getElem? (i := 134) (by decide +kernel))) rfl
theorem ly_Ba : ∀ w ∈ u_ws RX_Ba TX_Ba 1, w ∈ gx_F := by
  intro w hw
  obtain ⟨k, hk, rfl⟩ := List.mem_map.mp hw
  have hk := List.mem_range.mp hk
  match k, hk with
  | 0, _ => exact ly_Ba_0
  | k + 1, hk => exact absurd hk (by omega)
theorem ly_BP_0 : u_lay RX_BP TX_BP 0 ∈ gx_F := gx_F_in (tb_1 (List.mem_of_getElem? (i := 208) (by decide +kernel))) rfl
theorem ly_BP_1 : u_lay RX_BP TX_BP 1 ∈ gx_F := gx_F_in (tb_1 (List.mem_of_getElem? (i := 210) (by decide +kernel))) rfl
theorem ly_BP_2 : u_lay RX_BP TX_BP 2 ∈ gx_F := gx_F_in (tb_1 (List.mem_of_getElem? (i := 212) (by decide +kernel))) rfl
theorem ly_BP : ∀ w ∈ u_ws RX_BP TX_BP 3, w ∈ gx_F := by
  intro w hw
  obtain ⟨k, hk, rfl⟩ := List.mem_map.mp hw
  have hk := List.mem_range.mp hk
  match k, hk with
  | 0, _ => exact ly_BP_0
  | 1, _ => exact ly_BP_1
  | 2, _ => exact ly_BP_2
  | k + 3, hk => exact absurd hk (by omega)
theorem ly_Co_0 : u_lay RX_Co TX_Co 0 ∈ gx_F := gx_F_in (tb_1 (List.mem_of_getElem? (i := 118) (by decide +kernel))) rfl
theorem ly_Co_1 : u_lay RX_Co TX_Co 1 ∈ gx_F := gx_F_in (tb_1 (List.mem_of_getElem? (i := 120) (by decide +kernel))) rfl
theorem ly_Co_2 : u_lay RX_Co TX_Co 2 ∈ gx_F := gx_F_in (tb_1 (List.mem_of_getElem? (i := 122) (by decide +kernel))) rfl
theorem ly_Co_3 : u_lay RX_Co TX_Co 3 ∈ gx_F := gx_F_in (tb_1 (List.mem_of_getElem? (i := 124) (by decide +kernel))) rfl
theorem ly_Co : ∀ w ∈ u_ws RX_Co TX_Co 4, w ∈ gx_F := by
  intro w hw
  obtain ⟨k, hk, rfl⟩ := List.mem_map.mp hw
  have hk := List.mem_range.mp hk
  match k, hk with
  | 0, _ => exact ly_Co_0
  | 1, _ => exact ly_Co_1
  | 2, _ => exact ly_Co_2
  | 3, _ => exact ly_Co_3
  | k + 4, hk => exact absurd hk (by omega)
theorem ly_De_0 : u_lay RX_De TX_De 0 ∈ gx_F := gx_F_in (tb_1 (List.mem_of_getElem? (i := 147) (by decide +kernel))) rfl
theorem ly_De_1 : u_lay RX_De TX_De 1 ∈ gx_F := gx_F_in (tb_1 (List.mem_of_getElem? (i := 149) (by decide +kernel))) rfl
theorem ly_De_2 : u_lay RX_De TX_De 2 ∈ gx_F := gx_F_in (tb_1 (List.mem_of_getElem? (i := 151) (by decide +kernel))) rfl
theorem ly_De_3 : u_lay RX_De TX_De 3 ∈ gx_F := gx_F_in (tb_1 (List.mem_of_getElem? (i := 153) (by decide +kernel))) rfl
theorem ly_De : ∀ w ∈ u_ws RX_De TX_De 4, w ∈ gx_F := by
  intro w hw
  obtain ⟨k, hk, rfl⟩ := List.mem_map.mp hw
  have hk := List.mem_range.mp hk
  match k, hk with
  | 0, _ => exact ly_De_0
  | 1, _ => exact ly_De_1
  | 2, _ => exact ly_De_2
  | 3, _ => exact ly_De_3
  | k + 4, hk => exact absurd hk (by omega)
theorem ly_Ma_0 : u_lay RX_Ma TX_Ma 0 ∈ gx_F := gx_F_in (tb_1 (List.mem_of_getElem? (i := 91) (by decide +kernel))) rfl
theorem ly_Ma_1 : u_lay RX_Ma TX_Ma 1 ∈ gx_F := gx_F_in (tb_1 (List.mem_of_getElem? (i := 93) (by decide +kernel))) rfl
theorem ly_Ma_2 : u_lay RX_Ma TX_Ma 2 ∈ gx_F := gx_F_in (tb_1 (List.mem_of_getElem? (i := 95) (by decide +kernel))) rfl
theorem ly_Ma_3 : u_lay RX_Ma TX_Ma 3 ∈ gx_F := gx_F_in (tb_1 (List.mem_of_getElem? (i := 97) (by decide +kernel))) rfl
theorem ly_Ma_4 : u_lay RX_Ma TX_Ma 4 ∈ gx_F := gx_F_in (tb_1 (List.mem_of_getElem? (i := 99) (by decide +kernel))) rfl
theorem ly_Ma_5 : u_lay RX_Ma TX_Ma 5 ∈ gx_F := gx_F_in (tb_1 (List.mem_of_getElem? (i := 101) (by decide +kernel))) rfl
theorem ly_Ma_6 : u_lay RX_Ma TX_Ma 6 ∈ gx_F := gx_F_in (tb_1 (List.mem_of_getElem? (i := 103) (by decide +kernel))) rfl
theorem ly_Ma : ∀ w ∈ u_ws RX_Ma TX_Ma 7, w ∈ gx_F := by
  intro w hw
  obtain ⟨k, hk, rfl⟩ := List.mem_map.mp hw
  have hk := List.mem_range.mp hk
  match k, hk with
  | 0, _ => exact ly_Ma_0
  | 1, _ => exact ly_Ma_1
  | 2, _ => exact ly_Ma_2
  | 3, _ => exact ly_Ma_3
  | 4, _ => exact ly_Ma_4
  | 5, _ => exact ly_Ma_5
  | 6, _ => exact ly_Ma_6
  | k + 7, hk => exact absurd hk (by omega)
theorem ly_On_0 : u_lay RX_On TX_On 0 ∈ gx_F := gx_F_in (tb_1 (List.mem_of_getElem? (i := 163) (by decide +kernel))) rfl
theorem ly_On : ∀ w ∈ u_ws RX_On TX_On 1, w ∈ gx_F := by
  intro w hw
  obtain ⟨k, hk, rfl⟩ := List.mem_map.mp hw
  have hk := List.mem_range.mp hk
  match k, hk with
  | 0, _ => exact ly_On_0
  | k + 1, hk => exact absurd hk (by omega)
theorem ly_Pa_0 : u_lay RX_Pa TX_Pa 0 ∈ gx_F := gx_F_in (tb_2 (List.mem_of_getElem? (i := 1) (by decide +kernel))) rfl
theorem ly_Pa_1 : u_lay RX_Pa TX_Pa 1 ∈ gx_F := gx_F_in (tb_2 (List.mem_of_getElem? (i := 3) (by decide +kernel))) rfl
theorem ly_Pa_2 : u_lay RX_Pa TX_Pa 2 ∈ gx_F := gx_F_in (tb_2 (List.mem_of_getElem? (i := 5) (by decide +kernel))) rfl
theorem ly_Pa_3 : u_lay RX_Pa TX_Pa 3 ∈ gx_F := gx_F_in (tb_2 (List.mem_of_getElem? (i := 7) (by decide +kernel))) rfl
theorem ly_Pa : ∀ w ∈ u_ws RX_Pa TX_Pa 4, w ∈ gx_F := by
  intro w hw
  obtain ⟨k, hk, rfl⟩ := List.mem_map.mp hw
  have hk := List.mem_range.mp hk
  match k, hk with
  | 0, _ => exact ly_Pa_0
  | 1, _ => exact ly_Pa_1
  | 2, _ => exact ly_Pa_2
  | 3, _ => exact ly_Pa_3
  | k + 4, hk => exact absurd hk (by omega)
theorem ly_Ro_0 : u_lay RX_Ro TX_Ro 0 ∈ gx_F := gx_F_in (tb_1 (List.mem_of_getElem? (i := 181) (by decide +kernel))) rfl
theorem ly_Ro_1 : u_lay RX_Ro TX_Ro 1 ∈ gx_F := gx_F_in (tb_1 (List.mem_of_getElem? (i := 183) (by decide +kernel))) rfl
theorem ly_Ro : ∀ w ∈ u_ws RX_Ro TX_Ro 2, w ∈ gx_F := by
  intro w hw
  obtain ⟨k, hk, rfl⟩ := List.mem_map.mp hw
  have hk := List.mem_range.mp hk
  match k, hk with
  | 0, _ => exact ly_Ro_0
  | 1, _ => exact ly_Ro_1
  | k + 2, hk => exact absurd hk (by omega)
theorem ly_Te_0 : u_lay RX_Te TX_Te 0 ∈ gx_F := gx_F_in (tb_1 (List.mem_of_getElem? (i := 225) (by decide +kernel))) rfl
theorem ly_Te_1 : u_lay RX_Te TX_Te 1 ∈ gx_F := gx_F_in (tb_1 (List.mem_of_getElem? (i := 227) (by decide +kernel))) rfl
theorem ly_Te : ∀ w ∈ u_ws RX_Te TX_Te 2, w ∈ gx_F := by
  intro w hw
  obtain ⟨k, hk, rfl⟩ := List.mem_map.mp hw
  have hk := List.mem_range.mp hk
  match k, hk with
  | 0, _ => exact ly_Te_0
  | 1, _ => exact ly_Te_1
  | k + 2, hk => exact absurd hk (by omega)
theorem ly_We_0 : u_lay RX_We TX_We 0 ∈ gx_F := gx_F_in (tb_1 (List.mem_of_getElem? (i := 189) (by decide +kernel))) rfl
theorem ly_We_1 : u_lay RX_We TX_We 1 ∈ gx_F := gx_F_in (tb_1 (List.mem_of_getElem? (i := 191) (by decide +kernel))) rfl
theorem ly_We_2 : u_lay RX_We TX_We 2 ∈ gx_F := gx_F_in (tb_1 (List.mem_of_getElem? (i := 193) (by decide +kernel))) rfl
theorem ly_We : ∀ w ∈ u_ws RX_We TX_We 3, w ∈ gx_F := by
  intro w hw
  obtain ⟨k, hk, rfl⟩ := List.mem_map.mp hw
  have hk := List.mem_range.mp hk
  match k, hk with
  | 0, _ => exact ly_We_0
  | 1, _ => exact ly_We_1
  | 2, _ => exact ly_We_2
  | k + 3, hk => exact absurd hk (by omega)
theorem ly_WM_0 : u_lay RX_WM TX_WM 0 ∈ gx_F := gx_F_in (tb_2 (List.mem_of_getElem? (i := 20) (by decide +kernel))) rfl
theorem ly_WM_1 : u_lay RX_WM TX_WM 1 ∈ gx_F := gx_F_in (tb_2 (List.mem_of_getElem? (i := 22) (by decide +kernel))) rfl
theorem ly_WM_2 : u_lay RX_WM TX_WM 2 ∈ gx_F := gx_F_in (tb_2 (List.mem_of_getElem? (i := 24) (by decide +kernel))) rfl
theorem ly_WM_3 : u_lay RX_WM TX_WM 3 ∈ gx_F := gx_F_in (tb_2 (List.mem_of_getElem? (i := 26) (by decide +kernel))) rfl
theorem ly_WM_4 : u_lay RX_WM TX_WM 4 ∈ gx_F := gx_F_in (tb_2 (List.mem_of_getElem? (i := 28) (by decide +kernel))) rfl
theorem ly_WM_5 : u_lay RX_WM TX_WM 5 ∈ gx_F := gx_F_in (tb_2 (List.mem_of_getElem? (i := 30) (by decide +kernel))) rfl
theorem ly_WM_6 : u_lay RX_WM TX_WM 6 ∈ gx_F := gx_F_in (tb_2 (List.mem_of_getElem? (i := 32) (by decide +kernel))) rfl
theorem ly_WM_7 : u_lay RX_WM TX_WM 7 ∈ gx_F := gx_F_in (tb_2 (List.mem_of_getElem? (i := 34) (by decide +kernel))) rfl
theorem ly_WM_8 : u_lay RX_WM TX_WM 8 ∈ gx_F := gx_F_in (tb_2 (List.mem_of_getElem? (i := 36) (by decide +kernel))) rfl
theorem ly_WM_9 : u_lay RX_WM TX_WM 9 ∈ gx_F := gx_F_in (tb_2 (List.mem_of_getElem? (i := 38) (by decide +kernel))) rfl
theorem ly_WM : ∀ w ∈ u_ws RX_WM TX_WM 10, w ∈ gx_F := by
  intro w hw
  obtain ⟨k, hk, rfl⟩ := List.mem_map.mp hw
  have hk := List.mem_range.mp hk
  match k, hk with
  | 0, _ => exact ly_WM_0
  | 1, _ => exact ly_WM_1
  | 2, _ => exact ly_WM_2
  | 3, _ => exact ly_WM_3
  | 4, _ => exact ly_WM_4
  | 5, _ => exact ly_WM_5
  | 6, _ => exact ly_WM_6
  | 7, _ => exact ly_WM_7
  | 8, _ => exact ly_WM_8
  | 9, _ => exact ly_WM_9
  | k + 10, hk => exact absurd hk (by omega)
theorem ly_Mo_0 : u_lay RX_Mo TX_Mo 0 ∈ gx_F := gx_F_in (tb_4 (List.mem_of_getElem? (i := 76) (by decide +kernel))) rfl
theorem ly_Mo_1 : u_lay RX_Mo TX_Mo 1 ∈ gx_F := gx_F_in (tb_4 (List.mem_of_getElem? (i := 78) (by decide +kernel))) rfl
theorem ly_Mo_2 : u_lay RX_Mo TX_Mo 2 ∈ gx_F := gx_F_in (tb_4 (List.mem_of_getElem? (i := 80) (by decide +kernel))) rfl
theorem ly_Mo_3 : u_lay RX_Mo TX_Mo 3 ∈ gx_F := gx_F_in (tb_4 (List.mem_of_getElem? (i := 82) (by decide +kernel))) rfl
theorem ly_Mo_4 : u_lay RX_Mo TX_Mo 4 ∈ gx_F := gx_F_in (tb_4 (List.mem_of_getElem? (i := 84) (by decide +kernel))) rfl
theorem ly_Mo_5 : u_lay RX_Mo TX_Mo 5 ∈ gx_F := gx_F_in (tb_4 (List.mem_of_getElem? (i := 86) (by decide +kernel))) rfl
theorem ly_Mo_6 : u_lay RX_Mo TX_Mo 6 ∈ gx_F := gx_F_in (tb_4 (List.mem_of_getElem? (i := 88) (by decide +kernel))) rfl
theorem ly_Mo_7 : u_lay RX_Mo TX_Mo 7 ∈ gx_F := gx_F_in (tb_4 (List.mem_of_getElem? (i := 90) (by decide +kernel))) rfl
theorem ly_Mo_8 : u_lay RX_Mo TX_Mo 8 ∈ gx_F := gx_F_in (tb_4 (List.mem_of_getElem? (i := 92) (by decide +kernel))) rfl
theorem ly_Mo_9 : u_lay RX_Mo TX_Mo 9 ∈ gx_F := gx_F_in (tb_4 (List.mem_of_getElem? (i := 94) (by decide +kernel))) rfl
theorem ly_Mo_10 : u_lay RX_Mo TX_Mo 10 ∈ gx_F := gx_F_in (tb_4 (List.mem_of_getElem? (i := 96) (by decide +kernel))) rfl
theorem ly_Mo_11 : u_lay RX_Mo TX_Mo 11 ∈ gx_F := gx_F_in (tb_4 (List.mem_of_getElem? (i := 98) (by decide +kernel))) rfl
theorem ly_Mo_12 : u_lay RX_Mo TX_Mo 12 ∈ gx_F := gx_F_in (tb_4 (List.mem_of_getElem? (i := 100) (by decide +kernel))) rfl
theorem ly_Mo_13 : u_lay RX_Mo TX_Mo 13 ∈ gx_F := gx_F_in (tb_4 (List.mem_of_getElem? (i := 102) (by decide +kernel))) rfl
theorem ly_Mo_14 : u_lay RX_Mo TX_Mo 14 ∈ gx_F := gx_F_in (tb_4 (List.mem_of_getElem? (i := 104) (by decide +kernel))) rfl
theorem ly_Mo_15 : u_lay RX_Mo TX_Mo 15 ∈ gx_F := gx_F_in (tb_4 (List.mem_of_getElem? (i := 106) (by decide +kernel))) rfl
theorem ly_Mo_16 : u_lay RX_Mo TX_Mo 16 ∈ gx_F := gx_F_in (tb_4 (List.mem_of_getElem? (i := 108) (by decide +kernel))) rfl
theorem ly_Mo_17 : u_lay RX_Mo TX_Mo 17 ∈ gx_F := gx_F_in (tb_4 (List.mem_of_getElem? (i := 110) (by decide +kernel))) rfl
theorem ly_Mo_18 : u_lay RX_Mo TX_Mo 18 ∈ gx_F := gx_F_in (tb_4 (List.mem_of_getElem? (i := 112) (by decide +kernel))) rfl
theorem ly_Mo_19 : u_lay RX_Mo TX_Mo 19 ∈ gx_F := gx_F_in (tb_4 (List.mem_of_getElem? (i := 114) (by decide +kernel))) rfl
theorem ly_Mo_20 : u_lay RX_Mo TX_Mo 20 ∈ gx_F := gx_F_in (tb_4 (List.mem_of_getElem? (i := 116) (by decide +kernel))) rfl
theorem ly_Mo_21 : u_lay RX_Mo TX_Mo 21 ∈ gx_F := gx_F_in (tb_4 (List.mem_of_getElem? (i := 118) (by decide +kernel))) rfl
theorem ly_Mo_22 : u_lay RX_Mo TX_Mo 22 ∈ gx_F := gx_F_in (tb_4 (List.mem_of_getElem? (i := 120) (by decide +kernel))) rfl
theorem ly_Mo_23 : u_lay RX_Mo TX_Mo 23 ∈ gx_F := gx_F_in (tb_4 (List.mem_of_getElem? (i := 122) (by decide +kernel))) rfl
theorem ly_Mo_24 : u_lay RX_Mo TX_Mo 24 ∈ gx_F := gx_F_in (tb_4 (List.mem_of_getElem? (i := 124) (by decide +kernel))) rfl
theorem ly_Mo_25 : u_lay RX_Mo TX_Mo 25 ∈ gx_F := gx_F_in (tb_4 (List.mem_of_getElem? (i := 126) (by decide +kernel))) rfl
theorem ly_Mo_26 : u_lay RX_Mo TX_Mo 26 ∈ gx_F := gx_F_in (tb_4 (List.mem_of_getElem? (i := 128) (by decide +kernel))) rfl
theorem ly_Mo_27 : u_lay RX_Mo TX_Mo 27 ∈ gx_F := gx_F_in (tb_4 (List.mem_of_getElem? (i := 130) (by decide +kernel))) rfl
theorem ly_Mo : ∀ w ∈ u_ws RX_Mo TX_Mo 28, w ∈ gx_F := by
  intro w hw
  obtain ⟨k, hk, rfl⟩ := List.mem_map.mp hw
  have hk := List.mem_range.mp hk
  match k, hk with
  | 0, _ => exact ly_Mo_0
  | 1, _ => exact ly_Mo_1
  | 2, _ => exact ly_Mo_2
  | 3, _ => exact ly_Mo_3
  | 4, _ => exact ly_Mo_4
  | 5, _ => exact ly_Mo_5
  | 6, _ => exact ly_Mo_6
  | 7, _ => exact ly_Mo_7
  | 8, _ => exact ly_Mo_8
  | 9, _ => exact ly_Mo_9
  | 10, _ => exact ly_Mo_10
  | 11, _ => exact ly_Mo_11
  | 12, _ => exact ly_Mo_12
  | 13, _ => exact ly_Mo_13
  | 14, _ => exact ly_Mo_14
  | 15, _ => exact ly_Mo_15
  | 16, _ => exact ly_Mo_16
  | 17, _ => exact ly_Mo_17
  | 18, _ => exact ly_Mo_18
  | 19, _ => exact ly_Mo_19
  | 20, _ => exact ly_Mo_20
  | 21, _ => exact ly_Mo_21
  | 22, _ => exact ly_Mo_22
  | 23, _ => exact ly_Mo_23
  | 24, _ => exact ly_Mo_24
  | 25, _ => exact ly_Mo_25
  | 26, _ => exact ly_Mo_26
  | 27, _ => exact ly_Mo_27
  | k + 28, hk => exact absurd hk (by omega)
theorem fk_WM_11 : Cond.fieldLink "WeighedMachines" 11 (TX_WM 0).1 (TX_WM 0).2.1 (TX_WM 0).2.2.1 ∈ gx_F := gx_F_in (tb_2 (List.mem_of_getElem? (i := 10) (by decide +kernel))) rfl
theorem fd_WM_11 : gx_fd "WeighedMachines" 11 10 0 := ⟨_, _, _, rfl, (by decide), ly_WM, Or.inl fk_WM_11⟩
theorem ff_WM_11 : gx_ff "WeighedMachines" 11 10 0 (.array (.object "WeighedMachines$Machine")) := ⟨_, _, _, ty_WM, rfl, (by decide), ly_WM, fk_WM_11, tk_WM, nm_WM, rfl, rfl, rfl⟩
theorem fk_WM_16 : Cond.fieldLink "WeighedMachines" 16 (TX_WM 9).1 (TX_WM 9).2.1 (TX_WM 9).2.2.1 ∈ gx_F := gx_F_in (tb_2 (List.mem_of_getElem? (i := 19) (by decide +kernel))) rfl
theorem fd_WM_16 : gx_fd "WeighedMachines" 16 10 9 := ⟨_, _, _, rfl, (by decide), ly_WM, Or.inl fk_WM_16⟩
theorem fw_WM_16 : gx_fw "WeighedMachines" 16 10 9 (.object "WeighedMachines$Machine") := ⟨_, _, _, ty_WM, rfl, (by decide), ly_WM, Or.inl fk_WM_16, tk_WM, nm_WM, rfl, rfl⟩
theorem fk_WM_23 : Cond.fieldLink "WeighedMachines" 23 (TX_WM 1).1 (TX_WM 1).2.1 (TX_WM 1).2.2.1 ∈ gx_F := gx_F_in (tb_2 (List.mem_of_getElem? (i := 11) (by decide +kernel))) rfl
theorem fd_WM_23 : gx_fd "WeighedMachines" 23 10 1 := ⟨_, _, _, rfl, (by decide), ly_WM, Or.inl fk_WM_23⟩
theorem ff_WM_23 : gx_ff "WeighedMachines" 23 10 1 (.object "WeighedMachines$Composing") := ⟨_, _, _, ty_WM, rfl, (by decide), ly_WM, fk_WM_23, tk_WM, nm_WM, rfl, rfl, rfl⟩
theorem fk_WM_30 : Cond.fieldLink "WeighedMachines" 30 (TX_WM 2).1 (TX_WM 2).2.1 (TX_WM 2).2.2.1 ∈ gx_F := gx_F_in (tb_2 (List.mem_of_getElem? (i := 12) (by decide +kernel))) rfl
theorem fd_WM_30 : gx_fd "WeighedMachines" 30 10 2 := ⟨_, _, _, rfl, (by decide), ly_WM, Or.inl fk_WM_30⟩
theorem ff_WM_30 : gx_ff "WeighedMachines" 30 10 2 (.object "WeighedMachines$Baring") := ⟨_, _, _, ty_WM, rfl, (by decide), ly_WM, fk_WM_30, tk_WM, nm_WM, rfl, rfl, rfl⟩
theorem fk_WM_37 : Cond.fieldLink "WeighedMachines" 37 (TX_WM 3).1 (TX_WM 3).2.1 (TX_WM 3).2.2.1 ∈ gx_F := gx_F_in (tb_2 (List.mem_of_getElem? (i := 13) (by decide +kernel))) rfl
theorem fd_WM_37 : gx_fd "WeighedMachines" 37 10 3 := ⟨_, _, _, rfl, (by decide), ly_WM, Or.inl fk_WM_37⟩
theorem ff_WM_37 : gx_ff "WeighedMachines" 37 10 3 (.object "WeighedMachines$Determining") := ⟨_, _, _, ty_WM, rfl, (by decide), ly_WM, fk_WM_37, tk_WM, nm_WM, rfl, rfl, rfl⟩
theorem fk_WM_44 : Cond.fieldLink "WeighedMachines" 44 (TX_WM 4).1 (TX_WM 4).2.1 (TX_WM 4).2.2.1 ∈ gx_F := gx_F_in (tb_2 (List.mem_of_getElem? (i := 14) (by decide +kernel))) rfl
theorem fd_WM_44 : gx_fd "WeighedMachines" 44 10 4 := ⟨_, _, _, rfl, (by decide), ly_WM, Or.inl fk_WM_44⟩
theorem ff_WM_44 : gx_ff "WeighedMachines" 44 10 4 (.object "WeighedMachines$Onward") := ⟨_, _, _, ty_WM, rfl, (by decide), ly_WM, fk_WM_44, tk_WM, nm_WM, rfl, rfl, rfl⟩
theorem fk_WM_51 : Cond.fieldLink "WeighedMachines" 51 (TX_WM 5).1 (TX_WM 5).2.1 (TX_WM 5).2.2.1 ∈ gx_F := gx_F_in (tb_2 (List.mem_of_getElem? (i := 15) (by decide +kernel))) rfl
theorem fd_WM_51 : gx_fd "WeighedMachines" 51 10 5 := ⟨_, _, _, rfl, (by decide), ly_WM, Or.inl fk_WM_51⟩
theorem ff_WM_51 : gx_ff "WeighedMachines" 51 10 5 (.object "WeighedMachines$Weighing") := ⟨_, _, _, ty_WM, rfl, (by decide), ly_WM, fk_WM_51, tk_WM, nm_WM, rfl, rfl, rfl⟩
theorem fk_WM_58 : Cond.fieldLink "WeighedMachines" 58 (TX_WM 6).1 (TX_WM 6).2.1 (TX_WM 6).2.2.1 ∈ gx_F := gx_F_in (tb_2 (List.mem_of_getElem? (i := 16) (by decide +kernel))) rfl
theorem fd_WM_58 : gx_fd "WeighedMachines" 58 10 6 := ⟨_, _, _, rfl, (by decide), ly_WM, Or.inl fk_WM_58⟩
theorem ff_WM_58 : gx_ff "WeighedMachines" 58 10 6 (.object "WeighedMachines$BestPath") := ⟨_, _, _, ty_WM, rfl, (by decide), ly_WM, fk_WM_58, tk_WM, nm_WM, rfl, rfl, rfl⟩
theorem fk_WM_65 : Cond.fieldLink "WeighedMachines" 65 (TX_WM 7).1 (TX_WM 7).2.1 (TX_WM 7).2.2.1 ∈ gx_F := gx_F_in (tb_2 (List.mem_of_getElem? (i := 17) (by decide +kernel))) rfl
theorem fd_WM_65 : gx_fd "WeighedMachines" 65 10 7 := ⟨_, _, _, rfl, (by decide), ly_WM, Or.inl fk_WM_65⟩
theorem ff_WM_65 : gx_ff "WeighedMachines" 65 10 7 (.object "WeighedMachines$Text") := ⟨_, _, _, ty_WM, rfl, (by decide), ly_WM, fk_WM_65, tk_WM, nm_WM, rfl, rfl, rfl⟩
theorem fk_WM_72 : Cond.fieldLink "WeighedMachines" 72 (TX_WM 8).1 (TX_WM 8).2.1 (TX_WM 8).2.2.1 ∈ gx_F := gx_F_in (tb_2 (List.mem_of_getElem? (i := 18) (by decide +kernel))) rfl
theorem fd_WM_72 : gx_fd "WeighedMachines" 72 10 8 := ⟨_, _, _, rfl, (by decide), ly_WM, Or.inl fk_WM_72⟩
theorem ff_WM_72 : gx_ff "WeighedMachines" 72 10 8 (.object "WeighedMachines$Parsing") := ⟨_, _, _, ty_WM, rfl, (by decide), ly_WM, fk_WM_72, tk_WM, nm_WM, rfl, rfl, rfl⟩
theorem fk_WM_96 : Cond.fieldLink "WeighedMachines" 96 (TX_Ma 3).1 (TX_Ma 3).2.1 (TX_Ma 3).2.2.1 ∈ gx_F := gx_F_in (tb_1 (List.mem_of_getElem? (i := 63) (by decide +kernel))) rfl
theorem fd_WM_96 : gx_fd "WeighedMachines" 96 4 3 := ⟨_, _, _, rfl, (by decide), ly_Ma, Or.inl fk_WM_96⟩
theorem fk_WM_108 : Cond.fieldLink "WeighedMachines" 108 (TX_Ma 4).1 (TX_Ma 4).2.1 (TX_Ma 4).2.2.1 ∈ gx_F := gx_F_in (tb_1 (List.mem_of_getElem? (i := 71) (by decide +kernel))) rfl
theorem fd_WM_108 : gx_fd "WeighedMachines" 108 4 4 := ⟨_, _, _, rfl, (by decide), ly_Ma, Or.inl fk_WM_108⟩
theorem fk_WM_120 : Cond.fieldLink "WeighedMachines" 120 (TX_Ma 0).1 (TX_Ma 0).2.1 (TX_Ma 0).2.2.1 ∈ gx_F := gx_F_in (tb_1 (List.mem_of_getElem? (i := 42) (by decide +kernel))) rfl
theorem fd_WM_120 : gx_fd "WeighedMachines" 120 4 0 := ⟨_, _, _, rfl, (by decide), ly_Ma, Or.inl fk_WM_120⟩
theorem fk_WM_150 : Cond.fieldLink "WeighedMachines" 150 (TX_Ma 1).1 (TX_Ma 1).2.1 (TX_Ma 1).2.2.1 ∈ gx_F := gx_F_in (tb_1 (List.mem_of_getElem? (i := 53) (by decide +kernel))) rfl
theorem fd_WM_150 : gx_fd "WeighedMachines" 150 4 1 := ⟨_, _, _, rfl, (by decide), ly_Ma, Or.inl fk_WM_150⟩
theorem fk_WM_160 : Cond.fieldLink "WeighedMachines" 160 (TX_Ma 2).1 (TX_Ma 2).2.1 (TX_Ma 2).2.2.1 ∈ gx_F := gx_F_in (tb_1 (List.mem_of_getElem? (i := 60) (by decide +kernel))) rfl
theorem fd_WM_160 : gx_fd "WeighedMachines" 160 4 2 := ⟨_, _, _, rfl, (by decide), ly_Ma, Or.inl fk_WM_160⟩
theorem fk_WM_168 : Cond.fieldLink "WeighedMachines" 168 (TX_BP 0).1 (TX_BP 0).2.1 (TX_BP 0).2.2.1 ∈ gx_F := gx_F_in (tb_1 (List.mem_of_getElem? (i := 203) (by decide +kernel))) rfl
theorem fd_WM_168 : gx_fd "WeighedMachines" 168 1 0 := ⟨_, _, _, rfl, (by decide), ly_BP, Or.inl fk_WM_168⟩
theorem fk_WM_171 : Cond.fieldLink "WeighedMachines" 171 (TX_BP 1).1 (TX_BP 1).2.1 (TX_BP 1).2.2.1 ∈ gx_F := gx_F_in (tb_1 (List.mem_of_getElem? (i := 205) (by decide +kernel))) rfl
theorem fd_WM_171 : gx_fd "WeighedMachines" 171 1 1 := ⟨_, _, _, rfl, (by decide), ly_BP, Or.inl fk_WM_171⟩
theorem fk_WM_175 : Cond.fieldLink "WeighedMachines" 175 (TX_BP 2).1 (TX_BP 2).2.1 (TX_BP 2).2.2.1 ∈ gx_F := gx_F_in (tb_1 (List.mem_of_getElem? (i := 207) (by decide +kernel))) rfl
theorem fd_WM_175 : gx_fd "WeighedMachines" 175 1 2 := ⟨_, _, _, rfl, (by decide), ly_BP, Or.inl fk_WM_175⟩
theorem fk_WM_186 : Cond.fieldLink "WeighedMachines" 186 (TX_Ma 5).1 (TX_Ma 5).2.1 (TX_Ma 5).2.2.1 ∈ gx_F := gx_F_in (tb_1 (List.mem_of_getElem? (i := 81) (by decide +kernel))) rfl
theorem fd_WM_186 : gx_fd "WeighedMachines" 186 4 5 := ⟨_, _, _, rfl, (by decide), ly_Ma, Or.inl fk_WM_186⟩
theorem fk_WM_187 : Cond.fieldLink "WeighedMachines" 187 (TX_Ma 6).1 (TX_Ma 6).2.1 (TX_Ma 6).2.2.1 ∈ gx_F := gx_F_in (tb_1 (List.mem_of_getElem? (i := 90) (by decide +kernel))) rfl
theorem fd_WM_187 : gx_fd "WeighedMachines" 187 4 6 := ⟨_, _, _, rfl, (by decide), ly_Ma, Or.inl fk_WM_187⟩
theorem fk_WM_191 : Cond.fieldLink "WeighedMachines" 191 (TX_Te 0).1 (TX_Te 0).2.1 (TX_Te 0).2.2.1 ∈ gx_F := gx_F_in (tb_1 (List.mem_of_getElem? (i := 223) (by decide +kernel))) rfl
theorem fd_WM_191 : gx_fd "WeighedMachines" 191 8 0 := ⟨_, _, _, rfl, (by decide), ly_Te, Or.inl fk_WM_191⟩
theorem fw_WM_191 : gx_fw "WeighedMachines" 191 8 0 .int := ⟨_, _, _, ty_Te, rfl, (by decide), ly_Te, Or.inl fk_WM_191, tk_Te, nm_Te, rfl, rfl⟩
theorem fk_Ba_9 : Cond.fieldLink "WeighedMachines$Baring" 9 (TX_Ba 0).1 (TX_Ba 0).2.1 (TX_Ba 0).2.2.1 ∈ gx_F := gx_F_in (tb_1 (List.mem_of_getElem? (i := 133) (by decide +kernel))) rfl
theorem fd_Ba_9 : gx_fd "WeighedMachines$Baring" 9 0 0 := ⟨_, _, _, rfl, (by decide), ly_Ba, Or.inl fk_Ba_9⟩
theorem ff_Ba_9 : gx_ff "WeighedMachines$Baring" 9 0 0 (.array .long) := ⟨_, _, _, ty_Ba, rfl, (by decide), ly_Ba, fk_Ba_9, tk_Ba, nm_Ba, rfl, rfl, rfl⟩
theorem fk_Ba_15 : Cond.fieldLink "WeighedMachines$Baring" 15 (TX_Ma 0).1 (TX_Ma 0).2.1 (TX_Ma 0).2.2.1 ∈ gx_F := gx_F_in (tb_1 (List.mem_of_getElem? (i := 37) (by decide +kernel))) rfl
theorem fd_Ba_15 : gx_fd "WeighedMachines$Baring" 15 4 0 := ⟨_, _, _, rfl, (by decide), ly_Ma, Or.inl fk_Ba_15⟩
theorem fk_Ba_25 : Cond.fieldLink "WeighedMachines$Baring" 25 (TX_Ma 1).1 (TX_Ma 1).2.1 (TX_Ma 1).2.2.1 ∈ gx_F := gx_F_in (tb_1 (List.mem_of_getElem? (i := 47) (by decide +kernel))) rfl
theorem fd_Ba_25 : gx_fd "WeighedMachines$Baring" 25 4 1 := ⟨_, _, _, rfl, (by decide), ly_Ma, Or.inl fk_Ba_25⟩
theorem fk_Ba_28 : Cond.fieldLink "WeighedMachines$Baring" 28 (TX_Ma 2).1 (TX_Ma 2).2.1 (TX_Ma 2).2.2.1 ∈ gx_F := gx_F_in (tb_1 (List.mem_of_getElem? (i := 55) (by decide +kernel))) rfl
theorem fd_Ba_28 : gx_fd "WeighedMachines$Baring" 28 4 2 := ⟨_, _, _, rfl, (by decide), ly_Ma, Or.inl fk_Ba_28⟩
theorem fk_Ba_69 : Cond.fieldLink "WeighedMachines$Baring" 69 (TX_Ma 4).1 (TX_Ma 4).2.1 (TX_Ma 4).2.2.1 ∈ gx_F := gx_F_in (tb_1 (List.mem_of_getElem? (i := 68) (by decide +kernel))) rfl
theorem fd_Ba_69 : gx_fd "WeighedMachines$Baring" 69 4 4 := ⟨_, _, _, rfl, (by decide), ly_Ma, Or.inl fk_Ba_69⟩
theorem fk_Ba_72 : Cond.fieldLink "WeighedMachines$Baring" 72 (TX_Ma 5).1 (TX_Ma 5).2.1 (TX_Ma 5).2.2.1 ∈ gx_F := gx_F_in (tb_1 (List.mem_of_getElem? (i := 76) (by decide +kernel))) rfl
theorem fd_Ba_72 : gx_fd "WeighedMachines$Baring" 72 4 5 := ⟨_, _, _, rfl, (by decide), ly_Ma, Or.inl fk_Ba_72⟩
theorem fk_Ba_90 : Cond.fieldLink "WeighedMachines$Baring" 90 (TX_Ma 6).1 (TX_Ma 6).2.1 (TX_Ma 6).2.2.1 ∈ gx_F := gx_F_in (tb_1 (List.mem_of_getElem? (i := 85) (by decide +kernel))) rfl
theorem fd_Ba_90 : gx_fd "WeighedMachines$Baring" 90 4 6 := ⟨_, _, _, rfl, (by decide), ly_Ma, Or.inl fk_Ba_90⟩
theorem fk_BP_9 : Cond.fieldLink "WeighedMachines$BestPath" 9 (TX_BP 1).1 (TX_BP 1).2.1 (TX_BP 1).2.2.1 ∈ gx_F := gx_F_in (tb_1 (List.mem_of_getElem? (i := 204) (by decide +kernel))) rfl
theorem fd_BP_9 : gx_fd "WeighedMachines$BestPath" 9 1 1 := ⟨_, _, _, rfl, (by decide), ly_BP, Or.inl fk_BP_9⟩
theorem ff_BP_9 : gx_ff "WeighedMachines$BestPath" 9 1 1 (.array .int) := ⟨_, _, _, ty_BP, rfl, (by decide), ly_BP, fk_BP_9, tk_BP, nm_BP, rfl, rfl, rfl⟩
theorem fk_BP_15 : Cond.fieldLink "WeighedMachines$BestPath" 15 (TX_BP 2).1 (TX_BP 2).2.1 (TX_BP 2).2.2.1 ∈ gx_F := gx_F_in (tb_1 (List.mem_of_getElem? (i := 206) (by decide +kernel))) rfl
theorem fd_BP_15 : gx_fd "WeighedMachines$BestPath" 15 1 2 := ⟨_, _, _, rfl, (by decide), ly_BP, Or.inl fk_BP_15⟩
theorem ff_BP_15 : gx_ff "WeighedMachines$BestPath" 15 1 2 (.array .long) := ⟨_, _, _, ty_BP, rfl, (by decide), ly_BP, fk_BP_15, tk_BP, nm_BP, rfl, rfl, rfl⟩
theorem fk_BP_19 : Cond.fieldLink "WeighedMachines$BestPath" 19 (TX_Ma 1).1 (TX_Ma 1).2.1 (TX_Ma 1).2.2.1 ∈ gx_F := gx_F_in (tb_1 (List.mem_of_getElem? (i := 46) (by decide +kernel))) rfl
theorem fd_BP_19 : gx_fd "WeighedMachines$BestPath" 19 4 1 := ⟨_, _, _, rfl, (by decide), ly_Ma, Or.inl fk_BP_19⟩
theorem fk_BP_37 : Cond.fieldLink "WeighedMachines$BestPath" 37 (TX_BP 0).1 (TX_BP 0).2.1 (TX_BP 0).2.2.1 ∈ gx_F := gx_F_in (tb_1 (List.mem_of_getElem? (i := 202) (by decide +kernel))) rfl
theorem fd_BP_37 : gx_fd "WeighedMachines$BestPath" 37 1 0 := ⟨_, _, _, rfl, (by decide), ly_BP, Or.inl fk_BP_37⟩
theorem fw_BP_37 : gx_fw "WeighedMachines$BestPath" 37 1 0 .int := ⟨_, _, _, ty_BP, rfl, (by decide), ly_BP, Or.inl fk_BP_37, tk_BP, nm_BP, rfl, rfl⟩
theorem fk_BP_44 : Cond.fieldLink "WeighedMachines$BestPath" 44 (TX_Ma 5).1 (TX_Ma 5).2.1 (TX_Ma 5).2.2.1 ∈ gx_F := gx_F_in (tb_1 (List.mem_of_getElem? (i := 74) (by decide +kernel))) rfl
theorem fd_BP_44 : gx_fd "WeighedMachines$BestPath" 44 4 5 := ⟨_, _, _, rfl, (by decide), ly_Ma, Or.inl fk_BP_44⟩
theorem fk_BP_45 : Cond.fieldLink "WeighedMachines$BestPath" 45 (TX_Ma 6).1 (TX_Ma 6).2.1 (TX_Ma 6).2.2.1 ∈ gx_F := gx_F_in (tb_1 (List.mem_of_getElem? (i := 83) (by decide +kernel))) rfl
theorem fd_BP_45 : gx_fd "WeighedMachines$BestPath" 45 4 6 := ⟨_, _, _, rfl, (by decide), ly_Ma, Or.inl fk_BP_45⟩
theorem fk_Co_9 : Cond.fieldLink "WeighedMachines$Composing" 9 (TX_Co 3).1 (TX_Co 3).2.1 (TX_Co 3).2.2.1 ∈ gx_F := gx_F_in (tb_1 (List.mem_of_getElem? (i := 117) (by decide +kernel))) rfl
theorem fd_Co_9 : gx_fd "WeighedMachines$Composing" 9 2 3 := ⟨_, _, _, rfl, (by decide), ly_Co, Or.inl fk_Co_9⟩
theorem ff_Co_9 : gx_ff "WeighedMachines$Composing" 9 2 3 (.array .int) := ⟨_, _, _, ty_Co, rfl, (by decide), ly_Co, fk_Co_9, tk_Co, nm_Co, rfl, rfl, rfl⟩
theorem fk_Co_15 : Cond.fieldLink "WeighedMachines$Composing" 15 (TX_Co 0).1 (TX_Co 0).2.1 (TX_Co 0).2.2.1 ∈ gx_F := gx_F_in (tb_1 (List.mem_of_getElem? (i := 114) (by decide +kernel))) rfl
theorem fd_Co_15 : gx_fd "WeighedMachines$Composing" 15 2 0 := ⟨_, _, _, rfl, (by decide), ly_Co, Or.inl fk_Co_15⟩
theorem fw_Co_15 : gx_fw "WeighedMachines$Composing" 15 2 0 (.object "WeighedMachines$Machine") := ⟨_, _, _, ty_Co, rfl, (by decide), ly_Co, Or.inl fk_Co_15, tk_Co, nm_Co, rfl, rfl⟩
theorem fk_Co_19 : Cond.fieldLink "WeighedMachines$Composing" 19 (TX_Co 1).1 (TX_Co 1).2.1 (TX_Co 1).2.2.1 ∈ gx_F := gx_F_in (tb_1 (List.mem_of_getElem? (i := 115) (by decide +kernel))) rfl
theorem fd_Co_19 : gx_fd "WeighedMachines$Composing" 19 2 1 := ⟨_, _, _, rfl, (by decide), ly_Co, Or.inl fk_Co_19⟩
theorem fw_Co_19 : gx_fw "WeighedMachines$Composing" 19 2 1 (.object "WeighedMachines$Machine") := ⟨_, _, _, ty_Co, rfl, (by decide), ly_Co, Or.inl fk_Co_19, tk_Co, nm_Co, rfl, rfl⟩
theorem fk_Co_22 : Cond.fieldLink "WeighedMachines$Composing" 22 (TX_Co 2).1 (TX_Co 2).2.1 (TX_Co 2).2.2.1 ∈ gx_F := gx_F_in (tb_1 (List.mem_of_getElem? (i := 116) (by decide +kernel))) rfl
theorem fd_Co_22 : gx_fd "WeighedMachines$Composing" 22 2 2 := ⟨_, _, _, rfl, (by decide), ly_Co, Or.inl fk_Co_22⟩
theorem fw_Co_22 : gx_fw "WeighedMachines$Composing" 22 2 2 (.object "WeighedMachines$Machine") := ⟨_, _, _, ty_Co, rfl, (by decide), ly_Co, Or.inl fk_Co_22, tk_Co, nm_Co, rfl, rfl⟩
theorem fk_Co_31 : Cond.fieldLink "WeighedMachines$Composing" 31 (TX_Ma 1).1 (TX_Ma 1).2.1 (TX_Ma 1).2.2.1 ∈ gx_F := gx_F_in (tb_1 (List.mem_of_getElem? (i := 49) (by decide +kernel))) rfl
theorem fd_Co_31 : gx_fd "WeighedMachines$Composing" 31 4 1 := ⟨_, _, _, rfl, (by decide), ly_Ma, Or.inl fk_Co_31⟩
theorem fk_Co_43 : Cond.fieldLink "WeighedMachines$Composing" 43 (TX_Ma 2).1 (TX_Ma 2).2.1 (TX_Ma 2).2.2.1 ∈ gx_F := gx_F_in (tb_1 (List.mem_of_getElem? (i := 57) (by decide +kernel))) rfl
theorem fd_Co_43 : gx_fd "WeighedMachines$Composing" 43 4 2 := ⟨_, _, _, rfl, (by decide), ly_Ma, Or.inl fk_Co_43⟩
theorem fk_Co_51 : Cond.fieldLink "WeighedMachines$Composing" 51 (TX_Ma 0).1 (TX_Ma 0).2.1 (TX_Ma 0).2.2.1 ∈ gx_F := gx_F_in (tb_1 (List.mem_of_getElem? (i := 40) (by decide +kernel))) rfl
theorem fd_Co_51 : gx_fd "WeighedMachines$Composing" 51 4 0 := ⟨_, _, _, rfl, (by decide), ly_Ma, Or.inl fk_Co_51⟩
theorem fw_Co_51 : gx_fw "WeighedMachines$Composing" 51 4 0 .int := ⟨_, _, _, ty_Ma, rfl, (by decide), ly_Ma, Or.inl fk_Co_51, tk_Ma, nm_Ma, rfl, rfl⟩
theorem fk_Co_82 : Cond.fieldLink "WeighedMachines$Composing" 82 (TX_Ma 5).1 (TX_Ma 5).2.1 (TX_Ma 5).2.2.1 ∈ gx_F := gx_F_in (tb_1 (List.mem_of_getElem? (i := 79) (by decide +kernel))) rfl
theorem fd_Co_82 : gx_fd "WeighedMachines$Composing" 82 4 5 := ⟨_, _, _, rfl, (by decide), ly_Ma, Or.inl fk_Co_82⟩
theorem fk_Co_98 : Cond.fieldLink "WeighedMachines$Composing" 98 (TX_Ma 6).1 (TX_Ma 6).2.1 (TX_Ma 6).2.2.1 ∈ gx_F := gx_F_in (tb_1 (List.mem_of_getElem? (i := 88) (by decide +kernel))) rfl
theorem fd_Co_98 : gx_fd "WeighedMachines$Composing" 98 4 6 := ⟨_, _, _, rfl, (by decide), ly_Ma, Or.inl fk_Co_98⟩
theorem fk_De_9 : Cond.fieldLink "WeighedMachines$Determining" 9 (TX_De 2).1 (TX_De 2).2.1 (TX_De 2).2.2.1 ∈ gx_F := gx_F_in (tb_1 (List.mem_of_getElem? (i := 145) (by decide +kernel))) rfl
theorem fd_De_9 : gx_fd "WeighedMachines$Determining" 9 3 2 := ⟨_, _, _, rfl, (by decide), ly_De, Or.inl fk_De_9⟩
theorem ff_De_9 : gx_ff "WeighedMachines$Determining" 9 3 2 (.array .long) := ⟨_, _, _, ty_De, rfl, (by decide), ly_De, fk_De_9, tk_De, nm_De, rfl, rfl, rfl⟩
theorem fk_De_15 : Cond.fieldLink "WeighedMachines$Determining" 15 (TX_De 3).1 (TX_De 3).2.1 (TX_De 3).2.2.1 ∈ gx_F := gx_F_in (tb_1 (List.mem_of_getElem? (i := 146) (by decide +kernel))) rfl
theorem fd_De_15 : gx_fd "WeighedMachines$Determining" 15 3 3 := ⟨_, _, _, rfl, (by decide), ly_De, Or.inl fk_De_15⟩
theorem ff_De_15 : gx_ff "WeighedMachines$Determining" 15 3 3 (.array .long) := ⟨_, _, _, ty_De, rfl, (by decide), ly_De, fk_De_15, tk_De, nm_De, rfl, rfl, rfl⟩
theorem fk_De_18 : Cond.fieldLink "WeighedMachines$Determining" 18 (TX_De 0).1 (TX_De 0).2.1 (TX_De 0).2.2.1 ∈ gx_F := gx_F_in (tb_1 (List.mem_of_getElem? (i := 143) (by decide +kernel))) rfl
theorem fd_De_18 : gx_fd "WeighedMachines$Determining" 18 3 0 := ⟨_, _, _, rfl, (by decide), ly_De, Or.inl fk_De_18⟩
theorem fw_De_18 : gx_fw "WeighedMachines$Determining" 18 3 0 (.object "WeighedMachines$Machine") := ⟨_, _, _, ty_De, rfl, (by decide), ly_De, Or.inl fk_De_18, tk_De, nm_De, rfl, rfl⟩
theorem fk_De_22 : Cond.fieldLink "WeighedMachines$Determining" 22 (TX_De 1).1 (TX_De 1).2.1 (TX_De 1).2.2.1 ∈ gx_F := gx_F_in (tb_1 (List.mem_of_getElem? (i := 144) (by decide +kernel))) rfl
theorem fd_De_22 : gx_fd "WeighedMachines$Determining" 22 3 1 := ⟨_, _, _, rfl, (by decide), ly_De, Or.inl fk_De_22⟩
theorem fw_De_22 : gx_fw "WeighedMachines$Determining" 22 3 1 (.object "WeighedMachines$Machine") := ⟨_, _, _, ty_De, rfl, (by decide), ly_De, Or.inl fk_De_22, tk_De, nm_De, rfl, rfl⟩
theorem fk_De_31 : Cond.fieldLink "WeighedMachines$Determining" 31 (TX_Ma 1).1 (TX_Ma 1).2.1 (TX_Ma 1).2.2.1 ∈ gx_F := gx_F_in (tb_1 (List.mem_of_getElem? (i := 48) (by decide +kernel))) rfl
theorem fd_De_31 : gx_fd "WeighedMachines$Determining" 31 4 1 := ⟨_, _, _, rfl, (by decide), ly_Ma, Or.inl fk_De_31⟩
theorem fk_De_47 : Cond.fieldLink "WeighedMachines$Determining" 47 (TX_Ma 2).1 (TX_Ma 2).2.1 (TX_Ma 2).2.2.1 ∈ gx_F := gx_F_in (tb_1 (List.mem_of_getElem? (i := 56) (by decide +kernel))) rfl
theorem fd_De_47 : gx_fd "WeighedMachines$Determining" 47 4 2 := ⟨_, _, _, rfl, (by decide), ly_Ma, Or.inl fk_De_47⟩
theorem fk_De_55 : Cond.fieldLink "WeighedMachines$Determining" 55 (TX_Ma 0).1 (TX_Ma 0).2.1 (TX_Ma 0).2.2.1 ∈ gx_F := gx_F_in (tb_1 (List.mem_of_getElem? (i := 39) (by decide +kernel))) rfl
theorem fd_De_55 : gx_fd "WeighedMachines$Determining" 55 4 0 := ⟨_, _, _, rfl, (by decide), ly_Ma, Or.inl fk_De_55⟩
theorem fw_De_55 : gx_fw "WeighedMachines$Determining" 55 4 0 .int := ⟨_, _, _, ty_Ma, rfl, (by decide), ly_Ma, Or.inl fk_De_55, tk_Ma, nm_Ma, rfl, rfl⟩
theorem fk_De_94 : Cond.fieldLink "WeighedMachines$Determining" 94 (TX_Ma 4).1 (TX_Ma 4).2.1 (TX_Ma 4).2.2.1 ∈ gx_F := gx_F_in (tb_1 (List.mem_of_getElem? (i := 70) (by decide +kernel))) rfl
theorem fd_De_94 : gx_fd "WeighedMachines$Determining" 94 4 4 := ⟨_, _, _, rfl, (by decide), ly_Ma, Or.inl fk_De_94⟩
theorem fk_De_97 : Cond.fieldLink "WeighedMachines$Determining" 97 (TX_Ma 5).1 (TX_Ma 5).2.1 (TX_Ma 5).2.2.1 ∈ gx_F := gx_F_in (tb_1 (List.mem_of_getElem? (i := 78) (by decide +kernel))) rfl
theorem fd_De_97 : gx_fd "WeighedMachines$Determining" 97 4 5 := ⟨_, _, _, rfl, (by decide), ly_Ma, Or.inl fk_De_97⟩
theorem fk_De_105 : Cond.fieldLink "WeighedMachines$Determining" 105 (TX_Ma 6).1 (TX_Ma 6).2.1 (TX_Ma 6).2.2.1 ∈ gx_F := gx_F_in (tb_1 (List.mem_of_getElem? (i := 87) (by decide +kernel))) rfl
theorem fd_De_105 : gx_fd "WeighedMachines$Determining" 105 4 6 := ⟨_, _, _, rfl, (by decide), ly_Ma, Or.inl fk_De_105⟩
theorem fk_Ma_9 : Cond.fieldLink "WeighedMachines$Machine" 9 (TX_Ma 1).1 (TX_Ma 1).2.1 (TX_Ma 1).2.2.1 ∈ gx_F := gx_F_in (tb_1 (List.mem_of_getElem? (i := 45) (by decide +kernel))) rfl
theorem fd_Ma_9 : gx_fd "WeighedMachines$Machine" 9 4 1 := ⟨_, _, _, rfl, (by decide), ly_Ma, Or.inl fk_Ma_9⟩
theorem fw_Ma_9 : gx_fw "WeighedMachines$Machine" 9 4 1 .int := ⟨_, _, _, ty_Ma, rfl, (by decide), ly_Ma, Or.inl fk_Ma_9, tk_Ma, nm_Ma, rfl, rfl⟩
theorem fk_Ma_15 : Cond.fieldLink "WeighedMachines$Machine" 15 (TX_Ma 3).1 (TX_Ma 3).2.1 (TX_Ma 3).2.2.1 ∈ gx_F := gx_F_in (tb_1 (List.mem_of_getElem? (i := 61) (by decide +kernel))) rfl
theorem fd_Ma_15 : gx_fd "WeighedMachines$Machine" 15 4 3 := ⟨_, _, _, rfl, (by decide), ly_Ma, Or.inl fk_Ma_15⟩
theorem ff_Ma_15 : gx_ff "WeighedMachines$Machine" 15 4 3 (.array .long) := ⟨_, _, _, ty_Ma, rfl, (by decide), ly_Ma, fk_Ma_15, tk_Ma, nm_Ma, rfl, rfl, rfl⟩
theorem fk_Ma_27 : Cond.fieldLink "WeighedMachines$Machine" 27 (TX_Ma 5).1 (TX_Ma 5).2.1 (TX_Ma 5).2.2.1 ∈ gx_F := gx_F_in (tb_1 (List.mem_of_getElem? (i := 73) (by decide +kernel))) rfl
theorem fd_Ma_27 : gx_fd "WeighedMachines$Machine" 27 4 5 := ⟨_, _, _, rfl, (by decide), ly_Ma, Or.inl fk_Ma_27⟩
theorem ff_Ma_27 : gx_ff "WeighedMachines$Machine" 27 4 5 (.array .int) := ⟨_, _, _, ty_Ma, rfl, (by decide), ly_Ma, fk_Ma_27, tk_Ma, nm_Ma, rfl, rfl, rfl⟩
theorem fk_Ma_31 : Cond.fieldLink "WeighedMachines$Machine" 31 (TX_Ma 6).1 (TX_Ma 6).2.1 (TX_Ma 6).2.2.1 ∈ gx_F := gx_F_in (tb_1 (List.mem_of_getElem? (i := 82) (by decide +kernel))) rfl
theorem fd_Ma_31 : gx_fd "WeighedMachines$Machine" 31 4 6 := ⟨_, _, _, rfl, (by decide), ly_Ma, Or.inl fk_Ma_31⟩
theorem ff_Ma_31 : gx_ff "WeighedMachines$Machine" 31 4 6 (.array .long) := ⟨_, _, _, ty_Ma, rfl, (by decide), ly_Ma, fk_Ma_31, tk_Ma, nm_Ma, rfl, rfl, rfl⟩
theorem fk_Ma_34 : Cond.fieldLink "WeighedMachines$Machine" 34 (TX_Ma 0).1 (TX_Ma 0).2.1 (TX_Ma 0).2.2.1 ∈ gx_F := gx_F_in (tb_1 (List.mem_of_getElem? (i := 36) (by decide +kernel))) rfl
theorem fd_Ma_34 : gx_fd "WeighedMachines$Machine" 34 4 0 := ⟨_, _, _, rfl, (by decide), ly_Ma, Or.inl fk_Ma_34⟩
theorem fw_Ma_34 : gx_fw "WeighedMachines$Machine" 34 4 0 .int := ⟨_, _, _, ty_Ma, rfl, (by decide), ly_Ma, Or.inl fk_Ma_34, tk_Ma, nm_Ma, rfl, rfl⟩
theorem fk_Ma_37 : Cond.fieldLink "WeighedMachines$Machine" 37 (TX_Ma 2).1 (TX_Ma 2).2.1 (TX_Ma 2).2.2.1 ∈ gx_F := gx_F_in (tb_1 (List.mem_of_getElem? (i := 54) (by decide +kernel))) rfl
theorem fd_Ma_37 : gx_fd "WeighedMachines$Machine" 37 4 2 := ⟨_, _, _, rfl, (by decide), ly_Ma, Or.inl fk_Ma_37⟩
theorem fw_Ma_37 : gx_fw "WeighedMachines$Machine" 37 4 2 .long := ⟨_, _, _, ty_Ma, rfl, (by decide), ly_Ma, Or.inl fk_Ma_37, tk_Ma, nm_Ma, rfl, rfl⟩
theorem fk_Ma_41 : Cond.fieldLink "WeighedMachines$Machine" 41 (TX_Ma 4).1 (TX_Ma 4).2.1 (TX_Ma 4).2.2.1 ∈ gx_F := gx_F_in (tb_1 (List.mem_of_getElem? (i := 66) (by decide +kernel))) rfl
theorem fd_Ma_41 : gx_fd "WeighedMachines$Machine" 41 4 4 := ⟨_, _, _, rfl, (by decide), ly_Ma, Or.inl fk_Ma_41⟩
theorem fw_Ma_41 : gx_fw "WeighedMachines$Machine" 41 4 4 .int := ⟨_, _, _, ty_Ma, rfl, (by decide), ly_Ma, Or.inl fk_Ma_41, tk_Ma, nm_Ma, rfl, rfl⟩
theorem fk_On_9 : Cond.fieldLink "WeighedMachines$Onward" 9 (TX_On 0).1 (TX_On 0).2.1 (TX_On 0).2.2.1 ∈ gx_F := gx_F_in (tb_1 (List.mem_of_getElem? (i := 162) (by decide +kernel))) rfl
theorem fd_On_9 : gx_fd "WeighedMachines$Onward" 9 5 0 := ⟨_, _, _, rfl, (by decide), ly_On, Or.inl fk_On_9⟩
theorem ff_On_9 : gx_ff "WeighedMachines$Onward" 9 5 0 (.array .long) := ⟨_, _, _, ty_On, rfl, (by decide), ly_On, fk_On_9, tk_On, nm_On, rfl, rfl, rfl⟩
theorem fk_On_15 : Cond.fieldLink "WeighedMachines$Onward" 15 (TX_Ma 0).1 (TX_Ma 0).2.1 (TX_Ma 0).2.2.1 ∈ gx_F := gx_F_in (tb_1 (List.mem_of_getElem? (i := 38) (by decide +kernel))) rfl
theorem fd_On_15 : gx_fd "WeighedMachines$Onward" 15 4 0 := ⟨_, _, _, rfl, (by decide), ly_Ma, Or.inl fk_On_15⟩
theorem fk_On_21 : Cond.fieldLink "WeighedMachines$Onward" 21 (TX_Ma 3).1 (TX_Ma 3).2.1 (TX_Ma 3).2.2.1 ∈ gx_F := gx_F_in (tb_1 (List.mem_of_getElem? (i := 62) (by decide +kernel))) rfl
theorem fd_On_21 : gx_fd "WeighedMachines$Onward" 21 4 3 := ⟨_, _, _, rfl, (by decide), ly_Ma, Or.inl fk_On_21⟩
theorem fk_On_30 : Cond.fieldLink "WeighedMachines$Onward" 30 (TX_Ma 4).1 (TX_Ma 4).2.1 (TX_Ma 4).2.2.1 ∈ gx_F := gx_F_in (tb_1 (List.mem_of_getElem? (i := 67) (by decide +kernel))) rfl
theorem fd_On_30 : gx_fd "WeighedMachines$Onward" 30 4 4 := ⟨_, _, _, rfl, (by decide), ly_Ma, Or.inl fk_On_30⟩
theorem fk_On_37 : Cond.fieldLink "WeighedMachines$Onward" 37 (TX_Ma 5).1 (TX_Ma 5).2.1 (TX_Ma 5).2.2.1 ∈ gx_F := gx_F_in (tb_1 (List.mem_of_getElem? (i := 75) (by decide +kernel))) rfl
theorem fd_On_37 : gx_fd "WeighedMachines$Onward" 37 4 5 := ⟨_, _, _, rfl, (by decide), ly_Ma, Or.inl fk_On_37⟩
theorem fk_On_48 : Cond.fieldLink "WeighedMachines$Onward" 48 (TX_Ma 6).1 (TX_Ma 6).2.1 (TX_Ma 6).2.2.1 ∈ gx_F := gx_F_in (tb_1 (List.mem_of_getElem? (i := 84) (by decide +kernel))) rfl
theorem fd_On_48 : gx_fd "WeighedMachines$Onward" 48 4 6 := ⟨_, _, _, rfl, (by decide), ly_Ma, Or.inl fk_On_48⟩
theorem fk_Pa_9 : Cond.fieldLink "WeighedMachines$Parsing" 9 (TX_Pa 0).1 (TX_Pa 0).2.1 (TX_Pa 0).2.2.1 ∈ gx_F := gx_F_in (tb_1 (List.mem_of_getElem? (i := 237) (by decide +kernel))) rfl
theorem fd_Pa_9 : gx_fd "WeighedMachines$Parsing" 9 6 0 := ⟨_, _, _, rfl, (by decide), ly_Pa, Or.inl fk_Pa_9⟩
theorem fw_Pa_9 : gx_fw "WeighedMachines$Parsing" 9 6 0 (.object "WeighedMachines$Text") := ⟨_, _, _, ty_Pa, rfl, (by decide), ly_Pa, Or.inl fk_Pa_9, tk_Pa, nm_Pa, rfl, rfl⟩
theorem fk_Pa_15 : Cond.fieldLink "WeighedMachines$Parsing" 15 (TX_Pa 1).1 (TX_Pa 1).2.1 (TX_Pa 1).2.2.1 ∈ gx_F := gx_F_in (tb_1 (List.mem_of_getElem? (i := 238) (by decide +kernel))) rfl
theorem fd_Pa_15 : gx_fd "WeighedMachines$Parsing" 15 6 1 := ⟨_, _, _, rfl, (by decide), ly_Pa, Or.inl fk_Pa_15⟩
theorem fw_Pa_15 : gx_fw "WeighedMachines$Parsing" 15 6 1 (.object "WeighedMachines$Machine") := ⟨_, _, _, ty_Pa, rfl, (by decide), ly_Pa, Or.inl fk_Pa_15, tk_Pa, nm_Pa, rfl, rfl⟩
theorem fk_Pa_19 : Cond.fieldLink "WeighedMachines$Parsing" 19 (TX_Pa 2).1 (TX_Pa 2).2.1 (TX_Pa 2).2.2.1 ∈ gx_F := gx_F_in (tb_1 (List.mem_of_getElem? (i := 239) (by decide +kernel))) rfl
theorem fd_Pa_19 : gx_fd "WeighedMachines$Parsing" 19 6 2 := ⟨_, _, _, rfl, (by decide), ly_Pa, Or.inl fk_Pa_19⟩
theorem fw_Pa_19 : gx_fw "WeighedMachines$Parsing" 19 6 2 .int := ⟨_, _, _, ty_Pa, rfl, (by decide), ly_Pa, Or.inl fk_Pa_19, tk_Pa, nm_Pa, rfl, rfl⟩
theorem fk_Pa_27 : Cond.fieldLink "WeighedMachines$Parsing" 27 (TX_Te 0).1 (TX_Te 0).2.1 (TX_Te 0).2.2.1 ∈ gx_F := gx_F_in (tb_1 (List.mem_of_getElem? (i := 222) (by decide +kernel))) rfl
theorem fd_Pa_27 : gx_fd "WeighedMachines$Parsing" 27 8 0 := ⟨_, _, _, rfl, (by decide), ly_Te, Or.inl fk_Pa_27⟩
theorem fk_Pa_45 : Cond.fieldLink "WeighedMachines$Parsing" 45 (TX_Pa 3).1 (TX_Pa 3).2.1 (TX_Pa 3).2.2.1 ∈ gx_F := gx_F_in (tb_2 (List.mem_of_getElem? (i := 0) (by decide +kernel))) rfl
theorem fd_Pa_45 : gx_fd "WeighedMachines$Parsing" 45 6 3 := ⟨_, _, _, rfl, (by decide), ly_Pa, Or.inl fk_Pa_45⟩
theorem fw_Pa_45 : gx_fw "WeighedMachines$Parsing" 45 6 3 .long := ⟨_, _, _, ty_Pa, rfl, (by decide), ly_Pa, Or.inl fk_Pa_45, tk_Pa, nm_Pa, rfl, rfl⟩
theorem fk_Pa_71 : Cond.fieldLink "WeighedMachines$Parsing" 71 (TX_Ma 1).1 (TX_Ma 1).2.1 (TX_Ma 1).2.2.1 ∈ gx_F := gx_F_in (tb_1 (List.mem_of_getElem? (i := 51) (by decide +kernel))) rfl
theorem fd_Pa_71 : gx_fd "WeighedMachines$Parsing" 71 4 1 := ⟨_, _, _, rfl, (by decide), ly_Ma, Or.inl fk_Pa_71⟩
theorem fk_Pa_81 : Cond.fieldLink "WeighedMachines$Parsing" 81 (TX_Ma 3).1 (TX_Ma 3).2.1 (TX_Ma 3).2.2.1 ∈ gx_F := gx_F_in (tb_1 (List.mem_of_getElem? (i := 64) (by decide +kernel))) rfl
theorem fd_Pa_81 : gx_fd "WeighedMachines$Parsing" 81 4 3 := ⟨_, _, _, rfl, (by decide), ly_Ma, Or.inl fk_Pa_81⟩
theorem fk_Pa_102 : Cond.fieldLink "WeighedMachines$Parsing" 102 (TX_Ma 0).1 (TX_Ma 0).2.1 (TX_Ma 0).2.2.1 ∈ gx_F := gx_F_in (tb_1 (List.mem_of_getElem? (i := 43) (by decide +kernel))) rfl
theorem fd_Pa_102 : gx_fd "WeighedMachines$Parsing" 102 4 0 := ⟨_, _, _, rfl, (by decide), ly_Ma, Or.inl fk_Pa_102⟩
theorem fk_Ro_9 : Cond.fieldLink "WeighedMachines$Row" 9 (TX_Ro 1).1 (TX_Ro 1).2.1 (TX_Ro 1).2.2.1 ∈ gx_F := gx_F_in (tb_1 (List.mem_of_getElem? (i := 180) (by decide +kernel))) rfl
theorem fd_Ro_9 : gx_fd "WeighedMachines$Row" 9 7 1 := ⟨_, _, _, rfl, (by decide), ly_Ro, Or.inl fk_Ro_9⟩
theorem ff_Ro_9 : gx_ff "WeighedMachines$Row" 9 7 1 (.array .int) := ⟨_, _, _, ty_Ro, rfl, (by decide), ly_Ro, fk_Ro_9, tk_Ro, nm_Ro, rfl, rfl, rfl⟩
theorem fk_Ro_15 : Cond.fieldLink "WeighedMachines$Row" 15 (TX_Ro 0).1 (TX_Ro 0).2.1 (TX_Ro 0).2.2.1 ∈ gx_F := gx_F_in (tb_1 (List.mem_of_getElem? (i := 178) (by decide +kernel))) rfl
theorem fd_Ro_15 : gx_fd "WeighedMachines$Row" 15 7 0 := ⟨_, _, _, rfl, (by decide), ly_Ro, Or.inl fk_Ro_15⟩
theorem fw_Ro_15 : gx_fw "WeighedMachines$Row" 15 7 0 .int := ⟨_, _, _, ty_Ro, rfl, (by decide), ly_Ro, Or.inl fk_Ro_15, tk_Ro, nm_Ro, rfl, rfl⟩
theorem fk_Te_9 : Cond.fieldLink "WeighedMachines$Text" 9 (TX_Te 1).1 (TX_Te 1).2.1 (TX_Te 1).2.2.1 ∈ gx_F := gx_F_in (tb_1 (List.mem_of_getElem? (i := 224) (by decide +kernel))) rfl
theorem fd_Te_9 : gx_fd "WeighedMachines$Text" 9 8 1 := ⟨_, _, _, rfl, (by decide), ly_Te, Or.inl fk_Te_9⟩
theorem ff_Te_9 : gx_ff "WeighedMachines$Text" 9 8 1 (.array .char) := ⟨_, _, _, ty_Te, rfl, (by decide), ly_Te, fk_Te_9, tk_Te, nm_Te, rfl, rfl, rfl⟩
theorem fk_Te_15 : Cond.fieldLink "WeighedMachines$Text" 15 (TX_Te 0).1 (TX_Te 0).2.1 (TX_Te 0).2.2.1 ∈ gx_F := gx_F_in (tb_1 (List.mem_of_getElem? (i := 221) (by decide +kernel))) rfl
theorem fd_Te_15 : gx_fd "WeighedMachines$Text" 15 8 0 := ⟨_, _, _, rfl, (by decide), ly_Te, Or.inl fk_Te_15⟩
theorem fw_Te_15 : gx_fw "WeighedMachines$Text" 15 8 0 .int := ⟨_, _, _, ty_Te, rfl, (by decide), ly_Te, Or.inl fk_Te_15, tk_Te, nm_Te, rfl, rfl⟩
theorem fk_Te_45 : Cond.fieldLink "WeighedMachines$Text" 45 (TX_Ma 0).1 (TX_Ma 0).2.1 (TX_Ma 0).2.2.1 ∈ gx_F := gx_F_in (tb_1 (List.mem_of_getElem? (i := 44) (by decide +kernel))) rfl
theorem fd_Te_45 : gx_fd "WeighedMachines$Text" 45 4 0 := ⟨_, _, _, rfl, (by decide), ly_Ma, Or.inl fk_Te_45⟩
theorem fk_Te_50 : Cond.fieldLink "WeighedMachines$Text" 50 (TX_Ma 1).1 (TX_Ma 1).2.1 (TX_Ma 1).2.2.1 ∈ gx_F := gx_F_in (tb_1 (List.mem_of_getElem? (i := 52) (by decide +kernel))) rfl
theorem fd_Te_50 : gx_fd "WeighedMachines$Text" 50 4 1 := ⟨_, _, _, rfl, (by decide), ly_Ma, Or.inl fk_Te_50⟩
theorem fk_Te_53 : Cond.fieldLink "WeighedMachines$Text" 53 (TX_Ma 2).1 (TX_Ma 2).2.1 (TX_Ma 2).2.2.1 ∈ gx_F := gx_F_in (tb_1 (List.mem_of_getElem? (i := 59) (by decide +kernel))) rfl
theorem fd_Te_53 : gx_fd "WeighedMachines$Text" 53 4 2 := ⟨_, _, _, rfl, (by decide), ly_Ma, Or.inl fk_Te_53⟩
theorem fk_Te_61 : Cond.fieldLink "WeighedMachines$Text" 61 (TX_Ma 3).1 (TX_Ma 3).2.1 (TX_Ma 3).2.2.1 ∈ gx_F := gx_F_in (tb_1 (List.mem_of_getElem? (i := 65) (by decide +kernel))) rfl
theorem fd_Te_61 : gx_fd "WeighedMachines$Text" 61 4 3 := ⟨_, _, _, rfl, (by decide), ly_Ma, Or.inl fk_Te_61⟩
theorem fk_Te_67 : Cond.fieldLink "WeighedMachines$Text" 67 (TX_Ma 4).1 (TX_Ma 4).2.1 (TX_Ma 4).2.2.1 ∈ gx_F := gx_F_in (tb_1 (List.mem_of_getElem? (i := 72) (by decide +kernel))) rfl
theorem fd_Te_67 : gx_fd "WeighedMachines$Text" 67 4 4 := ⟨_, _, _, rfl, (by decide), ly_Ma, Or.inl fk_Te_67⟩
theorem fk_Te_70 : Cond.fieldLink "WeighedMachines$Text" 70 (TX_Ma 5).1 (TX_Ma 5).2.1 (TX_Ma 5).2.2.1 ∈ gx_F := gx_F_in (tb_1 (List.mem_of_getElem? (i := 80) (by decide +kernel))) rfl
theorem fd_Te_70 : gx_fd "WeighedMachines$Text" 70 4 5 := ⟨_, _, _, rfl, (by decide), ly_Ma, Or.inl fk_Te_70⟩
theorem fk_Te_74 : Cond.fieldLink "WeighedMachines$Text" 74 (TX_Ma 6).1 (TX_Ma 6).2.1 (TX_Ma 6).2.2.1 ∈ gx_F := gx_F_in (tb_1 (List.mem_of_getElem? (i := 89) (by decide +kernel))) rfl
theorem fd_Te_74 : gx_fd "WeighedMachines$Text" 74 4 6 := ⟨_, _, _, rfl, (by decide), ly_Ma, Or.inl fk_Te_74⟩
theorem fk_We_12 : Cond.fieldLink "WeighedMachines$Weighing" 12 (TX_We 0).1 (TX_We 0).2.1 (TX_We 0).2.2.1 ∈ gx_F := gx_F_in (tb_1 (List.mem_of_getElem? (i := 186) (by decide +kernel))) rfl
theorem fd_We_12 : gx_fd "WeighedMachines$Weighing" 12 9 0 := ⟨_, _, _, rfl, (by decide), ly_We, Or.inl fk_We_12⟩
theorem ff_We_12 : gx_ff "WeighedMachines$Weighing" 12 9 0 (.object "WeighedMachines$Row") := ⟨_, _, _, ty_We, rfl, (by decide), ly_We, fk_We_12, tk_We, nm_We, rfl, rfl, rfl⟩
theorem fk_We_18 : Cond.fieldLink "WeighedMachines$Weighing" 18 (TX_We 1).1 (TX_We 1).2.1 (TX_We 1).2.2.1 ∈ gx_F := gx_F_in (tb_1 (List.mem_of_getElem? (i := 187) (by decide +kernel))) rfl
theorem fd_We_18 : gx_fd "WeighedMachines$Weighing" 18 9 1 := ⟨_, _, _, rfl, (by decide), ly_We, Or.inl fk_We_18⟩
theorem ff_We_18 : gx_ff "WeighedMachines$Weighing" 18 9 1 (.object "WeighedMachines$Row") := ⟨_, _, _, ty_We, rfl, (by decide), ly_We, fk_We_18, tk_We, nm_We, rfl, rfl, rfl⟩
theorem fk_We_21 : Cond.fieldLink "WeighedMachines$Weighing" 21 (TX_We 2).1 (TX_We 2).2.1 (TX_We 2).2.2.1 ∈ gx_F := gx_F_in (tb_1 (List.mem_of_getElem? (i := 188) (by decide +kernel))) rfl
theorem fd_We_21 : gx_fd "WeighedMachines$Weighing" 21 9 2 := ⟨_, _, _, rfl, (by decide), ly_We, Or.inl fk_We_21⟩
theorem ff_We_21 : gx_ff "WeighedMachines$Weighing" 21 9 2 (.array .long) := ⟨_, _, _, ty_We, rfl, (by decide), ly_We, fk_We_21, tk_We, nm_We, rfl, rfl, rfl⟩
theorem fk_We_29 : Cond.fieldLink "WeighedMachines$Weighing" 29 (TX_Ma 1).1 (TX_Ma 1).2.1 (TX_Ma 1).2.2.1 ∈ gx_F := gx_F_in (tb_1 (List.mem_of_getElem? (i := 50) (by decide +kernel))) rfl
theorem fd_We_29 : gx_fd "WeighedMachines$Weighing" 29 4 1 := ⟨_, _, _, rfl, (by decide), ly_Ma, Or.inl fk_We_29⟩
theorem fk_We_45 : Cond.fieldLink "WeighedMachines$Weighing" 45 (TX_Ma 2).1 (TX_Ma 2).2.1 (TX_Ma 2).2.2.1 ∈ gx_F := gx_F_in (tb_1 (List.mem_of_getElem? (i := 58) (by decide +kernel))) rfl
theorem fd_We_45 : gx_fd "WeighedMachines$Weighing" 45 4 2 := ⟨_, _, _, rfl, (by decide), ly_Ma, Or.inl fk_We_45⟩
theorem fk_We_49 : Cond.fieldLink "WeighedMachines$Weighing" 49 (TX_Ro 0).1 (TX_Ro 0).2.1 (TX_Ro 0).2.2.1 ∈ gx_F := gx_F_in (tb_1 (List.mem_of_getElem? (i := 179) (by decide +kernel))) rfl
theorem fd_We_49 : gx_fd "WeighedMachines$Weighing" 49 7 0 := ⟨_, _, _, rfl, (by decide), ly_Ro, Or.inl fk_We_49⟩
theorem fk_We_68 : Cond.fieldLink "WeighedMachines$Weighing" 68 (TX_Ma 4).1 (TX_Ma 4).2.1 (TX_Ma 4).2.2.1 ∈ gx_F := gx_F_in (tb_1 (List.mem_of_getElem? (i := 69) (by decide +kernel))) rfl
theorem fd_We_68 : gx_fd "WeighedMachines$Weighing" 68 4 4 := ⟨_, _, _, rfl, (by decide), ly_Ma, Or.inl fk_We_68⟩
theorem fk_We_71 : Cond.fieldLink "WeighedMachines$Weighing" 71 (TX_Ma 5).1 (TX_Ma 5).2.1 (TX_Ma 5).2.2.1 ∈ gx_F := gx_F_in (tb_1 (List.mem_of_getElem? (i := 77) (by decide +kernel))) rfl
theorem fd_We_71 : gx_fd "WeighedMachines$Weighing" 71 4 5 := ⟨_, _, _, rfl, (by decide), ly_Ma, Or.inl fk_We_71⟩
theorem fk_We_94 : Cond.fieldLink "WeighedMachines$Weighing" 94 (TX_Ma 6).1 (TX_Ma 6).2.1 (TX_Ma 6).2.2.1 ∈ gx_F := gx_F_in (tb_1 (List.mem_of_getElem? (i := 86) (by decide +kernel))) rfl
theorem fd_We_94 : gx_fd "WeighedMachines$Weighing" 94 4 6 := ⟨_, _, _, rfl, (by decide), ly_Ma, Or.inl fk_We_94⟩
theorem fk_We_103 : Cond.fieldLink "WeighedMachines$Weighing" 103 (TX_Ma 0).1 (TX_Ma 0).2.1 (TX_Ma 0).2.2.1 ∈ gx_F := gx_F_in (tb_1 (List.mem_of_getElem? (i := 41) (by decide +kernel))) rfl
theorem fd_We_103 : gx_fd "WeighedMachines$Weighing" 103 4 0 := ⟨_, _, _, rfl, (by decide), ly_Ma, Or.inl fk_We_103⟩
theorem fk_Mo_7 : Cond.fieldLink "WeighedMachinesModel" 7 (TX_Mo 0).1 (TX_Mo 0).2.1 (TX_Mo 0).2.2.1 ∈ gx_F := gx_F_in (tb_4 (List.mem_of_getElem? (i := 48) (by decide +kernel))) rfl
theorem fd_Mo_7 : gx_fd "WeighedMachinesModel" 7 11 0 := ⟨_, _, _, rfl, (by decide), ly_Mo, Or.inl fk_Mo_7⟩
theorem ff_Mo_7 : gx_ff "WeighedMachinesModel" 7 11 0 (.array .int) := ⟨_, _, _, ty_Mo, rfl, (by decide), ly_Mo, fk_Mo_7, tk_Mo, nm_Mo, rfl, rfl, rfl⟩
theorem fk_Mo_13 : Cond.fieldLink "WeighedMachinesModel" 13 (TX_Mo 1).1 (TX_Mo 1).2.1 (TX_Mo 1).2.2.1 ∈ gx_F := gx_F_in (tb_4 (List.mem_of_getElem? (i := 49) (by decide +kernel))) rfl
theorem fd_Mo_13 : gx_fd "WeighedMachinesModel" 13 11 1 := ⟨_, _, _, rfl, (by decide), ly_Mo, Or.inl fk_Mo_13⟩
theorem ff_Mo_13 : gx_ff "WeighedMachinesModel" 13 11 1 (.array .int) := ⟨_, _, _, ty_Mo, rfl, (by decide), ly_Mo, fk_Mo_13, tk_Mo, nm_Mo, rfl, rfl, rfl⟩
theorem fk_Mo_16 : Cond.fieldLink "WeighedMachinesModel" 16 (TX_Mo 2).1 (TX_Mo 2).2.1 (TX_Mo 2).2.2.1 ∈ gx_F := gx_F_in (tb_4 (List.mem_of_getElem? (i := 50) (by decide +kernel))) rfl
theorem fd_Mo_16 : gx_fd "WeighedMachinesModel" 16 11 2 := ⟨_, _, _, rfl, (by decide), ly_Mo, Or.inl fk_Mo_16⟩
theorem ff_Mo_16 : gx_ff "WeighedMachinesModel" 16 11 2 (.array .long) := ⟨_, _, _, ty_Mo, rfl, (by decide), ly_Mo, fk_Mo_16, tk_Mo, nm_Mo, rfl, rfl, rfl⟩
theorem fk_Mo_20 : Cond.fieldLink "WeighedMachinesModel" 20 (TX_Mo 3).1 (TX_Mo 3).2.1 (TX_Mo 3).2.2.1 ∈ gx_F := gx_F_in (tb_4 (List.mem_of_getElem? (i := 51) (by decide +kernel))) rfl
theorem fd_Mo_20 : gx_fd "WeighedMachinesModel" 20 11 3 := ⟨_, _, _, rfl, (by decide), ly_Mo, Or.inl fk_Mo_20⟩
theorem ff_Mo_20 : gx_ff "WeighedMachinesModel" 20 11 3 (.array .long) := ⟨_, _, _, ty_Mo, rfl, (by decide), ly_Mo, fk_Mo_20, tk_Mo, nm_Mo, rfl, rfl, rfl⟩
theorem fk_Mo_23 : Cond.fieldLink "WeighedMachinesModel" 23 (TX_Mo 4).1 (TX_Mo 4).2.1 (TX_Mo 4).2.2.1 ∈ gx_F := gx_F_in (tb_4 (List.mem_of_getElem? (i := 52) (by decide +kernel))) rfl
theorem fd_Mo_23 : gx_fd "WeighedMachinesModel" 23 11 4 := ⟨_, _, _, rfl, (by decide), ly_Mo, Or.inl fk_Mo_23⟩
theorem ff_Mo_23 : gx_ff "WeighedMachinesModel" 23 11 4 (.array .int) := ⟨_, _, _, ty_Mo, rfl, (by decide), ly_Mo, fk_Mo_23, tk_Mo, nm_Mo, rfl, rfl, rfl⟩
theorem fk_Mo_26 : Cond.fieldLink "WeighedMachinesModel" 26 (TX_Mo 5).1 (TX_Mo 5).2.1 (TX_Mo 5).2.2.1 ∈ gx_F := gx_F_in (tb_4 (List.mem_of_getElem? (i := 53) (by decide +kernel))) rfl
theorem fd_Mo_26 : gx_fd "WeighedMachinesModel" 26 11 5 := ⟨_, _, _, rfl, (by decide), ly_Mo, Or.inl fk_Mo_26⟩
theorem ff_Mo_26 : gx_ff "WeighedMachinesModel" 26 11 5 (.array .int) := ⟨_, _, _, ty_Mo, rfl, (by decide), ly_Mo, fk_Mo_26, tk_Mo, nm_Mo, rfl, rfl, rfl⟩
theorem fk_Mo_29 : Cond.fieldLink "WeighedMachinesModel" 29 (TX_Mo 6).1 (TX_Mo 6).2.1 (TX_Mo 6).2.2.1 ∈ gx_F := gx_F_in (tb_4 (List.mem_of_getElem? (i := 54) (by decide +kernel))) rfl
theorem fd_Mo_29 : gx_fd "WeighedMachinesModel" 29 11 6 := ⟨_, _, _, rfl, (by decide), ly_Mo, Or.inl fk_Mo_29⟩
theorem ff_Mo_29 : gx_ff "WeighedMachinesModel" 29 11 6 (.array .int) := ⟨_, _, _, ty_Mo, rfl, (by decide), ly_Mo, fk_Mo_29, tk_Mo, nm_Mo, rfl, rfl, rfl⟩
theorem fk_Mo_32 : Cond.fieldLink "WeighedMachinesModel" 32 (TX_Mo 7).1 (TX_Mo 7).2.1 (TX_Mo 7).2.2.1 ∈ gx_F := gx_F_in (tb_4 (List.mem_of_getElem? (i := 55) (by decide +kernel))) rfl
theorem fd_Mo_32 : gx_fd "WeighedMachinesModel" 32 11 7 := ⟨_, _, _, rfl, (by decide), ly_Mo, Or.inl fk_Mo_32⟩
theorem ff_Mo_32 : gx_ff "WeighedMachinesModel" 32 11 7 (.array .int) := ⟨_, _, _, ty_Mo, rfl, (by decide), ly_Mo, fk_Mo_32, tk_Mo, nm_Mo, rfl, rfl, rfl⟩
theorem fk_Mo_35 : Cond.fieldLink "WeighedMachinesModel" 35 (TX_Mo 8).1 (TX_Mo 8).2.1 (TX_Mo 8).2.2.1 ∈ gx_F := gx_F_in (tb_4 (List.mem_of_getElem? (i := 56) (by decide +kernel))) rfl
theorem fd_Mo_35 : gx_fd "WeighedMachinesModel" 35 11 8 := ⟨_, _, _, rfl, (by decide), ly_Mo, Or.inl fk_Mo_35⟩
theorem ff_Mo_35 : gx_ff "WeighedMachinesModel" 35 11 8 (.array .int) := ⟨_, _, _, ty_Mo, rfl, (by decide), ly_Mo, fk_Mo_35, tk_Mo, nm_Mo, rfl, rfl, rfl⟩
theorem fk_Mo_38 : Cond.fieldLink "WeighedMachinesModel" 38 (TX_Mo 9).1 (TX_Mo 9).2.1 (TX_Mo 9).2.2.1 ∈ gx_F := gx_F_in (tb_4 (List.mem_of_getElem? (i := 57) (by decide +kernel))) rfl
theorem fd_Mo_38 : gx_fd "WeighedMachinesModel" 38 11 9 := ⟨_, _, _, rfl, (by decide), ly_Mo, Or.inl fk_Mo_38⟩
theorem ff_Mo_38 : gx_ff "WeighedMachinesModel" 38 11 9 (.array .long) := ⟨_, _, _, ty_Mo, rfl, (by decide), ly_Mo, fk_Mo_38, tk_Mo, nm_Mo, rfl, rfl, rfl⟩
theorem fk_Mo_41 : Cond.fieldLink "WeighedMachinesModel" 41 (TX_Mo 11).1 (TX_Mo 11).2.1 (TX_Mo 11).2.2.1 ∈ gx_F := gx_F_in (tb_4 (List.mem_of_getElem? (i := 59) (by decide +kernel))) rfl
theorem fd_Mo_41 : gx_fd "WeighedMachinesModel" 41 11 11 := ⟨_, _, _, rfl, (by decide), ly_Mo, Or.inl fk_Mo_41⟩
theorem ff_Mo_41 : gx_ff "WeighedMachinesModel" 41 11 11 (.array .int) := ⟨_, _, _, ty_Mo, rfl, (by decide), ly_Mo, fk_Mo_41, tk_Mo, nm_Mo, rfl, rfl, rfl⟩
theorem fk_Mo_44 : Cond.fieldLink "WeighedMachinesModel" 44 (TX_Mo 12).1 (TX_Mo 12).2.1 (TX_Mo 12).2.2.1 ∈ gx_F := gx_F_in (tb_4 (List.mem_of_getElem? (i := 60) (by decide +kernel))) rfl
theorem fd_Mo_44 : gx_fd "WeighedMachinesModel" 44 11 12 := ⟨_, _, _, rfl, (by decide), ly_Mo, Or.inl fk_Mo_44⟩
theorem ff_Mo_44 : gx_ff "WeighedMachinesModel" 44 11 12 (.array .long) := ⟨_, _, _, ty_Mo, rfl, (by decide), ly_Mo, fk_Mo_44, tk_Mo, nm_Mo, rfl, rfl, rfl⟩
theorem fk_Mo_47 : Cond.fieldLink "WeighedMachinesModel" 47 (TX_Mo 13).1 (TX_Mo 13).2.1 (TX_Mo 13).2.2.1 ∈ gx_F := gx_F_in (tb_4 (List.mem_of_getElem? (i := 61) (by decide +kernel))) rfl
theorem fd_Mo_47 : gx_fd "WeighedMachinesModel" 47 11 13 := ⟨_, _, _, rfl, (by decide), ly_Mo, Or.inl fk_Mo_47⟩
theorem ff_Mo_47 : gx_ff "WeighedMachinesModel" 47 11 13 (.array .int) := ⟨_, _, _, ty_Mo, rfl, (by decide), ly_Mo, fk_Mo_47, tk_Mo, nm_Mo, rfl, rfl, rfl⟩
theorem fk_Mo_50 : Cond.fieldLink "WeighedMachinesModel" 50 (TX_Mo 17).1 (TX_Mo 17).2.1 (TX_Mo 17).2.2.1 ∈ gx_F := gx_F_in (tb_4 (List.mem_of_getElem? (i := 65) (by decide +kernel))) rfl
theorem fd_Mo_50 : gx_fd "WeighedMachinesModel" 50 11 17 := ⟨_, _, _, rfl, (by decide), ly_Mo, Or.inl fk_Mo_50⟩
theorem ff_Mo_50 : gx_ff "WeighedMachinesModel" 50 11 17 (.array .long) := ⟨_, _, _, ty_Mo, rfl, (by decide), ly_Mo, fk_Mo_50, tk_Mo, nm_Mo, rfl, rfl, rfl⟩
theorem fk_Mo_53 : Cond.fieldLink "WeighedMachinesModel" 53 (TX_Mo 18).1 (TX_Mo 18).2.1 (TX_Mo 18).2.2.1 ∈ gx_F := gx_F_in (tb_4 (List.mem_of_getElem? (i := 66) (by decide +kernel))) rfl
theorem fd_Mo_53 : gx_fd "WeighedMachinesModel" 53 11 18 := ⟨_, _, _, rfl, (by decide), ly_Mo, Or.inl fk_Mo_53⟩
theorem ff_Mo_53 : gx_ff "WeighedMachinesModel" 53 11 18 (.array .int) := ⟨_, _, _, ty_Mo, rfl, (by decide), ly_Mo, fk_Mo_53, tk_Mo, nm_Mo, rfl, rfl, rfl⟩
theorem fk_Mo_56 : Cond.fieldLink "WeighedMachinesModel" 56 (TX_Mo 19).1 (TX_Mo 19).2.1 (TX_Mo 19).2.2.1 ∈ gx_F := gx_F_in (tb_4 (List.mem_of_getElem? (i := 67) (by decide +kernel))) rfl
theorem fd_Mo_56 : gx_fd "WeighedMachinesModel" 56 11 19 := ⟨_, _, _, rfl, (by decide), ly_Mo, Or.inl fk_Mo_56⟩
theorem ff_Mo_56 : gx_ff "WeighedMachinesModel" 56 11 19 (.array .boolean) := ⟨_, _, _, ty_Mo, rfl, (by decide), ly_Mo, fk_Mo_56, tk_Mo, nm_Mo, rfl, rfl, rfl⟩
theorem fk_Mo_60 : Cond.fieldLink "WeighedMachinesModel" 60 (TX_Mo 20).1 (TX_Mo 20).2.1 (TX_Mo 20).2.2.1 ∈ gx_F := gx_F_in (tb_4 (List.mem_of_getElem? (i := 68) (by decide +kernel))) rfl
theorem fd_Mo_60 : gx_fd "WeighedMachinesModel" 60 11 20 := ⟨_, _, _, rfl, (by decide), ly_Mo, Or.inl fk_Mo_60⟩
theorem ff_Mo_60 : gx_ff "WeighedMachinesModel" 60 11 20 (.array .long) := ⟨_, _, _, ty_Mo, rfl, (by decide), ly_Mo, fk_Mo_60, tk_Mo, nm_Mo, rfl, rfl, rfl⟩
theorem fk_Mo_63 : Cond.fieldLink "WeighedMachinesModel" 63 (TX_Mo 21).1 (TX_Mo 21).2.1 (TX_Mo 21).2.2.1 ∈ gx_F := gx_F_in (tb_4 (List.mem_of_getElem? (i := 69) (by decide +kernel))) rfl
theorem fd_Mo_63 : gx_fd "WeighedMachinesModel" 63 11 21 := ⟨_, _, _, rfl, (by decide), ly_Mo, Or.inl fk_Mo_63⟩
theorem ff_Mo_63 : gx_ff "WeighedMachinesModel" 63 11 21 (.array .int) := ⟨_, _, _, ty_Mo, rfl, (by decide), ly_Mo, fk_Mo_63, tk_Mo, nm_Mo, rfl, rfl, rfl⟩
theorem fk_Mo_66 : Cond.fieldLink "WeighedMachinesModel" 66 (TX_Mo 22).1 (TX_Mo 22).2.1 (TX_Mo 22).2.2.1 ∈ gx_F := gx_F_in (tb_4 (List.mem_of_getElem? (i := 70) (by decide +kernel))) rfl
theorem fd_Mo_66 : gx_fd "WeighedMachinesModel" 66 11 22 := ⟨_, _, _, rfl, (by decide), ly_Mo, Or.inl fk_Mo_66⟩
theorem ff_Mo_66 : gx_ff "WeighedMachinesModel" 66 11 22 (.array .int) := ⟨_, _, _, ty_Mo, rfl, (by decide), ly_Mo, fk_Mo_66, tk_Mo, nm_Mo, rfl, rfl, rfl⟩
theorem fk_Mo_69 : Cond.fieldLink "WeighedMachinesModel" 69 (TX_Mo 25).1 (TX_Mo 25).2.1 (TX_Mo 25).2.2.1 ∈ gx_F := gx_F_in (tb_4 (List.mem_of_getElem? (i := 73) (by decide +kernel))) rfl
theorem fd_Mo_69 : gx_fd "WeighedMachinesModel" 69 11 25 := ⟨_, _, _, rfl, (by decide), ly_Mo, Or.inl fk_Mo_69⟩
theorem ff_Mo_69 : gx_ff "WeighedMachinesModel" 69 11 25 (.array .int) := ⟨_, _, _, ty_Mo, rfl, (by decide), ly_Mo, fk_Mo_69, tk_Mo, nm_Mo, rfl, rfl, rfl⟩
theorem fk_Mo_72 : Cond.fieldLink "WeighedMachinesModel" 72 (TX_Mo 26).1 (TX_Mo 26).2.1 (TX_Mo 26).2.2.1 ∈ gx_F := gx_F_in (tb_4 (List.mem_of_getElem? (i := 74) (by decide +kernel))) rfl
theorem fd_Mo_72 : gx_fd "WeighedMachinesModel" 72 11 26 := ⟨_, _, _, rfl, (by decide), ly_Mo, Or.inl fk_Mo_72⟩
theorem ff_Mo_72 : gx_ff "WeighedMachinesModel" 72 11 26 (.array .long) := ⟨_, _, _, ty_Mo, rfl, (by decide), ly_Mo, fk_Mo_72, tk_Mo, nm_Mo, rfl, rfl, rfl⟩
theorem fk_Mo_103 : Cond.fieldLink "WeighedMachinesModel" 103 (TX_Mo 27).1 (TX_Mo 27).2.1 (TX_Mo 27).2.2.1 ∈ gx_F := gx_F_in (tb_4 (List.mem_of_getElem? (i := 75) (by decide +kernel))) rfl
theorem fd_Mo_103 : gx_fd "WeighedMachinesModel" 103 11 27 := ⟨_, _, _, rfl, (by decide), ly_Mo, Or.inl fk_Mo_103⟩
theorem fw_Mo_103 : gx_fw "WeighedMachinesModel" 103 11 27 .int := ⟨_, _, _, ty_Mo, rfl, (by decide), ly_Mo, Or.inl fk_Mo_103, tk_Mo, nm_Mo, rfl, rfl⟩
theorem fk_Mo_162 : Cond.fieldLink "WeighedMachinesModel" 162 (TX_Mo 23).1 (TX_Mo 23).2.1 (TX_Mo 23).2.2.1 ∈ gx_F := gx_F_in (tb_4 (List.mem_of_getElem? (i := 71) (by decide +kernel))) rfl
theorem fd_Mo_162 : gx_fd "WeighedMachinesModel" 162 11 23 := ⟨_, _, _, rfl, (by decide), ly_Mo, Or.inl fk_Mo_162⟩
theorem fw_Mo_162 : gx_fw "WeighedMachinesModel" 162 11 23 .int := ⟨_, _, _, ty_Mo, rfl, (by decide), ly_Mo, Or.inl fk_Mo_162, tk_Mo, nm_Mo, rfl, rfl⟩
theorem fk_Mo_165 : Cond.fieldLink "WeighedMachinesModel" 165 (TX_Mo 24).1 (TX_Mo 24).2.1 (TX_Mo 24).2.2.1 ∈ gx_F := gx_F_in (tb_4 (List.mem_of_getElem? (i := 72) (by decide +kernel))) rfl
theorem fd_Mo_165 : gx_fd "WeighedMachinesModel" 165 11 24 := ⟨_, _, _, rfl, (by decide), ly_Mo, Or.inl fk_Mo_165⟩
theorem fw_Mo_165 : gx_fw "WeighedMachinesModel" 165 11 24 .int := ⟨_, _, _, ty_Mo, rfl, (by decide), ly_Mo, Or.inl fk_Mo_165, tk_Mo, nm_Mo, rfl, rfl⟩
theorem fk_Mo_177 : Cond.fieldLink "WeighedMachinesModel" 177 (TX_Mo 10).1 (TX_Mo 10).2.1 (TX_Mo 10).2.2.1 ∈ gx_F := gx_F_in (tb_4 (List.mem_of_getElem? (i := 58) (by decide +kernel))) rfl
theorem fd_Mo_177 : gx_fd "WeighedMachinesModel" 177 11 10 := ⟨_, _, _, rfl, (by decide), ly_Mo, Or.inl fk_Mo_177⟩
theorem fw_Mo_177 : gx_fw "WeighedMachinesModel" 177 11 10 .int := ⟨_, _, _, ty_Mo, rfl, (by decide), ly_Mo, Or.inl fk_Mo_177, tk_Mo, nm_Mo, rfl, rfl⟩
theorem fk_Mo_180 : Cond.fieldLink "WeighedMachinesModel" 180 (TX_Mo 14).1 (TX_Mo 14).2.1 (TX_Mo 14).2.2.1 ∈ gx_F := gx_F_in (tb_4 (List.mem_of_getElem? (i := 62) (by decide +kernel))) rfl
theorem fd_Mo_180 : gx_fd "WeighedMachinesModel" 180 11 14 := ⟨_, _, _, rfl, (by decide), ly_Mo, Or.inl fk_Mo_180⟩
theorem fw_Mo_180 : gx_fw "WeighedMachinesModel" 180 11 14 .int := ⟨_, _, _, ty_Mo, rfl, (by decide), ly_Mo, Or.inl fk_Mo_180, tk_Mo, nm_Mo, rfl, rfl⟩
theorem fk_Mo_197 : Cond.fieldLink "WeighedMachinesModel" 197 (TX_Mo 15).1 (TX_Mo 15).2.1 (TX_Mo 15).2.2.1 ∈ gx_F := gx_F_in (tb_4 (List.mem_of_getElem? (i := 63) (by decide +kernel))) rfl
theorem fd_Mo_197 : gx_fd "WeighedMachinesModel" 197 11 15 := ⟨_, _, _, rfl, (by decide), ly_Mo, Or.inl fk_Mo_197⟩
theorem fw_Mo_197 : gx_fw "WeighedMachinesModel" 197 11 15 .int := ⟨_, _, _, ty_Mo, rfl, (by decide), ly_Mo, Or.inl fk_Mo_197, tk_Mo, nm_Mo, rfl, rfl⟩
theorem fk_Mo_203 : Cond.fieldLink "WeighedMachinesModel" 203 (TX_Mo 16).1 (TX_Mo 16).2.1 (TX_Mo 16).2.2.1 ∈ gx_F := gx_F_in (tb_4 (List.mem_of_getElem? (i := 64) (by decide +kernel))) rfl
theorem fd_Mo_203 : gx_fd "WeighedMachinesModel" 203 11 16 := ⟨_, _, _, rfl, (by decide), ly_Mo, Or.inl fk_Mo_203⟩
theorem fw_Mo_203 : gx_fw "WeighedMachinesModel" 203 11 16 .int := ⟨_, _, _, ty_Mo, rfl, (by decide), ly_Mo, Or.inl fk_Mo_203, tk_Mo, nm_Mo, rfl, rfl⟩
theorem iz_WM : Cond.initialized "WeighedMachines" ∈ gx_F := gx_F_in (tb_1 (List.mem_of_getElem? (i := 1) (by decide +kernel))) rfl
set_option maxRecDepth 20000 in
theorem mc_WM_init : Cond.code yy_WM_init cc_WM_init 2 none ∈ gx_F := gx_F_in (tb_1 (List.mem_of_getElem? (i := 21) rfl)) rfl
theorem me_WM_init : gx_me yy_WM_init cc_WM_init 2 none 0 := ⟨mc_WM_init, iz_WM, ⟨by decide, by decide, by decide +kernel⟩, by decide⟩
theorem mn_WM_init : Cond.instanceMethod yy_WM_init ∈ gx_F := gx_F_in (tb_1 (List.mem_of_getElem? (i := 20) (by decide +kernel))) rfl
theorem iz_Ma : Cond.initialized "WeighedMachines$Machine" ∈ gx_F := gx_F_in (tb_1 (List.mem_of_getElem? (i := 2) (by decide +kernel))) rfl
set_option maxRecDepth 20000 in
theorem mc_Ma_init : Cond.code yy_Ma_init cc_Ma_init 1 none ∈ gx_F := gx_F_in (tb_1 (List.mem_of_getElem? (i := 30) rfl)) rfl
theorem me_Ma_init : gx_me yy_Ma_init cc_Ma_init 1 none 0 := ⟨mc_Ma_init, iz_Ma, ⟨by decide, by decide, by decide +kernel⟩, by decide⟩
theorem mn_Ma_init : Cond.instanceMethod yy_Ma_init ∈ gx_F := gx_F_in (tb_1 (List.mem_of_getElem? (i := 29) (by decide +kernel))) rfl
theorem iz_JA : Cond.initialized "java/util/Arrays" ∈ gx_F := gx_F_in (tb_1 (List.mem_of_getElem? (i := 3) (by decide +kernel))) rfl
set_option maxRecDepth 20000 in
theorem mc_JA_fill : Cond.code yy_JA_fill cc_JA_fill 5 none ∈ gx_F := gx_F_in (tb_1 (List.mem_of_getElem? (i := 35) rfl)) rfl
theorem me_JA_fill : gx_me yy_JA_fill cc_JA_fill 5 none 2 := ⟨mc_JA_fill, iz_JA, ⟨by decide, by decide, by decide +kernel⟩, by decide⟩
theorem ms_JA_fill : Cond.static yy_JA_fill ∈ gx_F := gx_F_in (tb_1 (List.mem_of_getElem? (i := 34) (by decide +kernel))) rfl
theorem iz_Co : Cond.initialized "WeighedMachines$Composing" ∈ gx_F := gx_F_in (tb_1 (List.mem_of_getElem? (i := 4) (by decide +kernel))) rfl
set_option maxRecDepth 20000 in
theorem mc_Co_init : Cond.code yy_Co_init cc_Co_init 1 none ∈ gx_F := gx_F_in (tb_1 (List.mem_of_getElem? (i := 112) rfl)) rfl
theorem me_Co_init : gx_me yy_Co_init cc_Co_init 1 none 0 := ⟨mc_Co_init, iz_Co, ⟨by decide, by decide, by decide +kernel⟩, by decide⟩
theorem mn_Co_init : Cond.instanceMethod yy_Co_init ∈ gx_F := gx_F_in (tb_1 (List.mem_of_getElem? (i := 111) (by decide +kernel))) rfl
theorem iz_Ba : Cond.initialized "WeighedMachines$Baring" ∈ gx_F := gx_F_in (tb_1 (List.mem_of_getElem? (i := 5) (by decide +kernel))) rfl
set_option maxRecDepth 20000 in
theorem mc_Ba_init : Cond.code yy_Ba_init cc_Ba_init 1 none ∈ gx_F := gx_F_in (tb_1 (List.mem_of_getElem? (i := 131) rfl)) rfl
theorem me_Ba_init : gx_me yy_Ba_init cc_Ba_init 1 none 0 := ⟨mc_Ba_init, iz_Ba, ⟨by decide, by decide, by decide +kernel⟩, by decide⟩
theorem mn_Ba_init : Cond.instanceMethod yy_Ba_init ∈ gx_F := gx_F_in (tb_1 (List.mem_of_getElem? (i := 130) (by decide +kernel))) rfl
theorem iz_De : Cond.initialized "WeighedMachines$Determining" ∈ gx_F := gx_F_in (tb_1 (List.mem_of_getElem? (i := 6) (by decide +kernel))) rfl
set_option maxRecDepth 20000 in
theorem mc_De_init : Cond.code yy_De_init cc_De_init 1 none ∈ gx_F := gx_F_in (tb_1 (List.mem_of_getElem? (i := 141) rfl)) rfl
theorem me_De_init : gx_me yy_De_init cc_De_init 1 none 0 := ⟨mc_De_init, iz_De, ⟨by decide, by decide, by decide +kernel⟩, by decide⟩
theorem mn_De_init : Cond.instanceMethod yy_De_init ∈ gx_F := gx_F_in (tb_1 (List.mem_of_getElem? (i := 140) (by decide +kernel))) rfl
theorem iz_On : Cond.initialized "WeighedMachines$Onward" ∈ gx_F := gx_F_in (tb_1 (List.mem_of_getElem? (i := 7) (by decide +kernel))) rfl
set_option maxRecDepth 20000 in
theorem mc_On_init : Cond.code yy_On_init cc_On_init 1 none ∈ gx_F := gx_F_in (tb_1 (List.mem_of_getElem? (i := 160) rfl)) rfl
theorem me_On_init : gx_me yy_On_init cc_On_init 1 none 0 := ⟨mc_On_init, iz_On, ⟨by decide, by decide, by decide +kernel⟩, by decide⟩
theorem mn_On_init : Cond.instanceMethod yy_On_init ∈ gx_F := gx_F_in (tb_1 (List.mem_of_getElem? (i := 159) (by decide +kernel))) rfl
theorem iz_We : Cond.initialized "WeighedMachines$Weighing" ∈ gx_F := gx_F_in (tb_1 (List.mem_of_getElem? (i := 8) (by decide +kernel))) rfl
set_option maxRecDepth 20000 in
theorem mc_We_init : Cond.code yy_We_init cc_We_init 1 none ∈ gx_F := gx_F_in (tb_1 (List.mem_of_getElem? (i := 170) rfl)) rfl
theorem me_We_init : gx_me yy_We_init cc_We_init 1 none 0 := ⟨mc_We_init, iz_We, ⟨by decide, by decide, by decide +kernel⟩, by decide⟩
theorem mn_We_init : Cond.instanceMethod yy_We_init ∈ gx_F := gx_F_in (tb_1 (List.mem_of_getElem? (i := 169) (by decide +kernel))) rfl
theorem iz_Ro : Cond.initialized "WeighedMachines$Row" ∈ gx_F := gx_F_in (tb_1 (List.mem_of_getElem? (i := 9) (by decide +kernel))) rfl
set_option maxRecDepth 20000 in
theorem mc_Ro_init : Cond.code yy_Ro_init cc_Ro_init 1 none ∈ gx_F := gx_F_in (tb_1 (List.mem_of_getElem? (i := 176) rfl)) rfl
theorem me_Ro_init : gx_me yy_Ro_init cc_Ro_init 1 none 0 := ⟨mc_Ro_init, iz_Ro, ⟨by decide, by decide, by decide +kernel⟩, by decide⟩
theorem mn_Ro_init : Cond.instanceMethod yy_Ro_init ∈ gx_F := gx_F_in (tb_1 (List.mem_of_getElem? (i := 175) (by decide +kernel))) rfl
theorem iz_BP : Cond.initialized "WeighedMachines$BestPath" ∈ gx_F := gx_F_in (tb_1 (List.mem_of_getElem? (i := 10) (by decide +kernel))) rfl
set_option maxRecDepth 20000 in
theorem mc_BP_init : Cond.code yy_BP_init cc_BP_init 1 none ∈ gx_F := gx_F_in (tb_1 (List.mem_of_getElem? (i := 200) rfl)) rfl
theorem me_BP_init : gx_me yy_BP_init cc_BP_init 1 none 0 := ⟨mc_BP_init, iz_BP, ⟨by decide, by decide, by decide +kernel⟩, by decide⟩
theorem mn_BP_init : Cond.instanceMethod yy_BP_init ∈ gx_F := gx_F_in (tb_1 (List.mem_of_getElem? (i := 199) (by decide +kernel))) rfl
theorem iz_Te : Cond.initialized "WeighedMachines$Text" ∈ gx_F := gx_F_in (tb_1 (List.mem_of_getElem? (i := 11) (by decide +kernel))) rfl
set_option maxRecDepth 20000 in
theorem mc_Te_init : Cond.code yy_Te_init cc_Te_init 1 none ∈ gx_F := gx_F_in (tb_1 (List.mem_of_getElem? (i := 219) rfl)) rfl
theorem me_Te_init : gx_me yy_Te_init cc_Te_init 1 none 0 := ⟨mc_Te_init, iz_Te, ⟨by decide, by decide, by decide +kernel⟩, by decide⟩
theorem mn_Te_init : Cond.instanceMethod yy_Te_init ∈ gx_F := gx_F_in (tb_1 (List.mem_of_getElem? (i := 218) (by decide +kernel))) rfl
theorem iz_Pa : Cond.initialized "WeighedMachines$Parsing" ∈ gx_F := gx_F_in (tb_1 (List.mem_of_getElem? (i := 12) (by decide +kernel))) rfl
set_option maxRecDepth 20000 in
theorem mc_Pa_init : Cond.code yy_Pa_init cc_Pa_init 1 none ∈ gx_F := gx_F_in (tb_1 (List.mem_of_getElem? (i := 235) rfl)) rfl
theorem me_Pa_init : gx_me yy_Pa_init cc_Pa_init 1 none 0 := ⟨mc_Pa_init, iz_Pa, ⟨by decide, by decide, by decide +kernel⟩, by decide⟩
theorem mn_Pa_init : Cond.instanceMethod yy_Pa_init ∈ gx_F := gx_F_in (tb_1 (List.mem_of_getElem? (i := 234) (by decide +kernel))) rfl
set_option maxRecDepth 20000 in
theorem mc_WM_fresh : Cond.code yy_WM_fresh cc_WM_fresh 3 (some .boolean) ∈ gx_F := gx_F_in (tb_2 (List.mem_of_getElem? (i := 44) rfl)) rfl
theorem me_WM_fresh : gx_me yy_WM_fresh cc_WM_fresh 3 (some .boolean) 2 := ⟨mc_WM_fresh, iz_WM, ⟨by decide, by decide, by decide +kernel⟩, by decide⟩
theorem mn_WM_fresh : gx_in yy_WM_fresh := ⟨gx_F_in (tb_2 (List.mem_of_getElem? (i := 42) (by decide +kernel))) rfl, gx_F_in (tb_2 (List.mem_of_getElem? (i := 43) (by decide +kernel))) rfl⟩
set_option maxRecDepth 20000 in
theorem mc_WM_isSlot : Cond.code yy_WM_isSlot cc_WM_isSlot 1 (some .boolean) ∈ gx_F := gx_F_in (tb_2 (List.mem_of_getElem? (i := 47) rfl)) rfl
theorem me_WM_isSlot : gx_me yy_WM_isSlot cc_WM_isSlot 1 (some .boolean) 1 := ⟨mc_WM_isSlot, iz_WM, ⟨by decide, by decide, by decide +kernel⟩, by decide⟩
theorem ms_WM_isSlot : Cond.static yy_WM_isSlot ∈ gx_F := gx_F_in (tb_2 (List.mem_of_getElem? (i := 46) (by decide +kernel))) rfl
set_option maxRecDepth 20000 in
theorem mc_Ma_clear : Cond.code yy_Ma_clear cc_Ma_clear 2 none ∈ gx_F := gx_F_in (tb_2 (List.mem_of_getElem? (i := 51) rfl)) rfl
theorem me_Ma_clear : gx_me yy_Ma_clear cc_Ma_clear 2 none 1 := ⟨mc_Ma_clear, iz_Ma, ⟨by decide, by decide, by decide +kernel⟩, by decide⟩
theorem mn_Ma_clear : gx_in yy_Ma_clear := ⟨gx_F_in (tb_2 (List.mem_of_getElem? (i := 49) (by decide +kernel))) rfl, gx_F_in (tb_2 (List.mem_of_getElem? (i := 50) (by decide +kernel))) rfl⟩
set_option maxRecDepth 20000 in
theorem mc_WM_start : Cond.code yy_WM_start cc_WM_start 4 (some .boolean) ∈ gx_F := gx_F_in (tb_2 (List.mem_of_getElem? (i := 55) rfl)) rfl
theorem me_WM_start : gx_me yy_WM_start cc_WM_start 4 (some .boolean) 3 := ⟨mc_WM_start, iz_WM, ⟨by decide, by decide, by decide +kernel⟩, by decide⟩
theorem mn_WM_start : gx_in yy_WM_start := ⟨gx_F_in (tb_2 (List.mem_of_getElem? (i := 53) (by decide +kernel))) rfl, gx_F_in (tb_2 (List.mem_of_getElem? (i := 54) (by decide +kernel))) rfl⟩
set_option maxRecDepth 20000 in
theorem mc_WM_isState : Cond.code yy_WM_isState cc_WM_isState 3 (some .boolean) ∈ gx_F := gx_F_in (tb_2 (List.mem_of_getElem? (i := 59) rfl)) rfl
theorem me_WM_isState : gx_me yy_WM_isState cc_WM_isState 3 (some .boolean) 2 := ⟨mc_WM_isState, iz_WM, ⟨by decide, by decide, by decide +kernel⟩, by decide⟩
theorem mn_WM_isState : gx_in yy_WM_isState := ⟨gx_F_in (tb_2 (List.mem_of_getElem? (i := 58) (by decide +kernel))) rfl, gx_F_in (List.mem_append_left _ (List.mem_of_getElem? (i := 0) (by decide +kernel))) rfl⟩
set_option maxRecDepth 20000 in
theorem mc_WM_isWeight : Cond.code yy_WM_isWeight cc_WM_isWeight 2 (some .boolean) ∈ gx_F := gx_F_in (tb_2 (List.mem_of_getElem? (i := 62) rfl)) rfl
theorem me_WM_isWeight : gx_me yy_WM_isWeight cc_WM_isWeight 2 (some .boolean) 1 := ⟨mc_WM_isWeight, iz_WM, ⟨by decide, by decide, by decide +kernel⟩, by decide⟩
theorem ms_WM_isWeight : Cond.static yy_WM_isWeight ∈ gx_F := gx_F_in (tb_2 (List.mem_of_getElem? (i := 61) (by decide +kernel))) rfl
set_option maxRecDepth 20000 in
theorem mc_Ma_setStart : Cond.code yy_Ma_setStart cc_Ma_setStart 4 none ∈ gx_F := gx_F_in (tb_2 (List.mem_of_getElem? (i := 67) rfl)) rfl
theorem me_Ma_setStart : gx_me yy_Ma_setStart cc_Ma_setStart 4 none 2 := ⟨mc_Ma_setStart, iz_Ma, ⟨by decide, by decide, by decide +kernel⟩, by decide⟩
theorem mn_Ma_setStart : gx_in yy_Ma_setStart := ⟨gx_F_in (tb_2 (List.mem_of_getElem? (i := 65) (by decide +kernel))) rfl, gx_F_in (tb_2 (List.mem_of_getElem? (i := 66) (by decide +kernel))) rfl⟩
set_option maxRecDepth 20000 in
theorem mc_WM_end : Cond.code yy_WM_end cc_WM_end 4 (some .boolean) ∈ gx_F := gx_F_in (tb_2 (List.mem_of_getElem? (i := 71) rfl)) rfl
theorem me_WM_end : gx_me yy_WM_end cc_WM_end 4 (some .boolean) 3 := ⟨mc_WM_end, iz_WM, ⟨by decide, by decide, by decide +kernel⟩, by decide⟩
theorem mn_WM_end : gx_in yy_WM_end := ⟨gx_F_in (tb_2 (List.mem_of_getElem? (i := 69) (by decide +kernel))) rfl, gx_F_in (tb_2 (List.mem_of_getElem? (i := 70) (by decide +kernel))) rfl⟩
set_option maxRecDepth 20000 in
theorem mc_WM_arc : Cond.code yy_WM_arc cc_WM_arc 7 (some .int) ∈ gx_F := gx_F_in (tb_2 (List.mem_of_getElem? (i := 75) rfl)) rfl
theorem me_WM_arc : gx_me yy_WM_arc cc_WM_arc 7 (some .int) 5 := ⟨mc_WM_arc, iz_WM, ⟨by decide, by decide, by decide +kernel⟩, by decide⟩
theorem mn_WM_arc : gx_in yy_WM_arc := ⟨gx_F_in (tb_2 (List.mem_of_getElem? (i := 73) (by decide +kernel))) rfl, gx_F_in (tb_2 (List.mem_of_getElem? (i := 74) (by decide +kernel))) rfl⟩
set_option maxRecDepth 20000 in
theorem mc_WM_keyOf : Cond.code yy_WM_keyOf cc_WM_keyOf 3 (some .int) ∈ gx_F := gx_F_in (tb_2 (List.mem_of_getElem? (i := 78) rfl)) rfl
theorem me_WM_keyOf : gx_me yy_WM_keyOf cc_WM_keyOf 3 (some .int) 3 := ⟨mc_WM_keyOf, iz_WM, ⟨by decide, by decide, by decide +kernel⟩, by decide⟩
theorem ms_WM_keyOf : Cond.static yy_WM_keyOf ∈ gx_F := gx_F_in (tb_2 (List.mem_of_getElem? (i := 77) (by decide +kernel))) rfl
set_option maxRecDepth 20000 in
theorem mc_Ma_bring : Cond.code yy_Ma_bring cc_Ma_bring 5 (some .boolean) ∈ gx_F := gx_F_in (tb_2 (List.mem_of_getElem? (i := 82) rfl)) rfl
theorem me_Ma_bring : gx_me yy_Ma_bring cc_Ma_bring 5 (some .boolean) 2 := ⟨mc_Ma_bring, iz_Ma, ⟨by decide, by decide, by decide +kernel⟩, by decide⟩
theorem mn_Ma_bring : gx_in yy_Ma_bring := ⟨gx_F_in (tb_2 (List.mem_of_getElem? (i := 80) (by decide +kernel))) rfl, gx_F_in (tb_2 (List.mem_of_getElem? (i := 81) (by decide +kernel))) rfl⟩
set_option maxRecDepth 20000 in
theorem mc_Ma_placeOf : Cond.code yy_Ma_placeOf cc_Ma_placeOf 4 (some .int) ∈ gx_F := gx_F_in (tb_2 (List.mem_of_getElem? (i := 86) rfl)) rfl
theorem me_Ma_placeOf : gx_me yy_Ma_placeOf cc_Ma_placeOf 4 (some .int) 1 := ⟨mc_Ma_placeOf, iz_Ma, ⟨by decide, by decide, by decide +kernel⟩, by decide⟩
theorem mn_Ma_placeOf : gx_in yy_Ma_placeOf := ⟨gx_F_in (tb_2 (List.mem_of_getElem? (i := 84) (by decide +kernel))) rfl, gx_F_in (tb_2 (List.mem_of_getElem? (i := 85) (by decide +kernel))) rfl⟩
theorem iz_JM : Cond.initialized "java/lang/Math" ∈ gx_F := gx_F_in (tb_1 (List.mem_of_getElem? (i := 14) (by decide +kernel))) rfl
set_option maxRecDepth 20000 in
theorem mc_JM_min : Cond.code yy_JM_min cc_JM_min 4 (some .long) ∈ gx_F := gx_F_in (tb_2 (List.mem_of_getElem? (i := 89) rfl)) rfl
theorem me_JM_min : gx_me yy_JM_min cc_JM_min 4 (some .long) 2 := ⟨mc_JM_min, iz_JM, ⟨by decide, by decide, by decide +kernel⟩, by decide⟩
theorem ms_JM_min : Cond.static yy_JM_min ∈ gx_F := gx_F_in (tb_2 (List.mem_of_getElem? (i := 88) (by decide +kernel))) rfl
set_option maxRecDepth 20000 in
theorem mc_WM_compose : Cond.code yy_WM_compose cc_WM_compose 5 (some .int) ∈ gx_F := gx_F_in (tb_2 (List.mem_of_getElem? (i := 96) rfl)) rfl
theorem me_WM_compose : gx_me yy_WM_compose cc_WM_compose 5 (some .int) 3 := ⟨mc_WM_compose, iz_WM, ⟨by decide, by decide, by decide +kernel⟩, by decide⟩
theorem mn_WM_compose : gx_in yy_WM_compose := ⟨gx_F_in (tb_2 (List.mem_of_getElem? (i := 94) (by decide +kernel))) rfl, gx_F_in (tb_2 (List.mem_of_getElem? (i := 95) (by decide +kernel))) rfl⟩
set_option maxRecDepth 20000 in
theorem mc_Co_build : Cond.code yy_Co_build cc_Co_build 7 (some .boolean) ∈ gx_F := gx_F_in (tb_2 (List.mem_of_getElem? (i := 100) rfl)) rfl
theorem me_Co_build : gx_me yy_Co_build cc_Co_build 7 (some .boolean) 3 := ⟨mc_Co_build, iz_Co, ⟨by decide, by decide, by decide +kernel⟩, by decide⟩
theorem mn_Co_build : gx_in yy_Co_build := ⟨gx_F_in (tb_2 (List.mem_of_getElem? (i := 98) (by decide +kernel))) rfl, gx_F_in (tb_2 (List.mem_of_getElem? (i := 99) (by decide +kernel))) rfl⟩
set_option maxRecDepth 20000 in
theorem mc_Co_tripleOf : Cond.code yy_Co_tripleOf cc_Co_tripleOf 3 (some .int) ∈ gx_F := gx_F_in (tb_2 (List.mem_of_getElem? (i := 104) rfl)) rfl
theorem me_Co_tripleOf : gx_me yy_Co_tripleOf cc_Co_tripleOf 3 (some .int) 3 := ⟨mc_Co_tripleOf, iz_Co, ⟨by decide, by decide, by decide +kernel⟩, by decide⟩
theorem ms_Co_tripleOf : Cond.static yy_Co_tripleOf ∈ gx_F := gx_F_in (tb_2 (List.mem_of_getElem? (i := 103) (by decide +kernel))) rfl
set_option maxRecDepth 20000 in
theorem mc_Co_find : Cond.code yy_Co_find cc_Co_find 3 (some .int) ∈ gx_F := gx_F_in (tb_2 (List.mem_of_getElem? (i := 108) rfl)) rfl
theorem me_Co_find : gx_me yy_Co_find cc_Co_find 3 (some .int) 1 := ⟨mc_Co_find, iz_Co, ⟨by decide, by decide, by decide +kernel⟩, by decide⟩
theorem mn_Co_find : gx_in yy_Co_find := ⟨gx_F_in (tb_2 (List.mem_of_getElem? (i := 107) (by decide +kernel))) rfl, gx_F_in (List.mem_append_left _ (List.mem_of_getElem? (i := 1) (by decide +kernel))) rfl⟩
set_option maxRecDepth 20000 in
theorem mc_Co_leave : Cond.code yy_Co_leave cc_Co_leave 5 (some .boolean) ∈ gx_F := gx_F_in (tb_2 (List.mem_of_getElem? (i := 113) rfl)) rfl
theorem me_Co_leave : gx_me yy_Co_leave cc_Co_leave 5 (some .boolean) 1 := ⟨mc_Co_leave, iz_Co, ⟨by decide, by decide, by decide +kernel⟩, by decide⟩
theorem mn_Co_leave : gx_in yy_Co_leave := ⟨gx_F_in (tb_2 (List.mem_of_getElem? (i := 112) (by decide +kernel))) rfl, gx_F_in (List.mem_append_left _ (List.mem_of_getElem? (i := 2) (by decide +kernel))) rfl⟩
set_option maxRecDepth 20000 in
theorem mc_Ma_endOrFar : Cond.code yy_Ma_endOrFar cc_Ma_endOrFar 2 (some .long) ∈ gx_F := gx_F_in (tb_2 (List.mem_of_getElem? (i := 117) rfl)) rfl
theorem me_Ma_endOrFar : gx_me yy_Ma_endOrFar cc_Ma_endOrFar 2 (some .long) 1 := ⟨mc_Ma_endOrFar, iz_Ma, ⟨by decide, by decide, by decide +kernel⟩, by decide⟩
theorem mn_Ma_endOrFar : gx_in yy_Ma_endOrFar := ⟨gx_F_in (tb_2 (List.mem_of_getElem? (i := 115) (by decide +kernel))) rfl, gx_F_in (tb_2 (List.mem_of_getElem? (i := 116) (by decide +kernel))) rfl⟩
set_option maxRecDepth 20000 in
theorem mc_Ma_setEndUnlessFar : Cond.code yy_Ma_setEndUnlessFar cc_Ma_setEndUnlessFar 4 none ∈ gx_F := gx_F_in (tb_2 (List.mem_of_getElem? (i := 122) rfl)) rfl
theorem me_Ma_setEndUnlessFar : gx_me yy_Ma_setEndUnlessFar cc_Ma_setEndUnlessFar 4 none 2 := ⟨mc_Ma_setEndUnlessFar, iz_Ma, ⟨by decide, by decide, by decide +kernel⟩, by decide⟩
theorem mn_Ma_setEndUnlessFar : gx_in yy_Ma_setEndUnlessFar := ⟨gx_F_in (tb_2 (List.mem_of_getElem? (i := 120) (by decide +kernel))) rfl, gx_F_in (tb_2 (List.mem_of_getElem? (i := 121) (by decide +kernel))) rfl⟩
set_option maxRecDepth 20000 in
theorem mc_Co_bringBoth : Cond.code yy_Co_bringBoth cc_Co_bringBoth 13 (some .boolean) ∈ gx_F := gx_F_in (tb_2 (List.mem_of_getElem? (i := 126) rfl)) rfl
theorem me_Co_bringBoth : gx_me yy_Co_bringBoth cc_Co_bringBoth 13 (some .boolean) 4 := ⟨mc_Co_bringBoth, iz_Co, ⟨by decide, by decide, by decide +kernel⟩, by decide⟩
theorem mn_Co_bringBoth : gx_in yy_Co_bringBoth := ⟨gx_F_in (tb_2 (List.mem_of_getElem? (i := 125) (by decide +kernel))) rfl, gx_F_in (List.mem_append_left _ (List.mem_of_getElem? (i := 3) (by decide +kernel))) rfl⟩
set_option maxRecDepth 20000 in
theorem mc_WM_outOf : Cond.code yy_WM_outOf cc_WM_outOf 1 (some .int) ∈ gx_F := gx_F_in (tb_2 (List.mem_of_getElem? (i := 131) rfl)) rfl
theorem me_WM_outOf : gx_me yy_WM_outOf cc_WM_outOf 1 (some .int) 1 := ⟨mc_WM_outOf, iz_WM, ⟨by decide, by decide, by decide +kernel⟩, by decide⟩
theorem ms_WM_outOf : Cond.static yy_WM_outOf ∈ gx_F := gx_F_in (tb_2 (List.mem_of_getElem? (i := 130) (by decide +kernel))) rfl
set_option maxRecDepth 20000 in
theorem mc_WM_labelPair : Cond.code yy_WM_labelPair cc_WM_labelPair 2 (some .int) ∈ gx_F := gx_F_in (tb_2 (List.mem_of_getElem? (i := 134) rfl)) rfl
theorem me_WM_labelPair : gx_me yy_WM_labelPair cc_WM_labelPair 2 (some .int) 2 := ⟨mc_WM_labelPair, iz_WM, ⟨by decide, by decide, by decide +kernel⟩, by decide⟩
theorem ms_WM_labelPair : Cond.static yy_WM_labelPair ∈ gx_F := gx_F_in (tb_2 (List.mem_of_getElem? (i := 133) (by decide +kernel))) rfl
set_option maxRecDepth 20000 in
theorem mc_WM_toOf : Cond.code yy_WM_toOf cc_WM_toOf 1 (some .int) ∈ gx_F := gx_F_in (tb_2 (List.mem_of_getElem? (i := 137) rfl)) rfl
theorem me_WM_toOf : gx_me yy_WM_toOf cc_WM_toOf 1 (some .int) 1 := ⟨mc_WM_toOf, iz_WM, ⟨by decide, by decide, by decide +kernel⟩, by decide⟩
theorem ms_WM_toOf : Cond.static yy_WM_toOf ∈ gx_F := gx_F_in (tb_2 (List.mem_of_getElem? (i := 136) (by decide +kernel))) rfl
set_option maxRecDepth 20000 in
theorem mc_WM_inOf : Cond.code yy_WM_inOf cc_WM_inOf 1 (some .int) ∈ gx_F := gx_F_in (tb_2 (List.mem_of_getElem? (i := 140) rfl)) rfl
theorem me_WM_inOf : gx_me yy_WM_inOf cc_WM_inOf 1 (some .int) 1 := ⟨mc_WM_inOf, iz_WM, ⟨by decide, by decide, by decide +kernel⟩, by decide⟩
theorem ms_WM_inOf : Cond.static yy_WM_inOf ∈ gx_F := gx_F_in (tb_2 (List.mem_of_getElem? (i := 139) (by decide +kernel))) rfl
set_option maxRecDepth 20000 in
theorem mc_Co_bring : Cond.code yy_Co_bring cc_Co_bring 7 (some .boolean) ∈ gx_F := gx_F_in (tb_2 (List.mem_of_getElem? (i := 144) rfl)) rfl
theorem me_Co_bring : gx_me yy_Co_bring cc_Co_bring 7 (some .boolean) 4 := ⟨mc_Co_bring, iz_Co, ⟨by decide, by decide, by decide +kernel⟩, by decide⟩
theorem mn_Co_bring : gx_in yy_Co_bring := ⟨gx_F_in (tb_2 (List.mem_of_getElem? (i := 143) (by decide +kernel))) rfl, gx_F_in (List.mem_append_left _ (List.mem_of_getElem? (i := 4) (by decide +kernel))) rfl⟩
set_option maxRecDepth 20000 in
theorem mc_Co_bringFirst : Cond.code yy_Co_bringFirst cc_Co_bringFirst 9 (some .boolean) ∈ gx_F := gx_F_in (tb_2 (List.mem_of_getElem? (i := 149) rfl)) rfl
theorem me_Co_bringFirst : gx_me yy_Co_bringFirst cc_Co_bringFirst 9 (some .boolean) 3 := ⟨mc_Co_bringFirst, iz_Co, ⟨by decide, by decide, by decide +kernel⟩, by decide⟩
theorem mn_Co_bringFirst : gx_in yy_Co_bringFirst := ⟨gx_F_in (tb_2 (List.mem_of_getElem? (i := 148) (by decide +kernel))) rfl, gx_F_in (List.mem_append_left _ (List.mem_of_getElem? (i := 5) (by decide +kernel))) rfl⟩
set_option maxRecDepth 20000 in
theorem mc_Co_bringSecond : Cond.code yy_Co_bringSecond cc_Co_bringSecond 8 (some .boolean) ∈ gx_F := gx_F_in (tb_2 (List.mem_of_getElem? (i := 153) rfl)) rfl
theorem me_Co_bringSecond : gx_me yy_Co_bringSecond cc_Co_bringSecond 8 (some .boolean) 3 := ⟨mc_Co_bringSecond, iz_Co, ⟨by decide, by decide, by decide +kernel⟩, by decide⟩
theorem mn_Co_bringSecond : gx_in yy_Co_bringSecond := ⟨gx_F_in (tb_2 (List.mem_of_getElem? (i := 152) (by decide +kernel))) rfl, gx_F_in (List.mem_append_left _ (List.mem_of_getElem? (i := 6) (by decide +kernel))) rfl⟩
set_option maxRecDepth 20000 in
theorem mc_WM_take : Cond.code yy_WM_take cc_WM_take 4 (some .boolean) ∈ gx_F := gx_F_in (tb_2 (List.mem_of_getElem? (i := 157) rfl)) rfl
theorem me_WM_take : gx_me yy_WM_take cc_WM_take 4 (some .boolean) 2 := ⟨mc_WM_take, iz_WM, ⟨by decide, by decide, by decide +kernel⟩, by decide⟩
theorem mn_WM_take : gx_in yy_WM_take := ⟨gx_F_in (tb_2 (List.mem_of_getElem? (i := 156) (by decide +kernel))) rfl, gx_F_in (List.mem_append_left _ (List.mem_of_getElem? (i := 7) (by decide +kernel))) rfl⟩
set_option maxRecDepth 20000 in
theorem mc_Ma_weightsFit : Cond.code yy_Ma_weightsFit cc_Ma_weightsFit 3 (some .boolean) ∈ gx_F := gx_F_in (tb_2 (List.mem_of_getElem? (i := 161) rfl)) rfl
theorem me_Ma_weightsFit : gx_me yy_Ma_weightsFit cc_Ma_weightsFit 3 (some .boolean) 0 := ⟨mc_Ma_weightsFit, iz_Ma, ⟨by decide, by decide, by decide +kernel⟩, by decide⟩
theorem mn_Ma_weightsFit : gx_in yy_Ma_weightsFit := ⟨gx_F_in (tb_2 (List.mem_of_getElem? (i := 159) (by decide +kernel))) rfl, gx_F_in (tb_2 (List.mem_of_getElem? (i := 160) (by decide +kernel))) rfl⟩
set_option maxRecDepth 20000 in
theorem mc_WM_bare : Cond.code yy_WM_bare cc_WM_bare 4 (some .int) ∈ gx_F := gx_F_in (tb_2 (List.mem_of_getElem? (i := 166) rfl)) rfl
theorem me_WM_bare : gx_me yy_WM_bare cc_WM_bare 4 (some .int) 2 := ⟨mc_WM_bare, iz_WM, ⟨by decide, by decide, by decide +kernel⟩, by decide⟩
theorem mn_WM_bare : gx_in yy_WM_bare := ⟨gx_F_in (tb_2 (List.mem_of_getElem? (i := 164) (by decide +kernel))) rfl, gx_F_in (tb_2 (List.mem_of_getElem? (i := 165) (by decide +kernel))) rfl⟩
set_option maxRecDepth 20000 in
theorem mc_Ba_build : Cond.code yy_Ba_build cc_Ba_build 5 (some .boolean) ∈ gx_F := gx_F_in (tb_2 (List.mem_of_getElem? (i := 170) rfl)) rfl
theorem me_Ba_build : gx_me yy_Ba_build cc_Ba_build 5 (some .boolean) 2 := ⟨mc_Ba_build, iz_Ba, ⟨by decide, by decide, by decide +kernel⟩, by decide⟩
theorem mn_Ba_build : gx_in yy_Ba_build := ⟨gx_F_in (tb_2 (List.mem_of_getElem? (i := 168) (by decide +kernel))) rfl, gx_F_in (tb_2 (List.mem_of_getElem? (i := 169) (by decide +kernel))) rfl⟩
set_option maxRecDepth 20000 in
theorem mc_Ma_spread : Cond.code yy_Ma_spread cc_Ma_spread 9 none ∈ gx_F := gx_F_in (tb_2 (List.mem_of_getElem? (i := 178) rfl)) rfl
theorem me_Ma_spread : gx_me yy_Ma_spread cc_Ma_spread 9 none 2 := ⟨mc_Ma_spread, iz_Ma, ⟨by decide, by decide, by decide +kernel⟩, by decide⟩
theorem mn_Ma_spread : gx_in yy_Ma_spread := ⟨gx_F_in (tb_2 (List.mem_of_getElem? (i := 176) (by decide +kernel))) rfl, gx_F_in (tb_2 (List.mem_of_getElem? (i := 177) (by decide +kernel))) rfl⟩
set_option maxRecDepth 20000 in
theorem mc_WM_fromOf : Cond.code yy_WM_fromOf cc_WM_fromOf 1 (some .int) ∈ gx_F := gx_F_in (tb_2 (List.mem_of_getElem? (i := 181) rfl)) rfl
theorem me_WM_fromOf : gx_me yy_WM_fromOf cc_WM_fromOf 1 (some .int) 1 := ⟨mc_WM_fromOf, iz_WM, ⟨by decide, by decide, by decide +kernel⟩, by decide⟩
theorem ms_WM_fromOf : Cond.static yy_WM_fromOf ∈ gx_F := gx_F_in (tb_2 (List.mem_of_getElem? (i := 180) (by decide +kernel))) rfl
set_option maxRecDepth 20000 in
theorem mc_WM_labelsOf : Cond.code yy_WM_labelsOf cc_WM_labelsOf 1 (some .int) ∈ gx_F := gx_F_in (tb_2 (List.mem_of_getElem? (i := 185) rfl)) rfl
theorem me_WM_labelsOf : gx_me yy_WM_labelsOf cc_WM_labelsOf 1 (some .int) 1 := ⟨mc_WM_labelsOf, iz_WM, ⟨by decide, by decide, by decide +kernel⟩, by decide⟩
theorem ms_WM_labelsOf : Cond.static yy_WM_labelsOf ∈ gx_F := gx_F_in (tb_2 (List.mem_of_getElem? (i := 184) (by decide +kernel))) rfl
set_option maxRecDepth 20000 in
theorem mc_Ba_leastEnd : Cond.code yy_Ba_leastEnd cc_Ba_leastEnd 5 (some .long) ∈ gx_F := gx_F_in (tb_2 (List.mem_of_getElem? (i := 189) rfl)) rfl
theorem me_Ba_leastEnd : gx_me yy_Ba_leastEnd cc_Ba_leastEnd 5 (some .long) 1 := ⟨mc_Ba_leastEnd, iz_Ba, ⟨by decide, by decide, by decide +kernel⟩, by decide⟩
theorem mn_Ba_leastEnd : gx_in yy_Ba_leastEnd := ⟨gx_F_in (tb_2 (List.mem_of_getElem? (i := 188) (by decide +kernel))) rfl, gx_F_in (List.mem_append_left _ (List.mem_of_getElem? (i := 8) (by decide +kernel))) rfl⟩
set_option maxRecDepth 20000 in
theorem mc_Ba_bringOthers : Cond.code yy_Ba_bringOthers cc_Ba_bringOthers 9 (some .boolean) ∈ gx_F := gx_F_in (tb_2 (List.mem_of_getElem? (i := 196) rfl)) rfl
theorem me_Ba_bringOthers : gx_me yy_Ba_bringOthers cc_Ba_bringOthers 9 (some .boolean) 3 := ⟨mc_Ba_bringOthers, iz_Ba, ⟨by decide, by decide, by decide +kernel⟩, by decide⟩
theorem mn_Ba_bringOthers : gx_in yy_Ba_bringOthers := ⟨gx_F_in (tb_2 (List.mem_of_getElem? (i := 195) (by decide +kernel))) rfl, gx_F_in (List.mem_append_left _ (List.mem_of_getElem? (i := 9) (by decide +kernel))) rfl⟩
set_option maxRecDepth 20000 in
theorem mc_WM_determine : Cond.code yy_WM_determine cc_WM_determine 4 (some .int) ∈ gx_F := gx_F_in (tb_2 (List.mem_of_getElem? (i := 205) rfl)) rfl
theorem me_WM_determine : gx_me yy_WM_determine cc_WM_determine 4 (some .int) 2 := ⟨mc_WM_determine, iz_WM, ⟨by decide, by decide, by decide +kernel⟩, by decide⟩
theorem mn_WM_determine : gx_in yy_WM_determine := ⟨gx_F_in (tb_2 (List.mem_of_getElem? (i := 203) (by decide +kernel))) rfl, gx_F_in (tb_2 (List.mem_of_getElem? (i := 204) (by decide +kernel))) rfl⟩
set_option maxRecDepth 20000 in
theorem mc_Ma_copiesLabels : Cond.code yy_Ma_copiesLabels cc_Ma_copiesLabels 2 (some .boolean) ∈ gx_F := gx_F_in (tb_2 (List.mem_of_getElem? (i := 209) rfl)) rfl
theorem me_Ma_copiesLabels : gx_me yy_Ma_copiesLabels cc_Ma_copiesLabels 2 (some .boolean) 0 := ⟨mc_Ma_copiesLabels, iz_Ma, ⟨by decide, by decide, by decide +kernel⟩, by decide⟩
theorem mn_Ma_copiesLabels : gx_in yy_Ma_copiesLabels := ⟨gx_F_in (tb_2 (List.mem_of_getElem? (i := 207) (by decide +kernel))) rfl, gx_F_in (tb_2 (List.mem_of_getElem? (i := 208) (by decide +kernel))) rfl⟩
set_option maxRecDepth 20000 in
theorem mc_Ma_hasCycle : Cond.code yy_Ma_hasCycle cc_Ma_hasCycle 5 (some .boolean) ∈ gx_F := gx_F_in (tb_2 (List.mem_of_getElem? (i := 215) rfl)) rfl
theorem me_Ma_hasCycle : gx_me yy_Ma_hasCycle cc_Ma_hasCycle 5 (some .boolean) 0 := ⟨mc_Ma_hasCycle, iz_Ma, ⟨by decide, by decide, by decide +kernel⟩, by decide⟩
theorem mn_Ma_hasCycle : gx_in yy_Ma_hasCycle := ⟨gx_F_in (tb_2 (List.mem_of_getElem? (i := 213) (by decide +kernel))) rfl, gx_F_in (tb_2 (List.mem_of_getElem? (i := 214) (by decide +kernel))) rfl⟩
set_option maxRecDepth 20000 in
theorem mc_WM_isIn : Cond.code yy_WM_isIn cc_WM_isIn 2 (some .boolean) ∈ gx_F := gx_F_in (tb_2 (List.mem_of_getElem? (i := 218) rfl)) rfl
theorem me_WM_isIn : gx_me yy_WM_isIn cc_WM_isIn 2 (some .boolean) 2 := ⟨mc_WM_isIn, iz_WM, ⟨by decide, by decide, by decide +kernel⟩, by decide⟩
theorem ms_WM_isIn : Cond.static yy_WM_isIn ∈ gx_F := gx_F_in (tb_2 (List.mem_of_getElem? (i := 217) (by decide +kernel))) rfl
set_option maxRecDepth 20000 in
theorem mc_De_build : Cond.code yy_De_build cc_De_build 6 (some .boolean) ∈ gx_F := gx_F_in (tb_2 (List.mem_of_getElem? (i := 222) rfl)) rfl
theorem me_De_build : gx_me yy_De_build cc_De_build 6 (some .boolean) 2 := ⟨mc_De_build, iz_De, ⟨by decide, by decide, by decide +kernel⟩, by decide⟩
theorem mn_De_build : gx_in yy_De_build := ⟨gx_F_in (tb_2 (List.mem_of_getElem? (i := 220) (by decide +kernel))) rfl, gx_F_in (tb_2 (List.mem_of_getElem? (i := 221) (by decide +kernel))) rfl⟩
set_option maxRecDepth 20000 in
theorem mc_De_findNext : Cond.code yy_De_findNext cc_De_findNext 2 (some .int) ∈ gx_F := gx_F_in (tb_2 (List.mem_of_getElem? (i := 229) rfl)) rfl
theorem me_De_findNext : gx_me yy_De_findNext cc_De_findNext 2 (some .int) 0 := ⟨mc_De_findNext, iz_De, ⟨by decide, by decide, by decide +kernel⟩, by decide⟩
theorem mn_De_findNext : gx_in yy_De_findNext := ⟨gx_F_in (tb_2 (List.mem_of_getElem? (i := 228) (by decide +kernel))) rfl, gx_F_in (List.mem_append_left _ (List.mem_of_getElem? (i := 10) (by decide +kernel))) rfl⟩
set_option maxRecDepth 20000 in
theorem mc_De_isNext : Cond.code yy_De_isNext cc_De_isNext 3 (some .boolean) ∈ gx_F := gx_F_in (tb_2 (List.mem_of_getElem? (i := 233) rfl)) rfl
theorem me_De_isNext : gx_me yy_De_isNext cc_De_isNext 3 (some .boolean) 1 := ⟨mc_De_isNext, iz_De, ⟨by decide, by decide, by decide +kernel⟩, by decide⟩
theorem mn_De_isNext : gx_in yy_De_isNext := ⟨gx_F_in (tb_2 (List.mem_of_getElem? (i := 232) (by decide +kernel))) rfl, gx_F_in (List.mem_append_left _ (List.mem_of_getElem? (i := 11) (by decide +kernel))) rfl⟩
set_option maxRecDepth 20000 in
theorem mc_De_leastEnd : Cond.code yy_De_leastEnd cc_De_leastEnd 5 (some .long) ∈ gx_F := gx_F_in (tb_2 (List.mem_of_getElem? (i := 239) rfl)) rfl
theorem me_De_leastEnd : gx_me yy_De_leastEnd cc_De_leastEnd 5 (some .long) 1 := ⟨mc_De_leastEnd, iz_De, ⟨by decide, by decide, by decide +kernel⟩, by decide⟩
theorem mn_De_leastEnd : gx_in yy_De_leastEnd := ⟨gx_F_in (tb_2 (List.mem_of_getElem? (i := 238) (by decide +kernel))) rfl, gx_F_in (List.mem_append_left _ (List.mem_of_getElem? (i := 12) (by decide +kernel))) rfl⟩
set_option maxRecDepth 20000 in
theorem mc_De_leave : Cond.code yy_De_leave cc_De_leave 6 (some .boolean) ∈ gx_F := gx_F_in (tb_3 (List.mem_of_getElem? (i := 6) rfl)) rfl
theorem me_De_leave : gx_me yy_De_leave cc_De_leave 6 (some .boolean) 2 := ⟨mc_De_leave, iz_De, ⟨by decide, by decide, by decide +kernel⟩, by decide⟩
theorem mn_De_leave : gx_in yy_De_leave := ⟨gx_F_in (tb_3 (List.mem_of_getElem? (i := 5) (by decide +kernel))) rfl, gx_F_in (List.mem_append_left _ (List.mem_of_getElem? (i := 13) (by decide +kernel))) rfl⟩
set_option maxRecDepth 20000 in
theorem mc_De_sumUp : Cond.code yy_De_sumUp cc_De_sumUp 9 (some .long) ∈ gx_F := gx_F_in (tb_3 (List.mem_of_getElem? (i := 10) rfl)) rfl
theorem me_De_sumUp : gx_me yy_De_sumUp cc_De_sumUp 9 (some .long) 2 := ⟨mc_De_sumUp, iz_De, ⟨by decide, by decide, by decide +kernel⟩, by decide⟩
theorem mn_De_sumUp : gx_in yy_De_sumUp := ⟨gx_F_in (tb_3 (List.mem_of_getElem? (i := 9) (by decide +kernel))) rfl, gx_F_in (List.mem_append_left _ (List.mem_of_getElem? (i := 14) (by decide +kernel))) rfl⟩
set_option maxRecDepth 20000 in
theorem mc_WM_push : Cond.code yy_WM_push cc_WM_push 3 (some .int) ∈ gx_F := gx_F_in (tb_3 (List.mem_of_getElem? (i := 20) rfl)) rfl
theorem me_WM_push : gx_me yy_WM_push cc_WM_push 3 (some .int) 2 := ⟨mc_WM_push, iz_WM, ⟨by decide, by decide, by decide +kernel⟩, by decide⟩
theorem mn_WM_push : gx_in yy_WM_push := ⟨gx_F_in (tb_3 (List.mem_of_getElem? (i := 18) (by decide +kernel))) rfl, gx_F_in (tb_3 (List.mem_of_getElem? (i := 19) (by decide +kernel))) rfl⟩
set_option maxRecDepth 20000 in
theorem mc_On_look : Cond.code yy_On_look cc_On_look 7 none ∈ gx_F := gx_F_in (tb_3 (List.mem_of_getElem? (i := 24) rfl)) rfl
theorem me_On_look : gx_me yy_On_look cc_On_look 7 none 1 := ⟨mc_On_look, iz_On, ⟨by decide, by decide, by decide +kernel⟩, by decide⟩
theorem mn_On_look : gx_in yy_On_look := ⟨gx_F_in (tb_3 (List.mem_of_getElem? (i := 22) (by decide +kernel))) rfl, gx_F_in (tb_3 (List.mem_of_getElem? (i := 23) (by decide +kernel))) rfl⟩
set_option maxRecDepth 20000 in
theorem mc_On_costAlong : Cond.code yy_On_costAlong cc_On_costAlong 3 (some .long) ∈ gx_F := gx_F_in (tb_3 (List.mem_of_getElem? (i := 31) rfl)) rfl
theorem me_On_costAlong : gx_me yy_On_costAlong cc_On_costAlong 3 (some .long) 2 := ⟨mc_On_costAlong, iz_On, ⟨by decide, by decide, by decide +kernel⟩, by decide⟩
theorem mn_On_costAlong : gx_in yy_On_costAlong := ⟨gx_F_in (tb_3 (List.mem_of_getElem? (i := 30) (by decide +kernel))) rfl, gx_F_in (List.mem_append_left _ (List.mem_of_getElem? (i := 15) (by decide +kernel))) rfl⟩
set_option maxRecDepth 20000 in
theorem mc_WM_buildPushed : Cond.code yy_WM_buildPushed cc_WM_buildPushed 5 none ∈ gx_F := gx_F_in (tb_3 (List.mem_of_getElem? (i := 37) rfl)) rfl
theorem me_WM_buildPushed : gx_me yy_WM_buildPushed cc_WM_buildPushed 5 none 1 := ⟨mc_WM_buildPushed, iz_WM, ⟨by decide, by decide, by decide +kernel⟩, by decide⟩
theorem mn_WM_buildPushed : gx_in yy_WM_buildPushed := ⟨gx_F_in (tb_3 (List.mem_of_getElem? (i := 36) (by decide +kernel))) rfl, gx_F_in (List.mem_append_left _ (List.mem_of_getElem? (i := 16) (by decide +kernel))) rfl⟩
set_option maxRecDepth 20000 in
theorem mc_On_weightOf : Cond.code yy_On_weightOf cc_On_weightOf 2 (some .long) ∈ gx_F := gx_F_in (tb_3 (List.mem_of_getElem? (i := 42) rfl)) rfl
theorem me_On_weightOf : gx_me yy_On_weightOf cc_On_weightOf 2 (some .long) 1 := ⟨mc_On_weightOf, iz_On, ⟨by decide, by decide, by decide +kernel⟩, by decide⟩
theorem mn_On_weightOf : gx_in yy_On_weightOf := ⟨gx_F_in (tb_3 (List.mem_of_getElem? (i := 40) (by decide +kernel))) rfl, gx_F_in (tb_3 (List.mem_of_getElem? (i := 41) (by decide +kernel))) rfl⟩
set_option maxRecDepth 20000 in
theorem mc_On_isThere : Cond.code yy_On_isThere cc_On_isThere 2 (some .boolean) ∈ gx_F := gx_F_in (tb_3 (List.mem_of_getElem? (i := 46) rfl)) rfl
theorem me_On_isThere : gx_me yy_On_isThere cc_On_isThere 2 (some .boolean) 1 := ⟨mc_On_isThere, iz_On, ⟨by decide, by decide, by decide +kernel⟩, by decide⟩
theorem mn_On_isThere : gx_in yy_On_isThere := ⟨gx_F_in (tb_3 (List.mem_of_getElem? (i := 44) (by decide +kernel))) rfl, gx_F_in (tb_3 (List.mem_of_getElem? (i := 45) (by decide +kernel))) rfl⟩
set_option maxRecDepth 20000 in
theorem mc_WM_trim : Cond.code yy_WM_trim cc_WM_trim 3 (some .int) ∈ gx_F := gx_F_in (tb_3 (List.mem_of_getElem? (i := 52) rfl)) rfl
theorem me_WM_trim : gx_me yy_WM_trim cc_WM_trim 3 (some .int) 2 := ⟨mc_WM_trim, iz_WM, ⟨by decide, by decide, by decide +kernel⟩, by decide⟩
theorem mn_WM_trim : gx_in yy_WM_trim := ⟨gx_F_in (tb_3 (List.mem_of_getElem? (i := 50) (by decide +kernel))) rfl, gx_F_in (tb_3 (List.mem_of_getElem? (i := 51) (by decide +kernel))) rfl⟩
set_option maxRecDepth 20000 in
theorem mc_WM_buildTrimmed : Cond.code yy_WM_buildTrimmed cc_WM_buildTrimmed 7 none ∈ gx_F := gx_F_in (tb_3 (List.mem_of_getElem? (i := 56) rfl)) rfl
theorem me_WM_buildTrimmed : gx_me yy_WM_buildTrimmed cc_WM_buildTrimmed 7 none 1 := ⟨mc_WM_buildTrimmed, iz_WM, ⟨by decide, by decide, by decide +kernel⟩, by decide⟩
theorem mn_WM_buildTrimmed : gx_in yy_WM_buildTrimmed := ⟨gx_F_in (tb_3 (List.mem_of_getElem? (i := 55) (by decide +kernel))) rfl, gx_F_in (List.mem_append_left _ (List.mem_of_getElem? (i := 17) (by decide +kernel))) rfl⟩
set_option maxRecDepth 20000 in
theorem mc_Ma_statesAhead : Cond.code yy_Ma_statesAhead cc_Ma_statesAhead 4 (some .int) ∈ gx_F := gx_F_in (tb_3 (List.mem_of_getElem? (i := 60) rfl)) rfl
theorem me_Ma_statesAhead : gx_me yy_Ma_statesAhead cc_Ma_statesAhead 4 (some .int) 0 := ⟨mc_Ma_statesAhead, iz_Ma, ⟨by decide, by decide, by decide +kernel⟩, by decide⟩
theorem mn_Ma_statesAhead : gx_in yy_Ma_statesAhead := ⟨gx_F_in (tb_3 (List.mem_of_getElem? (i := 58) (by decide +kernel))) rfl, gx_F_in (tb_3 (List.mem_of_getElem? (i := 59) (by decide +kernel))) rfl⟩
set_option maxRecDepth 20000 in
theorem mc_Ma_statesBehind : Cond.code yy_Ma_statesBehind cc_Ma_statesBehind 4 (some .int) ∈ gx_F := gx_F_in (tb_3 (List.mem_of_getElem? (i := 64) rfl)) rfl
theorem me_Ma_statesBehind : gx_me yy_Ma_statesBehind cc_Ma_statesBehind 4 (some .int) 0 := ⟨mc_Ma_statesBehind, iz_Ma, ⟨by decide, by decide, by decide +kernel⟩, by decide⟩
theorem mn_Ma_statesBehind : gx_in yy_Ma_statesBehind := ⟨gx_F_in (tb_3 (List.mem_of_getElem? (i := 62) (by decide +kernel))) rfl, gx_F_in (tb_3 (List.mem_of_getElem? (i := 63) (by decide +kernel))) rfl⟩
theorem iz_JI : Cond.initialized "java/lang/Integer" ∈ gx_F := gx_F_in (tb_1 (List.mem_of_getElem? (i := 16) (by decide +kernel))) rfl
set_option maxRecDepth 20000 in
theorem mc_JI_bitCount : Cond.code yy_JI_bitCount cc_JI_bitCount 1 (some .int) ∈ gx_F := gx_F_in (tb_3 (List.mem_of_getElem? (i := 67) rfl)) rfl
theorem me_JI_bitCount : gx_me yy_JI_bitCount cc_JI_bitCount 1 (some .int) 1 := ⟨mc_JI_bitCount, iz_JI, ⟨by decide, by decide, by decide +kernel⟩, by decide⟩
theorem ms_JI_bitCount : Cond.static yy_JI_bitCount ∈ gx_F := gx_F_in (tb_3 (List.mem_of_getElem? (i := 66) (by decide +kernel))) rfl
set_option maxRecDepth 20000 in
theorem mc_WM_rankIn : Cond.code yy_WM_rankIn cc_WM_rankIn 2 (some .int) ∈ gx_F := gx_F_in (tb_3 (List.mem_of_getElem? (i := 74) rfl)) rfl
theorem me_WM_rankIn : gx_me yy_WM_rankIn cc_WM_rankIn 2 (some .int) 2 := ⟨mc_WM_rankIn, iz_WM, ⟨by decide, by decide, by decide +kernel⟩, by decide⟩
theorem ms_WM_rankIn : Cond.static yy_WM_rankIn ∈ gx_F := gx_F_in (tb_3 (List.mem_of_getElem? (i := 73) (by decide +kernel))) rfl
set_option maxRecDepth 20000 in
theorem mc_WM_weigh : Cond.code yy_WM_weigh cc_WM_weigh 4 (some .long) ∈ gx_F := gx_F_in (tb_3 (List.mem_of_getElem? (i := 79) rfl)) rfl
theorem me_WM_weigh : gx_me yy_WM_weigh cc_WM_weigh 4 (some .long) 3 := ⟨mc_WM_weigh, iz_WM, ⟨by decide, by decide, by decide +kernel⟩, by decide⟩
theorem mn_WM_weigh : gx_in yy_WM_weigh := ⟨gx_F_in (tb_3 (List.mem_of_getElem? (i := 77) (by decide +kernel))) rfl, gx_F_in (tb_3 (List.mem_of_getElem? (i := 78) (by decide +kernel))) rfl⟩
set_option maxRecDepth 20000 in
theorem mc_We_leastWeight : Cond.code yy_We_leastWeight cc_We_leastWeight 6 (some .long) ∈ gx_F := gx_F_in (tb_3 (List.mem_of_getElem? (i := 83) rfl)) rfl
theorem me_We_leastWeight : gx_me yy_We_leastWeight cc_We_leastWeight 6 (some .long) 3 := ⟨mc_We_leastWeight, iz_We, ⟨by decide, by decide, by decide +kernel⟩, by decide⟩
theorem mn_We_leastWeight : gx_in yy_We_leastWeight := ⟨gx_F_in (tb_3 (List.mem_of_getElem? (i := 81) (by decide +kernel))) rfl, gx_F_in (tb_3 (List.mem_of_getElem? (i := 82) (by decide +kernel))) rfl⟩
set_option maxRecDepth 20000 in
theorem mc_Ro_take : Cond.code yy_Ro_take cc_Ro_take 5 (some .boolean) ∈ gx_F := gx_F_in (tb_3 (List.mem_of_getElem? (i := 87) rfl)) rfl
theorem me_Ro_take : gx_me yy_Ro_take cc_Ro_take 5 (some .boolean) 1 := ⟨mc_Ro_take, iz_Ro, ⟨by decide, by decide, by decide +kernel⟩, by decide⟩
theorem mn_Ro_take : gx_in yy_Ro_take := ⟨gx_F_in (tb_3 (List.mem_of_getElem? (i := 85) (by decide +kernel))) rfl, gx_F_in (tb_3 (List.mem_of_getElem? (i := 86) (by decide +kernel))) rfl⟩
set_option maxRecDepth 20000 in
theorem mc_We_baseOf : Cond.code yy_We_baseOf cc_We_baseOf 2 (some .int) ∈ gx_F := gx_F_in (tb_3 (List.mem_of_getElem? (i := 93) rfl)) rfl
theorem me_We_baseOf : gx_me yy_We_baseOf cc_We_baseOf 2 (some .int) 2 := ⟨mc_We_baseOf, iz_We, ⟨by decide, by decide, by decide +kernel⟩, by decide⟩
theorem ms_We_baseOf : Cond.static yy_We_baseOf ∈ gx_F := gx_F_in (tb_3 (List.mem_of_getElem? (i := 92) (by decide +kernel))) rfl
set_option maxRecDepth 20000 in
theorem mc_We_leave : Cond.code yy_We_leave cc_We_leave 11 none ∈ gx_F := gx_F_in (tb_3 (List.mem_of_getElem? (i := 98) rfl)) rfl
theorem me_We_leave : gx_me yy_We_leave cc_We_leave 11 none 3 := ⟨mc_We_leave, iz_We, ⟨by decide, by decide, by decide +kernel⟩, by decide⟩
theorem mn_We_leave : gx_in yy_We_leave := ⟨gx_F_in (tb_3 (List.mem_of_getElem? (i := 97) (by decide +kernel))) rfl, gx_F_in (List.mem_append_left _ (List.mem_of_getElem? (i := 18) (by decide +kernel))) rfl⟩
set_option maxRecDepth 20000 in
theorem mc_Ro_doneAfter : Cond.code yy_Ro_doneAfter cc_Ro_doneAfter 4 (some .int) ∈ gx_F := gx_F_in (tb_3 (List.mem_of_getElem? (i := 103) rfl)) rfl
theorem me_Ro_doneAfter : gx_me yy_Ro_doneAfter cc_Ro_doneAfter 4 (some .int) 2 := ⟨mc_Ro_doneAfter, iz_Ro, ⟨by decide, by decide, by decide +kernel⟩, by decide⟩
theorem mn_Ro_doneAfter : gx_in yy_Ro_doneAfter := ⟨gx_F_in (tb_3 (List.mem_of_getElem? (i := 101) (by decide +kernel))) rfl, gx_F_in (tb_3 (List.mem_of_getElem? (i := 102) (by decide +kernel))) rfl⟩
set_option maxRecDepth 20000 in
theorem mc_We_leastEnd : Cond.code yy_We_leastEnd cc_We_leastEnd 6 (some .long) ∈ gx_F := gx_F_in (tb_3 (List.mem_of_getElem? (i := 112) rfl)) rfl
theorem me_We_leastEnd : gx_me yy_We_leastEnd cc_We_leastEnd 6 (some .long) 2 := ⟨mc_We_leastEnd, iz_We, ⟨by decide, by decide, by decide +kernel⟩, by decide⟩
theorem mn_We_leastEnd : gx_in yy_We_leastEnd := ⟨gx_F_in (tb_3 (List.mem_of_getElem? (i := 111) (by decide +kernel))) rfl, gx_F_in (List.mem_append_left _ (List.mem_of_getElem? (i := 19) (by decide +kernel))) rfl⟩
set_option maxRecDepth 20000 in
theorem mc_WM_best : Cond.code yy_WM_best cc_WM_best 3 (some .long) ∈ gx_F := gx_F_in (tb_3 (List.mem_of_getElem? (i := 117) rfl)) rfl
theorem me_WM_best : gx_me yy_WM_best cc_WM_best 3 (some .long) 1 := ⟨mc_WM_best, iz_WM, ⟨by decide, by decide, by decide +kernel⟩, by decide⟩
theorem mn_WM_best : gx_in yy_WM_best := ⟨gx_F_in (tb_3 (List.mem_of_getElem? (i := 115) (by decide +kernel))) rfl, gx_F_in (tb_3 (List.mem_of_getElem? (i := 116) (by decide +kernel))) rfl⟩
set_option maxRecDepth 20000 in
theorem mc_BP_keep : Cond.code yy_BP_keep cc_BP_keep 7 none ∈ gx_F := gx_F_in (tb_3 (List.mem_of_getElem? (i := 121) rfl)) rfl
theorem me_BP_keep : gx_me yy_BP_keep cc_BP_keep 7 none 2 := ⟨mc_BP_keep, iz_BP, ⟨by decide, by decide, by decide +kernel⟩, by decide⟩
theorem mn_BP_keep : gx_in yy_BP_keep := ⟨gx_F_in (tb_3 (List.mem_of_getElem? (i := 119) (by decide +kernel))) rfl, gx_F_in (tb_3 (List.mem_of_getElem? (i := 120) (by decide +kernel))) rfl⟩
set_option maxRecDepth 20000 in
theorem mc_On_arcsOf : Cond.code yy_On_arcsOf cc_On_arcsOf 2 (some .int) ∈ gx_F := gx_F_in (tb_3 (List.mem_of_getElem? (i := 125) rfl)) rfl
theorem me_On_arcsOf : gx_me yy_On_arcsOf cc_On_arcsOf 2 (some .int) 1 := ⟨mc_On_arcsOf, iz_On, ⟨by decide, by decide, by decide +kernel⟩, by decide⟩
theorem mn_On_arcsOf : gx_in yy_On_arcsOf := ⟨gx_F_in (tb_3 (List.mem_of_getElem? (i := 123) (by decide +kernel))) rfl, gx_F_in (tb_3 (List.mem_of_getElem? (i := 124) (by decide +kernel))) rfl⟩
set_option maxRecDepth 20000 in
theorem mc_JM_minX : Cond.code yy_JM_minX cc_JM_minX 2 (some .int) ∈ gx_F := gx_F_in (tb_3 (List.mem_of_getElem? (i := 128) rfl)) rfl
theorem me_JM_minX : gx_me yy_JM_minX cc_JM_minX 2 (some .int) 2 := ⟨mc_JM_minX, iz_JM, ⟨by decide, by decide, by decide +kernel⟩, by decide⟩
theorem ms_JM_minX : Cond.static yy_JM_minX ∈ gx_F := gx_F_in (tb_3 (List.mem_of_getElem? (i := 127) (by decide +kernel))) rfl
set_option maxRecDepth 20000 in
theorem mc_On_bestArc : Cond.code yy_On_bestArc cc_On_bestArc 4 (some .int) ∈ gx_F := gx_F_in (tb_3 (List.mem_of_getElem? (i := 132) rfl)) rfl
theorem me_On_bestArc : gx_me yy_On_bestArc cc_On_bestArc 4 (some .int) 2 := ⟨mc_On_bestArc, iz_On, ⟨by decide, by decide, by decide +kernel⟩, by decide⟩
theorem mn_On_bestArc : gx_in yy_On_bestArc := ⟨gx_F_in (tb_3 (List.mem_of_getElem? (i := 130) (by decide +kernel))) rfl, gx_F_in (tb_3 (List.mem_of_getElem? (i := 131) (by decide +kernel))) rfl⟩
set_option maxRecDepth 20000 in
theorem mc_WM_step : Cond.code yy_WM_step cc_WM_step 3 (some .int) ∈ gx_F := gx_F_in (tb_3 (List.mem_of_getElem? (i := 139) rfl)) rfl
theorem me_WM_step : gx_me yy_WM_step cc_WM_step 3 (some .int) 2 := ⟨mc_WM_step, iz_WM, ⟨by decide, by decide, by decide +kernel⟩, by decide⟩
theorem mn_WM_step : gx_in yy_WM_step := ⟨gx_F_in (tb_3 (List.mem_of_getElem? (i := 137) (by decide +kernel))) rfl, gx_F_in (tb_3 (List.mem_of_getElem? (i := 138) (by decide +kernel))) rfl⟩
set_option maxRecDepth 20000 in
theorem mc_WM_arcPart : Cond.code yy_WM_arcPart cc_WM_arcPart 4 (some .int) ∈ gx_F := gx_F_in (tb_3 (List.mem_of_getElem? (i := 142) rfl)) rfl
theorem me_WM_arcPart : gx_me yy_WM_arcPart cc_WM_arcPart 4 (some .int) 3 := ⟨mc_WM_arcPart, iz_WM, ⟨by decide, by decide, by decide +kernel⟩, by decide⟩
theorem ms_WM_arcPart : Cond.static yy_WM_arcPart ∈ gx_F := gx_F_in (tb_3 (List.mem_of_getElem? (i := 141) (by decide +kernel))) rfl
set_option maxRecDepth 20000 in
theorem mc_WM_count : Cond.code yy_WM_count cc_WM_count 4 (some .int) ∈ gx_F := gx_F_in (tb_3 (List.mem_of_getElem? (i := 148) rfl)) rfl
theorem me_WM_count : gx_me yy_WM_count cc_WM_count 4 (some .int) 2 := ⟨mc_WM_count, iz_WM, ⟨by decide, by decide, by decide +kernel⟩, by decide⟩
theorem mn_WM_count : gx_in yy_WM_count := ⟨gx_F_in (tb_3 (List.mem_of_getElem? (i := 146) (by decide +kernel))) rfl, gx_F_in (tb_3 (List.mem_of_getElem? (i := 147) (by decide +kernel))) rfl⟩
set_option maxRecDepth 20000 in
theorem mc_Ma_countEnds : Cond.code yy_Ma_countEnds cc_Ma_countEnds 3 (some .int) ∈ gx_F := gx_F_in (tb_3 (List.mem_of_getElem? (i := 152) rfl)) rfl
theorem me_Ma_countEnds : gx_me yy_Ma_countEnds cc_Ma_countEnds 3 (some .int) 0 := ⟨mc_Ma_countEnds, iz_Ma, ⟨by decide, by decide, by decide +kernel⟩, by decide⟩
theorem mn_Ma_countEnds : gx_in yy_Ma_countEnds := ⟨gx_F_in (tb_3 (List.mem_of_getElem? (i := 150) (by decide +kernel))) rfl, gx_F_in (tb_3 (List.mem_of_getElem? (i := 151) (by decide +kernel))) rfl⟩
set_option maxRecDepth 20000 in
theorem mc_WM_part : Cond.code yy_WM_part cc_WM_part 4 (some .int) ∈ gx_F := gx_F_in (tb_3 (List.mem_of_getElem? (i := 156) rfl)) rfl
theorem me_WM_part : gx_me yy_WM_part cc_WM_part 4 (some .int) 3 := ⟨mc_WM_part, iz_WM, ⟨by decide, by decide, by decide +kernel⟩, by decide⟩
theorem mn_WM_part : gx_in yy_WM_part := ⟨gx_F_in (tb_3 (List.mem_of_getElem? (i := 154) (by decide +kernel))) rfl, gx_F_in (tb_3 (List.mem_of_getElem? (i := 155) (by decide +kernel))) rfl⟩
set_option maxRecDepth 20000 in
theorem mc_WM_endOf : Cond.code yy_WM_endOf cc_WM_endOf 3 (some .int) ∈ gx_F := gx_F_in (tb_3 (List.mem_of_getElem? (i := 160) rfl)) rfl
theorem me_WM_endOf : gx_me yy_WM_endOf cc_WM_endOf 3 (some .int) 2 := ⟨mc_WM_endOf, iz_WM, ⟨by decide, by decide, by decide +kernel⟩, by decide⟩
theorem mn_WM_endOf : gx_in yy_WM_endOf := ⟨gx_F_in (tb_3 (List.mem_of_getElem? (i := 158) (by decide +kernel))) rfl, gx_F_in (tb_3 (List.mem_of_getElem? (i := 159) (by decide +kernel))) rfl⟩
set_option maxRecDepth 20000 in
theorem mc_WM_print : Cond.code yy_WM_print cc_WM_print 2 (some .int) ∈ gx_F := gx_F_in (tb_3 (List.mem_of_getElem? (i := 164) rfl)) rfl
theorem me_WM_print : gx_me yy_WM_print cc_WM_print 2 (some .int) 1 := ⟨mc_WM_print, iz_WM, ⟨by decide, by decide, by decide +kernel⟩, by decide⟩
theorem mn_WM_print : gx_in yy_WM_print := ⟨gx_F_in (tb_3 (List.mem_of_getElem? (i := 162) (by decide +kernel))) rfl, gx_F_in (tb_3 (List.mem_of_getElem? (i := 163) (by decide +kernel))) rfl⟩
set_option maxRecDepth 20000 in
theorem mc_Te_tell : Cond.code yy_Te_tell cc_Te_tell 3 none ∈ gx_F := gx_F_in (tb_3 (List.mem_of_getElem? (i := 168) rfl)) rfl
theorem me_Te_tell : gx_me yy_Te_tell cc_Te_tell 3 none 1 := ⟨mc_Te_tell, iz_Te, ⟨by decide, by decide, by decide +kernel⟩, by decide⟩
theorem mn_Te_tell : gx_in yy_Te_tell := ⟨gx_F_in (tb_3 (List.mem_of_getElem? (i := 166) (by decide +kernel))) rfl, gx_F_in (tb_3 (List.mem_of_getElem? (i := 167) (by decide +kernel))) rfl⟩
set_option maxRecDepth 20000 in
theorem mc_Te_put : Cond.code yy_Te_put cc_Te_put 2 none ∈ gx_F := gx_F_in (tb_3 (List.mem_of_getElem? (i := 172) rfl)) rfl
theorem me_Te_put : gx_me yy_Te_put cc_Te_put 2 none 1 := ⟨mc_Te_put, iz_Te, ⟨by decide, by decide, by decide +kernel⟩, by decide⟩
theorem mn_Te_put : gx_in yy_Te_put := ⟨gx_F_in (tb_3 (List.mem_of_getElem? (i := 170) (by decide +kernel))) rfl, gx_F_in (tb_3 (List.mem_of_getElem? (i := 171) (by decide +kernel))) rfl⟩
set_option maxRecDepth 20000 in
theorem mc_Te_putNumber : Cond.code yy_Te_putNumber cc_Te_putNumber 6 none ∈ gx_F := gx_F_in (tb_3 (List.mem_of_getElem? (i := 176) rfl)) rfl
theorem me_Te_putNumber : gx_me yy_Te_putNumber cc_Te_putNumber 6 none 1 := ⟨mc_Te_putNumber, iz_Te, ⟨by decide, by decide, by decide +kernel⟩, by decide⟩
theorem mn_Te_putNumber : gx_in yy_Te_putNumber := ⟨gx_F_in (tb_3 (List.mem_of_getElem? (i := 175) (by decide +kernel))) rfl, gx_F_in (List.mem_append_left _ (List.mem_of_getElem? (i := 20) (by decide +kernel))) rfl⟩
set_option maxRecDepth 20000 in
theorem mc_Te_putStateWeight : Cond.code yy_Te_putStateWeight cc_Te_putStateWeight 5 none ∈ gx_F := gx_F_in (tb_3 (List.mem_of_getElem? (i := 181) rfl)) rfl
theorem me_Te_putStateWeight : gx_me yy_Te_putStateWeight cc_Te_putStateWeight 5 none 3 := ⟨mc_Te_putStateWeight, iz_Te, ⟨by decide, by decide, by decide +kernel⟩, by decide⟩
theorem mn_Te_putStateWeight : gx_in yy_Te_putStateWeight := ⟨gx_F_in (tb_3 (List.mem_of_getElem? (i := 180) (by decide +kernel))) rfl, gx_F_in (List.mem_append_left _ (List.mem_of_getElem? (i := 21) (by decide +kernel))) rfl⟩
set_option maxRecDepth 20000 in
theorem mc_Te_putWeight : Cond.code yy_Te_putWeight cc_Te_putWeight 3 none ∈ gx_F := gx_F_in (tb_3 (List.mem_of_getElem? (i := 185) rfl)) rfl
theorem me_Te_putWeight : gx_me yy_Te_putWeight cc_Te_putWeight 3 none 1 := ⟨mc_Te_putWeight, iz_Te, ⟨by decide, by decide, by decide +kernel⟩, by decide⟩
theorem mn_Te_putWeight : gx_in yy_Te_putWeight := ⟨gx_F_in (tb_3 (List.mem_of_getElem? (i := 184) (by decide +kernel))) rfl, gx_F_in (List.mem_append_left _ (List.mem_of_getElem? (i := 22) (by decide +kernel))) rfl⟩
set_option maxRecDepth 20000 in
theorem mc_Te_putArc : Cond.code yy_Te_putArc cc_Te_putArc 4 none ∈ gx_F := gx_F_in (tb_3 (List.mem_of_getElem? (i := 190) rfl)) rfl
theorem me_Te_putArc : gx_me yy_Te_putArc cc_Te_putArc 4 none 2 := ⟨mc_Te_putArc, iz_Te, ⟨by decide, by decide, by decide +kernel⟩, by decide⟩
theorem mn_Te_putArc : gx_in yy_Te_putArc := ⟨gx_F_in (tb_3 (List.mem_of_getElem? (i := 189) (by decide +kernel))) rfl, gx_F_in (List.mem_append_left _ (List.mem_of_getElem? (i := 23) (by decide +kernel))) rfl⟩
set_option maxRecDepth 20000 in
theorem mc_WM_parse : Cond.code yy_WM_parse cc_WM_parse 3 (some .int) ∈ gx_F := gx_F_in (tb_3 (List.mem_of_getElem? (i := 198) rfl)) rfl
theorem me_WM_parse : gx_me yy_WM_parse cc_WM_parse 3 (some .int) 1 := ⟨mc_WM_parse, iz_WM, ⟨by decide, by decide, by decide +kernel⟩, by decide⟩
theorem mn_WM_parse : gx_in yy_WM_parse := ⟨gx_F_in (tb_3 (List.mem_of_getElem? (i := 196) (by decide +kernel))) rfl, gx_F_in (tb_3 (List.mem_of_getElem? (i := 197) (by decide +kernel))) rfl⟩
set_option maxRecDepth 20000 in
theorem mc_Pa_build : Cond.code yy_Pa_build cc_Pa_build 5 (some .int) ∈ gx_F := gx_F_in (tb_3 (List.mem_of_getElem? (i := 202) rfl)) rfl
theorem me_Pa_build : gx_me yy_Pa_build cc_Pa_build 5 (some .int) 2 := ⟨mc_Pa_build, iz_Pa, ⟨by decide, by decide, by decide +kernel⟩, by decide⟩
theorem mn_Pa_build : gx_in yy_Pa_build := ⟨gx_F_in (tb_3 (List.mem_of_getElem? (i := 200) (by decide +kernel))) rfl, gx_F_in (tb_3 (List.mem_of_getElem? (i := 201) (by decide +kernel))) rfl⟩
set_option maxRecDepth 20000 in
theorem mc_Pa_readSize : Cond.code yy_Pa_readSize cc_Pa_readSize 2 (some .int) ∈ gx_F := gx_F_in (tb_3 (List.mem_of_getElem? (i := 206) rfl)) rfl
theorem me_Pa_readSize : gx_me yy_Pa_readSize cc_Pa_readSize 2 (some .int) 0 := ⟨mc_Pa_readSize, iz_Pa, ⟨by decide, by decide, by decide +kernel⟩, by decide⟩
theorem mn_Pa_readSize : gx_in yy_Pa_readSize := ⟨gx_F_in (tb_3 (List.mem_of_getElem? (i := 205) (by decide +kernel))) rfl, gx_F_in (List.mem_append_left _ (List.mem_of_getElem? (i := 24) (by decide +kernel))) rfl⟩
set_option maxRecDepth 20000 in
theorem mc_Pa_readSign : Cond.code yy_Pa_readSign cc_Pa_readSign 2 (some .int) ∈ gx_F := gx_F_in (tb_3 (List.mem_of_getElem? (i := 210) rfl)) rfl
theorem me_Pa_readSign : gx_me yy_Pa_readSign cc_Pa_readSign 2 (some .int) 1 := ⟨mc_Pa_readSign, iz_Pa, ⟨by decide, by decide, by decide +kernel⟩, by decide⟩
theorem mn_Pa_readSign : gx_in yy_Pa_readSign := ⟨gx_F_in (tb_3 (List.mem_of_getElem? (i := 209) (by decide +kernel))) rfl, gx_F_in (List.mem_append_left _ (List.mem_of_getElem? (i := 25) (by decide +kernel))) rfl⟩
set_option maxRecDepth 20000 in
theorem mc_Te_codeAt : Cond.code yy_Te_codeAt cc_Te_codeAt 2 (some .int) ∈ gx_F := gx_F_in (tb_3 (List.mem_of_getElem? (i := 214) rfl)) rfl
theorem me_Te_codeAt : gx_me yy_Te_codeAt cc_Te_codeAt 2 (some .int) 1 := ⟨mc_Te_codeAt, iz_Te, ⟨by decide, by decide, by decide +kernel⟩, by decide⟩
theorem mn_Te_codeAt : gx_in yy_Te_codeAt := ⟨gx_F_in (tb_3 (List.mem_of_getElem? (i := 212) (by decide +kernel))) rfl, gx_F_in (tb_3 (List.mem_of_getElem? (i := 213) (by decide +kernel))) rfl⟩
set_option maxRecDepth 20000 in
theorem mc_Pa_readNumber : Cond.code yy_Pa_readNumber cc_Pa_readNumber 4 (some .int) ∈ gx_F := gx_F_in (tb_3 (List.mem_of_getElem? (i := 219) rfl)) rfl
theorem me_Pa_readNumber : gx_me yy_Pa_readNumber cc_Pa_readNumber 4 (some .int) 1 := ⟨mc_Pa_readNumber, iz_Pa, ⟨by decide, by decide, by decide +kernel⟩, by decide⟩
theorem mn_Pa_readNumber : gx_in yy_Pa_readNumber := ⟨gx_F_in (tb_3 (List.mem_of_getElem? (i := 218) (by decide +kernel))) rfl, gx_F_in (List.mem_append_left _ (List.mem_of_getElem? (i := 26) (by decide +kernel))) rfl⟩
set_option maxRecDepth 20000 in
theorem mc_Pa_isDigit : Cond.code yy_Pa_isDigit cc_Pa_isDigit 1 (some .boolean) ∈ gx_F := gx_F_in (tb_3 (List.mem_of_getElem? (i := 222) rfl)) rfl
theorem me_Pa_isDigit : gx_me yy_Pa_isDigit cc_Pa_isDigit 1 (some .boolean) 1 := ⟨mc_Pa_isDigit, iz_Pa, ⟨by decide, by decide, by decide +kernel⟩, by decide⟩
theorem ms_Pa_isDigit : Cond.static yy_Pa_isDigit ∈ gx_F := gx_F_in (tb_3 (List.mem_of_getElem? (i := 221) (by decide +kernel))) rfl
set_option maxRecDepth 20000 in
theorem mc_Pa_readItem : Cond.code yy_Pa_readItem cc_Pa_readItem 1 (some .int) ∈ gx_F := gx_F_in (tb_3 (List.mem_of_getElem? (i := 229) rfl)) rfl
theorem me_Pa_readItem : gx_me yy_Pa_readItem cc_Pa_readItem 1 (some .int) 0 := ⟨mc_Pa_readItem, iz_Pa, ⟨by decide, by decide, by decide +kernel⟩, by decide⟩
theorem mn_Pa_readItem : gx_in yy_Pa_readItem := ⟨gx_F_in (tb_3 (List.mem_of_getElem? (i := 228) (by decide +kernel))) rfl, gx_F_in (List.mem_append_left _ (List.mem_of_getElem? (i := 27) (by decide +kernel))) rfl⟩
set_option maxRecDepth 20000 in
theorem mc_Pa_readStart : Cond.code yy_Pa_readStart cc_Pa_readStart 3 (some .int) ∈ gx_F := gx_F_in (tb_3 (List.mem_of_getElem? (i := 233) rfl)) rfl
theorem me_Pa_readStart : gx_me yy_Pa_readStart cc_Pa_readStart 3 (some .int) 0 := ⟨mc_Pa_readStart, iz_Pa, ⟨by decide, by decide, by decide +kernel⟩, by decide⟩
theorem mn_Pa_readStart : gx_in yy_Pa_readStart := ⟨gx_F_in (tb_3 (List.mem_of_getElem? (i := 232) (by decide +kernel))) rfl, gx_F_in (List.mem_append_left _ (List.mem_of_getElem? (i := 28) (by decide +kernel))) rfl⟩
set_option maxRecDepth 20000 in
theorem mc_Pa_readState : Cond.code yy_Pa_readState cc_Pa_readState 1 (some .int) ∈ gx_F := gx_F_in (tb_3 (List.mem_of_getElem? (i := 237) rfl)) rfl
theorem me_Pa_readState : gx_me yy_Pa_readState cc_Pa_readState 1 (some .int) 0 := ⟨mc_Pa_readState, iz_Pa, ⟨by decide, by decide, by decide +kernel⟩, by decide⟩
theorem mn_Pa_readState : gx_in yy_Pa_readState := ⟨gx_F_in (tb_3 (List.mem_of_getElem? (i := 236) (by decide +kernel))) rfl, gx_F_in (List.mem_append_left _ (List.mem_of_getElem? (i := 29) (by decide +kernel))) rfl⟩
set_option maxRecDepth 20000 in
theorem mc_Pa_readWeight : Cond.code yy_Pa_readWeight cc_Pa_readWeight 2 (some .int) ∈ gx_F := gx_F_in (tb_4 (List.mem_of_getElem? (i := 1) rfl)) rfl
theorem me_Pa_readWeight : gx_me yy_Pa_readWeight cc_Pa_readWeight 2 (some .int) 0 := ⟨mc_Pa_readWeight, iz_Pa, ⟨by decide, by decide, by decide +kernel⟩, by decide⟩
theorem mn_Pa_readWeight : gx_in yy_Pa_readWeight := ⟨gx_F_in (tb_4 (List.mem_of_getElem? (i := 0) (by decide +kernel))) rfl, gx_F_in (List.mem_append_left _ (List.mem_of_getElem? (i := 30) (by decide +kernel))) rfl⟩
set_option maxRecDepth 20000 in
theorem mc_Pa_readEnd : Cond.code yy_Pa_readEnd cc_Pa_readEnd 3 (some .int) ∈ gx_F := gx_F_in (tb_4 (List.mem_of_getElem? (i := 7) rfl)) rfl
theorem me_Pa_readEnd : gx_me yy_Pa_readEnd cc_Pa_readEnd 3 (some .int) 0 := ⟨mc_Pa_readEnd, iz_Pa, ⟨by decide, by decide, by decide +kernel⟩, by decide⟩
theorem mn_Pa_readEnd : gx_in yy_Pa_readEnd := ⟨gx_F_in (tb_4 (List.mem_of_getElem? (i := 6) (by decide +kernel))) rfl, gx_F_in (List.mem_append_left _ (List.mem_of_getElem? (i := 31) (by decide +kernel))) rfl⟩
set_option maxRecDepth 20000 in
theorem mc_Pa_readArc : Cond.code yy_Pa_readArc cc_Pa_readArc 6 (some .int) ∈ gx_F := gx_F_in (tb_4 (List.mem_of_getElem? (i := 12) rfl)) rfl
theorem me_Pa_readArc : gx_me yy_Pa_readArc cc_Pa_readArc 6 (some .int) 0 := ⟨mc_Pa_readArc, iz_Pa, ⟨by decide, by decide, by decide +kernel⟩, by decide⟩
theorem mn_Pa_readArc : gx_in yy_Pa_readArc := ⟨gx_F_in (tb_4 (List.mem_of_getElem? (i := 11) (by decide +kernel))) rfl, gx_F_in (List.mem_append_left _ (List.mem_of_getElem? (i := 32) (by decide +kernel))) rfl⟩
set_option maxRecDepth 20000 in
theorem mc_Pa_readLabel : Cond.code yy_Pa_readLabel cc_Pa_readLabel 1 (some .int) ∈ gx_F := gx_F_in (tb_4 (List.mem_of_getElem? (i := 16) rfl)) rfl
theorem me_Pa_readLabel : gx_me yy_Pa_readLabel cc_Pa_readLabel 1 (some .int) 0 := ⟨mc_Pa_readLabel, iz_Pa, ⟨by decide, by decide, by decide +kernel⟩, by decide⟩
theorem mn_Pa_readLabel : gx_in yy_Pa_readLabel := ⟨gx_F_in (tb_4 (List.mem_of_getElem? (i := 15) (by decide +kernel))) rfl, gx_F_in (List.mem_append_left _ (List.mem_of_getElem? (i := 33) (by decide +kernel))) rfl⟩
set_option maxRecDepth 20000 in
theorem mc_WM_feed : Cond.code yy_WM_feed cc_WM_feed 5 (some .int) ∈ gx_F := gx_F_in (tb_4 (List.mem_of_getElem? (i := 24) rfl)) rfl
theorem me_WM_feed : gx_me yy_WM_feed cc_WM_feed 5 (some .int) 2 := ⟨mc_WM_feed, iz_WM, ⟨by decide, by decide, by decide +kernel⟩, by decide⟩
theorem mn_WM_feed : gx_in yy_WM_feed := ⟨gx_F_in (tb_4 (List.mem_of_getElem? (i := 22) (by decide +kernel))) rfl, gx_F_in (tb_4 (List.mem_of_getElem? (i := 23) (by decide +kernel))) rfl⟩
set_option maxRecDepth 20000 in
theorem mc_WM_areLetters : Cond.code yy_WM_areLetters cc_WM_areLetters 6 (some .boolean) ∈ gx_F := gx_F_in (tb_4 (List.mem_of_getElem? (i := 27) rfl)) rfl
theorem me_WM_areLetters : gx_me yy_WM_areLetters cc_WM_areLetters 6 (some .boolean) 2 := ⟨mc_WM_areLetters, iz_WM, ⟨by decide, by decide, by decide +kernel⟩, by decide⟩
theorem ms_WM_areLetters : Cond.static yy_WM_areLetters ∈ gx_F := gx_F_in (tb_4 (List.mem_of_getElem? (i := 26) (by decide +kernel))) rfl
set_option maxRecDepth 20000 in
theorem mc_WM_letter : Cond.code yy_WM_letter cc_WM_letter 2 (some .int) ∈ gx_F := gx_F_in (tb_4 (List.mem_of_getElem? (i := 35) rfl)) rfl
theorem me_WM_letter : gx_me yy_WM_letter cc_WM_letter 2 (some .int) 1 := ⟨mc_WM_letter, iz_WM, ⟨by decide, by decide, by decide +kernel⟩, by decide⟩
theorem mn_WM_letter : gx_in yy_WM_letter := ⟨gx_F_in (tb_4 (List.mem_of_getElem? (i := 33) (by decide +kernel))) rfl, gx_F_in (tb_4 (List.mem_of_getElem? (i := 34) (by decide +kernel))) rfl⟩
theorem iz_Mo : Cond.initialized "WeighedMachinesModel" ∈ gx_F := gx_F_in (tb_1 (List.mem_of_getElem? (i := 13) (by decide +kernel))) rfl
set_option maxRecDepth 20000 in
theorem mc_Mo_init : Cond.code yy_Mo_init cc_Mo_init 2 none ∈ gx_F := gx_F_in (tb_4 (List.mem_of_getElem? (i := 41) rfl)) rfl
theorem me_Mo_init : gx_me yy_Mo_init cc_Mo_init 2 none 0 := ⟨mc_Mo_init, iz_Mo, ⟨by decide, by decide, by decide +kernel⟩, by decide⟩
theorem mn_Mo_init : Cond.instanceMethod yy_Mo_init ∈ gx_F := gx_F_in (tb_4 (List.mem_of_getElem? (i := 40) (by decide +kernel))) rfl
set_option maxRecDepth 20000 in
theorem mc_Mo_blank : Cond.code yy_Mo_blank cc_Mo_blank 4 none ∈ gx_F := gx_F_in (tb_4 (List.mem_of_getElem? (i := 46) rfl)) rfl
theorem me_Mo_blank : gx_me yy_Mo_blank cc_Mo_blank 4 none 2 := ⟨mc_Mo_blank, iz_Mo, ⟨by decide, by decide, by decide +kernel⟩, by decide⟩
theorem mn_Mo_blank : gx_in yy_Mo_blank := ⟨gx_F_in (tb_4 (List.mem_of_getElem? (i := 45) (by decide +kernel))) rfl, gx_F_in (List.mem_append_left _ (List.mem_of_getElem? (i := 34) (by decide +kernel))) rfl⟩
set_option maxRecDepth 20000 in
theorem mc_Mo_fresh : Cond.code yy_Mo_fresh cc_Mo_fresh 3 (some .boolean) ∈ gx_F := gx_F_in (tb_4 (List.mem_of_getElem? (i := 137) rfl)) rfl
theorem me_Mo_fresh : gx_me yy_Mo_fresh cc_Mo_fresh 3 (some .boolean) 2 := ⟨mc_Mo_fresh, iz_Mo, ⟨by decide, by decide, by decide +kernel⟩, by decide⟩
theorem mn_Mo_fresh : gx_in yy_Mo_fresh := ⟨gx_F_in (tb_4 (List.mem_of_getElem? (i := 135) (by decide +kernel))) rfl, gx_F_in (tb_4 (List.mem_of_getElem? (i := 136) (by decide +kernel))) rfl⟩
set_option maxRecDepth 20000 in
theorem mc_Mo_isSlot : Cond.code yy_Mo_isSlot cc_Mo_isSlot 1 (some .boolean) ∈ gx_F := gx_F_in (tb_4 (List.mem_of_getElem? (i := 140) rfl)) rfl
theorem me_Mo_isSlot : gx_me yy_Mo_isSlot cc_Mo_isSlot 1 (some .boolean) 1 := ⟨mc_Mo_isSlot, iz_Mo, ⟨by decide, by decide, by decide +kernel⟩, by decide⟩
theorem ms_Mo_isSlot : Cond.static yy_Mo_isSlot ∈ gx_F := gx_F_in (tb_4 (List.mem_of_getElem? (i := 139) (by decide +kernel))) rfl
set_option maxRecDepth 20000 in
theorem mc_Mo_start : Cond.code yy_Mo_start cc_Mo_start 4 (some .boolean) ∈ gx_F := gx_F_in (tb_4 (List.mem_of_getElem? (i := 144) rfl)) rfl
theorem me_Mo_start : gx_me yy_Mo_start cc_Mo_start 4 (some .boolean) 3 := ⟨mc_Mo_start, iz_Mo, ⟨by decide, by decide, by decide +kernel⟩, by decide⟩
theorem mn_Mo_start : gx_in yy_Mo_start := ⟨gx_F_in (tb_4 (List.mem_of_getElem? (i := 142) (by decide +kernel))) rfl, gx_F_in (tb_4 (List.mem_of_getElem? (i := 143) (by decide +kernel))) rfl⟩
set_option maxRecDepth 20000 in
theorem mc_Mo_isState : Cond.code yy_Mo_isState cc_Mo_isState 3 (some .boolean) ∈ gx_F := gx_F_in (tb_4 (List.mem_of_getElem? (i := 148) rfl)) rfl
theorem me_Mo_isState : gx_me yy_Mo_isState cc_Mo_isState 3 (some .boolean) 2 := ⟨mc_Mo_isState, iz_Mo, ⟨by decide, by decide, by decide +kernel⟩, by decide⟩
theorem mn_Mo_isState : gx_in yy_Mo_isState := ⟨gx_F_in (tb_4 (List.mem_of_getElem? (i := 147) (by decide +kernel))) rfl, gx_F_in (List.mem_append_left _ (List.mem_of_getElem? (i := 35) (by decide +kernel))) rfl⟩
set_option maxRecDepth 20000 in
theorem mc_Mo_isWeight : Cond.code yy_Mo_isWeight cc_Mo_isWeight 2 (some .boolean) ∈ gx_F := gx_F_in (tb_4 (List.mem_of_getElem? (i := 151) rfl)) rfl
theorem me_Mo_isWeight : gx_me yy_Mo_isWeight cc_Mo_isWeight 2 (some .boolean) 1 := ⟨mc_Mo_isWeight, iz_Mo, ⟨by decide, by decide, by decide +kernel⟩, by decide⟩
theorem ms_Mo_isWeight : Cond.static yy_Mo_isWeight ∈ gx_F := gx_F_in (tb_4 (List.mem_of_getElem? (i := 150) (by decide +kernel))) rfl
set_option maxRecDepth 20000 in
theorem mc_Mo_end : Cond.code yy_Mo_end cc_Mo_end 4 (some .boolean) ∈ gx_F := gx_F_in (tb_4 (List.mem_of_getElem? (i := 156) rfl)) rfl
theorem me_Mo_end : gx_me yy_Mo_end cc_Mo_end 4 (some .boolean) 3 := ⟨mc_Mo_end, iz_Mo, ⟨by decide, by decide, by decide +kernel⟩, by decide⟩
theorem mn_Mo_end : gx_in yy_Mo_end := ⟨gx_F_in (tb_4 (List.mem_of_getElem? (i := 154) (by decide +kernel))) rfl, gx_F_in (tb_4 (List.mem_of_getElem? (i := 155) (by decide +kernel))) rfl⟩
set_option maxRecDepth 20000 in
theorem mc_Mo_arc : Cond.code yy_Mo_arc cc_Mo_arc 6 (some .int) ∈ gx_F := gx_F_in (tb_4 (List.mem_of_getElem? (i := 160) rfl)) rfl
theorem me_Mo_arc : gx_me yy_Mo_arc cc_Mo_arc 6 (some .int) 5 := ⟨mc_Mo_arc, iz_Mo, ⟨by decide, by decide, by decide +kernel⟩, by decide⟩
theorem mn_Mo_arc : gx_in yy_Mo_arc := ⟨gx_F_in (tb_4 (List.mem_of_getElem? (i := 158) (by decide +kernel))) rfl, gx_F_in (tb_4 (List.mem_of_getElem? (i := 159) (by decide +kernel))) rfl⟩
set_option maxRecDepth 20000 in
theorem mc_Mo_put : Cond.code yy_Mo_put cc_Mo_put 11 (some .boolean) ∈ gx_F := gx_F_in (tb_4 (List.mem_of_getElem? (i := 164) rfl)) rfl
theorem me_Mo_put : gx_me yy_Mo_put cc_Mo_put 11 (some .boolean) 6 := ⟨mc_Mo_put, iz_Mo, ⟨by decide, by decide, by decide +kernel⟩, by decide⟩
theorem mn_Mo_put : gx_in yy_Mo_put := ⟨gx_F_in (tb_4 (List.mem_of_getElem? (i := 163) (by decide +kernel))) rfl, gx_F_in (List.mem_append_left _ (List.mem_of_getElem? (i := 36) (by decide +kernel))) rfl⟩
set_option maxRecDepth 20000 in
theorem mc_Mo_against : Cond.code yy_Mo_against cc_Mo_against 7 (some .int) ∈ gx_F := gx_F_in (tb_4 (List.mem_of_getElem? (i := 168) rfl)) rfl
theorem me_Mo_against : gx_me yy_Mo_against cc_Mo_against 7 (some .int) 5 := ⟨mc_Mo_against, iz_Mo, ⟨by decide, by decide, by decide +kernel⟩, by decide⟩
theorem mn_Mo_against : gx_in yy_Mo_against := ⟨gx_F_in (tb_4 (List.mem_of_getElem? (i := 167) (by decide +kernel))) rfl, gx_F_in (List.mem_append_left _ (List.mem_of_getElem? (i := 37) (by decide +kernel))) rfl⟩
set_option maxRecDepth 20000 in
theorem mc_Mo_compose : Cond.code yy_Mo_compose cc_Mo_compose 9 (some .int) ∈ gx_F := gx_F_in (tb_4 (List.mem_of_getElem? (i := 172) rfl)) rfl
theorem me_Mo_compose : gx_me yy_Mo_compose cc_Mo_compose 9 (some .int) 3 := ⟨mc_Mo_compose, iz_Mo, ⟨by decide, by decide, by decide +kernel⟩, by decide⟩
theorem mn_Mo_compose : gx_in yy_Mo_compose := ⟨gx_F_in (tb_4 (List.mem_of_getElem? (i := 170) (by decide +kernel))) rfl, gx_F_in (tb_4 (List.mem_of_getElem? (i := 171) (by decide +kernel))) rfl⟩
set_option maxRecDepth 20000 in
theorem mc_Mo_reach : Cond.code yy_Mo_reach cc_Mo_reach 6 (some .int) ∈ gx_F := gx_F_in (tb_4 (List.mem_of_getElem? (i := 176) rfl)) rfl
theorem me_Mo_reach : gx_me yy_Mo_reach cc_Mo_reach 6 (some .int) 3 := ⟨mc_Mo_reach, iz_Mo, ⟨by decide, by decide, by decide +kernel⟩, by decide⟩
theorem mn_Mo_reach : gx_in yy_Mo_reach := ⟨gx_F_in (tb_4 (List.mem_of_getElem? (i := 175) (by decide +kernel))) rfl, gx_F_in (List.mem_append_left _ (List.mem_of_getElem? (i := 38) (by decide +kernel))) rfl⟩
set_option maxRecDepth 20000 in
theorem mc_Mo_explore : Cond.code yy_Mo_explore cc_Mo_explore 6 (some .boolean) ∈ gx_F := gx_F_in (tb_4 (List.mem_of_getElem? (i := 180) rfl)) rfl
theorem me_Mo_explore : gx_me yy_Mo_explore cc_Mo_explore 6 (some .boolean) 2 := ⟨mc_Mo_explore, iz_Mo, ⟨by decide, by decide, by decide +kernel⟩, by decide⟩
theorem mn_Mo_explore : gx_in yy_Mo_explore := ⟨gx_F_in (tb_4 (List.mem_of_getElem? (i := 179) (by decide +kernel))) rfl, gx_F_in (List.mem_append_left _ (List.mem_of_getElem? (i := 39) (by decide +kernel))) rfl⟩
set_option maxRecDepth 20000 in
theorem mc_Mo_meet : Cond.code yy_Mo_meet cc_Mo_meet 10 (some .boolean) ∈ gx_F := gx_F_in (tb_4 (List.mem_of_getElem? (i := 184) rfl)) rfl
theorem me_Mo_meet : gx_me yy_Mo_meet cc_Mo_meet 10 (some .boolean) 4 := ⟨mc_Mo_meet, iz_Mo, ⟨by decide, by decide, by decide +kernel⟩, by decide⟩
theorem mn_Mo_meet : gx_in yy_Mo_meet := ⟨gx_F_in (tb_4 (List.mem_of_getElem? (i := 183) (by decide +kernel))) rfl, gx_F_in (List.mem_append_left _ (List.mem_of_getElem? (i := 40) (by decide +kernel))) rfl⟩
set_option maxRecDepth 20000 in
theorem mc_Mo_link : Cond.code yy_Mo_link cc_Mo_link 7 (some .boolean) ∈ gx_F := gx_F_in (tb_4 (List.mem_of_getElem? (i := 188) rfl)) rfl
theorem me_Mo_link : gx_me yy_Mo_link cc_Mo_link 7 (some .boolean) 5 := ⟨mc_Mo_link, iz_Mo, ⟨by decide, by decide, by decide +kernel⟩, by decide⟩
theorem mn_Mo_link : gx_in yy_Mo_link := ⟨gx_F_in (tb_4 (List.mem_of_getElem? (i := 187) (by decide +kernel))) rfl, gx_F_in (List.mem_append_left _ (List.mem_of_getElem? (i := 41) (by decide +kernel))) rfl⟩
set_option maxRecDepth 20000 in
theorem mc_Mo_alone : Cond.code yy_Mo_alone cc_Mo_alone 9 (some .boolean) ∈ gx_F := gx_F_in (tb_4 (List.mem_of_getElem? (i := 192) rfl)) rfl
theorem me_Mo_alone : gx_me yy_Mo_alone cc_Mo_alone 9 (some .boolean) 3 := ⟨mc_Mo_alone, iz_Mo, ⟨by decide, by decide, by decide +kernel⟩, by decide⟩
theorem mn_Mo_alone : gx_in yy_Mo_alone := ⟨gx_F_in (tb_4 (List.mem_of_getElem? (i := 191) (by decide +kernel))) rfl, gx_F_in (List.mem_append_left _ (List.mem_of_getElem? (i := 42) (by decide +kernel))) rfl⟩
set_option maxRecDepth 20000 in
theorem mc_Mo_keep : Cond.code yy_Mo_keep cc_Mo_keep 4 (some .boolean) ∈ gx_F := gx_F_in (tb_4 (List.mem_of_getElem? (i := 196) rfl)) rfl
theorem me_Mo_keep : gx_me yy_Mo_keep cc_Mo_keep 4 (some .boolean) 1 := ⟨mc_Mo_keep, iz_Mo, ⟨by decide, by decide, by decide +kernel⟩, by decide⟩
theorem mn_Mo_keep : gx_in yy_Mo_keep := ⟨gx_F_in (tb_4 (List.mem_of_getElem? (i := 195) (by decide +kernel))) rfl, gx_F_in (List.mem_append_left _ (List.mem_of_getElem? (i := 43) (by decide +kernel))) rfl⟩
set_option maxRecDepth 20000 in
theorem mc_Mo_bare : Cond.code yy_Mo_bare cc_Mo_bare 9 (some .int) ∈ gx_F := gx_F_in (tb_4 (List.mem_of_getElem? (i := 200) rfl)) rfl
theorem me_Mo_bare : gx_me yy_Mo_bare cc_Mo_bare 9 (some .int) 2 := ⟨mc_Mo_bare, iz_Mo, ⟨by decide, by decide, by decide +kernel⟩, by decide⟩
theorem mn_Mo_bare : gx_in yy_Mo_bare := ⟨gx_F_in (tb_4 (List.mem_of_getElem? (i := 198) (by decide +kernel))) rfl, gx_F_in (tb_4 (List.mem_of_getElem? (i := 199) (by decide +kernel))) rfl⟩
set_option maxRecDepth 20000 in
theorem mc_Mo_spread : Cond.code yy_Mo_spread cc_Mo_spread 8 none ∈ gx_F := gx_F_in (tb_4 (List.mem_of_getElem? (i := 204) rfl)) rfl
theorem me_Mo_spread : gx_me yy_Mo_spread cc_Mo_spread 8 none 2 := ⟨mc_Mo_spread, iz_Mo, ⟨by decide, by decide, by decide +kernel⟩, by decide⟩
theorem mn_Mo_spread : gx_in yy_Mo_spread := ⟨gx_F_in (tb_4 (List.mem_of_getElem? (i := 203) (by decide +kernel))) rfl, gx_F_in (List.mem_append_left _ (List.mem_of_getElem? (i := 44) (by decide +kernel))) rfl⟩
set_option maxRecDepth 20000 in
theorem mc_Mo_determine : Cond.code yy_Mo_determine cc_Mo_determine 11 (some .int) ∈ gx_F := gx_F_in (tb_4 (List.mem_of_getElem? (i := 209) rfl)) rfl
theorem me_Mo_determine : gx_me yy_Mo_determine cc_Mo_determine 11 (some .int) 2 := ⟨mc_Mo_determine, iz_Mo, ⟨by decide, by decide, by decide +kernel⟩, by decide⟩
theorem mn_Mo_determine : gx_in yy_Mo_determine := ⟨gx_F_in (tb_4 (List.mem_of_getElem? (i := 207) (by decide +kernel))) rfl, gx_F_in (tb_4 (List.mem_of_getElem? (i := 208) (by decide +kernel))) rfl⟩
set_option maxRecDepth 20000 in
theorem mc_Mo_isFit : Cond.code yy_Mo_isFit cc_Mo_isFit 5 (some .boolean) ∈ gx_F := gx_F_in (tb_4 (List.mem_of_getElem? (i := 213) rfl)) rfl
theorem me_Mo_isFit : gx_me yy_Mo_isFit cc_Mo_isFit 5 (some .boolean) 1 := ⟨mc_Mo_isFit, iz_Mo, ⟨by decide, by decide, by decide +kernel⟩, by decide⟩
theorem mn_Mo_isFit : gx_in yy_Mo_isFit := ⟨gx_F_in (tb_4 (List.mem_of_getElem? (i := 212) (by decide +kernel))) rfl, gx_F_in (List.mem_append_left _ (List.mem_of_getElem? (i := 45) (by decide +kernel))) rfl⟩
set_option maxRecDepth 20000 in
theorem mc_Mo_gather : Cond.code yy_Mo_gather cc_Mo_gather 7 (some .boolean) ∈ gx_F := gx_F_in (tb_4 (List.mem_of_getElem? (i := 217) rfl)) rfl
theorem me_Mo_gather : gx_me yy_Mo_gather cc_Mo_gather 7 (some .boolean) 1 := ⟨mc_Mo_gather, iz_Mo, ⟨by decide, by decide, by decide +kernel⟩, by decide⟩
theorem mn_Mo_gather : gx_in yy_Mo_gather := ⟨gx_F_in (tb_4 (List.mem_of_getElem? (i := 216) (by decide +kernel))) rfl, gx_F_in (List.mem_append_left _ (List.mem_of_getElem? (i := 46) (by decide +kernel))) rfl⟩
set_option maxRecDepth 20000 in
theorem mc_Mo_follow : Cond.code yy_Mo_follow cc_Mo_follow 12 (some .long) ∈ gx_F := gx_F_in (tb_4 (List.mem_of_getElem? (i := 221) rfl)) rfl
theorem me_Mo_follow : gx_me yy_Mo_follow cc_Mo_follow 12 (some .long) 3 := ⟨mc_Mo_follow, iz_Mo, ⟨by decide, by decide, by decide +kernel⟩, by decide⟩
theorem mn_Mo_follow : gx_in yy_Mo_follow := ⟨gx_F_in (tb_4 (List.mem_of_getElem? (i := 220) (by decide +kernel))) rfl, gx_F_in (List.mem_append_left _ (List.mem_of_getElem? (i := 47) (by decide +kernel))) rfl⟩
set_option maxRecDepth 20000 in
theorem mc_Mo_settle : Cond.code yy_Mo_settle cc_Mo_settle 4 (some .int) ∈ gx_F := gx_F_in (tb_4 (List.mem_of_getElem? (i := 225) rfl)) rfl
theorem me_Mo_settle : gx_me yy_Mo_settle cc_Mo_settle 4 (some .int) 0 := ⟨mc_Mo_settle, iz_Mo, ⟨by decide, by decide, by decide +kernel⟩, by decide⟩
theorem mn_Mo_settle : gx_in yy_Mo_settle := ⟨gx_F_in (tb_4 (List.mem_of_getElem? (i := 224) (by decide +kernel))) rfl, gx_F_in (List.mem_append_left _ (List.mem_of_getElem? (i := 48) (by decide +kernel))) rfl⟩
set_option maxRecDepth 20000 in
theorem mc_Mo_push : Cond.code yy_Mo_push cc_Mo_push 6 (some .int) ∈ gx_F := gx_F_in (tb_4 (List.mem_of_getElem? (i := 229) rfl)) rfl
theorem me_Mo_push : gx_me yy_Mo_push cc_Mo_push 6 (some .int) 2 := ⟨mc_Mo_push, iz_Mo, ⟨by decide, by decide, by decide +kernel⟩, by decide⟩
theorem mn_Mo_push : gx_in yy_Mo_push := ⟨gx_F_in (tb_4 (List.mem_of_getElem? (i := 227) (by decide +kernel))) rfl, gx_F_in (tb_4 (List.mem_of_getElem? (i := 228) (by decide +kernel))) rfl⟩
set_option maxRecDepth 20000 in
theorem mc_Mo_findOnward : Cond.code yy_Mo_findOnward cc_Mo_findOnward 8 none ∈ gx_F := gx_F_in (tb_4 (List.mem_of_getElem? (i := 233) rfl)) rfl
theorem me_Mo_findOnward : gx_me yy_Mo_findOnward cc_Mo_findOnward 8 none 1 := ⟨mc_Mo_findOnward, iz_Mo, ⟨by decide, by decide, by decide +kernel⟩, by decide⟩
theorem mn_Mo_findOnward : gx_in yy_Mo_findOnward := ⟨gx_F_in (tb_4 (List.mem_of_getElem? (i := 232) (by decide +kernel))) rfl, gx_F_in (List.mem_append_left _ (List.mem_of_getElem? (i := 49) (by decide +kernel))) rfl⟩
set_option maxRecDepth 20000 in
theorem mc_Mo_trim : Cond.code yy_Mo_trim cc_Mo_trim 5 (some .int) ∈ gx_F := gx_F_in (tb_4 (List.mem_of_getElem? (i := 237) rfl)) rfl
theorem me_Mo_trim : gx_me yy_Mo_trim cc_Mo_trim 5 (some .int) 2 := ⟨mc_Mo_trim, iz_Mo, ⟨by decide, by decide, by decide +kernel⟩, by decide⟩
theorem mn_Mo_trim : gx_in yy_Mo_trim := ⟨gx_F_in (tb_4 (List.mem_of_getElem? (i := 235) (by decide +kernel))) rfl, gx_F_in (tb_4 (List.mem_of_getElem? (i := 236) (by decide +kernel))) rfl⟩
set_option maxRecDepth 20000 in
theorem mc_Mo_findReached : Cond.code yy_Mo_findReached cc_Mo_findReached 4 none ∈ gx_F := gx_F_in (tb_5 (List.mem_of_getElem? (i := 1) rfl)) rfl
theorem me_Mo_findReached : gx_me yy_Mo_findReached cc_Mo_findReached 4 none 1 := ⟨mc_Mo_findReached, iz_Mo, ⟨by decide, by decide, by decide +kernel⟩, by decide⟩
theorem mn_Mo_findReached : gx_in yy_Mo_findReached := ⟨gx_F_in (tb_5 (List.mem_of_getElem? (i := 0) (by decide +kernel))) rfl, gx_F_in (List.mem_append_left _ (List.mem_of_getElem? (i := 50) (by decide +kernel))) rfl⟩
set_option maxRecDepth 20000 in
theorem mc_Mo_rank : Cond.code yy_Mo_rank cc_Mo_rank 4 (some .int) ∈ gx_F := gx_F_in (tb_5 (List.mem_of_getElem? (i := 5) rfl)) rfl
theorem me_Mo_rank : gx_me yy_Mo_rank cc_Mo_rank 4 (some .int) 1 := ⟨mc_Mo_rank, iz_Mo, ⟨by decide, by decide, by decide +kernel⟩, by decide⟩
theorem mn_Mo_rank : gx_in yy_Mo_rank := ⟨gx_F_in (tb_5 (List.mem_of_getElem? (i := 4) (by decide +kernel))) rfl, gx_F_in (List.mem_append_left _ (List.mem_of_getElem? (i := 51) (by decide +kernel))) rfl⟩
set_option maxRecDepth 20000 in
theorem mc_Mo_isOnPath : Cond.code yy_Mo_isOnPath cc_Mo_isOnPath 2 (some .boolean) ∈ gx_F := gx_F_in (tb_5 (List.mem_of_getElem? (i := 9) rfl)) rfl
theorem me_Mo_isOnPath : gx_me yy_Mo_isOnPath cc_Mo_isOnPath 2 (some .boolean) 1 := ⟨mc_Mo_isOnPath, iz_Mo, ⟨by decide, by decide, by decide +kernel⟩, by decide⟩
theorem mn_Mo_isOnPath : gx_in yy_Mo_isOnPath := ⟨gx_F_in (tb_5 (List.mem_of_getElem? (i := 8) (by decide +kernel))) rfl, gx_F_in (List.mem_append_left _ (List.mem_of_getElem? (i := 52) (by decide +kernel))) rfl⟩
set_option maxRecDepth 20000 in
theorem mc_Mo_weigh : Cond.code yy_Mo_weigh cc_Mo_weigh 12 (some .long) ∈ gx_F := gx_F_in (tb_5 (List.mem_of_getElem? (i := 13) rfl)) rfl
theorem me_Mo_weigh : gx_me yy_Mo_weigh cc_Mo_weigh 12 (some .long) 3 := ⟨mc_Mo_weigh, iz_Mo, ⟨by decide, by decide, by decide +kernel⟩, by decide⟩
theorem mn_Mo_weigh : gx_in yy_Mo_weigh := ⟨gx_F_in (tb_5 (List.mem_of_getElem? (i := 11) (by decide +kernel))) rfl, gx_F_in (tb_5 (List.mem_of_getElem? (i := 12) (by decide +kernel))) rfl⟩
set_option maxRecDepth 20000 in
theorem mc_Mo_sizeOf : Cond.code yy_Mo_sizeOf cc_Mo_sizeOf 3 (some .int) ∈ gx_F := gx_F_in (tb_5 (List.mem_of_getElem? (i := 16) rfl)) rfl
theorem me_Mo_sizeOf : gx_me yy_Mo_sizeOf cc_Mo_sizeOf 3 (some .int) 1 := ⟨mc_Mo_sizeOf, iz_Mo, ⟨by decide, by decide, by decide +kernel⟩, by decide⟩
theorem ms_Mo_sizeOf : Cond.static yy_Mo_sizeOf ∈ gx_F := gx_F_in (tb_5 (List.mem_of_getElem? (i := 15) (by decide +kernel))) rfl
set_option maxRecDepth 20000 in
theorem mc_Mo_labelAt : Cond.code yy_Mo_labelAt cc_Mo_labelAt 5 (some .int) ∈ gx_F := gx_F_in (tb_5 (List.mem_of_getElem? (i := 19) rfl)) rfl
theorem me_Mo_labelAt : gx_me yy_Mo_labelAt cc_Mo_labelAt 5 (some .int) 3 := ⟨mc_Mo_labelAt, iz_Mo, ⟨by decide, by decide, by decide +kernel⟩, by decide⟩
theorem ms_Mo_labelAt : Cond.static yy_Mo_labelAt ∈ gx_F := gx_F_in (tb_5 (List.mem_of_getElem? (i := 18) (by decide +kernel))) rfl
set_option maxRecDepth 20000 in
theorem mc_Mo_relax : Cond.code yy_Mo_relax cc_Mo_relax 11 (some .boolean) ∈ gx_F := gx_F_in (tb_5 (List.mem_of_getElem? (i := 23) rfl)) rfl
theorem me_Mo_relax : gx_me yy_Mo_relax cc_Mo_relax 11 (some .boolean) 1 := ⟨mc_Mo_relax, iz_Mo, ⟨by decide, by decide, by decide +kernel⟩, by decide⟩
theorem mn_Mo_relax : gx_in yy_Mo_relax := ⟨gx_F_in (tb_5 (List.mem_of_getElem? (i := 22) (by decide +kernel))) rfl, gx_F_in (List.mem_append_left _ (List.mem_of_getElem? (i := 53) (by decide +kernel))) rfl⟩
set_option maxRecDepth 20000 in
theorem mc_Mo_best : Cond.code yy_Mo_best cc_Mo_best 6 (some .long) ∈ gx_F := gx_F_in (tb_5 (List.mem_of_getElem? (i := 27) rfl)) rfl
theorem me_Mo_best : gx_me yy_Mo_best cc_Mo_best 6 (some .long) 1 := ⟨mc_Mo_best, iz_Mo, ⟨by decide, by decide, by decide +kernel⟩, by decide⟩
theorem mn_Mo_best : gx_in yy_Mo_best := ⟨gx_F_in (tb_5 (List.mem_of_getElem? (i := 25) (by decide +kernel))) rfl, gx_F_in (tb_5 (List.mem_of_getElem? (i := 26) (by decide +kernel))) rfl⟩
set_option maxRecDepth 20000 in
theorem mc_Mo_step : Cond.code yy_Mo_step cc_Mo_step 3 (some .int) ∈ gx_F := gx_F_in (tb_5 (List.mem_of_getElem? (i := 31) rfl)) rfl
theorem me_Mo_step : gx_me yy_Mo_step cc_Mo_step 3 (some .int) 2 := ⟨mc_Mo_step, iz_Mo, ⟨by decide, by decide, by decide +kernel⟩, by decide⟩
theorem mn_Mo_step : gx_in yy_Mo_step := ⟨gx_F_in (tb_5 (List.mem_of_getElem? (i := 29) (by decide +kernel))) rfl, gx_F_in (tb_5 (List.mem_of_getElem? (i := 30) (by decide +kernel))) rfl⟩
set_option maxRecDepth 20000 in
theorem mc_Mo_count : Cond.code yy_Mo_count cc_Mo_count 5 (some .int) ∈ gx_F := gx_F_in (tb_5 (List.mem_of_getElem? (i := 35) rfl)) rfl
theorem me_Mo_count : gx_me yy_Mo_count cc_Mo_count 5 (some .int) 2 := ⟨mc_Mo_count, iz_Mo, ⟨by decide, by decide, by decide +kernel⟩, by decide⟩
theorem mn_Mo_count : gx_in yy_Mo_count := ⟨gx_F_in (tb_5 (List.mem_of_getElem? (i := 33) (by decide +kernel))) rfl, gx_F_in (tb_5 (List.mem_of_getElem? (i := 34) (by decide +kernel))) rfl⟩
set_option maxRecDepth 20000 in
theorem mc_Mo_part : Cond.code yy_Mo_part cc_Mo_part 5 (some .int) ∈ gx_F := gx_F_in (tb_5 (List.mem_of_getElem? (i := 39) rfl)) rfl
theorem me_Mo_part : gx_me yy_Mo_part cc_Mo_part 5 (some .int) 3 := ⟨mc_Mo_part, iz_Mo, ⟨by decide, by decide, by decide +kernel⟩, by decide⟩
theorem mn_Mo_part : gx_in yy_Mo_part := ⟨gx_F_in (tb_5 (List.mem_of_getElem? (i := 37) (by decide +kernel))) rfl, gx_F_in (tb_5 (List.mem_of_getElem? (i := 38) (by decide +kernel))) rfl⟩
set_option maxRecDepth 20000 in
theorem mc_Mo_endOf : Cond.code yy_Mo_endOf cc_Mo_endOf 3 (some .int) ∈ gx_F := gx_F_in (tb_5 (List.mem_of_getElem? (i := 43) rfl)) rfl
theorem me_Mo_endOf : gx_me yy_Mo_endOf cc_Mo_endOf 3 (some .int) 2 := ⟨mc_Mo_endOf, iz_Mo, ⟨by decide, by decide, by decide +kernel⟩, by decide⟩
theorem mn_Mo_endOf : gx_in yy_Mo_endOf := ⟨gx_F_in (tb_5 (List.mem_of_getElem? (i := 41) (by decide +kernel))) rfl, gx_F_in (tb_5 (List.mem_of_getElem? (i := 42) (by decide +kernel))) rfl⟩
set_option maxRecDepth 20000 in
theorem mc_Mo_print : Cond.code yy_Mo_print cc_Mo_print 3 (some .int) ∈ gx_F := gx_F_in (tb_5 (List.mem_of_getElem? (i := 47) rfl)) rfl
theorem me_Mo_print : gx_me yy_Mo_print cc_Mo_print 3 (some .int) 1 := ⟨mc_Mo_print, iz_Mo, ⟨by decide, by decide, by decide +kernel⟩, by decide⟩
theorem mn_Mo_print : gx_in yy_Mo_print := ⟨gx_F_in (tb_5 (List.mem_of_getElem? (i := 45) (by decide +kernel))) rfl, gx_F_in (tb_5 (List.mem_of_getElem? (i := 46) (by decide +kernel))) rfl⟩
set_option maxRecDepth 20000 in
theorem mc_Mo_say : Cond.code yy_Mo_say cc_Mo_say 2 none ∈ gx_F := gx_F_in (tb_5 (List.mem_of_getElem? (i := 51) rfl)) rfl
theorem me_Mo_say : gx_me yy_Mo_say cc_Mo_say 2 none 1 := ⟨mc_Mo_say, iz_Mo, ⟨by decide, by decide, by decide +kernel⟩, by decide⟩
theorem mn_Mo_say : gx_in yy_Mo_say := ⟨gx_F_in (tb_5 (List.mem_of_getElem? (i := 50) (by decide +kernel))) rfl, gx_F_in (List.mem_append_left _ (List.mem_of_getElem? (i := 54) (by decide +kernel))) rfl⟩
set_option maxRecDepth 20000 in
theorem mc_Mo_sayNumber : Cond.code yy_Mo_sayNumber cc_Mo_sayNumber 6 none ∈ gx_F := gx_F_in (tb_5 (List.mem_of_getElem? (i := 55) rfl)) rfl
theorem me_Mo_sayNumber : gx_me yy_Mo_sayNumber cc_Mo_sayNumber 6 none 2 := ⟨mc_Mo_sayNumber, iz_Mo, ⟨by decide, by decide, by decide +kernel⟩, by decide⟩
theorem mn_Mo_sayNumber : gx_in yy_Mo_sayNumber := ⟨gx_F_in (tb_5 (List.mem_of_getElem? (i := 54) (by decide +kernel))) rfl, gx_F_in (List.mem_append_left _ (List.mem_of_getElem? (i := 55) (by decide +kernel))) rfl⟩
set_option maxRecDepth 20000 in
theorem mc_Mo_sayDigit : Cond.code yy_Mo_sayDigit cc_Mo_sayDigit 2 none ∈ gx_F := gx_F_in (tb_5 (List.mem_of_getElem? (i := 60) rfl)) rfl
theorem me_Mo_sayDigit : gx_me yy_Mo_sayDigit cc_Mo_sayDigit 2 none 1 := ⟨mc_Mo_sayDigit, iz_Mo, ⟨by decide, by decide, by decide +kernel⟩, by decide⟩
theorem mn_Mo_sayDigit : gx_in yy_Mo_sayDigit := ⟨gx_F_in (tb_5 (List.mem_of_getElem? (i := 59) (by decide +kernel))) rfl, gx_F_in (List.mem_append_left _ (List.mem_of_getElem? (i := 56) (by decide +kernel))) rfl⟩
set_option maxRecDepth 20000 in
theorem mc_Mo_letter : Cond.code yy_Mo_letter cc_Mo_letter 2 (some .int) ∈ gx_F := gx_F_in (tb_5 (List.mem_of_getElem? (i := 64) rfl)) rfl
theorem me_Mo_letter : gx_me yy_Mo_letter cc_Mo_letter 2 (some .int) 1 := ⟨mc_Mo_letter, iz_Mo, ⟨by decide, by decide, by decide +kernel⟩, by decide⟩
theorem mn_Mo_letter : gx_in yy_Mo_letter := ⟨gx_F_in (tb_5 (List.mem_of_getElem? (i := 62) (by decide +kernel))) rfl, gx_F_in (tb_5 (List.mem_of_getElem? (i := 63) (by decide +kernel))) rfl⟩
set_option maxRecDepth 20000 in
theorem mc_Mo_feed : Cond.code yy_Mo_feed cc_Mo_feed 6 (some .int) ∈ gx_F := gx_F_in (tb_5 (List.mem_of_getElem? (i := 68) rfl)) rfl
theorem me_Mo_feed : gx_me yy_Mo_feed cc_Mo_feed 6 (some .int) 2 := ⟨mc_Mo_feed, iz_Mo, ⟨by decide, by decide, by decide +kernel⟩, by decide⟩
theorem mn_Mo_feed : gx_in yy_Mo_feed := ⟨gx_F_in (tb_5 (List.mem_of_getElem? (i := 66) (by decide +kernel))) rfl, gx_F_in (tb_5 (List.mem_of_getElem? (i := 67) (by decide +kernel))) rfl⟩
set_option maxRecDepth 20000 in
theorem mc_Mo_parse : Cond.code yy_Mo_parse cc_Mo_parse 5 (some .int) ∈ gx_F := gx_F_in (tb_5 (List.mem_of_getElem? (i := 73) rfl)) rfl
theorem me_Mo_parse : gx_me yy_Mo_parse cc_Mo_parse 5 (some .int) 1 := ⟨mc_Mo_parse, iz_Mo, ⟨by decide, by decide, by decide +kernel⟩, by decide⟩
theorem mn_Mo_parse : gx_in yy_Mo_parse := ⟨gx_F_in (tb_5 (List.mem_of_getElem? (i := 71) (by decide +kernel))) rfl, gx_F_in (tb_5 (List.mem_of_getElem? (i := 72) (by decide +kernel))) rfl⟩
set_option maxRecDepth 20000 in
theorem mc_Mo_takeIf : Cond.code yy_Mo_takeIf cc_Mo_takeIf 2 none ∈ gx_F := gx_F_in (tb_5 (List.mem_of_getElem? (i := 77) rfl)) rfl
theorem me_Mo_takeIf : gx_me yy_Mo_takeIf cc_Mo_takeIf 2 none 1 := ⟨mc_Mo_takeIf, iz_Mo, ⟨by decide, by decide, by decide +kernel⟩, by decide⟩
theorem mn_Mo_takeIf : gx_in yy_Mo_takeIf := ⟨gx_F_in (tb_5 (List.mem_of_getElem? (i := 76) (by decide +kernel))) rfl, gx_F_in (List.mem_append_left _ (List.mem_of_getElem? (i := 57) (by decide +kernel))) rfl⟩
set_option maxRecDepth 20000 in
theorem mc_Mo_take : Cond.code yy_Mo_take cc_Mo_take 2 none ∈ gx_F := gx_F_in (tb_5 (List.mem_of_getElem? (i := 81) rfl)) rfl
theorem me_Mo_take : gx_me yy_Mo_take cc_Mo_take 2 none 1 := ⟨mc_Mo_take, iz_Mo, ⟨by decide, by decide, by decide +kernel⟩, by decide⟩
theorem mn_Mo_take : gx_in yy_Mo_take := ⟨gx_F_in (tb_5 (List.mem_of_getElem? (i := 80) (by decide +kernel))) rfl, gx_F_in (List.mem_append_left _ (List.mem_of_getElem? (i := 58) (by decide +kernel))) rfl⟩
set_option maxRecDepth 20000 in
theorem mc_Mo_here : Cond.code yy_Mo_here cc_Mo_here 1 (some .int) ∈ gx_F := gx_F_in (tb_5 (List.mem_of_getElem? (i := 85) rfl)) rfl
theorem me_Mo_here : gx_me yy_Mo_here cc_Mo_here 1 (some .int) 0 := ⟨mc_Mo_here, iz_Mo, ⟨by decide, by decide, by decide +kernel⟩, by decide⟩
theorem mn_Mo_here : gx_in yy_Mo_here := ⟨gx_F_in (tb_5 (List.mem_of_getElem? (i := 84) (by decide +kernel))) rfl, gx_F_in (List.mem_append_left _ (List.mem_of_getElem? (i := 59) (by decide +kernel))) rfl⟩
set_option maxRecDepth 20000 in
theorem mc_Mo_fail : Cond.code yy_Mo_fail cc_Mo_fail 2 none ∈ gx_F := gx_F_in (tb_5 (List.mem_of_getElem? (i := 89) rfl)) rfl
theorem me_Mo_fail : gx_me yy_Mo_fail cc_Mo_fail 2 none 1 := ⟨mc_Mo_fail, iz_Mo, ⟨by decide, by decide, by decide +kernel⟩, by decide⟩
theorem mn_Mo_fail : gx_in yy_Mo_fail := ⟨gx_F_in (tb_5 (List.mem_of_getElem? (i := 88) (by decide +kernel))) rfl, gx_F_in (List.mem_append_left _ (List.mem_of_getElem? (i := 60) (by decide +kernel))) rfl⟩
set_option maxRecDepth 20000 in
theorem mc_Mo_takeNumber : Cond.code yy_Mo_takeNumber cc_Mo_takeNumber 6 (some .long) ∈ gx_F := gx_F_in (tb_5 (List.mem_of_getElem? (i := 94) rfl)) rfl
theorem me_Mo_takeNumber : gx_me yy_Mo_takeNumber cc_Mo_takeNumber 6 (some .long) 1 := ⟨mc_Mo_takeNumber, iz_Mo, ⟨by decide, by decide, by decide +kernel⟩, by decide⟩
theorem mn_Mo_takeNumber : gx_in yy_Mo_takeNumber := ⟨gx_F_in (tb_5 (List.mem_of_getElem? (i := 93) (by decide +kernel))) rfl, gx_F_in (List.mem_append_left _ (List.mem_of_getElem? (i := 61) (by decide +kernel))) rfl⟩
set_option maxRecDepth 20000 in
theorem mc_Mo_isDigit : Cond.code yy_Mo_isDigit cc_Mo_isDigit 1 (some .boolean) ∈ gx_F := gx_F_in (tb_5 (List.mem_of_getElem? (i := 98) rfl)) rfl
theorem me_Mo_isDigit : gx_me yy_Mo_isDigit cc_Mo_isDigit 1 (some .boolean) 0 := ⟨mc_Mo_isDigit, iz_Mo, ⟨by decide, by decide, by decide +kernel⟩, by decide⟩
theorem mn_Mo_isDigit : gx_in yy_Mo_isDigit := ⟨gx_F_in (tb_5 (List.mem_of_getElem? (i := 97) (by decide +kernel))) rfl, gx_F_in (List.mem_append_left _ (List.mem_of_getElem? (i := 62) (by decide +kernel))) rfl⟩
set_option maxRecDepth 20000 in
theorem mc_Mo_parseEnds : Cond.code yy_Mo_parseEnds cc_Mo_parseEnds 5 none ∈ gx_F := gx_F_in (tb_5 (List.mem_of_getElem? (i := 103) rfl)) rfl
theorem me_Mo_parseEnds : gx_me yy_Mo_parseEnds cc_Mo_parseEnds 5 none 1 := ⟨mc_Mo_parseEnds, iz_Mo, ⟨by decide, by decide, by decide +kernel⟩, by decide⟩
theorem mn_Mo_parseEnds : gx_in yy_Mo_parseEnds := ⟨gx_F_in (tb_5 (List.mem_of_getElem? (i := 102) (by decide +kernel))) rfl, gx_F_in (List.mem_append_left _ (List.mem_of_getElem? (i := 63) (by decide +kernel))) rfl⟩
set_option maxRecDepth 20000 in
theorem mc_Mo_takeState : Cond.code yy_Mo_takeState cc_Mo_takeState 1 (some .int) ∈ gx_F := gx_F_in (tb_5 (List.mem_of_getElem? (i := 107) rfl)) rfl
theorem me_Mo_takeState : gx_me yy_Mo_takeState cc_Mo_takeState 1 (some .int) 0 := ⟨mc_Mo_takeState, iz_Mo, ⟨by decide, by decide, by decide +kernel⟩, by decide⟩
theorem mn_Mo_takeState : gx_in yy_Mo_takeState := ⟨gx_F_in (tb_5 (List.mem_of_getElem? (i := 106) (by decide +kernel))) rfl, gx_F_in (List.mem_append_left _ (List.mem_of_getElem? (i := 64) (by decide +kernel))) rfl⟩
set_option maxRecDepth 20000 in
theorem mc_Mo_parseArc : Cond.code yy_Mo_parseArc cc_Mo_parseArc 7 none ∈ gx_F := gx_F_in (tb_5 (List.mem_of_getElem? (i := 111) rfl)) rfl
theorem me_Mo_parseArc : gx_me yy_Mo_parseArc cc_Mo_parseArc 7 none 0 := ⟨mc_Mo_parseArc, iz_Mo, ⟨by decide, by decide, by decide +kernel⟩, by decide⟩
theorem mn_Mo_parseArc : gx_in yy_Mo_parseArc := ⟨gx_F_in (tb_5 (List.mem_of_getElem? (i := 110) (by decide +kernel))) rfl, gx_F_in (List.mem_append_left _ (List.mem_of_getElem? (i := 65) (by decide +kernel))) rfl⟩
set_option maxRecDepth 20000 in
theorem mc_Mo_takeLabel : Cond.code yy_Mo_takeLabel cc_Mo_takeLabel 2 (some .int) ∈ gx_F := gx_F_in (tb_5 (List.mem_of_getElem? (i := 115) rfl)) rfl
theorem me_Mo_takeLabel : gx_me yy_Mo_takeLabel cc_Mo_takeLabel 2 (some .int) 0 := ⟨mc_Mo_takeLabel, iz_Mo, ⟨by decide, by decide, by decide +kernel⟩, by decide⟩
theorem mn_Mo_takeLabel : gx_in yy_Mo_takeLabel := ⟨gx_F_in (tb_5 (List.mem_of_getElem? (i := 114) (by decide +kernel))) rfl, gx_F_in (List.mem_append_left _ (List.mem_of_getElem? (i := 66) (by decide +kernel))) rfl⟩
theorem ml_WM_15 : gx_ml "WeighedMachines" 15 yy_Ma_init := Or.inl (gx_F_in (tb_1 (List.mem_of_getElem? (i := 28) (by decide +kernel))) rfl)
theorem ml_WM_22 : gx_ml "WeighedMachines" 22 yy_Co_init := Or.inl (gx_F_in (tb_1 (List.mem_of_getElem? (i := 110) (by decide +kernel))) rfl)
theorem ml_WM_29 : gx_ml "WeighedMachines" 29 yy_Ba_init := Or.inl (gx_F_in (tb_1 (List.mem_of_getElem? (i := 129) (by decide +kernel))) rfl)
theorem ml_WM_36 : gx_ml "WeighedMachines" 36 yy_De_init := Or.inl (gx_F_in (tb_1 (List.mem_of_getElem? (i := 139) (by decide +kernel))) rfl)
theorem ml_WM_43 : gx_ml "WeighedMachines" 43 yy_On_init := Or.inl (gx_F_in (tb_1 (List.mem_of_getElem? (i := 158) (by decide +kernel))) rfl)
theorem ml_WM_50 : gx_ml "WeighedMachines" 50 yy_We_init := Or.inl (gx_F_in (tb_1 (List.mem_of_getElem? (i := 168) (by decide +kernel))) rfl)
theorem ml_WM_57 : gx_ml "WeighedMachines" 57 yy_BP_init := Or.inl (gx_F_in (tb_1 (List.mem_of_getElem? (i := 198) (by decide +kernel))) rfl)
theorem ml_WM_64 : gx_ml "WeighedMachines" 64 yy_Te_init := Or.inl (gx_F_in (tb_1 (List.mem_of_getElem? (i := 217) (by decide +kernel))) rfl)
theorem ml_WM_76 : gx_ml "WeighedMachines" 76 yy_WM_isSlot := Or.inl (gx_F_in (tb_2 (List.mem_of_getElem? (i := 45) (by decide +kernel))) rfl)
theorem ml_WM_80 : gx_ml "WeighedMachines" 80 yy_Ma_clear := Or.inl (gx_F_in (tb_2 (List.mem_of_getElem? (i := 48) (by decide +kernel))) rfl)
theorem ml_WM_84 : gx_ml "WeighedMachines" 84 yy_WM_isState := Or.inl (gx_F_in (tb_2 (List.mem_of_getElem? (i := 56) (by decide +kernel))) rfl)
theorem ml_WM_88 : gx_ml "WeighedMachines" 88 yy_WM_isWeight := Or.inl (gx_F_in (tb_2 (List.mem_of_getElem? (i := 60) (by decide +kernel))) rfl)
theorem ml_WM_92 : gx_ml "WeighedMachines" 92 yy_Ma_setStart := Or.inl (gx_F_in (tb_2 (List.mem_of_getElem? (i := 64) (by decide +kernel))) rfl)
theorem ml_WM_100 : gx_ml "WeighedMachines" 100 yy_WM_keyOf := Or.inl (gx_F_in (tb_2 (List.mem_of_getElem? (i := 76) (by decide +kernel))) rfl)
theorem ml_WM_104 : gx_ml "WeighedMachines" 104 yy_Ma_bring := Or.inl (gx_F_in (tb_2 (List.mem_of_getElem? (i := 79) (by decide +kernel))) rfl)
theorem ml_WM_112 : gx_ml "WeighedMachines" 112 yy_Co_build := Or.inl (gx_F_in (tb_2 (List.mem_of_getElem? (i := 97) (by decide +kernel))) rfl)
theorem ml_WM_116 : gx_ml "WeighedMachines" 116 yy_WM_take := Or.inl (gx_F_in (tb_2 (List.mem_of_getElem? (i := 154) (by decide +kernel))) rfl)
theorem ml_WM_123 : gx_ml "WeighedMachines" 123 yy_Ba_build := Or.inl (gx_F_in (tb_2 (List.mem_of_getElem? (i := 167) (by decide +kernel))) rfl)
theorem ml_WM_126 : gx_ml "WeighedMachines" 126 yy_Ma_copiesLabels := Or.inl (gx_F_in (tb_2 (List.mem_of_getElem? (i := 206) (by decide +kernel))) rfl)
theorem ml_WM_130 : gx_ml "WeighedMachines" 130 yy_Ma_hasCycle := Or.inl (gx_F_in (tb_2 (List.mem_of_getElem? (i := 212) (by decide +kernel))) rfl)
theorem ml_WM_133 : gx_ml "WeighedMachines" 133 yy_De_build := Or.inl (gx_F_in (tb_2 (List.mem_of_getElem? (i := 219) (by decide +kernel))) rfl)
theorem ml_WM_134 : gx_ml "WeighedMachines" 134 yy_On_look := Or.inl (gx_F_in (tb_3 (List.mem_of_getElem? (i := 21) (by decide +kernel))) rfl)
theorem ml_WM_138 : gx_ml "WeighedMachines" 138 yy_WM_buildPushed := Or.inl (gx_F_in (tb_3 (List.mem_of_getElem? (i := 34) (by decide +kernel))) rfl)
theorem ml_WM_141 : gx_ml "WeighedMachines" 141 yy_WM_buildTrimmed := Or.inl (gx_F_in (tb_3 (List.mem_of_getElem? (i := 53) (by decide +kernel))) rfl)
theorem ml_WM_146 : gx_ml "WeighedMachines" 146 yy_We_leastWeight := Or.inl (gx_F_in (tb_3 (List.mem_of_getElem? (i := 80) (by decide +kernel))) rfl)
theorem ml_WM_153 : gx_ml "WeighedMachines" 153 yy_On_isThere := Or.inl (gx_F_in (tb_3 (List.mem_of_getElem? (i := 43) (by decide +kernel))) rfl)
theorem ml_WM_156 : gx_ml "WeighedMachines" 156 yy_BP_keep := Or.inl (gx_F_in (tb_3 (List.mem_of_getElem? (i := 118) (by decide +kernel))) rfl)
theorem ml_WM_164 : gx_ml "WeighedMachines" 164 yy_On_weightOf := Or.inl (gx_F_in (tb_3 (List.mem_of_getElem? (i := 39) (by decide +kernel))) rfl)
theorem ml_WM_178 : gx_ml "WeighedMachines" 178 yy_WM_arcPart := Or.inl (gx_F_in (tb_3 (List.mem_of_getElem? (i := 140) (by decide +kernel))) rfl)
theorem ml_WM_182 : gx_ml "WeighedMachines" 182 yy_Ma_countEnds := Or.inl (gx_F_in (tb_3 (List.mem_of_getElem? (i := 149) (by decide +kernel))) rfl)
theorem ml_WM_188 : gx_ml "WeighedMachines" 188 yy_Te_tell := Or.inl (gx_F_in (tb_3 (List.mem_of_getElem? (i := 165) (by decide +kernel))) rfl)
theorem ml_WM_192 : gx_ml "WeighedMachines" 192 yy_Pa_build := Or.inl (gx_F_in (tb_3 (List.mem_of_getElem? (i := 199) (by decide +kernel))) rfl)
theorem ml_WM_195 : gx_ml "WeighedMachines" 195 yy_WM_areLetters := Or.inl (gx_F_in (tb_4 (List.mem_of_getElem? (i := 25) (by decide +kernel))) rfl)
theorem ml_WM_201 : gx_ml "WeighedMachines" 201 yy_Te_put := Or.inl (gx_F_in (tb_4 (List.mem_of_getElem? (i := 31) (by decide +kernel))) rfl)
theorem ml_WM_204 : gx_ml "WeighedMachines" 204 yy_Te_codeAt := Or.inl (gx_F_in (tb_4 (List.mem_of_getElem? (i := 36) (by decide +kernel))) rfl)
theorem ml_WM_214 : gx_ml "WeighedMachines" 214 yy_Ma_weightsFit := Or.inl (gx_F_in (tb_2 (List.mem_of_getElem? (i := 158) (by decide +kernel))) rfl)
theorem ml_WM_217 : gx_ml "WeighedMachines" 217 yy_WM_fromOf := Or.inl (gx_F_in (tb_3 (List.mem_of_getElem? (i := 47) (by decide +kernel))) rfl)
theorem ml_WM_220 : gx_ml "WeighedMachines" 220 yy_WM_toOf := Or.inl (gx_F_in (tb_3 (List.mem_of_getElem? (i := 48) (by decide +kernel))) rfl)
theorem ml_WM_223 : gx_ml "WeighedMachines" 223 yy_Ma_statesAhead := Or.inl (gx_F_in (tb_3 (List.mem_of_getElem? (i := 57) (by decide +kernel))) rfl)
theorem ml_WM_226 : gx_ml "WeighedMachines" 226 yy_Ma_statesBehind := Or.inl (gx_F_in (tb_3 (List.mem_of_getElem? (i := 61) (by decide +kernel))) rfl)
theorem ml_WM_229 : gx_ml "WeighedMachines" 229 yy_JI_bitCount := Or.inl (gx_F_in (tb_3 (List.mem_of_getElem? (i := 65) (by decide +kernel))) rfl)
theorem ml_WM_234 : gx_ml "WeighedMachines" 234 yy_WM_isIn := Or.inl (gx_F_in (tb_3 (List.mem_of_getElem? (i := 71) (by decide +kernel))) rfl)
theorem ml_WM_237 : gx_ml "WeighedMachines" 237 yy_WM_rankIn := Or.inl (gx_F_in (tb_3 (List.mem_of_getElem? (i := 72) (by decide +kernel))) rfl)
theorem ml_WM_241 : gx_ml "WeighedMachines" 241 yy_WM_labelsOf := Or.inl (gx_F_in (tb_3 (List.mem_of_getElem? (i := 75) (by decide +kernel))) rfl)
theorem ml_WM_244 : gx_ml "WeighedMachines" 244 yy_WM_inOf := Or.inl (gx_F_in (tb_3 (List.mem_of_getElem? (i := 143) (by decide +kernel))) rfl)
theorem ml_WM_247 : gx_ml "WeighedMachines" 247 yy_WM_outOf := Or.inl (gx_F_in (tb_3 (List.mem_of_getElem? (i := 144) (by decide +kernel))) rfl)
theorem ml_Ba_21 : gx_ml "WeighedMachines$Baring" 21 yy_Ma_clear := Or.inl (gx_F_in (tb_2 (List.mem_of_getElem? (i := 171) (by decide +kernel))) rfl)
theorem ml_Ba_32 : gx_ml "WeighedMachines$Baring" 32 yy_Ma_setStart := Or.inl (gx_F_in (tb_2 (List.mem_of_getElem? (i := 172) (by decide +kernel))) rfl)
theorem ml_Ba_38 : gx_ml "WeighedMachines$Baring" 38 yy_JA_fill := Or.inl (gx_F_in (tb_2 (List.mem_of_getElem? (i := 174) (by decide +kernel))) rfl)
theorem ml_Ba_44 : gx_ml "WeighedMachines$Baring" 44 yy_Ma_spread := Or.inl (gx_F_in (tb_2 (List.mem_of_getElem? (i := 175) (by decide +kernel))) rfl)
theorem ml_Ba_48 : gx_ml "WeighedMachines$Baring" 48 yy_Ba_leastEnd := Or.inl (gx_F_in (tb_2 (List.mem_of_getElem? (i := 186) (by decide +kernel))) rfl)
theorem ml_Ba_52 : gx_ml "WeighedMachines$Baring" 52 yy_Ma_setEndUnlessFar := Or.inl (gx_F_in (tb_2 (List.mem_of_getElem? (i := 192) (by decide +kernel))) rfl)
theorem ml_Ba_55 : gx_ml "WeighedMachines$Baring" 55 yy_Ba_bringOthers := Or.inl (gx_F_in (tb_2 (List.mem_of_getElem? (i := 193) (by decide +kernel))) rfl)
theorem ml_Ba_59 : gx_ml "WeighedMachines$Baring" 59 yy_Ma_endOrFar := Or.inl (gx_F_in (tb_2 (List.mem_of_getElem? (i := 190) (by decide +kernel))) rfl)
theorem ml_Ba_63 : gx_ml "WeighedMachines$Baring" 63 yy_JM_min := Or.inl (gx_F_in (tb_2 (List.mem_of_getElem? (i := 191) (by decide +kernel))) rfl)
theorem ml_Ba_93 : gx_ml "WeighedMachines$Baring" 93 yy_Ma_bring := Or.inl (gx_F_in (tb_2 (List.mem_of_getElem? (i := 201) (by decide +kernel))) rfl)
theorem ml_BP_25 : gx_ml "WeighedMachines$BestPath" 25 yy_On_arcsOf := Or.inl (gx_F_in (tb_3 (List.mem_of_getElem? (i := 122) (by decide +kernel))) rfl)
theorem ml_BP_31 : gx_ml "WeighedMachines$BestPath" 31 yy_JM_minX := Or.inl (gx_F_in (tb_3 (List.mem_of_getElem? (i := 126) (by decide +kernel))) rfl)
theorem ml_BP_40 : gx_ml "WeighedMachines$BestPath" 40 yy_On_bestArc := Or.inl (gx_F_in (tb_3 (List.mem_of_getElem? (i := 129) (by decide +kernel))) rfl)
theorem ml_Co_25 : gx_ml "WeighedMachines$Composing" 25 yy_Ma_clear := Or.inl (gx_F_in (tb_2 (List.mem_of_getElem? (i := 101) (by decide +kernel))) rfl)
theorem ml_Co_35 : gx_ml "WeighedMachines$Composing" 35 yy_Co_tripleOf := Or.inl (gx_F_in (tb_2 (List.mem_of_getElem? (i := 102) (by decide +kernel))) rfl)
theorem ml_Co_39 : gx_ml "WeighedMachines$Composing" 39 yy_Co_find := Or.inl (gx_F_in (tb_2 (List.mem_of_getElem? (i := 105) (by decide +kernel))) rfl)
theorem ml_Co_47 : gx_ml "WeighedMachines$Composing" 47 yy_Ma_setStart := Or.inl (gx_F_in (tb_2 (List.mem_of_getElem? (i := 109) (by decide +kernel))) rfl)
theorem ml_Co_54 : gx_ml "WeighedMachines$Composing" 54 yy_Co_leave := Or.inl (gx_F_in (tb_2 (List.mem_of_getElem? (i := 110) (by decide +kernel))) rfl)
theorem ml_Co_58 : gx_ml "WeighedMachines$Composing" 58 yy_Ma_endOrFar := Or.inl (gx_F_in (tb_2 (List.mem_of_getElem? (i := 114) (by decide +kernel))) rfl)
theorem ml_Co_62 : gx_ml "WeighedMachines$Composing" 62 yy_Ma_setEndUnlessFar := Or.inl (gx_F_in (tb_2 (List.mem_of_getElem? (i := 119) (by decide +kernel))) rfl)
theorem ml_Co_65 : gx_ml "WeighedMachines$Composing" 65 yy_Co_bringBoth := Or.inl (gx_F_in (tb_2 (List.mem_of_getElem? (i := 123) (by decide +kernel))) rfl)
theorem ml_Co_69 : gx_ml "WeighedMachines$Composing" 69 yy_Co_bringFirst := Or.inl (gx_F_in (tb_2 (List.mem_of_getElem? (i := 146) (by decide +kernel))) rfl)
theorem ml_Co_73 : gx_ml "WeighedMachines$Composing" 73 yy_Co_bringSecond := Or.inl (gx_F_in (tb_2 (List.mem_of_getElem? (i := 150) (by decide +kernel))) rfl)
theorem ml_Co_79 : gx_ml "WeighedMachines$Composing" 79 yy_Ma_placeOf := Or.inl (gx_F_in (tb_2 (List.mem_of_getElem? (i := 128) (by decide +kernel))) rfl)
theorem ml_Co_102 : gx_ml "WeighedMachines$Composing" 102 yy_Co_bring := Or.inl (gx_F_in (tb_2 (List.mem_of_getElem? (i := 141) (by decide +kernel))) rfl)
theorem ml_Co_106 : gx_ml "WeighedMachines$Composing" 106 yy_Ma_bring := Or.inl (gx_F_in (tb_2 (List.mem_of_getElem? (i := 145) (by decide +kernel))) rfl)
theorem ml_De_25 : gx_ml "WeighedMachines$Determining" 25 yy_Ma_clear := Or.inl (gx_F_in (tb_2 (List.mem_of_getElem? (i := 223) (by decide +kernel))) rfl)
theorem ml_De_37 : gx_ml "WeighedMachines$Determining" 37 yy_JA_fill := Or.inl (gx_F_in (tb_2 (List.mem_of_getElem? (i := 225) (by decide +kernel))) rfl)
theorem ml_De_43 : gx_ml "WeighedMachines$Determining" 43 yy_De_findNext := Or.inl (gx_F_in (tb_2 (List.mem_of_getElem? (i := 226) (by decide +kernel))) rfl)
theorem ml_De_51 : gx_ml "WeighedMachines$Determining" 51 yy_Ma_setStart := Or.inl (gx_F_in (tb_2 (List.mem_of_getElem? (i := 235) (by decide +kernel))) rfl)
theorem ml_De_58 : gx_ml "WeighedMachines$Determining" 58 yy_De_leastEnd := Or.inl (gx_F_in (tb_2 (List.mem_of_getElem? (i := 236) (by decide +kernel))) rfl)
theorem ml_De_62 : gx_ml "WeighedMachines$Determining" 62 yy_Ma_setEndUnlessFar := Or.inl (gx_F_in (tb_3 (List.mem_of_getElem? (i := 2) (by decide +kernel))) rfl)
theorem ml_De_65 : gx_ml "WeighedMachines$Determining" 65 yy_De_leave := Or.inl (gx_F_in (tb_3 (List.mem_of_getElem? (i := 3) (by decide +kernel))) rfl)
theorem ml_De_69 : gx_ml "WeighedMachines$Determining" 69 yy_Ma_endOrFar := Or.inl (gx_F_in (tb_3 (List.mem_of_getElem? (i := 0) (by decide +kernel))) rfl)
theorem ml_De_72 : gx_ml "WeighedMachines$Determining" 72 yy_JM_min := Or.inl (gx_F_in (tb_3 (List.mem_of_getElem? (i := 1) (by decide +kernel))) rfl)
theorem ml_De_78 : gx_ml "WeighedMachines$Determining" 78 yy_De_sumUp := Or.inl (gx_F_in (tb_3 (List.mem_of_getElem? (i := 7) (by decide +kernel))) rfl)
theorem ml_De_90 : gx_ml "WeighedMachines$Determining" 90 yy_Ma_bring := Or.inl (gx_F_in (tb_3 (List.mem_of_getElem? (i := 16) (by decide +kernel))) rfl)
theorem ml_De_114 : gx_ml "WeighedMachines$Determining" 114 yy_De_isNext := Or.inl (gx_F_in (tb_2 (List.mem_of_getElem? (i := 230) (by decide +kernel))) rfl)
theorem ml_De_118 : Cond.methodLink "WeighedMachines$Determining" 118 arraycopyName ∈ gx_F := gx_F_in (tb_2 (List.mem_of_getElem? (i := 234) (by decide +kernel))) rfl
theorem ml_Ma_21 : gx_ml "WeighedMachines$Machine" 21 yy_JA_fill := Or.inl (gx_F_in (tb_1 (List.mem_of_getElem? (i := 33) (by decide +kernel))) rfl)
theorem ml_Ma_46 : gx_ml "WeighedMachines$Machine" 46 yy_Ma_placeOf := Or.inl (gx_F_in (tb_2 (List.mem_of_getElem? (i := 83) (by decide +kernel))) rfl)
theorem ml_Ma_50 : gx_ml "WeighedMachines$Machine" 50 yy_JM_min := Or.inl (gx_F_in (tb_2 (List.mem_of_getElem? (i := 87) (by decide +kernel))) rfl)
theorem ml_Ma_56 : Cond.methodLink "WeighedMachines$Machine" 56 arraycopyName ∈ gx_F := gx_F_in (tb_2 (List.mem_of_getElem? (i := 90) (by decide +kernel))) rfl
theorem ml_On_33 : gx_ml "WeighedMachines$Onward" 33 yy_On_costAlong := Or.inl (gx_F_in (tb_3 (List.mem_of_getElem? (i := 28) (by decide +kernel))) rfl)
theorem ml_On_55 : gx_ml "WeighedMachines$Onward" 55 yy_Ma_placeOf := Or.inl (gx_F_in (tb_3 (List.mem_of_getElem? (i := 134) (by decide +kernel))) rfl)
theorem ml_Pa_23 : gx_ml "WeighedMachines$Parsing" 23 yy_Pa_readSize := Or.inl (gx_F_in (tb_3 (List.mem_of_getElem? (i := 203) (by decide +kernel))) rfl)
theorem ml_Pa_32 : gx_ml "WeighedMachines$Parsing" 32 yy_Pa_readItem := Or.inl (gx_F_in (tb_3 (List.mem_of_getElem? (i := 226) (by decide +kernel))) rfl)
theorem ml_Pa_35 : gx_ml "WeighedMachines$Parsing" 35 yy_Pa_readSign := Or.inl (gx_F_in (tb_3 (List.mem_of_getElem? (i := 207) (by decide +kernel))) rfl)
theorem ml_Pa_41 : gx_ml "WeighedMachines$Parsing" 41 yy_Pa_readNumber := Or.inl (gx_F_in (tb_3 (List.mem_of_getElem? (i := 216) (by decide +kernel))) rfl)
theorem ml_Pa_49 : gx_ml "WeighedMachines$Parsing" 49 yy_Ma_clear := Or.inl (gx_F_in (tb_3 (List.mem_of_getElem? (i := 225) (by decide +kernel))) rfl)
theorem ml_Pa_55 : gx_ml "WeighedMachines$Parsing" 55 yy_Te_codeAt := Or.inl (gx_F_in (tb_3 (List.mem_of_getElem? (i := 211) (by decide +kernel))) rfl)
theorem ml_Pa_59 : gx_ml "WeighedMachines$Parsing" 59 yy_Pa_readStart := Or.inl (gx_F_in (tb_3 (List.mem_of_getElem? (i := 230) (by decide +kernel))) rfl)
theorem ml_Pa_62 : gx_ml "WeighedMachines$Parsing" 62 yy_Pa_readEnd := Or.inl (gx_F_in (tb_4 (List.mem_of_getElem? (i := 4) (by decide +kernel))) rfl)
theorem ml_Pa_65 : gx_ml "WeighedMachines$Parsing" 65 yy_Pa_readArc := Or.inl (gx_F_in (tb_4 (List.mem_of_getElem? (i := 9) (by decide +kernel))) rfl)
theorem ml_Pa_68 : gx_ml "WeighedMachines$Parsing" 68 yy_Pa_readState := Or.inl (gx_F_in (tb_3 (List.mem_of_getElem? (i := 234) (by decide +kernel))) rfl)
theorem ml_Pa_74 : gx_ml "WeighedMachines$Parsing" 74 yy_Pa_readWeight := Or.inl (gx_F_in (tb_3 (List.mem_of_getElem? (i := 238) (by decide +kernel))) rfl)
theorem ml_Pa_77 : gx_ml "WeighedMachines$Parsing" 77 yy_Ma_setStart := Or.inl (gx_F_in (tb_4 (List.mem_of_getElem? (i := 3) (by decide +kernel))) rfl)
theorem ml_Pa_87 : gx_ml "WeighedMachines$Parsing" 87 yy_Pa_readLabel := Or.inl (gx_F_in (tb_4 (List.mem_of_getElem? (i := 13) (by decide +kernel))) rfl)
theorem ml_Pa_98 : gx_ml "WeighedMachines$Parsing" 98 yy_Ma_bring := Or.inl (gx_F_in (tb_4 (List.mem_of_getElem? (i := 20) (by decide +kernel))) rfl)
theorem ml_Pa_107 : gx_ml "WeighedMachines$Parsing" 107 yy_Pa_isDigit := Or.inl (gx_F_in (tb_3 (List.mem_of_getElem? (i := 220) (by decide +kernel))) rfl)
theorem ml_Te_21 : gx_ml "WeighedMachines$Text" 21 yy_Te_put := Or.inl (gx_F_in (tb_3 (List.mem_of_getElem? (i := 169) (by decide +kernel))) rfl)
theorem ml_Te_25 : gx_ml "WeighedMachines$Text" 25 yy_Te_putNumber := Or.inl (gx_F_in (tb_3 (List.mem_of_getElem? (i := 173) (by decide +kernel))) rfl)
theorem ml_Te_29 : gx_ml "WeighedMachines$Text" 29 yy_Te_putWeight := Or.inl (gx_F_in (tb_3 (List.mem_of_getElem? (i := 182) (by decide +kernel))) rfl)
theorem ml_Te_57 : gx_ml "WeighedMachines$Text" 57 yy_Te_putStateWeight := Or.inl (gx_F_in (tb_3 (List.mem_of_getElem? (i := 178) (by decide +kernel))) rfl)
theorem ml_Te_77 : gx_ml "WeighedMachines$Text" 77 yy_Te_putArc := Or.inl (gx_F_in (tb_3 (List.mem_of_getElem? (i := 187) (by decide +kernel))) rfl)
theorem ml_We_11 : gx_ml "WeighedMachines$Weighing" 11 yy_Ro_init := Or.inl (gx_F_in (tb_1 (List.mem_of_getElem? (i := 174) (by decide +kernel))) rfl)
theorem ml_We_25 : gx_ml "WeighedMachines$Weighing" 25 yy_Ro_take := Or.inl (gx_F_in (tb_3 (List.mem_of_getElem? (i := 84) (by decide +kernel))) rfl)
theorem ml_We_39 : gx_ml "WeighedMachines$Weighing" 39 yy_JA_fill := Or.inl (gx_F_in (tb_3 (List.mem_of_getElem? (i := 90) (by decide +kernel))) rfl)
theorem ml_We_52 : gx_ml "WeighedMachines$Weighing" 52 yy_We_baseOf := Or.inl (gx_F_in (tb_3 (List.mem_of_getElem? (i := 91) (by decide +kernel))) rfl)
theorem ml_We_56 : gx_ml "WeighedMachines$Weighing" 56 yy_Ma_spread := Or.inl (gx_F_in (tb_3 (List.mem_of_getElem? (i := 94) (by decide +kernel))) rfl)
theorem ml_We_60 : gx_ml "WeighedMachines$Weighing" 60 yy_We_leave := Or.inl (gx_F_in (tb_3 (List.mem_of_getElem? (i := 95) (by decide +kernel))) rfl)
theorem ml_We_64 : gx_ml "WeighedMachines$Weighing" 64 yy_We_leastEnd := Or.inl (gx_F_in (tb_3 (List.mem_of_getElem? (i := 109) (by decide +kernel))) rfl)
theorem ml_We_79 : gx_ml "WeighedMachines$Weighing" 79 yy_Ro_doneAfter := Or.inl (gx_F_in (tb_3 (List.mem_of_getElem? (i := 100) (by decide +kernel))) rfl)
theorem ml_We_97 : gx_ml "WeighedMachines$Weighing" 97 yy_JM_min := Or.inl (gx_F_in (tb_3 (List.mem_of_getElem? (i := 108) (by decide +kernel))) rfl)
theorem ml_We_106 : gx_ml "WeighedMachines$Weighing" 106 yy_Ma_endOrFar := Or.inl (gx_F_in (tb_3 (List.mem_of_getElem? (i := 113) (by decide +kernel))) rfl)
theorem ml_La_9 : gx_ml "WeighedMachinesLaw" 9 yy_WM_init := Or.inl (gx_F_in (tb_1 (List.mem_of_getElem? (i := 19) (by decide +kernel))) rfl)
theorem ml_La_12 : gx_ml "WeighedMachinesLaw" 12 yy_Mo_init := Or.inl (gx_F_in (tb_4 (List.mem_of_getElem? (i := 39) (by decide +kernel))) rfl)
theorem ml_La_13 : gx_ml "WeighedMachinesLaw" 13 yy_WM_fresh := Or.inl (gx_F_in (tb_2 (List.mem_of_getElem? (i := 41) (by decide +kernel))) rfl)
theorem ml_La_17 : gx_ml "WeighedMachinesLaw" 17 yy_Mo_fresh := Or.inl (gx_F_in (tb_4 (List.mem_of_getElem? (i := 134) (by decide +kernel))) rfl)
theorem ml_La_18 : gx_ml "WeighedMachinesLaw" 18 yy_WM_start := Or.inl (gx_F_in (tb_2 (List.mem_of_getElem? (i := 52) (by decide +kernel))) rfl)
theorem ml_La_22 : gx_ml "WeighedMachinesLaw" 22 yy_Mo_start := Or.inl (gx_F_in (tb_4 (List.mem_of_getElem? (i := 141) (by decide +kernel))) rfl)
theorem ml_La_23 : gx_ml "WeighedMachinesLaw" 23 yy_WM_end := Or.inl (gx_F_in (tb_2 (List.mem_of_getElem? (i := 68) (by decide +kernel))) rfl)
theorem ml_La_26 : gx_ml "WeighedMachinesLaw" 26 yy_Mo_end := Or.inl (gx_F_in (tb_4 (List.mem_of_getElem? (i := 153) (by decide +kernel))) rfl)
theorem ml_La_27 : gx_ml "WeighedMachinesLaw" 27 yy_WM_arc := Or.inl (gx_F_in (tb_2 (List.mem_of_getElem? (i := 72) (by decide +kernel))) rfl)
theorem ml_La_31 : gx_ml "WeighedMachinesLaw" 31 yy_Mo_arc := Or.inl (gx_F_in (tb_4 (List.mem_of_getElem? (i := 157) (by decide +kernel))) rfl)
theorem ml_La_32 : gx_ml "WeighedMachinesLaw" 32 yy_WM_compose := Or.inl (gx_F_in (tb_2 (List.mem_of_getElem? (i := 93) (by decide +kernel))) rfl)
theorem ml_La_36 : gx_ml "WeighedMachinesLaw" 36 yy_Mo_compose := Or.inl (gx_F_in (tb_4 (List.mem_of_getElem? (i := 169) (by decide +kernel))) rfl)
theorem ml_La_37 : gx_ml "WeighedMachinesLaw" 37 yy_WM_bare := Or.inl (gx_F_in (tb_2 (List.mem_of_getElem? (i := 163) (by decide +kernel))) rfl)
theorem ml_La_41 : gx_ml "WeighedMachinesLaw" 41 yy_Mo_bare := Or.inl (gx_F_in (tb_4 (List.mem_of_getElem? (i := 197) (by decide +kernel))) rfl)
theorem ml_La_42 : gx_ml "WeighedMachinesLaw" 42 yy_WM_determine := Or.inl (gx_F_in (tb_2 (List.mem_of_getElem? (i := 202) (by decide +kernel))) rfl)
theorem ml_La_45 : gx_ml "WeighedMachinesLaw" 45 yy_Mo_determine := Or.inl (gx_F_in (tb_4 (List.mem_of_getElem? (i := 206) (by decide +kernel))) rfl)
theorem ml_La_46 : gx_ml "WeighedMachinesLaw" 46 yy_WM_push := Or.inl (gx_F_in (tb_3 (List.mem_of_getElem? (i := 17) (by decide +kernel))) rfl)
theorem ml_La_49 : gx_ml "WeighedMachinesLaw" 49 yy_Mo_push := Or.inl (gx_F_in (tb_4 (List.mem_of_getElem? (i := 226) (by decide +kernel))) rfl)
theorem ml_La_50 : gx_ml "WeighedMachinesLaw" 50 yy_WM_trim := Or.inl (gx_F_in (tb_3 (List.mem_of_getElem? (i := 49) (by decide +kernel))) rfl)
theorem ml_La_53 : gx_ml "WeighedMachinesLaw" 53 yy_Mo_trim := Or.inl (gx_F_in (tb_4 (List.mem_of_getElem? (i := 234) (by decide +kernel))) rfl)
theorem ml_La_54 : gx_ml "WeighedMachinesLaw" 54 yy_WM_weigh := Or.inl (gx_F_in (tb_3 (List.mem_of_getElem? (i := 76) (by decide +kernel))) rfl)
theorem ml_La_58 : gx_ml "WeighedMachinesLaw" 58 yy_Mo_weigh := Or.inl (gx_F_in (tb_5 (List.mem_of_getElem? (i := 10) (by decide +kernel))) rfl)
theorem ml_La_59 : gx_ml "WeighedMachinesLaw" 59 yy_WM_best := Or.inl (gx_F_in (tb_3 (List.mem_of_getElem? (i := 114) (by decide +kernel))) rfl)
theorem ml_La_63 : gx_ml "WeighedMachinesLaw" 63 yy_Mo_best := Or.inl (gx_F_in (tb_5 (List.mem_of_getElem? (i := 24) (by decide +kernel))) rfl)
theorem ml_La_64 : gx_ml "WeighedMachinesLaw" 64 yy_WM_step := Or.inl (gx_F_in (tb_3 (List.mem_of_getElem? (i := 136) (by decide +kernel))) rfl)
theorem ml_La_67 : gx_ml "WeighedMachinesLaw" 67 yy_Mo_step := Or.inl (gx_F_in (tb_5 (List.mem_of_getElem? (i := 28) (by decide +kernel))) rfl)
theorem ml_La_68 : gx_ml "WeighedMachinesLaw" 68 yy_WM_count := Or.inl (gx_F_in (tb_3 (List.mem_of_getElem? (i := 145) (by decide +kernel))) rfl)
theorem ml_La_71 : gx_ml "WeighedMachinesLaw" 71 yy_Mo_count := Or.inl (gx_F_in (tb_5 (List.mem_of_getElem? (i := 32) (by decide +kernel))) rfl)
theorem ml_La_72 : gx_ml "WeighedMachinesLaw" 72 yy_WM_part := Or.inl (gx_F_in (tb_3 (List.mem_of_getElem? (i := 153) (by decide +kernel))) rfl)
theorem ml_La_75 : gx_ml "WeighedMachinesLaw" 75 yy_Mo_part := Or.inl (gx_F_in (tb_5 (List.mem_of_getElem? (i := 36) (by decide +kernel))) rfl)
theorem ml_La_76 : gx_ml "WeighedMachinesLaw" 76 yy_WM_endOf := Or.inl (gx_F_in (tb_3 (List.mem_of_getElem? (i := 157) (by decide +kernel))) rfl)
theorem ml_La_79 : gx_ml "WeighedMachinesLaw" 79 yy_Mo_endOf := Or.inl (gx_F_in (tb_5 (List.mem_of_getElem? (i := 40) (by decide +kernel))) rfl)
theorem ml_La_80 : gx_ml "WeighedMachinesLaw" 80 yy_WM_print := Or.inl (gx_F_in (tb_3 (List.mem_of_getElem? (i := 161) (by decide +kernel))) rfl)
theorem ml_La_84 : gx_ml "WeighedMachinesLaw" 84 yy_Mo_print := Or.inl (gx_F_in (tb_5 (List.mem_of_getElem? (i := 44) (by decide +kernel))) rfl)
theorem ml_La_85 : gx_ml "WeighedMachinesLaw" 85 yy_WM_parse := Or.inl (gx_F_in (tb_3 (List.mem_of_getElem? (i := 195) (by decide +kernel))) rfl)
theorem ml_La_88 : gx_ml "WeighedMachinesLaw" 88 yy_Mo_parse := Or.inl (gx_F_in (tb_5 (List.mem_of_getElem? (i := 70) (by decide +kernel))) rfl)
theorem ml_La_91 : gx_ml "WeighedMachinesLaw" 91 yy_WM_feed := Or.inl (gx_F_in (tb_4 (List.mem_of_getElem? (i := 21) (by decide +kernel))) rfl)
theorem ml_La_95 : gx_ml "WeighedMachinesLaw" 95 yy_Mo_feed := Or.inl (gx_F_in (tb_5 (List.mem_of_getElem? (i := 65) (by decide +kernel))) rfl)
theorem ml_La_96 : gx_ml "WeighedMachinesLaw" 96 yy_WM_letter := Or.inl (gx_F_in (tb_4 (List.mem_of_getElem? (i := 32) (by decide +kernel))) rfl)
theorem ml_La_99 : gx_ml "WeighedMachinesLaw" 99 yy_Mo_letter := Or.inl (gx_F_in (tb_5 (List.mem_of_getElem? (i := 61) (by decide +kernel))) rfl)
theorem ml_Mo_75 : gx_ml "WeighedMachinesModel" 75 yy_Mo_blank := Or.inl (gx_F_in (tb_4 (List.mem_of_getElem? (i := 43) (by decide +kernel))) rfl)
theorem ml_Mo_81 : gx_ml "WeighedMachinesModel" 81 yy_Mo_isSlot := Or.inl (gx_F_in (tb_4 (List.mem_of_getElem? (i := 138) (by decide +kernel))) rfl)
theorem ml_Mo_87 : gx_ml "WeighedMachinesModel" 87 yy_Mo_isState := Or.inl (gx_F_in (tb_4 (List.mem_of_getElem? (i := 145) (by decide +kernel))) rfl)
theorem ml_Mo_91 : gx_ml "WeighedMachinesModel" 91 yy_Mo_isWeight := Or.inl (gx_F_in (tb_4 (List.mem_of_getElem? (i := 149) (by decide +kernel))) rfl)
theorem ml_Mo_95 : gx_ml "WeighedMachinesModel" 95 yy_Mo_against := Or.inl (gx_F_in (tb_4 (List.mem_of_getElem? (i := 165) (by decide +kernel))) rfl)
theorem ml_Mo_99 : gx_ml "WeighedMachinesModel" 99 yy_Mo_put := Or.inl (gx_F_in (tb_4 (List.mem_of_getElem? (i := 161) (by decide +kernel))) rfl)
theorem ml_Mo_107 : gx_ml "WeighedMachinesModel" 107 yy_Mo_reach := Or.inl (gx_F_in (tb_4 (List.mem_of_getElem? (i := 173) (by decide +kernel))) rfl)
theorem ml_Mo_111 : gx_ml "WeighedMachinesModel" 111 yy_Mo_link := Or.inl (gx_F_in (tb_4 (List.mem_of_getElem? (i := 185) (by decide +kernel))) rfl)
theorem ml_Mo_115 : gx_ml "WeighedMachinesModel" 115 yy_Mo_meet := Or.inl (gx_F_in (tb_4 (List.mem_of_getElem? (i := 181) (by decide +kernel))) rfl)
theorem ml_Mo_119 : gx_ml "WeighedMachinesModel" 119 yy_Mo_alone := Or.inl (gx_F_in (tb_4 (List.mem_of_getElem? (i := 189) (by decide +kernel))) rfl)
theorem ml_Mo_123 : gx_ml "WeighedMachinesModel" 123 yy_Mo_explore := Or.inl (gx_F_in (tb_4 (List.mem_of_getElem? (i := 177) (by decide +kernel))) rfl)
theorem ml_Mo_126 : gx_ml "WeighedMachinesModel" 126 yy_Mo_keep := Or.inl (gx_F_in (tb_4 (List.mem_of_getElem? (i := 193) (by decide +kernel))) rfl)
theorem ml_Mo_131 : gx_ml "WeighedMachinesModel" 131 yy_Mo_spread := Or.inl (gx_F_in (tb_4 (List.mem_of_getElem? (i := 201) (by decide +kernel))) rfl)
theorem ml_Mo_134 : gx_ml "WeighedMachinesModel" 134 yy_Mo_follow := Or.inl (gx_F_in (tb_4 (List.mem_of_getElem? (i := 218) (by decide +kernel))) rfl)
theorem ml_Mo_138 : gx_ml "WeighedMachinesModel" 138 yy_Mo_settle := Or.inl (gx_F_in (tb_4 (List.mem_of_getElem? (i := 222) (by decide +kernel))) rfl)
theorem ml_Mo_142 : gx_ml "WeighedMachinesModel" 142 yy_Mo_isFit := Or.inl (gx_F_in (tb_4 (List.mem_of_getElem? (i := 210) (by decide +kernel))) rfl)
theorem ml_Mo_145 : gx_ml "WeighedMachinesModel" 145 yy_Mo_gather := Or.inl (gx_F_in (tb_4 (List.mem_of_getElem? (i := 214) (by decide +kernel))) rfl)
theorem ml_Mo_148 : gx_ml "WeighedMachinesModel" 148 yy_Mo_findOnward := Or.inl (gx_F_in (tb_4 (List.mem_of_getElem? (i := 230) (by decide +kernel))) rfl)
theorem ml_Mo_152 : gx_ml "WeighedMachinesModel" 152 yy_Mo_findReached := Or.inl (gx_F_in (tb_4 (List.mem_of_getElem? (i := 238) (by decide +kernel))) rfl)
theorem ml_Mo_155 : gx_ml "WeighedMachinesModel" 155 yy_Mo_rank := Or.inl (gx_F_in (tb_5 (List.mem_of_getElem? (i := 2) (by decide +kernel))) rfl)
theorem ml_Mo_159 : gx_ml "WeighedMachinesModel" 159 yy_Mo_isOnPath := Or.inl (gx_F_in (tb_5 (List.mem_of_getElem? (i := 6) (by decide +kernel))) rfl)
theorem ml_Mo_168 : gx_ml "WeighedMachinesModel" 168 yy_Mo_sizeOf := Or.inl (gx_F_in (tb_5 (List.mem_of_getElem? (i := 14) (by decide +kernel))) rfl)
theorem ml_Mo_171 : gx_ml "WeighedMachinesModel" 171 yy_Mo_labelAt := Or.inl (gx_F_in (tb_5 (List.mem_of_getElem? (i := 17) (by decide +kernel))) rfl)
theorem ml_Mo_174 : gx_ml "WeighedMachinesModel" 174 yy_Mo_relax := Or.inl (gx_F_in (tb_5 (List.mem_of_getElem? (i := 20) (by decide +kernel))) rfl)
theorem ml_Mo_185 : gx_ml "WeighedMachinesModel" 185 yy_Mo_sayDigit := Or.inl (gx_F_in (tb_5 (List.mem_of_getElem? (i := 57) (by decide +kernel))) rfl)
theorem ml_Mo_188 : gx_ml "WeighedMachinesModel" 188 yy_Mo_say := Or.inl (gx_F_in (tb_5 (List.mem_of_getElem? (i := 48) (by decide +kernel))) rfl)
theorem ml_Mo_191 : gx_ml "WeighedMachinesModel" 191 yy_Mo_sayNumber := Or.inl (gx_F_in (tb_5 (List.mem_of_getElem? (i := 52) (by decide +kernel))) rfl)
theorem ml_Mo_200 : gx_ml "WeighedMachinesModel" 200 yy_Mo_here := Or.inl (gx_F_in (tb_5 (List.mem_of_getElem? (i := 82) (by decide +kernel))) rfl)
theorem ml_Mo_206 : gx_ml "WeighedMachinesModel" 206 yy_Mo_fail := Or.inl (gx_F_in (tb_5 (List.mem_of_getElem? (i := 86) (by decide +kernel))) rfl)
theorem ml_Mo_209 : gx_ml "WeighedMachinesModel" 209 yy_Mo_isDigit := Or.inl (gx_F_in (tb_5 (List.mem_of_getElem? (i := 95) (by decide +kernel))) rfl)
theorem ml_Mo_215 : gx_ml "WeighedMachinesModel" 215 yy_Mo_takeNumber := Or.inl (gx_F_in (tb_5 (List.mem_of_getElem? (i := 91) (by decide +kernel))) rfl)
theorem ml_Mo_219 : gx_ml "WeighedMachinesModel" 219 yy_Mo_take := Or.inl (gx_F_in (tb_5 (List.mem_of_getElem? (i := 78) (by decide +kernel))) rfl)
theorem ml_Mo_222 : gx_ml "WeighedMachinesModel" 222 yy_Mo_takeState := Or.inl (gx_F_in (tb_5 (List.mem_of_getElem? (i := 104) (by decide +kernel))) rfl)
theorem ml_Mo_225 : gx_ml "WeighedMachinesModel" 225 yy_Mo_takeIf := Or.inl (gx_F_in (tb_5 (List.mem_of_getElem? (i := 74) (by decide +kernel))) rfl)
theorem ml_Mo_228 : gx_ml "WeighedMachinesModel" 228 yy_Mo_takeLabel := Or.inl (gx_F_in (tb_5 (List.mem_of_getElem? (i := 112) (by decide +kernel))) rfl)
theorem ml_Mo_233 : gx_ml "WeighedMachinesModel" 233 yy_Mo_parseEnds := Or.inl (gx_F_in (tb_5 (List.mem_of_getElem? (i := 100) (by decide +kernel))) rfl)
theorem ml_Mo_237 : gx_ml "WeighedMachinesModel" 237 yy_Mo_parseArc := Or.inl (gx_F_in (tb_5 (List.mem_of_getElem? (i := 108) (by decide +kernel))) rfl)
theorem ml_WM_71 : gx_ml "WeighedMachines" 71 yy_Pa_init := Or.inr ⟨"WeighedMachines", tb_1 (List.mem_of_getElem? (i := 233) (by decide +kernel))⟩
theorem ml_Ba_76 : gx_ml "WeighedMachines$Baring" 76 yy_WM_labelsOf := Or.inr ⟨"WeighedMachines", tb_2 (List.mem_of_getElem? (i := 197) (by decide +kernel))⟩
theorem ml_Ba_80 : gx_ml "WeighedMachines$Baring" 80 yy_WM_fromOf := Or.inr ⟨"WeighedMachines", tb_2 (List.mem_of_getElem? (i := 198) (by decide +kernel))⟩
theorem ml_Ba_83 : gx_ml "WeighedMachines$Baring" 83 yy_WM_toOf := Or.inr ⟨"WeighedMachines", tb_2 (List.mem_of_getElem? (i := 199) (by decide +kernel))⟩
theorem ml_Ba_86 : gx_ml "WeighedMachines$Baring" 86 yy_WM_keyOf := Or.inr ⟨"WeighedMachines", tb_2 (List.mem_of_getElem? (i := 200) (by decide +kernel))⟩
theorem ml_BP_46 : gx_ml "WeighedMachines$BestPath" 46 yy_WM_toOf := Or.inr ⟨"WeighedMachines", tb_3 (List.mem_of_getElem? (i := 135) (by decide +kernel))⟩
theorem ml_Co_76 : gx_ml "WeighedMachines$Composing" 76 yy_WM_keyOf := Or.inr ⟨"WeighedMachines", tb_2 (List.mem_of_getElem? (i := 127) (by decide +kernel))⟩
theorem ml_Co_85 : gx_ml "WeighedMachines$Composing" 85 yy_WM_outOf := Or.inr ⟨"WeighedMachines", tb_2 (List.mem_of_getElem? (i := 129) (by decide +kernel))⟩
theorem ml_Co_88 : gx_ml "WeighedMachines$Composing" 88 yy_WM_labelPair := Or.inr ⟨"WeighedMachines", tb_2 (List.mem_of_getElem? (i := 132) (by decide +kernel))⟩
theorem ml_Co_92 : gx_ml "WeighedMachines$Composing" 92 yy_WM_toOf := Or.inr ⟨"WeighedMachines", tb_2 (List.mem_of_getElem? (i := 135) (by decide +kernel))⟩
theorem ml_Co_95 : gx_ml "WeighedMachines$Composing" 95 yy_WM_inOf := Or.inr ⟨"WeighedMachines", tb_2 (List.mem_of_getElem? (i := 138) (by decide +kernel))⟩
theorem ml_De_82 : gx_ml "WeighedMachines$Determining" 82 yy_WM_labelPair := Or.inr ⟨"WeighedMachines", tb_3 (List.mem_of_getElem? (i := 14) (by decide +kernel))⟩
theorem ml_De_86 : gx_ml "WeighedMachines$Determining" 86 yy_WM_keyOf := Or.inr ⟨"WeighedMachines", tb_3 (List.mem_of_getElem? (i := 15) (by decide +kernel))⟩
theorem ml_De_101 : gx_ml "WeighedMachines$Determining" 101 yy_WM_fromOf := Or.inr ⟨"WeighedMachines", tb_3 (List.mem_of_getElem? (i := 11) (by decide +kernel))⟩
theorem ml_De_108 : gx_ml "WeighedMachines$Determining" 108 yy_WM_inOf := Or.inr ⟨"WeighedMachines", tb_3 (List.mem_of_getElem? (i := 12) (by decide +kernel))⟩
theorem ml_De_111 : gx_ml "WeighedMachines$Determining" 111 yy_WM_toOf := Or.inr ⟨"WeighedMachines", tb_3 (List.mem_of_getElem? (i := 13) (by decide +kernel))⟩
theorem ml_Ma_64 : gx_ml "WeighedMachines$Machine" 64 yy_WM_fromOf := Or.inr ⟨"WeighedMachines", tb_2 (List.mem_of_getElem? (i := 179) (by decide +kernel))⟩
theorem ml_Ma_67 : gx_ml "WeighedMachines$Machine" 67 yy_WM_toOf := Or.inr ⟨"WeighedMachines", tb_2 (List.mem_of_getElem? (i := 182) (by decide +kernel))⟩
theorem ml_Ma_70 : gx_ml "WeighedMachines$Machine" 70 yy_WM_labelsOf := Or.inr ⟨"WeighedMachines", tb_2 (List.mem_of_getElem? (i := 183) (by decide +kernel))⟩
theorem ml_Ma_73 : gx_ml "WeighedMachines$Machine" 73 yy_WM_isIn := Or.inr ⟨"WeighedMachines", tb_2 (List.mem_of_getElem? (i := 216) (by decide +kernel))⟩
theorem ml_Ma_77 : gx_ml "WeighedMachines$Machine" 77 yy_WM_inOf := Or.inr ⟨"WeighedMachines", tb_2 (List.mem_of_getElem? (i := 210) (by decide +kernel))⟩
theorem ml_Ma_80 : gx_ml "WeighedMachines$Machine" 80 yy_WM_outOf := Or.inr ⟨"WeighedMachines", tb_2 (List.mem_of_getElem? (i := 211) (by decide +kernel))⟩
theorem ml_On_41 : gx_ml "WeighedMachines$Onward" 41 yy_WM_fromOf := Or.inr ⟨"WeighedMachines", tb_3 (List.mem_of_getElem? (i := 33) (by decide +kernel))⟩
theorem ml_On_45 : gx_ml "WeighedMachines$Onward" 45 yy_WM_toOf := Or.inr ⟨"WeighedMachines", tb_3 (List.mem_of_getElem? (i := 32) (by decide +kernel))⟩
theorem ml_On_51 : gx_ml "WeighedMachines$Onward" 51 yy_WM_keyOf := Or.inr ⟨"WeighedMachines", tb_3 (List.mem_of_getElem? (i := 133) (by decide +kernel))⟩
theorem ml_Pa_90 : gx_ml "WeighedMachines$Parsing" 90 yy_WM_labelPair := Or.inr ⟨"WeighedMachines", tb_4 (List.mem_of_getElem? (i := 18) (by decide +kernel))⟩
theorem ml_Pa_94 : gx_ml "WeighedMachines$Parsing" 94 yy_WM_keyOf := Or.inr ⟨"WeighedMachines", tb_4 (List.mem_of_getElem? (i := 19) (by decide +kernel))⟩
theorem ml_Te_32 : gx_ml "WeighedMachines$Text" 32 yy_WM_fromOf := Or.inr ⟨"WeighedMachines", tb_3 (List.mem_of_getElem? (i := 191) (by decide +kernel))⟩
theorem ml_Te_36 : gx_ml "WeighedMachines$Text" 36 yy_WM_toOf := Or.inr ⟨"WeighedMachines", tb_3 (List.mem_of_getElem? (i := 192) (by decide +kernel))⟩
theorem ml_Te_39 : gx_ml "WeighedMachines$Text" 39 yy_WM_inOf := Or.inr ⟨"WeighedMachines", tb_3 (List.mem_of_getElem? (i := 193) (by decide +kernel))⟩
theorem ml_Te_42 : gx_ml "WeighedMachines$Text" 42 yy_WM_outOf := Or.inr ⟨"WeighedMachines", tb_3 (List.mem_of_getElem? (i := 194) (by decide +kernel))⟩
theorem ml_We_75 : gx_ml "WeighedMachines$Weighing" 75 yy_WM_inOf := Or.inr ⟨"WeighedMachines", tb_3 (List.mem_of_getElem? (i := 99) (by decide +kernel))⟩
theorem ml_We_82 : gx_ml "WeighedMachines$Weighing" 82 yy_WM_outOf := Or.inr ⟨"WeighedMachines", tb_3 (List.mem_of_getElem? (i := 104) (by decide +kernel))⟩
theorem ml_We_85 : gx_ml "WeighedMachines$Weighing" 85 yy_WM_labelsOf := Or.inr ⟨"WeighedMachines", tb_3 (List.mem_of_getElem? (i := 105) (by decide +kernel))⟩
theorem ml_We_88 : gx_ml "WeighedMachines$Weighing" 88 yy_WM_toOf := Or.inr ⟨"WeighedMachines", tb_3 (List.mem_of_getElem? (i := 106) (by decide +kernel))⟩
theorem ml_We_91 : gx_ml "WeighedMachines$Weighing" 91 yy_WM_fromOf := Or.inr ⟨"WeighedMachines", tb_3 (List.mem_of_getElem? (i := 107) (by decide +kernel))⟩
theorem kc_WM_144 : Cond.constantLong "WeighedMachines" 144 (-1) ∈ gx_F := gx_F_in (tb_3 (List.mem_of_getElem? (i := 38) (by decide +kernel))) rfl
theorem kc_WM_199 : Cond.constantLong "WeighedMachines" 199 255 ∈ gx_F := gx_F_in (tb_4 (List.mem_of_getElem? (i := 28) (by decide +kernel))) rfl
theorem kc_WM_208 : Cond.constantLong "WeighedMachines" 208 1000000000 ∈ gx_F := gx_F_in (tb_2 (List.mem_of_getElem? (i := 63) (by decide +kernel))) rfl
theorem kc_WM_210 : Cond.constantLong "WeighedMachines" 210 32 ∈ gx_F := gx_F_in (tb_4 (List.mem_of_getElem? (i := 29) (by decide +kernel))) rfl
theorem kc_WM_212 : Cond.constantLong "WeighedMachines" 212 126 ∈ gx_F := gx_F_in (tb_4 (List.mem_of_getElem? (i := 30) (by decide +kernel))) rfl
theorem kc_Ba_36 : Cond.constantLong "WeighedMachines$Baring" 36 1152921504606846976 ∈ gx_F := gx_F_in (tb_2 (List.mem_of_getElem? (i := 173) (by decide +kernel))) rfl
theorem kc_De_35 : Cond.constantLong "WeighedMachines$Determining" 35 1152921504606846976 ∈ gx_F := gx_F_in (tb_2 (List.mem_of_getElem? (i := 224) (by decide +kernel))) rfl
theorem kc_Ma_19 : Cond.constantLong "WeighedMachines$Machine" 19 (-1) ∈ gx_F := gx_F_in (tb_1 (List.mem_of_getElem? (i := 32) (by decide +kernel))) rfl
theorem kc_Ma_44 : Cond.constantLong "WeighedMachines$Machine" 44 1152921504606846976 ∈ gx_F := gx_F_in (tb_2 (List.mem_of_getElem? (i := 118) (by decide +kernel))) rfl
theorem kc_Ma_62 : Cond.constantLong "WeighedMachines$Machine" 62 1000000000 ∈ gx_F := gx_F_in (tb_2 (List.mem_of_getElem? (i := 162) (by decide +kernel))) rfl
theorem kc_On_24 : Cond.constantLong "WeighedMachines$Onward" 24 (-1) ∈ gx_F := gx_F_in (tb_3 (List.mem_of_getElem? (i := 25) (by decide +kernel))) rfl
theorem kc_On_26 : Cond.constantLong "WeighedMachines$Onward" 26 1152921504606846976 ∈ gx_F := gx_F_in (tb_3 (List.mem_of_getElem? (i := 26) (by decide +kernel))) rfl
theorem kc_On_28 : Cond.constantLong "WeighedMachines$Onward" 28 32 ∈ gx_F := gx_F_in (tb_3 (List.mem_of_getElem? (i := 27) (by decide +kernel))) rfl
theorem kc_Pa_39 : Cond.constantLong "WeighedMachines$Parsing" 39 16 ∈ gx_F := gx_F_in (tb_3 (List.mem_of_getElem? (i := 215) (by decide +kernel))) rfl
theorem kc_Pa_85 : Cond.constantLong "WeighedMachines$Parsing" 85 (-1) ∈ gx_F := gx_F_in (tb_4 (List.mem_of_getElem? (i := 8) (by decide +kernel))) rfl
theorem kc_Pa_105 : Cond.constantLong "WeighedMachines$Parsing" 105 1000000000 ∈ gx_F := gx_F_in (tb_4 (List.mem_of_getElem? (i := 2) (by decide +kernel))) rfl
theorem kc_Pa_111 : Cond.constantLong "WeighedMachines$Parsing" 111 7 ∈ gx_F := gx_F_in (tb_4 (List.mem_of_getElem? (i := 17) (by decide +kernel))) rfl
theorem kc_Pa_113 : Cond.constantLong "WeighedMachines$Parsing" 113 10 ∈ gx_F := gx_F_in (tb_3 (List.mem_of_getElem? (i := 223) (by decide +kernel))) rfl
theorem kc_Pa_115 : Cond.constantLong "WeighedMachines$Parsing" 115 48 ∈ gx_F := gx_F_in (tb_3 (List.mem_of_getElem? (i := 224) (by decide +kernel))) rfl
theorem kc_Te_19 : Cond.constantLong "WeighedMachines$Text" 19 10 ∈ gx_F := gx_F_in (tb_3 (List.mem_of_getElem? (i := 177) (by decide +kernel))) rfl
theorem kc_Te_65 : Cond.constantLong "WeighedMachines$Text" 65 (-1) ∈ gx_F := gx_F_in (tb_3 (List.mem_of_getElem? (i := 186) (by decide +kernel))) rfl
theorem kc_We_35 : Cond.constantLong "WeighedMachines$Weighing" 35 (-1) ∈ gx_F := gx_F_in (tb_3 (List.mem_of_getElem? (i := 88) (by decide +kernel))) rfl
theorem kc_We_37 : Cond.constantLong "WeighedMachines$Weighing" 37 1152921504606846976 ∈ gx_F := gx_F_in (tb_3 (List.mem_of_getElem? (i := 89) (by decide +kernel))) rfl
theorem kc_La_89 : Cond.constantLong "WeighedMachinesLaw" 89 4294967295 ∈ gx_F := gx_F_in (tb_5 (List.mem_of_getElem? (i := 116) (by decide +kernel))) rfl
theorem kc_Mo_79 : Cond.constantLong "WeighedMachinesModel" 79 (-1) ∈ gx_F := gx_F_in (tb_4 (List.mem_of_getElem? (i := 47) (by decide +kernel))) rfl
theorem kc_Mo_85 : Cond.constantLong "WeighedMachinesModel" 85 1000000000 ∈ gx_F := gx_F_in (tb_4 (List.mem_of_getElem? (i := 152) (by decide +kernel))) rfl
theorem kc_Mo_129 : Cond.constantLong "WeighedMachinesModel" 129 4000000000000000000 ∈ gx_F := gx_F_in (tb_4 (List.mem_of_getElem? (i := 205) (by decide +kernel))) rfl
theorem kc_Mo_183 : Cond.constantLong "WeighedMachinesModel" 183 10 ∈ gx_F := gx_F_in (tb_5 (List.mem_of_getElem? (i := 56) (by decide +kernel))) rfl
theorem kc_Mo_195 : Cond.constantLong "WeighedMachinesModel" 195 255 ∈ gx_F := gx_F_in (tb_5 (List.mem_of_getElem? (i := 69) (by decide +kernel))) rfl
theorem kc_Mo_213 : Cond.constantLong "WeighedMachinesModel" 213 48 ∈ gx_F := gx_F_in (tb_5 (List.mem_of_getElem? (i := 99) (by decide +kernel))) rfl
theorem kc_Mo_231 : Cond.constantLong "WeighedMachinesModel" 231 16 ∈ gx_F := gx_F_in (tb_5 (List.mem_of_getElem? (i := 90) (by decide +kernel))) rfl
theorem kc_JI_265 : Cond.constant "java/lang/Integer" 265 1431655765 ∈ gx_F := gx_F_in (tb_3 (List.mem_of_getElem? (i := 68) (by decide +kernel))) rfl
theorem kc_JI_266 : Cond.constant "java/lang/Integer" 266 858993459 ∈ gx_F := gx_F_in (tb_3 (List.mem_of_getElem? (i := 69) (by decide +kernel))) rfl
theorem kc_JI_267 : Cond.constant "java/lang/Integer" 267 252645135 ∈ gx_F := gx_F_in (tb_3 (List.mem_of_getElem? (i := 70) (by decide +kernel))) rfl
theorem mt_arraycopy : Cond.native arraycopyName ∈ gx_F := gx_F_in (tb_2 (List.mem_of_getElem? (i := 92) (by decide +kernel))) rfl
theorem ms_arraycopy : Cond.static arraycopyName ∈ gx_F := gx_F_in (tb_2 (List.mem_of_getElem? (i := 91) (by decide +kernel))) rfl
theorem iz_JS : Cond.initialized "java/lang/System" ∈ gx_F := gx_F_in (tb_1 (List.mem_of_getElem? (i := 15) (by decide +kernel))) rfl
end
section
/-! THE STATE: cells by number: 0 the object, 1 its slots, 2 + 4 i .. 5 + 4 i the five machines, 22 .. 42 the rest of the program, 43 .. 64 the reference -/
abbrev gm_ci : Nat := 4
/-- a machine's cells: states, startState, startWeight, endWeights, arcs, keys, weights -/
abbrev gm_V : Type := Int32 × Int32 × Int64 × (Nat → Int64) × Int32 × (Nat → Int32) × (Nat → Int64)
abbrev gm_n (M : gm_V) : Int32 := M.1
abbrev gm_q (M : gm_V) : Int32 := M.2.1
abbrev gm_s (M : gm_V) : Int64 := M.2.2.1
abbrev gm_e (M : gm_V) : Nat → Int64 := M.2.2.2.1
abbrev gm_c (M : gm_V) : Int32 := M.2.2.2.2.1
abbrev gm_k (M : gm_V) : Nat → Int32 := M.2.2.2.2.2.1
abbrev gm_g (M : gm_V) : Nat → Int64 := M.2.2.2.2.2.2
abbrev gm_fs (ad : Nat → Nat) (M : gm_V) (i : Nat) : List Value := [.int (gm_n M), .int (gm_q M), .long (gm_s M), .ref (ad (2 + 4 * i + 1)), .int (gm_c M), .ref (ad (2 + 4 * i + 2)), .ref (ad (2 + 4 * i + 3))]
def gm_cell (dA : Nat → ClassId) (ad : Nat → Nat) (M : gm_V) (i : Nat) : Nat → va_E
  | 0 => .inr (gm_ci, gm_fs ad M i)
  | 1 => .inl (dA 1, 16, .inr (.inl (gm_e M)))
  | 2 => .inl (dA 0, 64, .inl (gm_k M))
  | _ => .inl (dA 1, 64, .inr (.inl (gm_g M)))
def gm_h (dA : Nat → ClassId) (ad : Nat → Nat) (mm : Nat → gm_V) (r : Nat → va_E) : Nat → va_E := fun k => if 2 ≤ k ∧ k < 22 then gm_cell dA ad (mm ((k - 2) / 4)) ((k - 2) / 4) ((k - 2) % 4) else r k
theorem gm_at {dA : Nat → ClassId} {ad : Nat → Nat} {mm : Nat → gm_V} {r : Nat → va_E} {i j : Nat} (hi : i < 5) (hj : j < 4) : gm_h dA ad mm r (2 + 4 * i + j) = gm_cell dA ad (mm i) i j := by
  unfold gm_h
  rw [if_pos (by omega), show (2 + 4 * i + j - 2) / 4 = i by omega, show (2 + 4 * i + j - 2) % 4 = j by omega]
theorem gm_out {dA : Nat → ClassId} {ad : Nat → Nat} {mm : Nat → gm_V} {r : Nat → va_E} {k : Nat} (hk : k < 2 ∨ 22 ≤ k) : gm_h dA ad mm r k = r k := by
  unfold gm_h
  rw [if_neg (by omega)]
theorem gm_up {dA : Nat → ClassId} {ad : Nat → Nat} {mm : Nat → gm_V} {r : Nat → va_E} {i : Nat} (j : Nat) (M : gm_V) (hi : i < 5) (hj : j < 4) (hM : ∀ b, b < 4 → b ≠ j → gm_cell dA ad M i b = gm_cell dA ad (mm i) i b) : va_up (gm_h dA ad mm r) (2 + 4 * i + j) (gm_cell dA ad M i j) = gm_h dA ad (va_up mm i M) r := by
  funext k
  by_cases hk : 2 ≤ k ∧ k < 22
  · obtain ⟨a, b, hb, rfl⟩ : ∃ a b, b < 4 ∧ k = 2 + 4 * a + b := ⟨(k - 2) / 4, (k - 2) % 4, by omega, by omega⟩
    have ha : a < 5 := by omega
    rw [gm_at ha hb]
    by_cases hai : a = i
    · subst hai
      by_cases hbj : b = j
      · subst hbj
        simp [va_up]
      · have h1 : ¬ 2 + 4 * a + b = 2 + 4 * a + j := by omega
        have h2 : va_up (gm_h dA ad mm r) (2 + 4 * a + j) (gm_cell dA ad M a j) (2 + 4 * a + b) = gm_h dA ad mm r (2 + 4 * a + b) := by simp only [va_up, if_neg h1]
        rw [h2, gm_at ha hb, ← hM b hb hbj]
        simp [va_up]
    · have h1 : ¬ 2 + 4 * a + b = 2 + 4 * i + j := by omega
      have h2 : va_up (gm_h dA ad mm r) (2 + 4 * i + j) (gm_cell dA ad M i j) (2 + 4 * a + b) = gm_h dA ad mm r (2 + 4 * a + b) := by simp only [va_up, if_neg h1]
      rw [h2, gm_at ha hb]
      simp [va_up, hai]
  · have h1 : ¬ k = 2 + 4 * i + j := by omega
    have h2 : va_up (gm_h dA ad mm r) (2 + 4 * i + j) (gm_cell dA ad M i j) k = gm_h dA ad mm r k := by simp only [va_up, if_neg h1]
    rw [h2, gm_out (by omega), gm_out (by omega)]
theorem gm_upr {dA : Nat → ClassId} {ad : Nat → Nat} {mm : Nat → gm_V} {r : Nat → va_E} {k : Nat} {e : va_E} (hk : k < 2 ∨ 22 ≤ k) : va_up (gm_h dA ad mm r) k e = gm_h dA ad mm (va_up r k e) := by
  funext j
  by_cases hj : j = k
  · subst hj
    rw [gm_out hk]
    simp [va_up]
  · by_cases hr : 2 ≤ j ∧ j < 22
    · simp only [va_up, if_neg hj]
      unfold gm_h
      rw [if_pos hr, if_pos hr]
    · rw [gm_out (by omega)]
      simp only [va_up, if_neg hj]
      rw [gm_out (by omega)]
theorem gm_uu {α : Type} (f : Nat → α) (k : Nat) (v w : α) : va_up (va_up f k v) k w = va_up f k w := bx_uu f k v w
theorem gm_us {α : Type} {f : Nat → α} {k : Nat} {v : α} : va_up f k v k = v := by simp [va_up]
theorem gm_un {α : Type} {f : Nat → α} {k j : Nat} {v : α} (h : j ≠ k) : va_up f k v j = f j := by simp [va_up, h]
theorem gm_ue {α : Type} (f : Nat → α) (k : Nat) : va_up f k (f k) = f := by
  funext j
  by_cases h : j = k
  · subst h; simp [va_up]
  · simp [va_up, h]
section GM
variable {K : gx_K} {D : va_G} {dA : Nat → ClassId} {y : MethodName} {cc : ByteArray} {nL : Nat} {ret : Option FieldType} {d k n pc : Nat} {lv : List (Nat × Value)} {st : List Value} {Z : State → Prop} {ad : Nat → Nat} {h : Nat → va_E} {mm : Nat → gm_V} {r : Nat → va_E} {i q : Nat}
theorem gx_get (C : gx_C K D dA y cc nL ret d) {idx ci j : Nat} {fs : List Value} {v : Value} (F : gx_fd y.cls idx ci j) (he : h q = .inr (ci, fs)) (hd : decode cc pc = .ok (.getfield idx, 3)) (kk : gx_G K D nL k n (pc + 3) lv (v :: st) (gx_w ad h) Z) (hq : q < 65 := by decide) (hv : fs[j]? = some v := by rfl) : gx_G K D nL k n pc lv (.ref (ad q) :: st) (gx_w ad h) Z := gx_get0 C F q (gx_w_at hq he) hd hv kk
theorem gx_put (C : gx_C K D dA y cc nL ret d) {idx ci j : Nat} {fs : List Value} {v : Value} {ty : FieldType} (F : gx_fw y.cls idx ci j ty) (he : h q = .inr (ci, fs)) (hd : decode cc pc = .ok (.putfield idx, 3)) (kk : gx_G K D nL k n (pc + 3) lv st (gx_w ad (va_up h q (.inr (ci, fs.set j v)))) Z) (hq : q < 65 := by decide) (hn : narrow ty v = v := by rfl) (hf : fits ty v = true := by rfl) (hj : j < fs.length := by decide) : gx_G K D nL k n pc lv (v :: .ref (ad q) :: st) (gx_w ad h) Z := gx_put0 C F q (gx_w_at hq he) hd hn hf hj (by rw [gx_w_set]; exact kk)
theorem gx_iaload (C : gx_C K D dA y cc nL ret d) {n0 : Nat} {f : Nat → Int32} {i0 : Int32} (he : h q = .inl (dA 0, n0, .inl (f))) (hd : decode cc pc = .ok (.iaload, 1)) (hin : vp_in i0 n0) (kk : gx_G K D nL k n (pc + 1) lv (.int (f i0.toNatClampNeg) :: st) (gx_w ad h) Z) (hq : q < 65 := by decide) : gx_G K D nL k n pc lv (.int i0 :: .ref (ad q) :: st) (gx_w ad h) Z := gx_iaload0 C q (gx_w_at hq he) hd hin kk
theorem gx_iastore (C : gx_C K D dA y cc nL ret d) {n0 : Nat} {f : Nat → Int32} {i0 : Int32} {x : Int32} (he : h q = .inl (dA 0, n0, .inl (f))) (hd : decode cc pc = .ok (.iastore, 1)) (hin : vp_in i0 n0) (kk : gx_G K D nL k n (pc + 1) lv st (gx_w ad (va_up h q (.inl (dA 0, n0, .inl (upd f i0.toNatClampNeg x))))) Z) (hq : q < 65 := by decide) : gx_G K D nL k n pc lv (.int x :: .int i0 :: .ref (ad q) :: st) (gx_w ad h) Z := gx_iastore0 C q (gx_w_at hq he) hd hin (by rw [gx_w_set]; exact kk)
theorem gx_laload (C : gx_C K D dA y cc nL ret d) {n0 : Nat} {f : Nat → Int64} {i0 : Int32} (he : h q = .inl (dA 1, n0, .inr (.inl (f)))) (hd : decode cc pc = .ok (.laload, 1)) (hin : vp_in i0 n0) (kk : gx_G K D nL k n (pc + 1) lv (.long (f i0.toNatClampNeg) :: st) (gx_w ad h) Z) (hq : q < 65 := by decide) : gx_G K D nL k n pc lv (.int i0 :: .ref (ad q) :: st) (gx_w ad h) Z := gx_laload0 C q (gx_w_at hq he) hd hin kk
theorem gx_lastore (C : gx_C K D dA y cc nL ret d) {n0 : Nat} {f : Nat → Int64} {i0 : Int32} {x : Int64} (he : h q = .inl (dA 1, n0, .inr (.inl (f)))) (hd : decode cc pc = .ok (.lastore, 1)) (hin : vp_in i0 n0) (kk : gx_G K D nL k n (pc + 1) lv st (gx_w ad (va_up h q (.inl (dA 1, n0, .inr (.inl (vp_updL f i0.toNatClampNeg x)))))) Z) (hq : q < 65 := by decide) : gx_G K D nL k n pc lv (.long x :: .int i0 :: .ref (ad q) :: st) (gx_w ad h) Z := gx_lastore0 C q (gx_w_at hq he) hd hin (by rw [gx_w_set]; exact kk)
theorem gx_caload (C : gx_C K D dA y cc nL ret d) {n0 : Nat} {f : Nat → Int32} {i0 : Int32} (he : h q = .inl (dA 2, n0, .inl (f))) (hd : decode cc pc = .ok (.caload, 1)) (hin : vp_in i0 n0) (kk : gx_G K D nL k n (pc + 1) lv (.int (f i0.toNatClampNeg) :: st) (gx_w ad h) Z) (hq : q < 65 := by decide) : gx_G K D nL k n pc lv (.int i0 :: .ref (ad q) :: st) (gx_w ad h) Z := gx_caload0 C q (gx_w_at hq he) hd hin kk
theorem gx_castore (C : gx_C K D dA y cc nL ret d) {n0 : Nat} {f : Nat → Int32} {i0 : Int32} {x : Int32} (he : h q = .inl (dA 2, n0, .inl (f))) (hd : decode cc pc = .ok (.castore, 1)) (hin : vp_in i0 n0) (kk : gx_G K D nL k n (pc + 1) lv st (gx_w ad (va_up h q (.inl (dA 2, n0, .inl (upd f i0.toNatClampNeg (vp_nar .char x)))))) Z) (hq : q < 65 := by decide) : gx_G K D nL k n pc lv (.int x :: .int i0 :: .ref (ad q) :: st) (gx_w ad h) Z := gx_castore0 C q (gx_w_at hq he) hd hin (by rw [gx_w_set]; exact kk)
theorem gx_zaload (C : gx_C K D dA y cc nL ret d) {n0 : Nat} {f : Nat → Int32} {i0 : Int32} (he : h q = .inl (dA 3, n0, .inl (f))) (hd : decode cc pc = .ok (.baload, 1)) (hin : vp_in i0 n0) (kk : gx_G K D nL k n (pc + 1) lv (.int (f i0.toNatClampNeg) :: st) (gx_w ad h) Z) (hq : q < 65 := by decide) : gx_G K D nL k n pc lv (.int i0 :: .ref (ad q) :: st) (gx_w ad h) Z := gx_zaload0 C q (gx_w_at hq he) hd hin kk
theorem gx_zastore (C : gx_C K D dA y cc nL ret d) {n0 : Nat} {f : Nat → Int32} {i0 : Int32} {x : Int32} (he : h q = .inl (dA 3, n0, .inl (f))) (hd : decode cc pc = .ok (.bastore, 1)) (hin : vp_in i0 n0) (kk : gx_G K D nL k n (pc + 1) lv st (gx_w ad (va_up h q (.inl (dA 3, n0, .inl (upd f i0.toNatClampNeg (vp_nar .boolean x)))))) Z) (hq : q < 65 := by decide) : gx_G K D nL k n pc lv (.int x :: .int i0 :: .ref (ad q) :: st) (gx_w ad h) Z := gx_zastore0 C q (gx_w_at hq he) hd hin (by rw [gx_w_set]; exact kk)
theorem gx_aaload (C : gx_C K D dA y cc nL ret d) {n0 : Nat} {f : Nat → Option Nat} {i0 : Int32} {a : Nat} (he : h q = .inl (dA 4, n0, .inr (.inr (.inr (.inr f))))) (hd : decode cc pc = .ok (.aaload, 1)) (hin : vp_in i0 n0) (ha : f i0.toNatClampNeg = some a) (kk : gx_G K D nL k n (pc + 1) lv (.ref a :: st) (gx_w ad h) Z) (hq : q < 65 := by decide) : gx_G K D nL k n pc lv (.int i0 :: .ref (ad q) :: st) (gx_w ad h) Z := gx_aaload0 C q (gx_w_at hq he) hd hin (by rw [ha]; exact kk)
theorem gx_alen (C : gx_C K D dA y cc nL ret d) {t0 : Nat} {x : vp_A} {ty : FieldType} (he : h q = .inl (dA t0, x)) (hd : decode cc pc = .ok (.arraylength, 1)) (kk : gx_G K D nL k n (pc + 1) lv (.int (nI x.1) :: st) (gx_w ad h) Z) (hq : q < 65 := by decide) (ht : (gx_T dA)[t0]? = some (dA t0, ty) := by rfl) : gx_G K D nL k n pc lv (.ref (ad q) :: st) (gx_w ad h) Z := gx_alen0 C q (gx_w_at hq he) ht hd kk
theorem gx_aastore (C : gx_C K D dA y cc nL ret d) {n0 ci : Nat} {T : u_T} {N : Nat} {vs : List Value} {f : Nat → Option Nat} {i0 : Int32} {q2 : Nat} (he : h q = .inl (dA 4, n0, .inr (.inr (.inr (.inr f))))) (hv : h q2 = .inr (ci, vs)) (hc : vw_Cl[ci]? = some ("WeighedMachines$Machine", T, N)) (hd : decode cc pc = .ok (.aastore, 1)) (hin : vp_in i0 n0) (kk : gx_G K D nL k n (pc + 1) lv st (gx_w ad (va_up h q (.inl (dA 4, n0, .inr (.inr (.inr (.inr (va_up f i0.toNatClampNeg (some (ad q2)))))))))) Z) (hq : q < 65 := by decide) (hq2 : q2 < 65 := by decide) : gx_G K D nL k n pc lv (.ref (ad q2) :: .int i0 :: .ref (ad q) :: st) (gx_w ad h) Z := gx_aastore0 C q q2 (gx_w_at hq he) (gx_w_at hq2 hv) hc hd hin (by rw [gx_w_set]; exact kk)
theorem gm_get (C : gx_C K D dA y cc nL ret d) {idx j : Nat} {v : Value} (F : gx_fd y.cls idx gm_ci j) (hi : i < 5) (hd : decode cc pc = .ok (.getfield idx, 3)) (kk : gx_G K D nL k n (pc + 3) lv (v :: st) (gx_w ad (gm_h dA ad mm r)) Z) (hv : (gm_fs ad (mm i) i)[j]? = some v := by rfl) : gx_G K D nL k n pc lv (.ref (ad (2 + 4 * i)) :: st) (gx_w ad (gm_h dA ad mm r)) Z := gx_get C F (gm_at (j := 0) hi (by decide)) hd kk (by omega) hv
theorem gm_put_n (C : gx_C K D dA y cc nL ret d) {idx : Nat} {v : Int32} (F : gx_fw y.cls idx gm_ci 0 .int) (hi : i < 5) (hd : decode cc pc = .ok (.putfield idx, 3)) (kk : gx_G K D nL k n (pc + 3) lv st (gx_w ad (gm_h dA ad (va_up mm i (v, gm_q (mm i), gm_s (mm i), gm_e (mm i), gm_c (mm i), gm_k (mm i), gm_g (mm i))) r)) Z) : gx_G K D nL k n pc lv (.int v :: .ref (ad (2 + 4 * i)) :: st) (gx_w ad (gm_h dA ad mm r)) Z := gx_put C F (gm_at (j := 0) hi (by decide)) hd (by rw [← gm_up 0 (v, gm_q (mm i), gm_s (mm i), gm_e (mm i), gm_c (mm i), gm_k (mm i), gm_g (mm i)) hi (by decide) (fun b hb hn => by rcases (show b = 1 ∨ b = 2 ∨ b = 3 by omega) with rfl | rfl | rfl <;> rfl)] at kk; exact kk) (by omega) rfl rfl (by simp)
theorem gm_put_q (C : gx_C K D dA y cc nL ret d) {idx : Nat} {v : Int32} (F : gx_fw y.cls idx gm_ci 1 .int) (hi : i < 5) (hd : decode cc pc = .ok (.putfield idx, 3)) (kk : gx_G K D nL k n (pc + 3) lv st (gx_w ad (gm_h dA ad (va_up mm i (gm_n (mm i), v, gm_s (mm i), gm_e (mm i), gm_c (mm i), gm_k (mm i), gm_g (mm i))) r)) Z) : gx_G K D nL k n pc lv (.int v :: .ref (ad (2 + 4 * i)) :: st) (gx_w ad (gm_h dA ad mm r)) Z := gx_put C F (gm_at (j := 0) hi (by decide)) hd (by rw [← gm_up 0 (gm_n (mm i), v, gm_s (mm i), gm_e (mm i), gm_c (mm i), gm_k (mm i), gm_g (mm i)) hi (by decide) (fun b hb hn => by rcases (show b = 1 ∨ b = 2 ∨ b = 3 by omega) with rfl | rfl | rfl <;> rfl)] at kk; exact kk) (by omega) rfl rfl (by simp)
theorem gm_put_s (C : gx_C K D dA y cc nL ret d) {idx : Nat} {v : Int64} (F : gx_fw y.cls idx gm_ci 2 .long) (hi : i < 5) (hd : decode cc pc = .ok (.putfield idx, 3)) (kk : gx_G K D nL k n (pc + 3) lv st (gx_w ad (gm_h dA ad (va_up mm i (gm_n (mm i), gm_q (mm i), v, gm_e (mm i), gm_c (mm i), gm_k (mm i), gm_g (mm i))) r)) Z) : gx_G K D nL k n pc lv (.long v :: .ref (ad (2 + 4 * i)) :: st) (gx_w ad (gm_h dA ad mm r)) Z := gx_put C F (gm_at (j := 0) hi (by decide)) hd (by rw [← gm_up 0 (gm_n (mm i), gm_q (mm i), v, gm_e (mm i), gm_c (mm i), gm_k (mm i), gm_g (mm i)) hi (by decide) (fun b hb hn => by rcases (show b = 1 ∨ b = 2 ∨ b = 3 by omega) with rfl | rfl | rfl <;> rfl)] at kk; exact kk) (by omega) rfl rfl (by simp)
theorem gm_put_c (C : gx_C K D dA y cc nL ret d) {idx : Nat} {v : Int32} (F : gx_fw y.cls idx gm_ci 4 .int) (hi : i < 5) (hd : decode cc pc = .ok (.putfield idx, 3)) (kk : gx_G K D nL k n (pc + 3) lv st (gx_w ad (gm_h dA ad (va_up mm i (gm_n (mm i), gm_q (mm i), gm_s (mm i), gm_e (mm i), v, gm_k (mm i), gm_g (mm i))) r)) Z) : gx_G K D nL k n pc lv (.int v :: .ref (ad (2 + 4 * i)) :: st) (gx_w ad (gm_h dA ad mm r)) Z := gx_put C F (gm_at (j := 0) hi (by decide)) hd (by rw [← gm_up 0 (gm_n (mm i), gm_q (mm i), gm_s (mm i), gm_e (mm i), v, gm_k (mm i), gm_g (mm i)) hi (by decide) (fun b hb hn => by rcases (show b = 1 ∨ b = 2 ∨ b = 3 by omega) with rfl | rfl | rfl <;> rfl)] at kk; exact kk) (by omega) rfl rfl (by simp)
theorem gm_ld_e (C : gx_C K D dA y cc nL ret d) {i0 : Int32} (hi : i < 5) (hd : decode cc pc = .ok (.laload, 1)) (hin : vp_in i0 16) (kk : gx_G K D nL k n (pc + 1) lv (.long (gm_e (mm i) i0.toNatClampNeg) :: st) (gx_w ad (gm_h dA ad mm r)) Z) : gx_G K D nL k n pc lv (.int i0 :: .ref (ad (2 + 4 * i + 1)) :: st) (gx_w ad (gm_h dA ad mm r)) Z := gx_laload C (gm_at (j := 1) hi (by decide)) hd hin kk (by omega)
theorem gm_st_e (C : gx_C K D dA y cc nL ret d) {i0 : Int32} {x : Int64} (hi : i < 5) (hd : decode cc pc = .ok (.lastore, 1)) (hin : vp_in i0 16) (kk : gx_G K D nL k n (pc + 1) lv st (gx_w ad (gm_h dA ad (va_up mm i (gm_n (mm i), gm_q (mm i), gm_s (mm i), vp_updL (gm_e (mm i)) i0.toNatClampNeg x, gm_c (mm i), gm_k (mm i), gm_g (mm i))) r)) Z) : gx_G K D nL k n pc lv (.long x :: .int i0 :: .ref (ad (2 + 4 * i + 1)) :: st) (gx_w ad (gm_h dA ad mm r)) Z := gx_lastore C (gm_at (j := 1) hi (by decide)) hd hin (by rw [← gm_up 1 (gm_n (mm i), gm_q (mm i), gm_s (mm i), vp_updL (gm_e (mm i)) i0.toNatClampNeg x, gm_c (mm i), gm_k (mm i), gm_g (mm i)) hi (by decide) (fun b hb hn => by rcases (show b = 0 ∨ b = 2 ∨ b = 3 by omega) with rfl | rfl | rfl <;> rfl)] at kk; exact kk) (by omega)
theorem gm_ld_k (C : gx_C K D dA y cc nL ret d) {i0 : Int32} (hi : i < 5) (hd : decode cc pc = .ok (.iaload, 1)) (hin : vp_in i0 64) (kk : gx_G K D nL k n (pc + 1) lv (.int (gm_k (mm i) i0.toNatClampNeg) :: st) (gx_w ad (gm_h dA ad mm r)) Z) : gx_G K D nL k n pc lv (.int i0 :: .ref (ad (2 + 4 * i + 2)) :: st) (gx_w ad (gm_h dA ad mm r)) Z := gx_iaload C (gm_at (j := 2) hi (by decide)) hd hin kk (by omega)
theorem gm_st_k (C : gx_C K D dA y cc nL ret d) {i0 : Int32} {x : Int32} (hi : i < 5) (hd : decode cc pc = .ok (.iastore, 1)) (hin : vp_in i0 64) (kk : gx_G K D nL k n (pc + 1) lv st (gx_w ad (gm_h dA ad (va_up mm i (gm_n (mm i), gm_q (mm i), gm_s (mm i), gm_e (mm i), gm_c (mm i), upd (gm_k (mm i)) i0.toNatClampNeg x, gm_g (mm i))) r)) Z) : gx_G K D nL k n pc lv (.int x :: .int i0 :: .ref (ad (2 + 4 * i + 2)) :: st) (gx_w ad (gm_h dA ad mm r)) Z := gx_iastore C (gm_at (j := 2) hi (by decide)) hd hin (by rw [← gm_up 2 (gm_n (mm i), gm_q (mm i), gm_s (mm i), gm_e (mm i), gm_c (mm i), upd (gm_k (mm i)) i0.toNatClampNeg x, gm_g (mm i)) hi (by decide) (fun b hb hn => by rcases (show b = 0 ∨ b = 1 ∨ b = 3 by omega) with rfl | rfl | rfl <;> rfl)] at kk; exact kk) (by omega)
theorem gm_ld_g (C : gx_C K D dA y cc nL ret d) {i0 : Int32} (hi : i < 5) (hd : decode cc pc = .ok (.laload, 1)) (hin : vp_in i0 64) (kk : gx_G K D nL k n (pc + 1) lv (.long (gm_g (mm i) i0.toNatClampNeg) :: st) (gx_w ad (gm_h dA ad mm r)) Z) : gx_G K D nL k n pc lv (.int i0 :: .ref (ad (2 + 4 * i + 3)) :: st) (gx_w ad (gm_h dA ad mm r)) Z := gx_laload C (gm_at (j := 3) hi (by decide)) hd hin kk (by omega)
theorem gm_st_g (C : gx_C K D dA y cc nL ret d) {i0 : Int32} {x : Int64} (hi : i < 5) (hd : decode cc pc = .ok (.lastore, 1)) (hin : vp_in i0 64) (kk : gx_G K D nL k n (pc + 1) lv st (gx_w ad (gm_h dA ad (va_up mm i (gm_n (mm i), gm_q (mm i), gm_s (mm i), gm_e (mm i), gm_c (mm i), gm_k (mm i), vp_updL (gm_g (mm i)) i0.toNatClampNeg x)) r)) Z) : gx_G K D nL k n pc lv (.long x :: .int i0 :: .ref (ad (2 + 4 * i + 3)) :: st) (gx_w ad (gm_h dA ad mm r)) Z := gx_lastore C (gm_at (j := 3) hi (by decide)) hd hin (by rw [← gm_up 3 (gm_n (mm i), gm_q (mm i), gm_s (mm i), gm_e (mm i), gm_c (mm i), gm_k (mm i), vp_updL (gm_g (mm i)) i0.toNatClampNeg x) hi (by decide) (fun b hb hn => by rcases (show b = 0 ∨ b = 1 ∨ b = 2 by omega) with rfl | rfl | rfl <;> rfl)] at kk; exact kk) (by omega)
end GM
end
section
/-! LEAST WEIGHTS over ways: values are naturals, or none where there is no way. Rounds in place, rounds side by side, and that both come to the one least solution. -/
def ls_le (a b : Option Nat) : Prop := ∀ y, b = some y → ∃ x, a = some x ∧ x ≤ y
def ls_ad (a : Option Nat) (w : Nat) : Option Nat := a.map (fun x => x + w)
def ls_lt (a b : Option Nat) : Bool := match a, b with
  | some x, some y => decide (x < y)
  | some _, none => true
  | none, _ => false
theorem ls_rf (a : Option Nat) : ls_le a a := fun y h => ⟨y, h, Nat.le_refl _⟩
theorem ls_tr {a b c : Option Nat} (h1 : ls_le a b) (h2 : ls_le b c) : ls_le a c := fun y hy => by
  obtain ⟨x, hx, hxy⟩ := h2 y hy
  obtain ⟨z, hz, hzx⟩ := h1 x hx
  exact ⟨z, hz, Nat.le_trans hzx hxy⟩
theorem ls_nlt {a b : Option Nat} : ls_lt a b = false ↔ ls_le b a := by
  cases a <;> cases b <;> simp [ls_lt, ls_le]
theorem ls_lt_le {a b : Option Nat} (h : ls_lt a b = true) : ls_le a b := by
  cases a with
  | none => simp [ls_lt] at h
  | some x =>
    intro y hy
    subst hy
    simp [ls_lt] at h
    exact ⟨x, rfl, Nat.le_of_lt h⟩
theorem ls_lt_nle {a b : Option Nat} (h : ls_lt a b = true) (h2 : ls_le b a) : False := by
  have h3 := ls_nlt.mpr h2
  rw [h] at h3
  cases h3
theorem ls_le_or (a b : Option Nat) : ls_lt a b = true ∨ ls_le b a := by
  cases h : ls_lt a b with
  | true => exact Or.inl rfl
  | false => exact Or.inr (ls_nlt.mp h)
theorem ls_le_lt {a b c : Option Nat} (h1 : ls_le a b) (h2 : ls_lt b c = true) : ls_lt a c = true := by
  rcases ls_le_or a c with h | h
  · exact h
  · exact (ls_lt_nle h2 (ls_tr h h1)).elim
theorem ls_lt_le_lt {a b c : Option Nat} (h1 : ls_lt a b = true) (h2 : ls_le b c) : ls_lt a c = true := by
  rcases ls_le_or a c with h | h
  · exact h
  · exact (ls_lt_nle h1 (ls_tr h2 h)).elim
theorem ls_anti {a b : Option Nat} (h1 : ls_le a b) (h2 : ls_le b a) : a = b := by
  cases a with
  | none =>
    cases b with
    | none => rfl
    | some y => obtain ⟨x, hx, -⟩ := h1 y rfl; cases hx
  | some x =>
    obtain ⟨y, hy, hyx⟩ := h2 x rfl
    subst hy
    obtain ⟨z, hz, hzy⟩ := h1 y rfl
    cases hz
    rw [Nat.le_antisymm hzy hyx]
theorem ls_ad_mono {a b : Option Nat} (w : Nat) (h : ls_le a b) : ls_le (ls_ad a w) (ls_ad b w) := by
  intro y hy
  cases b with
  | none => simp [ls_ad] at hy
  | some z =>
    obtain ⟨x, hx, hxz⟩ := h z rfl
    subst hx
    simp [ls_ad] at hy
    exact ⟨x + w, rfl, by omega⟩
theorem ls_ad_ge (a : Option Nat) (w : Nat) : ls_le a (ls_ad a w) := by
  intro y hy
  cases a with
  | none => simp [ls_ad] at hy
  | some x =>
    simp [ls_ad] at hy
    exact ⟨x, rfl, by omega⟩
theorem ls_ad_lt {a b : Option Nat} {w : Nat} (h : ls_lt (ls_ad a w) (ls_ad b w) = true) : ls_lt a b = true := by
  rcases ls_le_or a b with h1 | h1
  · exact h1
  · exact (ls_lt_nle h (ls_ad_mono w h1)).elim
abbrev ls_V : Type := Nat → Option Nat
abbrev ls_A : Type := Nat × Nat × Nat
def ls_rx (v : ls_V) (x : ls_A) : ls_V := if ls_lt (ls_ad (v x.1) x.2.2) (v x.2.1) = true then va_up v x.2.1 (ls_ad (v x.1) x.2.2) else v
def ls_rd (E : List ls_A) (v : ls_V) : ls_V := E.foldl ls_rx v
def ls_cl (E : List ls_A) (v : ls_V) : Prop := ∀ x ∈ E, ls_le (v x.2.1) (ls_ad (v x.1) x.2.2)
def ls_vle (v w : ls_V) : Prop := ∀ q, ls_le (v q) (w q)
theorem ls_vrf (v : ls_V) : ls_vle v v := fun q => ls_rf _
theorem ls_vtr {u v w : ls_V} (h1 : ls_vle u v) (h2 : ls_vle v w) : ls_vle u w := fun q => ls_tr (h1 q) (h2 q)
theorem ls_vanti {v w : ls_V} (h1 : ls_vle v w) (h2 : ls_vle w v) : v = w := funext fun q => ls_anti (h1 q) (h2 q)
theorem ls_rx_le (v : ls_V) (x : ls_A) : ls_vle (ls_rx v x) v := by
  intro q
  unfold ls_rx
  by_cases h : ls_lt (ls_ad (v x.1) x.2.2) (v x.2.1) = true
  · rw [if_pos h]
    by_cases hq : q = x.2.1
    · subst hq
      rw [show va_up v x.2.1 (ls_ad (v x.1) x.2.2) x.2.1 = ls_ad (v x.1) x.2.2 by simp [va_up]]
      exact ls_lt_le h
    · rw [show va_up v x.2.1 (ls_ad (v x.1) x.2.2) q = v q by simp [va_up, hq]]
      exact ls_rf _
  · rw [if_neg h]
    exact ls_rf _
theorem ls_rx_to (v : ls_V) (x : ls_A) : ls_le (ls_rx v x x.2.1) (ls_ad (v x.1) x.2.2) := by
  unfold ls_rx
  by_cases h : ls_lt (ls_ad (v x.1) x.2.2) (v x.2.1) = true
  · rw [if_pos h, show va_up v x.2.1 (ls_ad (v x.1) x.2.2) x.2.1 = ls_ad (v x.1) x.2.2 by simp [va_up]]
    exact ls_rf _
  · rw [if_neg h]
    exact ls_nlt.mp (by simpa using h)
theorem ls_rx_ge {X v : ls_V} {x : ls_A} (h : ls_vle X v) (hc : ls_le (X x.2.1) (ls_ad (X x.1) x.2.2)) : ls_vle X (ls_rx v x) := by
  intro q
  unfold ls_rx
  by_cases h1 : ls_lt (ls_ad (v x.1) x.2.2) (v x.2.1) = true
  · rw [if_pos h1]
    by_cases hq : q = x.2.1
    · subst hq
      rw [show va_up v x.2.1 (ls_ad (v x.1) x.2.2) x.2.1 = ls_ad (v x.1) x.2.2 by simp [va_up]]
      exact ls_tr hc (ls_ad_mono _ (h _))
    · rw [show va_up v x.2.1 (ls_ad (v x.1) x.2.2) q = v q by simp [va_up, hq]]
      exact h q
  · rw [if_neg h1]
    exact h q
theorem ls_rd_le (E : List ls_A) : ∀ v : ls_V, ls_vle (ls_rd E v) v := by
  induction E with
  | nil => intro v; exact ls_vrf v
  | cons x E ih => intro v; exact ls_vtr (ih (ls_rx v x)) (ls_rx_le v x)
theorem ls_rd_to (E : List ls_A) : ∀ (v : ls_V) (x : ls_A), x ∈ E → ls_le (ls_rd E v x.2.1) (ls_ad (v x.1) x.2.2) := by
  induction E with
  | nil => intro v x hx; cases hx
  | cons z E ih =>
    intro v x hx
    rcases List.mem_cons.mp hx with rfl | hx
    · exact ls_tr (ls_rd_le E (ls_rx v x) x.2.1) (ls_rx_to v x)
    · exact ls_tr (ih (ls_rx v z) x hx) (ls_ad_mono _ (ls_rx_le v z x.1))
theorem ls_rd_ge {X : ls_V} (E : List ls_A) : ∀ v : ls_V, ls_vle X v → ls_cl E X → ls_vle X (ls_rd E v) := by
  induction E with
  | nil => intro v h _; exact h
  | cons z E ih =>
    intro v h hc
    exact ih (ls_rx v z) (ls_rx_ge h (hc z List.mem_cons_self)) (fun x hx => hc x (List.mem_cons_of_mem _ hx))
/-- a round that changes nothing: no step lessens anything -/
theorem ls_rd_fix {E : List ls_A} {v : ls_V} (h : ls_rd E v = v) : ls_cl E v := fun x hx => by
  have h1 := ls_rd_to E v x hx
  rw [h] at h1
  exact h1
theorem ls_rx_cl {v : ls_V} {x : ls_A} (h : ls_le (v x.2.1) (ls_ad (v x.1) x.2.2)) : ls_rx v x = v := by
  unfold ls_rx
  rw [if_neg]
  rw [ls_nlt.mpr h]
  exact fun q => by cases q
theorem ls_rd_cl {E : List ls_A} {v : ls_V} (h : ls_cl E v) : ls_rd E v = v := by
  induction E with
  | nil => rfl
  | cons z E ih =>
    show ls_rd E (ls_rx v z) = v
    rw [ls_rx_cl (h z List.mem_cons_self)]
    exact ih (fun x hx => h x (List.mem_cons_of_mem _ hx))
-- rounds side by side
def ls_J (E : List ls_A) (v : ls_V) : ls_V := fun q => E.foldl (fun a x => if x.2.1 = q ∧ ls_lt (ls_ad (v x.1) x.2.2) a = true then ls_ad (v x.1) x.2.2 else a) (v q)
theorem ls_J_all (v : ls_V) (q : Nat) (E : List ls_A) : ∀ a : Option Nat, (ls_le (E.foldl (fun a x => if x.2.1 = q ∧ ls_lt (ls_ad (v x.1) x.2.2) a = true then ls_ad (v x.1) x.2.2 else a) a) a) ∧ (∀ x ∈ E, x.2.1 = q → ls_le (E.foldl (fun a x => if x.2.1 = q ∧ ls_lt (ls_ad (v x.1) x.2.2) a = true then ls_ad (v x.1) x.2.2 else a) a) (ls_ad (v x.1) x.2.2)) ∧ (E.foldl (fun a x => if x.2.1 = q ∧ ls_lt (ls_ad (v x.1) x.2.2) a = true then ls_ad (v x.1) x.2.2 else a) a = a ∨ ∃ x ∈ E, x.2.1 = q ∧ E.foldl (fun a x => if x.2.1 = q ∧ ls_lt (ls_ad (v x.1) x.2.2) a = true then ls_ad (v x.1) x.2.2 else a) a = ls_ad (v x.1) x.2.2) := by
  induction E with
  | nil => intro a; exact ⟨ls_rf a, fun x hx => absurd hx List.not_mem_nil, Or.inl rfl⟩
  | cons z E ih =>
    intro a
    simp only [List.foldl_cons]
    by_cases hz : z.2.1 = q ∧ ls_lt (ls_ad (v z.1) z.2.2) a = true
    · rw [if_pos hz]
      obtain ⟨h1, h2, h3⟩ := ih (ls_ad (v z.1) z.2.2)
      refine ⟨ls_tr h1 (ls_lt_le hz.2), fun x hx hq => ?_, ?_⟩
      · rcases List.mem_cons.mp hx with rfl | hx
        · exact h1
        · exact h2 x hx hq
      · rcases h3 with h3 | ⟨x, hx, hq, h3⟩
        · exact Or.inr ⟨z, List.mem_cons_self, hz.1, h3⟩
        · exact Or.inr ⟨x, List.mem_cons_of_mem _ hx, hq, h3⟩
    · rw [if_neg hz]
      obtain ⟨h1, h2, h3⟩ := ih a
      refine ⟨h1, fun x hx hq => ?_, ?_⟩
      · rcases List.mem_cons.mp hx with rfl | hx
        · rcases ls_le_or (ls_ad (v x.1) x.2.2) a with h | h
          · exact absurd ⟨hq, h⟩ hz
          · exact ls_tr h1 h
        · exact h2 x hx hq
      · rcases h3 with h3 | ⟨x, hx, hq, h3⟩
        · exact Or.inl h3
        · exact Or.inr ⟨x, List.mem_cons_of_mem _ hx, hq, h3⟩
theorem ls_J_le (E : List ls_A) (v : ls_V) : ls_vle (ls_J E v) v := fun q => (ls_J_all v q E (v q)).1
theorem ls_J_to {E : List ls_A} {v : ls_V} {x : ls_A} (hx : x ∈ E) : ls_le (ls_J E v x.2.1) (ls_ad (v x.1) x.2.2) := (ls_J_all v x.2.1 E (v x.2.1)).2.1 x hx rfl
theorem ls_J_or (E : List ls_A) (v : ls_V) (q : Nat) : ls_J E v q = v q ∨ ∃ x ∈ E, x.2.1 = q ∧ ls_J E v q = ls_ad (v x.1) x.2.2 := (ls_J_all v q E (v q)).2.2
def ls_D (E : List ls_A) (v : ls_V) : Nat → ls_V
  | 0 => v
  | k + 1 => ls_J E (ls_D E v k)
theorem ls_D_le (E : List ls_A) (v : ls_V) (k : Nat) : ls_vle (ls_D E v (k + 1)) (ls_D E v k) := ls_J_le E _
theorem ls_D_le0 (E : List ls_A) (v : ls_V) : ∀ k : Nat, ls_vle (ls_D E v k) v
  | 0 => ls_vrf v
  | k + 1 => ls_vtr (ls_D_le E v k) (ls_D_le0 E v k)
theorem ls_D_ge {E : List ls_A} {X v : ls_V} (hX : ls_vle X v) (hc : ls_cl E X) : ∀ k : Nat, ls_vle X (ls_D E v k)
  | 0 => hX
  | k + 1 => fun q => by
    have ih := ls_D_ge hX hc k
    rcases ls_J_or E (ls_D E v k) q with h | ⟨x, hx, hq, h⟩
    · show ls_le (X q) (ls_J E (ls_D E v k) q)
      rw [h]
      exact ih q
    · show ls_le (X q) (ls_J E (ls_D E v k) q)
      rw [h]
      subst hq
      exact ls_tr (hc x hx) (ls_ad_mono _ (ih x.1))
/-- where a round still lessens something, there is a chain of states that are all different -/
theorem ls_chain {E : List ls_A} {v : ls_V} {N : Nat} (hN : ∀ x ∈ E, x.1 < N ∧ x.2.1 < N) : ∀ (k q : Nat), ls_lt (ls_D E v (k + 1) q) (ls_D E v k q) = true →
    ∃ L : List Nat, L.length = k + 2 ∧ L.Nodup ∧ (∀ z ∈ L, z < N) ∧ ∀ z ∈ L, ls_le (ls_D E v (k + 1) z) (ls_D E v (k + 1) q) := by
  intro k
  induction k with
  | zero =>
    intro q hq
    rcases ls_J_or E (ls_D E v 0) q with h | ⟨x, hx, rfl, h⟩
    · have h1 : ls_D E v 1 q = ls_D E v 0 q := h
      rw [h1] at hq
      exact (ls_lt_nle hq (ls_rf _)).elim
    · have h1 : ls_D E v 1 x.2.1 = ls_ad (ls_D E v 0 x.1) x.2.2 := h
      have hle : ls_le (ls_D E v 0 x.1) (ls_D E v 1 x.2.1) := by rw [h1]; exact ls_ad_ge _ _
      have hne : x.2.1 ≠ x.1 := fun e => by
        rw [← e] at hle
        exact ls_lt_nle hq hle
      refine ⟨[x.2.1, x.1], rfl, ?_, ?_, ?_⟩
      · simp [hne]
      · intro z hz
        rcases List.mem_cons.mp hz with rfl | hz
        · exact (hN x hx).2
        · rcases List.mem_cons.mp hz with rfl | hz
          · exact (hN x hx).1
          · cases hz
      · intro z hz
        rcases List.mem_cons.mp hz with rfl | hz
        · exact ls_rf _
        · rcases List.mem_cons.mp hz with rfl | hz
          · exact ls_tr (ls_D_le E v 0 _) hle
          · cases hz
  | succ k ih =>
    intro q hq
    rcases ls_J_or E (ls_D E v (k + 1)) q with h | ⟨x, hx, rfl, h⟩
    · have h1 : ls_D E v (k + 1 + 1) q = ls_D E v (k + 1) q := h
      rw [h1] at hq
      exact (ls_lt_nle hq (ls_rf _)).elim
    · have h1 : ls_D E v (k + 1 + 1) x.2.1 = ls_ad (ls_D E v (k + 1) x.1) x.2.2 := h
      have h2 : ls_le (ls_D E v (k + 1) x.2.1) (ls_ad (ls_D E v k x.1) x.2.2) := ls_J_to hx
      have h3 : ls_lt (ls_D E v (k + 1) x.1) (ls_D E v k x.1) = true := ls_ad_lt (w := x.2.2) (by rw [← h1]; exact ls_lt_le_lt hq h2)
      obtain ⟨L, l1, l2, l3, l4⟩ := ih x.1 h3
      have hle : ls_le (ls_D E v (k + 1) x.1) (ls_D E v (k + 1 + 1) x.2.1) := by rw [h1]; exact ls_ad_ge _ _
      refine ⟨x.2.1 :: L, by simp [l1], ?_, ?_, ?_⟩
      · refine List.nodup_cons.mpr ⟨fun hm => ?_, l2⟩
        exact ls_lt_nle hq (ls_tr (l4 _ hm) hle)
      · intro z hz
        rcases List.mem_cons.mp hz with rfl | hz
        · exact (hN x hx).2
        · exact l3 z hz
      · intro z hz
        rcases List.mem_cons.mp hz with rfl | hz
        · exact ls_rf _
        · exact ls_tr (ls_D_le E v (k + 1) z) (ls_tr (l4 z hz) hle)
theorem ls_pig {N : Nat} {L : List Nat} (h : L.Nodup) (hb : ∀ z ∈ L, z < N) : L.length ≤ N := by
  have h1 : L.length ≤ (List.range N).length := List.Nodup.length_le_of_subset h (fun z hz => List.mem_range.mpr (hb z hz))
  simpa using h1
theorem ls_stab {E : List ls_A} {v : ls_V} {N : Nat} (hN : ∀ x ∈ E, x.1 < N ∧ x.2.1 < N) {k : Nat} (hk : N ≤ k + 1) : ls_D E v (k + 1) = ls_D E v k := by
  refine ls_vanti (ls_D_le E v k) (fun q => ?_)
  rcases ls_le_or (ls_D E v (k + 1) q) (ls_D E v k q) with h | h
  · obtain ⟨L, l1, l2, l3, -⟩ := ls_chain hN k q h
    have := ls_pig l2 l3
    omega
  · exact h
theorem ls_D_cl {E : List ls_A} {v : ls_V} {N : Nat} (hN : ∀ x ∈ E, x.1 < N ∧ x.2.1 < N) {k : Nat} (hk : N ≤ k + 1) : ls_cl E (ls_D E v k) := fun x hx => by
  have h := ls_J_to (v := ls_D E v k) hx
  rw [show ls_J E (ls_D E v k) = ls_D E v k from ls_stab hN hk] at h
  exact h
-- the one least solution
def ls_fix (E : List ls_A) (v X : ls_V) : Prop := ls_vle X v ∧ ls_cl E X ∧ ∀ Y : ls_V, ls_vle Y v → ls_cl E Y → ls_vle Y X
theorem ls_one {E : List ls_A} {v X Y : ls_V} (h1 : ls_fix E v X) (h2 : ls_fix E v Y) : X = Y := ls_vanti (h2.2.2 X h1.1 h1.2.1) (h1.2.2 Y h2.1 h2.2.1)
def ls_it (E : List ls_A) : Nat → ls_V → ls_V
  | 0, v => v
  | k + 1, v => ls_rd E (ls_it E k v)
theorem ls_it_le (E : List ls_A) (v : ls_V) : ∀ k : Nat, ls_vle (ls_it E k v) v
  | 0 => ls_vrf v
  | k + 1 => ls_vtr (ls_rd_le E _) (ls_it_le E v k)
theorem ls_it_ge {E : List ls_A} {X v : ls_V} (hX : ls_vle X v) (hc : ls_cl E X) : ∀ k : Nat, ls_vle X (ls_it E k v)
  | 0 => hX
  | k + 1 => ls_rd_ge E _ (ls_it_ge hX hc k) hc
theorem ls_it_D (E : List ls_A) (v : ls_V) : ∀ k : Nat, ls_vle (ls_it E k v) (ls_D E v k)
  | 0 => ls_vrf v
  | k + 1 => fun q => by
    have ih := ls_it_D E v k
    show ls_le (ls_rd E (ls_it E k v) q) (ls_J E (ls_D E v k) q)
    rcases ls_J_or E (ls_D E v k) q with h | ⟨x, hx, hq, h⟩
    · rw [h]
      exact ls_tr (ls_rd_le E _ q) (ih q)
    · rw [h]
      subst hq
      exact ls_tr (ls_rd_to E _ x hx) (ls_ad_mono _ (ih x.1))
/-- as many rounds in place as there are states, less one, come to the least solution -/
theorem ls_it_fix {E : List ls_A} {v : ls_V} {N : Nat} (hN : ∀ x ∈ E, x.1 < N ∧ x.2.1 < N) {k : Nat} (hk : N ≤ k + 1) : ls_fix E v (ls_it E k v) := by
  have hcD := ls_D_cl (v := v) hN hk
  have he : ls_it E k v = ls_D E v k := ls_vanti (ls_it_D E v k) (ls_it_ge (ls_D_le0 E v k) hcD k)
  rw [he]
  exact ⟨ls_D_le0 E v k, hcD, fun Y h1 h2 => ls_D_ge h1 h2 k⟩
/-- and so do rounds that stopped because nothing changed -/
theorem ls_it_stop {E : List ls_A} {v : ls_V} {k : Nat} (h : ls_rd E (ls_it E k v) = ls_it E k v) : ls_fix E v (ls_it E k v) :=
  ⟨ls_it_le E v k, ls_rd_fix h, fun _ h1 h2 => ls_it_ge h1 h2 k⟩
end
